def sg0 : Sg := (fun _ _ => 0, fun _ _ => 0)
