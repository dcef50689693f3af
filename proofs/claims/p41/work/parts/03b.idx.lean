abbrev sx_ans : Nat := 337
abbrev sx_col : Nat := 346
abbrev sx_pas : Nat := 348
abbrev sx_fai : Nat := 350
abbrev sx_by : Nat := 352
