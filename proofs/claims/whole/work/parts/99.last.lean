theorem zz_tst : 1 = 1 := rfl
