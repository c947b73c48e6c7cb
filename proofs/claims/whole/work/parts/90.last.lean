theorem zz_99 : 1 = 1 := rfl
