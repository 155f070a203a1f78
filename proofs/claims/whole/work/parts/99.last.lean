theorem zz_probe : nI 0 = 0 := nI_0
