theorem tst_1 : nI 0 = 0 := nI_0
