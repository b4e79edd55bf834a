noncomputable section
/-- MaidsMemory$Tape readLevel -/
def wS_36 : aSum := (102, (7, ([(.ofNat 0, .ofNat 0)], ([.inr (.inr (.inr (.inl 19))), .inl (0, .ofNat 1)], ([((19, (0, .ofNat 5)), (0, .ofNat 6))], ([(19, 3), (19, 4), (21, 999)], ([(.ofNat 0, .ofNat 1)], (some (.inl (1, .ofNat 0)), ([((19, (0, .ofNat 5)), (0, .ofNat 6))], [])))))))))
set_option maxRecDepth 100000 in
theorem wS_36_k : aMeth wG [wS_35] (zfun [102]) (fun _ _ => none) 4000 wS_36 [(39, ([(.ofNat 0, .ofNat 0), (.ofNat 0, .ofNat 1), (.negSucc 2147483647, .ofNat 2147483647), (.ofNat 0, .ofNat 120)], ([(0, .inr (.inr (.inr (.inl 19)))), (1, .inl (0, .ofNat 1)), (2, .inl (1, .ofNat 0)), (3, .inl (0, .ofNat 120)), (4, .inl (2, .ofNat 0)), (5, .inl (3, .ofNat 0))], (([((19, (0, .ofNat 5)), (0, .ofNat 6))], []), [(true, (0, .ofNat 39)), (true, (3, .ofNat 0))]))))] 2 = true := by decide +kernel
theorem wS_36_ok : aSumOk wG wS_36 := aMeth_ok (zmc wS_35_ok zm0) wS_36_k
/-- MaidsMemory$Tape readLevel -/
def wS_37 : aSum := (102, (8, ([(.ofNat 0, .ofNat 0)], ([.inr (.inr (.inr (.inl 19))), .inl (0, .ofNat 0)], ([((19, (0, .ofNat 5)), (0, .ofNat 6))], ([(19, 3), (19, 4), (21, 999)], ([(.ofNat 0, .ofNat 1)], (some (.inl (1, .ofNat 0)), ([((19, (0, .ofNat 5)), (0, .ofNat 6))], [])))))))))
set_option maxRecDepth 100000 in
theorem wS_37_k : aMeth wG [wS_36] (zfun [102]) (fun _ _ => none) 4000 wS_37 [(39, ([(.ofNat 0, .ofNat 0), (.ofNat 0, .ofNat 1), (.negSucc 2147483647, .ofNat 2147483647), (.ofNat 0, .ofNat 120)], ([(0, .inr (.inr (.inr (.inl 19)))), (1, .inl (0, .ofNat 0)), (2, .inl (1, .ofNat 0)), (3, .inl (0, .ofNat 120)), (4, .inl (2, .ofNat 0)), (5, .inl (3, .ofNat 0))], (([((19, (0, .ofNat 5)), (0, .ofNat 6))], []), [(true, (0, .ofNat 39)), (true, (3, .ofNat 0))]))))] 2 = true := by decide +kernel
theorem wS_37_ok : aSumOk wG wS_37 := aMeth_ok (zmc wS_36_ok zm0) wS_37_k
/-- MaidsMemory$Tape readOpened -/
def wS_38 : aSum := (105, (9, ([(.ofNat 0, .ofNat 0)], ([.inr (.inr (.inr (.inl 19))), .inl (0, .ofNat 40)], ([((19, (0, .ofNat 5)), (0, .ofNat 5))], ([(19, 3), (19, 4), (19, 5), (21, 999)], ([(.ofNat 0, .ofNat 1)], (some (.inl (1, .ofNat 0)), ([((19, (0, .ofNat 5)), (0, .ofNat 5))], [])))))))))
set_option maxRecDepth 100000 in
theorem wS_38_k : aMeth wG [wS_37] (zfun [102]) (fun _ _ => none) 4000 wS_38 [] 0 = true := by decide +kernel
theorem wS_38_ok : aSumOk wG wS_38 := aMeth_ok (zmc wS_37_ok zm0) wS_38_k
/-- MaidsMemory$Tape readOne -/
def wS_39 : aSum := (104, (10, ([(.ofNat 0, .ofNat 0)], ([.inr (.inr (.inr (.inl 19)))], ([((19, (0, .ofNat 5)), (0, .ofNat 5))], ([(19, 3), (19, 4), (19, 5), (21, 999)], ([(.ofNat 0, .ofNat 1)], (some (.inl (1, .ofNat 0)), ([((19, (0, .ofNat 5)), (0, .ofNat 5))], [])))))))))
set_option maxRecDepth 100000 in
theorem wS_39_k : aMeth wG [wS_28, wS_30, wS_31, wS_38] (zfun [105, 106]) (fun _ _ => none) 4000 wS_39 [] 0 = true := by decide +kernel
theorem wS_39_ok : aSumOk wG wS_39 := aMeth_ok (zmc wS_28_ok (zmc wS_30_ok (zmc wS_31_ok (zmc wS_38_ok zm0)))) wS_39_k
/-- MaidsMemory$Tape readOpened -/
def wS_40 : aSum := (105, (11, ([(.ofNat 0, .ofNat 0)], ([.inr (.inr (.inr (.inl 19))), .inl (0, .ofNat 45)], ([((19, (0, .ofNat 5)), (0, .ofNat 4))], ([(19, 3), (19, 4), (19, 5), (21, 999)], ([(.ofNat 0, .ofNat 1)], (some (.inl (1, .ofNat 0)), ([((19, (0, .ofNat 5)), (0, .ofNat 4))], [])))))))))
set_option maxRecDepth 100000 in
theorem wS_40_k : aMeth wG [wS_39] (zfun [104]) (fun _ _ => none) 4000 wS_40 [] 0 = true := by decide +kernel
theorem wS_40_ok : aSumOk wG wS_40 := aMeth_ok (zmc wS_39_ok zm0) wS_40_k
/-- MaidsMemory$Tape readOpened -/
def wS_41 : aSum := (105, (11, ([(.ofNat 0, .ofNat 0)], ([.inr (.inr (.inr (.inl 19))), .inl (0, .ofNat 33)], ([((19, (0, .ofNat 5)), (0, .ofNat 4))], ([(19, 3), (19, 4), (19, 5), (21, 999)], ([(.ofNat 0, .ofNat 1)], (some (.inl (1, .ofNat 0)), ([((19, (0, .ofNat 5)), (0, .ofNat 4))], [])))))))))
set_option maxRecDepth 100000 in
theorem wS_41_k : aMeth wG [wS_39] (zfun [104]) (fun _ _ => none) 4000 wS_41 [] 0 = true := by decide +kernel
theorem wS_41_ok : aSumOk wG wS_41 := aMeth_ok (zmc wS_39_ok zm0) wS_41_k
/-- MaidsMemory$Tape readLevel -/
def wS_42 : aSum := (102, (11, ([(.ofNat 0, .ofNat 0)], ([.inr (.inr (.inr (.inl 19))), .inl (0, .ofNat 5)], ([((19, (0, .ofNat 5)), (0, .ofNat 5))], ([(19, 3), (19, 4), (19, 5), (21, 999)], ([(.ofNat 0, .ofNat 1)], (some (.inl (1, .ofNat 0)), ([((19, (0, .ofNat 5)), (0, .ofNat 5))], [])))))))))
set_option maxRecDepth 100000 in
theorem wS_42_k : aMeth wG [wS_39] (zfun [104]) (fun _ _ => none) 4000 wS_42 [] 0 = true := by decide +kernel
theorem wS_42_ok : aSumOk wG wS_42 := aMeth_ok (zmc wS_39_ok zm0) wS_42_k
/-- MaidsMemory$Tape readLevel -/
def wS_43 : aSum := (102, (12, ([(.ofNat 0, .ofNat 0)], ([.inr (.inr (.inr (.inl 19))), .inl (0, .ofNat 4)], ([((19, (0, .ofNat 5)), (0, .ofNat 5))], ([(19, 3), (19, 4), (19, 5), (21, 999)], ([(.ofNat 0, .ofNat 1)], (some (.inl (1, .ofNat 0)), ([((19, (0, .ofNat 5)), (0, .ofNat 5))], [])))))))))
set_option maxRecDepth 100000 in
theorem wS_43_k : aMeth wG [wS_42] (zfun [102]) (fun _ _ => none) 4000 wS_43 [(39, ([(.ofNat 0, .ofNat 0), (.ofNat 0, .ofNat 1), (.negSucc 2147483647, .ofNat 2147483647), (.ofNat 0, .ofNat 120)], ([(0, .inr (.inr (.inr (.inl 19)))), (1, .inl (0, .ofNat 4)), (2, .inl (1, .ofNat 0)), (3, .inl (0, .ofNat 120)), (4, .inl (2, .ofNat 0)), (5, .inl (3, .ofNat 0))], (([((19, (0, .ofNat 5)), (0, .ofNat 5))], []), [(true, (0, .ofNat 39)), (true, (3, .ofNat 0))]))))] 2 = true := by decide +kernel
theorem wS_43_ok : aSumOk wG wS_43 := aMeth_ok (zmc wS_42_ok zm0) wS_43_k
/-- MaidsMemory$Tape readLevel -/
def wS_44 : aSum := (102, (13, ([(.ofNat 0, .ofNat 0)], ([.inr (.inr (.inr (.inl 19))), .inl (0, .ofNat 3)], ([((19, (0, .ofNat 5)), (0, .ofNat 5))], ([(19, 3), (19, 4), (19, 5), (21, 999)], ([(.ofNat 0, .ofNat 1)], (some (.inl (1, .ofNat 0)), ([((19, (0, .ofNat 5)), (0, .ofNat 5))], [])))))))))
set_option maxRecDepth 100000 in
theorem wS_44_k : aMeth wG [wS_43] (zfun [102]) (fun _ _ => none) 4000 wS_44 [(39, ([(.ofNat 0, .ofNat 0), (.ofNat 0, .ofNat 1), (.negSucc 2147483647, .ofNat 2147483647), (.ofNat 0, .ofNat 120)], ([(0, .inr (.inr (.inr (.inl 19)))), (1, .inl (0, .ofNat 3)), (2, .inl (1, .ofNat 0)), (3, .inl (0, .ofNat 120)), (4, .inl (2, .ofNat 0)), (5, .inl (3, .ofNat 0))], (([((19, (0, .ofNat 5)), (0, .ofNat 5))], []), [(true, (0, .ofNat 39)), (true, (3, .ofNat 0))]))))] 2 = true := by decide +kernel
theorem wS_44_ok : aSumOk wG wS_44 := aMeth_ok (zmc wS_43_ok zm0) wS_44_k
/-- MaidsMemory$Tape readLevel -/
def wS_45 : aSum := (102, (14, ([(.ofNat 0, .ofNat 0)], ([.inr (.inr (.inr (.inl 19))), .inl (0, .ofNat 2)], ([((19, (0, .ofNat 5)), (0, .ofNat 5))], ([(19, 3), (19, 4), (19, 5), (21, 999)], ([(.ofNat 0, .ofNat 1)], (some (.inl (1, .ofNat 0)), ([((19, (0, .ofNat 5)), (0, .ofNat 5))], [])))))))))
set_option maxRecDepth 100000 in
theorem wS_45_k : aMeth wG [wS_44] (zfun [102]) (fun _ _ => none) 4000 wS_45 [(39, ([(.ofNat 0, .ofNat 0), (.ofNat 0, .ofNat 1), (.negSucc 2147483647, .ofNat 2147483647), (.ofNat 0, .ofNat 1)], ([(0, .inr (.inr (.inr (.inl 19)))), (1, .inl (0, .ofNat 2)), (2, .inl (1, .ofNat 0)), (3, .inl (0, .ofNat 1)), (4, .inl (2, .ofNat 0)), (5, .inl (3, .ofNat 0))], (([((19, (0, .ofNat 5)), (0, .ofNat 5))], []), [(true, (0, .ofNat 39)), (true, (3, .ofNat 0))]))))] 2 = true := by decide +kernel
theorem wS_45_ok : aSumOk wG wS_45 := aMeth_ok (zmc wS_44_ok zm0) wS_45_k
/-- MaidsMemory$Tape readLevel -/
def wS_46 : aSum := (102, (15, ([(.ofNat 0, .ofNat 0)], ([.inr (.inr (.inr (.inl 19))), .inl (0, .ofNat 1)], ([((19, (0, .ofNat 5)), (0, .ofNat 5))], ([(19, 3), (19, 4), (19, 5), (21, 999)], ([(.ofNat 0, .ofNat 1)], (some (.inl (1, .ofNat 0)), ([((19, (0, .ofNat 5)), (0, .ofNat 5))], [])))))))))
set_option maxRecDepth 100000 in
theorem wS_46_k : aMeth wG [wS_45] (zfun [102]) (fun _ _ => none) 4000 wS_46 [(39, ([(.ofNat 0, .ofNat 0), (.ofNat 0, .ofNat 1), (.negSucc 2147483647, .ofNat 2147483647), (.ofNat 0, .ofNat 120)], ([(0, .inr (.inr (.inr (.inl 19)))), (1, .inl (0, .ofNat 1)), (2, .inl (1, .ofNat 0)), (3, .inl (0, .ofNat 120)), (4, .inl (2, .ofNat 0)), (5, .inl (3, .ofNat 0))], (([((19, (0, .ofNat 5)), (0, .ofNat 5))], []), [(true, (0, .ofNat 39)), (true, (3, .ofNat 0))]))))] 2 = true := by decide +kernel
theorem wS_46_ok : aSumOk wG wS_46 := aMeth_ok (zmc wS_45_ok zm0) wS_46_k
/-- MaidsMemory$Tape readLevel -/
def wS_47 : aSum := (102, (16, ([(.ofNat 0, .ofNat 0)], ([.inr (.inr (.inr (.inl 19))), .inl (0, .ofNat 0)], ([((19, (0, .ofNat 5)), (0, .ofNat 5))], ([(19, 3), (19, 4), (19, 5), (21, 999)], ([(.ofNat 0, .ofNat 1)], (some (.inl (1, .ofNat 0)), ([((19, (0, .ofNat 5)), (0, .ofNat 5))], [])))))))))
set_option maxRecDepth 100000 in
theorem wS_47_k : aMeth wG [wS_46] (zfun [102]) (fun _ _ => none) 4000 wS_47 [(39, ([(.ofNat 0, .ofNat 0), (.ofNat 0, .ofNat 1), (.negSucc 2147483647, .ofNat 2147483647), (.ofNat 0, .ofNat 120)], ([(0, .inr (.inr (.inr (.inl 19)))), (1, .inl (0, .ofNat 0)), (2, .inl (1, .ofNat 0)), (3, .inl (0, .ofNat 120)), (4, .inl (2, .ofNat 0)), (5, .inl (3, .ofNat 0))], (([((19, (0, .ofNat 5)), (0, .ofNat 5))], []), [(true, (0, .ofNat 39)), (true, (3, .ofNat 0))]))))] 2 = true := by decide +kernel
theorem wS_47_ok : aSumOk wG wS_47 := aMeth_ok (zmc wS_46_ok zm0) wS_47_k
/-- MaidsMemory$Tape readOpened -/
def wS_48 : aSum := (105, (17, ([(.ofNat 0, .ofNat 0)], ([.inr (.inr (.inr (.inl 19))), .inl (0, .ofNat 40)], ([((19, (0, .ofNat 5)), (0, .ofNat 4))], ([(19, 3), (19, 4), (19, 5), (21, 999)], ([(.ofNat 0, .ofNat 1)], (some (.inl (1, .ofNat 0)), ([((19, (0, .ofNat 5)), (0, .ofNat 4))], [])))))))))
set_option maxRecDepth 100000 in
theorem wS_48_k : aMeth wG [wS_47] (zfun [102]) (fun _ _ => none) 4000 wS_48 [] 0 = true := by decide +kernel
theorem wS_48_ok : aSumOk wG wS_48 := aMeth_ok (zmc wS_47_ok zm0) wS_48_k
/-- MaidsMemory$Tape readOne -/
def wS_49 : aSum := (104, (18, ([(.ofNat 0, .ofNat 0)], ([.inr (.inr (.inr (.inl 19)))], ([((19, (0, .ofNat 5)), (0, .ofNat 4))], ([(19, 3), (19, 4), (19, 5), (21, 999)], ([(.ofNat 0, .ofNat 1)], (some (.inl (1, .ofNat 0)), ([((19, (0, .ofNat 5)), (0, .ofNat 4))], [])))))))))
set_option maxRecDepth 100000 in
theorem wS_49_k : aMeth wG [wS_28, wS_40, wS_41, wS_48] (zfun [105, 106]) (fun _ _ => none) 4000 wS_49 [] 0 = true := by decide +kernel
theorem wS_49_ok : aSumOk wG wS_49 := aMeth_ok (zmc wS_28_ok (zmc wS_40_ok (zmc wS_41_ok (zmc wS_48_ok zm0)))) wS_49_k
/-- MaidsMemory$Tape readOpened -/
def wS_50 : aSum := (105, (19, ([(.ofNat 0, .ofNat 0)], ([.inr (.inr (.inr (.inl 19))), .inl (0, .ofNat 45)], ([((19, (0, .ofNat 5)), (0, .ofNat 3))], ([(19, 3), (19, 4), (19, 5), (21, 999)], ([(.ofNat 0, .ofNat 1)], (some (.inl (1, .ofNat 0)), ([((19, (0, .ofNat 5)), (0, .ofNat 3))], [])))))))))
set_option maxRecDepth 100000 in
theorem wS_50_k : aMeth wG [wS_49] (zfun [104]) (fun _ _ => none) 4000 wS_50 [] 0 = true := by decide +kernel
theorem wS_50_ok : aSumOk wG wS_50 := aMeth_ok (zmc wS_49_ok zm0) wS_50_k
/-- MaidsMemory$Tape readOpened -/
def wS_51 : aSum := (105, (19, ([(.ofNat 0, .ofNat 0)], ([.inr (.inr (.inr (.inl 19))), .inl (0, .ofNat 33)], ([((19, (0, .ofNat 5)), (0, .ofNat 3))], ([(19, 3), (19, 4), (19, 5), (21, 999)], ([(.ofNat 0, .ofNat 1)], (some (.inl (1, .ofNat 0)), ([((19, (0, .ofNat 5)), (0, .ofNat 3))], [])))))))))
set_option maxRecDepth 100000 in
theorem wS_51_k : aMeth wG [wS_49] (zfun [104]) (fun _ _ => none) 4000 wS_51 [] 0 = true := by decide +kernel
theorem wS_51_ok : aSumOk wG wS_51 := aMeth_ok (zmc wS_49_ok zm0) wS_51_k
/-- MaidsMemory$Tape readLevel -/
def wS_52 : aSum := (102, (19, ([(.ofNat 0, .ofNat 0)], ([.inr (.inr (.inr (.inl 19))), .inl (0, .ofNat 5)], ([((19, (0, .ofNat 5)), (0, .ofNat 4))], ([(19, 3), (19, 4), (19, 5), (21, 999)], ([(.ofNat 0, .ofNat 1)], (some (.inl (1, .ofNat 0)), ([((19, (0, .ofNat 5)), (0, .ofNat 4))], [])))))))))
set_option maxRecDepth 100000 in
theorem wS_52_k : aMeth wG [wS_49] (zfun [104]) (fun _ _ => none) 4000 wS_52 [] 0 = true := by decide +kernel
theorem wS_52_ok : aSumOk wG wS_52 := aMeth_ok (zmc wS_49_ok zm0) wS_52_k
/-- MaidsMemory$Tape readLevel -/
def wS_53 : aSum := (102, (20, ([(.ofNat 0, .ofNat 0)], ([.inr (.inr (.inr (.inl 19))), .inl (0, .ofNat 4)], ([((19, (0, .ofNat 5)), (0, .ofNat 4))], ([(19, 3), (19, 4), (19, 5), (21, 999)], ([(.ofNat 0, .ofNat 1)], (some (.inl (1, .ofNat 0)), ([((19, (0, .ofNat 5)), (0, .ofNat 4))], [])))))))))
set_option maxRecDepth 100000 in
theorem wS_53_k : aMeth wG [wS_52] (zfun [102]) (fun _ _ => none) 4000 wS_53 [(39, ([(.ofNat 0, .ofNat 0), (.ofNat 0, .ofNat 1), (.negSucc 2147483647, .ofNat 2147483647), (.ofNat 0, .ofNat 120)], ([(0, .inr (.inr (.inr (.inl 19)))), (1, .inl (0, .ofNat 4)), (2, .inl (1, .ofNat 0)), (3, .inl (0, .ofNat 120)), (4, .inl (2, .ofNat 0)), (5, .inl (3, .ofNat 0))], (([((19, (0, .ofNat 5)), (0, .ofNat 4))], []), [(true, (0, .ofNat 39)), (true, (3, .ofNat 0))]))))] 2 = true := by decide +kernel
theorem wS_53_ok : aSumOk wG wS_53 := aMeth_ok (zmc wS_52_ok zm0) wS_53_k
/-- MaidsMemory$Tape readLevel -/
def wS_54 : aSum := (102, (21, ([(.ofNat 0, .ofNat 0)], ([.inr (.inr (.inr (.inl 19))), .inl (0, .ofNat 3)], ([((19, (0, .ofNat 5)), (0, .ofNat 4))], ([(19, 3), (19, 4), (19, 5), (21, 999)], ([(.ofNat 0, .ofNat 1)], (some (.inl (1, .ofNat 0)), ([((19, (0, .ofNat 5)), (0, .ofNat 4))], [])))))))))
set_option maxRecDepth 100000 in
theorem wS_54_k : aMeth wG [wS_53] (zfun [102]) (fun _ _ => none) 4000 wS_54 [(39, ([(.ofNat 0, .ofNat 0), (.ofNat 0, .ofNat 1), (.negSucc 2147483647, .ofNat 2147483647), (.ofNat 0, .ofNat 120)], ([(0, .inr (.inr (.inr (.inl 19)))), (1, .inl (0, .ofNat 3)), (2, .inl (1, .ofNat 0)), (3, .inl (0, .ofNat 120)), (4, .inl (2, .ofNat 0)), (5, .inl (3, .ofNat 0))], (([((19, (0, .ofNat 5)), (0, .ofNat 4))], []), [(true, (0, .ofNat 39)), (true, (3, .ofNat 0))]))))] 2 = true := by decide +kernel
theorem wS_54_ok : aSumOk wG wS_54 := aMeth_ok (zmc wS_53_ok zm0) wS_54_k
/-- MaidsMemory$Tape readLevel -/
def wS_55 : aSum := (102, (22, ([(.ofNat 0, .ofNat 0)], ([.inr (.inr (.inr (.inl 19))), .inl (0, .ofNat 2)], ([((19, (0, .ofNat 5)), (0, .ofNat 4))], ([(19, 3), (19, 4), (19, 5), (21, 999)], ([(.ofNat 0, .ofNat 1)], (some (.inl (1, .ofNat 0)), ([((19, (0, .ofNat 5)), (0, .ofNat 4))], [])))))))))
set_option maxRecDepth 100000 in
theorem wS_55_k : aMeth wG [wS_54] (zfun [102]) (fun _ _ => none) 4000 wS_55 [(39, ([(.ofNat 0, .ofNat 0), (.ofNat 0, .ofNat 1), (.negSucc 2147483647, .ofNat 2147483647), (.ofNat 0, .ofNat 1)], ([(0, .inr (.inr (.inr (.inl 19)))), (1, .inl (0, .ofNat 2)), (2, .inl (1, .ofNat 0)), (3, .inl (0, .ofNat 1)), (4, .inl (2, .ofNat 0)), (5, .inl (3, .ofNat 0))], (([((19, (0, .ofNat 5)), (0, .ofNat 4))], []), [(true, (0, .ofNat 39)), (true, (3, .ofNat 0))]))))] 2 = true := by decide +kernel
theorem wS_55_ok : aSumOk wG wS_55 := aMeth_ok (zmc wS_54_ok zm0) wS_55_k
/-- MaidsMemory$Tape readLevel -/
def wS_56 : aSum := (102, (23, ([(.ofNat 0, .ofNat 0)], ([.inr (.inr (.inr (.inl 19))), .inl (0, .ofNat 1)], ([((19, (0, .ofNat 5)), (0, .ofNat 4))], ([(19, 3), (19, 4), (19, 5), (21, 999)], ([(.ofNat 0, .ofNat 1)], (some (.inl (1, .ofNat 0)), ([((19, (0, .ofNat 5)), (0, .ofNat 4))], [])))))))))
set_option maxRecDepth 100000 in
theorem wS_56_k : aMeth wG [wS_55] (zfun [102]) (fun _ _ => none) 4000 wS_56 [(39, ([(.ofNat 0, .ofNat 0), (.ofNat 0, .ofNat 1), (.negSucc 2147483647, .ofNat 2147483647), (.ofNat 0, .ofNat 120)], ([(0, .inr (.inr (.inr (.inl 19)))), (1, .inl (0, .ofNat 1)), (2, .inl (1, .ofNat 0)), (3, .inl (0, .ofNat 120)), (4, .inl (2, .ofNat 0)), (5, .inl (3, .ofNat 0))], (([((19, (0, .ofNat 5)), (0, .ofNat 4))], []), [(true, (0, .ofNat 39)), (true, (3, .ofNat 0))]))))] 2 = true := by decide +kernel
theorem wS_56_ok : aSumOk wG wS_56 := aMeth_ok (zmc wS_55_ok zm0) wS_56_k
/-- MaidsMemory$Tape readLevel -/
def wS_57 : aSum := (102, (24, ([(.ofNat 0, .ofNat 0)], ([.inr (.inr (.inr (.inl 19))), .inl (0, .ofNat 0)], ([((19, (0, .ofNat 5)), (0, .ofNat 4))], ([(19, 3), (19, 4), (19, 5), (21, 999)], ([(.ofNat 0, .ofNat 1)], (some (.inl (1, .ofNat 0)), ([((19, (0, .ofNat 5)), (0, .ofNat 4))], [])))))))))
set_option maxRecDepth 100000 in
theorem wS_57_k : aMeth wG [wS_56] (zfun [102]) (fun _ _ => none) 4000 wS_57 [(39, ([(.ofNat 0, .ofNat 0), (.ofNat 0, .ofNat 1), (.negSucc 2147483647, .ofNat 2147483647), (.ofNat 0, .ofNat 120)], ([(0, .inr (.inr (.inr (.inl 19)))), (1, .inl (0, .ofNat 0)), (2, .inl (1, .ofNat 0)), (3, .inl (0, .ofNat 120)), (4, .inl (2, .ofNat 0)), (5, .inl (3, .ofNat 0))], (([((19, (0, .ofNat 5)), (0, .ofNat 4))], []), [(true, (0, .ofNat 39)), (true, (3, .ofNat 0))]))))] 2 = true := by decide +kernel
theorem wS_57_ok : aSumOk wG wS_57 := aMeth_ok (zmc wS_56_ok zm0) wS_57_k
/-- MaidsMemory$Tape readOpened -/
def wS_58 : aSum := (105, (25, ([(.ofNat 0, .ofNat 0)], ([.inr (.inr (.inr (.inl 19))), .inl (0, .ofNat 40)], ([((19, (0, .ofNat 5)), (0, .ofNat 3))], ([(19, 3), (19, 4), (19, 5), (21, 999)], ([(.ofNat 0, .ofNat 1)], (some (.inl (1, .ofNat 0)), ([((19, (0, .ofNat 5)), (0, .ofNat 3))], [])))))))))
set_option maxRecDepth 100000 in
theorem wS_58_k : aMeth wG [wS_57] (zfun [102]) (fun _ _ => none) 4000 wS_58 [] 0 = true := by decide +kernel
theorem wS_58_ok : aSumOk wG wS_58 := aMeth_ok (zmc wS_57_ok zm0) wS_58_k
/-- MaidsMemory$Tape readOne -/
def wS_59 : aSum := (104, (26, ([(.ofNat 0, .ofNat 0)], ([.inr (.inr (.inr (.inl 19)))], ([((19, (0, .ofNat 5)), (0, .ofNat 3))], ([(19, 3), (19, 4), (19, 5), (21, 999)], ([(.ofNat 0, .ofNat 1)], (some (.inl (1, .ofNat 0)), ([((19, (0, .ofNat 5)), (0, .ofNat 3))], [])))))))))
set_option maxRecDepth 100000 in
theorem wS_59_k : aMeth wG [wS_28, wS_50, wS_51, wS_58] (zfun [105, 106]) (fun _ _ => none) 4000 wS_59 [] 0 = true := by decide +kernel
theorem wS_59_ok : aSumOk wG wS_59 := aMeth_ok (zmc wS_28_ok (zmc wS_50_ok (zmc wS_51_ok (zmc wS_58_ok zm0)))) wS_59_k
/-- MaidsMemory$Tape readOpened -/
def wS_60 : aSum := (105, (27, ([(.ofNat 0, .ofNat 0)], ([.inr (.inr (.inr (.inl 19))), .inl (0, .ofNat 45)], ([((19, (0, .ofNat 5)), (0, .ofNat 2))], ([(19, 3), (19, 4), (19, 5), (21, 999)], ([(.ofNat 0, .ofNat 1)], (some (.inl (1, .ofNat 0)), ([((19, (0, .ofNat 5)), (0, .ofNat 2))], [])))))))))
set_option maxRecDepth 100000 in
theorem wS_60_k : aMeth wG [wS_59] (zfun [104]) (fun _ _ => none) 4000 wS_60 [] 0 = true := by decide +kernel
theorem wS_60_ok : aSumOk wG wS_60 := aMeth_ok (zmc wS_59_ok zm0) wS_60_k
/-- MaidsMemory$Tape readOpened -/
def wS_61 : aSum := (105, (27, ([(.ofNat 0, .ofNat 0)], ([.inr (.inr (.inr (.inl 19))), .inl (0, .ofNat 33)], ([((19, (0, .ofNat 5)), (0, .ofNat 2))], ([(19, 3), (19, 4), (19, 5), (21, 999)], ([(.ofNat 0, .ofNat 1)], (some (.inl (1, .ofNat 0)), ([((19, (0, .ofNat 5)), (0, .ofNat 2))], [])))))))))
set_option maxRecDepth 100000 in
theorem wS_61_k : aMeth wG [wS_59] (zfun [104]) (fun _ _ => none) 4000 wS_61 [] 0 = true := by decide +kernel
theorem wS_61_ok : aSumOk wG wS_61 := aMeth_ok (zmc wS_59_ok zm0) wS_61_k
/-- MaidsMemory$Tape readLevel -/
def wS_62 : aSum := (102, (27, ([(.ofNat 0, .ofNat 0)], ([.inr (.inr (.inr (.inl 19))), .inl (0, .ofNat 5)], ([((19, (0, .ofNat 5)), (0, .ofNat 3))], ([(19, 3), (19, 4), (19, 5), (21, 999)], ([(.ofNat 0, .ofNat 1)], (some (.inl (1, .ofNat 0)), ([((19, (0, .ofNat 5)), (0, .ofNat 3))], [])))))))))
set_option maxRecDepth 100000 in
theorem wS_62_k : aMeth wG [wS_59] (zfun [104]) (fun _ _ => none) 4000 wS_62 [] 0 = true := by decide +kernel
theorem wS_62_ok : aSumOk wG wS_62 := aMeth_ok (zmc wS_59_ok zm0) wS_62_k
/-- MaidsMemory$Tape readLevel -/
def wS_63 : aSum := (102, (28, ([(.ofNat 0, .ofNat 0)], ([.inr (.inr (.inr (.inl 19))), .inl (0, .ofNat 4)], ([((19, (0, .ofNat 5)), (0, .ofNat 3))], ([(19, 3), (19, 4), (19, 5), (21, 999)], ([(.ofNat 0, .ofNat 1)], (some (.inl (1, .ofNat 0)), ([((19, (0, .ofNat 5)), (0, .ofNat 3))], [])))))))))
set_option maxRecDepth 100000 in
theorem wS_63_k : aMeth wG [wS_62] (zfun [102]) (fun _ _ => none) 4000 wS_63 [(39, ([(.ofNat 0, .ofNat 0), (.ofNat 0, .ofNat 1), (.negSucc 2147483647, .ofNat 2147483647), (.ofNat 0, .ofNat 120)], ([(0, .inr (.inr (.inr (.inl 19)))), (1, .inl (0, .ofNat 4)), (2, .inl (1, .ofNat 0)), (3, .inl (0, .ofNat 120)), (4, .inl (2, .ofNat 0)), (5, .inl (3, .ofNat 0))], (([((19, (0, .ofNat 5)), (0, .ofNat 3))], []), [(true, (0, .ofNat 39)), (true, (3, .ofNat 0))]))))] 2 = true := by decide +kernel
theorem wS_63_ok : aSumOk wG wS_63 := aMeth_ok (zmc wS_62_ok zm0) wS_63_k
/-- MaidsMemory$Tape readLevel -/
def wS_64 : aSum := (102, (29, ([(.ofNat 0, .ofNat 0)], ([.inr (.inr (.inr (.inl 19))), .inl (0, .ofNat 3)], ([((19, (0, .ofNat 5)), (0, .ofNat 3))], ([(19, 3), (19, 4), (19, 5), (21, 999)], ([(.ofNat 0, .ofNat 1)], (some (.inl (1, .ofNat 0)), ([((19, (0, .ofNat 5)), (0, .ofNat 3))], [])))))))))
set_option maxRecDepth 100000 in
theorem wS_64_k : aMeth wG [wS_63] (zfun [102]) (fun _ _ => none) 4000 wS_64 [(39, ([(.ofNat 0, .ofNat 0), (.ofNat 0, .ofNat 1), (.negSucc 2147483647, .ofNat 2147483647), (.ofNat 0, .ofNat 120)], ([(0, .inr (.inr (.inr (.inl 19)))), (1, .inl (0, .ofNat 3)), (2, .inl (1, .ofNat 0)), (3, .inl (0, .ofNat 120)), (4, .inl (2, .ofNat 0)), (5, .inl (3, .ofNat 0))], (([((19, (0, .ofNat 5)), (0, .ofNat 3))], []), [(true, (0, .ofNat 39)), (true, (3, .ofNat 0))]))))] 2 = true := by decide +kernel
theorem wS_64_ok : aSumOk wG wS_64 := aMeth_ok (zmc wS_63_ok zm0) wS_64_k
/-- MaidsMemory$Tape readLevel -/
def wS_65 : aSum := (102, (30, ([(.ofNat 0, .ofNat 0)], ([.inr (.inr (.inr (.inl 19))), .inl (0, .ofNat 2)], ([((19, (0, .ofNat 5)), (0, .ofNat 3))], ([(19, 3), (19, 4), (19, 5), (21, 999)], ([(.ofNat 0, .ofNat 1)], (some (.inl (1, .ofNat 0)), ([((19, (0, .ofNat 5)), (0, .ofNat 3))], [])))))))))
set_option maxRecDepth 100000 in
theorem wS_65_k : aMeth wG [wS_64] (zfun [102]) (fun _ _ => none) 4000 wS_65 [(39, ([(.ofNat 0, .ofNat 0), (.ofNat 0, .ofNat 1), (.negSucc 2147483647, .ofNat 2147483647), (.ofNat 0, .ofNat 1)], ([(0, .inr (.inr (.inr (.inl 19)))), (1, .inl (0, .ofNat 2)), (2, .inl (1, .ofNat 0)), (3, .inl (0, .ofNat 1)), (4, .inl (2, .ofNat 0)), (5, .inl (3, .ofNat 0))], (([((19, (0, .ofNat 5)), (0, .ofNat 3))], []), [(true, (0, .ofNat 39)), (true, (3, .ofNat 0))]))))] 2 = true := by decide +kernel
theorem wS_65_ok : aSumOk wG wS_65 := aMeth_ok (zmc wS_64_ok zm0) wS_65_k
end
