noncomputable section
/-- MaidsMemory$Tape readLevel -/
def wS_66 : aSum := (102, (31, ([(.ofNat 0, .ofNat 0)], ([.inr (.inr (.inr (.inl 19))), .inl (0, .ofNat 1)], ([((19, (0, .ofNat 5)), (0, .ofNat 3))], ([(19, 3), (19, 4), (19, 5), (21, 999)], ([(.ofNat 0, .ofNat 1)], (some (.inl (1, .ofNat 0)), ([((19, (0, .ofNat 5)), (0, .ofNat 3))], [])))))))))
set_option maxRecDepth 100000 in
theorem wS_66_k : aMeth wG [wS_65] (zfun [102]) (fun _ _ => none) 4000 wS_66 [(39, ([(.ofNat 0, .ofNat 0), (.ofNat 0, .ofNat 1), (.negSucc 2147483647, .ofNat 2147483647), (.ofNat 0, .ofNat 120)], ([(0, .inr (.inr (.inr (.inl 19)))), (1, .inl (0, .ofNat 1)), (2, .inl (1, .ofNat 0)), (3, .inl (0, .ofNat 120)), (4, .inl (2, .ofNat 0)), (5, .inl (3, .ofNat 0))], (([((19, (0, .ofNat 5)), (0, .ofNat 3))], []), [(true, (0, .ofNat 39)), (true, (3, .ofNat 0))]))))] 2 = true := by decide +kernel
theorem wS_66_ok : aSumOk wG wS_66 := aMeth_ok (zmc wS_65_ok zm0) wS_66_k
/-- MaidsMemory$Tape readLevel -/
def wS_67 : aSum := (102, (32, ([(.ofNat 0, .ofNat 0)], ([.inr (.inr (.inr (.inl 19))), .inl (0, .ofNat 0)], ([((19, (0, .ofNat 5)), (0, .ofNat 3))], ([(19, 3), (19, 4), (19, 5), (21, 999)], ([(.ofNat 0, .ofNat 1)], (some (.inl (1, .ofNat 0)), ([((19, (0, .ofNat 5)), (0, .ofNat 3))], [])))))))))
set_option maxRecDepth 100000 in
theorem wS_67_k : aMeth wG [wS_66] (zfun [102]) (fun _ _ => none) 4000 wS_67 [(39, ([(.ofNat 0, .ofNat 0), (.ofNat 0, .ofNat 1), (.negSucc 2147483647, .ofNat 2147483647), (.ofNat 0, .ofNat 120)], ([(0, .inr (.inr (.inr (.inl 19)))), (1, .inl (0, .ofNat 0)), (2, .inl (1, .ofNat 0)), (3, .inl (0, .ofNat 120)), (4, .inl (2, .ofNat 0)), (5, .inl (3, .ofNat 0))], (([((19, (0, .ofNat 5)), (0, .ofNat 3))], []), [(true, (0, .ofNat 39)), (true, (3, .ofNat 0))]))))] 2 = true := by decide +kernel
theorem wS_67_ok : aSumOk wG wS_67 := aMeth_ok (zmc wS_66_ok zm0) wS_67_k
/-- MaidsMemory$Tape readOpened -/
def wS_68 : aSum := (105, (33, ([(.ofNat 0, .ofNat 0)], ([.inr (.inr (.inr (.inl 19))), .inl (0, .ofNat 40)], ([((19, (0, .ofNat 5)), (0, .ofNat 2))], ([(19, 3), (19, 4), (19, 5), (21, 999)], ([(.ofNat 0, .ofNat 1)], (some (.inl (1, .ofNat 0)), ([((19, (0, .ofNat 5)), (0, .ofNat 2))], [])))))))))
set_option maxRecDepth 100000 in
theorem wS_68_k : aMeth wG [wS_67] (zfun [102]) (fun _ _ => none) 4000 wS_68 [] 0 = true := by decide +kernel
theorem wS_68_ok : aSumOk wG wS_68 := aMeth_ok (zmc wS_67_ok zm0) wS_68_k
/-- MaidsMemory$Tape readOne -/
def wS_69 : aSum := (104, (34, ([(.ofNat 0, .ofNat 0)], ([.inr (.inr (.inr (.inl 19)))], ([((19, (0, .ofNat 5)), (0, .ofNat 2))], ([(19, 3), (19, 4), (19, 5), (21, 999)], ([(.ofNat 0, .ofNat 1)], (some (.inl (1, .ofNat 0)), ([((19, (0, .ofNat 5)), (0, .ofNat 2))], [])))))))))
set_option maxRecDepth 100000 in
theorem wS_69_k : aMeth wG [wS_28, wS_60, wS_61, wS_68] (zfun [105, 106]) (fun _ _ => none) 4000 wS_69 [] 0 = true := by decide +kernel
theorem wS_69_ok : aSumOk wG wS_69 := aMeth_ok (zmc wS_28_ok (zmc wS_60_ok (zmc wS_61_ok (zmc wS_68_ok zm0)))) wS_69_k
/-- MaidsMemory$Tape readOpened -/
def wS_70 : aSum := (105, (35, ([(.ofNat 0, .ofNat 0)], ([.inr (.inr (.inr (.inl 19))), .inl (0, .ofNat 45)], ([((19, (0, .ofNat 5)), (0, .ofNat 1))], ([(19, 3), (19, 4), (19, 5), (21, 999)], ([(.ofNat 0, .ofNat 1)], (some (.inl (1, .ofNat 0)), ([((19, (0, .ofNat 5)), (0, .ofNat 1))], [])))))))))
set_option maxRecDepth 100000 in
theorem wS_70_k : aMeth wG [wS_69] (zfun [104]) (fun _ _ => none) 4000 wS_70 [] 0 = true := by decide +kernel
theorem wS_70_ok : aSumOk wG wS_70 := aMeth_ok (zmc wS_69_ok zm0) wS_70_k
/-- MaidsMemory$Tape readOpened -/
def wS_71 : aSum := (105, (35, ([(.ofNat 0, .ofNat 0)], ([.inr (.inr (.inr (.inl 19))), .inl (0, .ofNat 33)], ([((19, (0, .ofNat 5)), (0, .ofNat 1))], ([(19, 3), (19, 4), (19, 5), (21, 999)], ([(.ofNat 0, .ofNat 1)], (some (.inl (1, .ofNat 0)), ([((19, (0, .ofNat 5)), (0, .ofNat 1))], [])))))))))
set_option maxRecDepth 100000 in
theorem wS_71_k : aMeth wG [wS_69] (zfun [104]) (fun _ _ => none) 4000 wS_71 [] 0 = true := by decide +kernel
theorem wS_71_ok : aSumOk wG wS_71 := aMeth_ok (zmc wS_69_ok zm0) wS_71_k
/-- MaidsMemory$Tape readLevel -/
def wS_72 : aSum := (102, (35, ([(.ofNat 0, .ofNat 0)], ([.inr (.inr (.inr (.inl 19))), .inl (0, .ofNat 5)], ([((19, (0, .ofNat 5)), (0, .ofNat 2))], ([(19, 3), (19, 4), (19, 5), (21, 999)], ([(.ofNat 0, .ofNat 1)], (some (.inl (1, .ofNat 0)), ([((19, (0, .ofNat 5)), (0, .ofNat 2))], [])))))))))
set_option maxRecDepth 100000 in
theorem wS_72_k : aMeth wG [wS_69] (zfun [104]) (fun _ _ => none) 4000 wS_72 [] 0 = true := by decide +kernel
theorem wS_72_ok : aSumOk wG wS_72 := aMeth_ok (zmc wS_69_ok zm0) wS_72_k
/-- MaidsMemory$Tape readLevel -/
def wS_73 : aSum := (102, (36, ([(.ofNat 0, .ofNat 0)], ([.inr (.inr (.inr (.inl 19))), .inl (0, .ofNat 4)], ([((19, (0, .ofNat 5)), (0, .ofNat 2))], ([(19, 3), (19, 4), (19, 5), (21, 999)], ([(.ofNat 0, .ofNat 1)], (some (.inl (1, .ofNat 0)), ([((19, (0, .ofNat 5)), (0, .ofNat 2))], [])))))))))
set_option maxRecDepth 100000 in
theorem wS_73_k : aMeth wG [wS_72] (zfun [102]) (fun _ _ => none) 4000 wS_73 [(39, ([(.ofNat 0, .ofNat 0), (.ofNat 0, .ofNat 1), (.negSucc 2147483647, .ofNat 2147483647), (.ofNat 0, .ofNat 120)], ([(0, .inr (.inr (.inr (.inl 19)))), (1, .inl (0, .ofNat 4)), (2, .inl (1, .ofNat 0)), (3, .inl (0, .ofNat 120)), (4, .inl (2, .ofNat 0)), (5, .inl (3, .ofNat 0))], (([((19, (0, .ofNat 5)), (0, .ofNat 2))], []), [(true, (0, .ofNat 39)), (true, (3, .ofNat 0))]))))] 2 = true := by decide +kernel
theorem wS_73_ok : aSumOk wG wS_73 := aMeth_ok (zmc wS_72_ok zm0) wS_73_k
/-- MaidsMemory$Tape readLevel -/
def wS_74 : aSum := (102, (37, ([(.ofNat 0, .ofNat 0)], ([.inr (.inr (.inr (.inl 19))), .inl (0, .ofNat 3)], ([((19, (0, .ofNat 5)), (0, .ofNat 2))], ([(19, 3), (19, 4), (19, 5), (21, 999)], ([(.ofNat 0, .ofNat 1)], (some (.inl (1, .ofNat 0)), ([((19, (0, .ofNat 5)), (0, .ofNat 2))], [])))))))))
set_option maxRecDepth 100000 in
theorem wS_74_k : aMeth wG [wS_73] (zfun [102]) (fun _ _ => none) 4000 wS_74 [(39, ([(.ofNat 0, .ofNat 0), (.ofNat 0, .ofNat 1), (.negSucc 2147483647, .ofNat 2147483647), (.ofNat 0, .ofNat 120)], ([(0, .inr (.inr (.inr (.inl 19)))), (1, .inl (0, .ofNat 3)), (2, .inl (1, .ofNat 0)), (3, .inl (0, .ofNat 120)), (4, .inl (2, .ofNat 0)), (5, .inl (3, .ofNat 0))], (([((19, (0, .ofNat 5)), (0, .ofNat 2))], []), [(true, (0, .ofNat 39)), (true, (3, .ofNat 0))]))))] 2 = true := by decide +kernel
theorem wS_74_ok : aSumOk wG wS_74 := aMeth_ok (zmc wS_73_ok zm0) wS_74_k
/-- MaidsMemory$Tape readLevel -/
def wS_75 : aSum := (102, (38, ([(.ofNat 0, .ofNat 0)], ([.inr (.inr (.inr (.inl 19))), .inl (0, .ofNat 2)], ([((19, (0, .ofNat 5)), (0, .ofNat 2))], ([(19, 3), (19, 4), (19, 5), (21, 999)], ([(.ofNat 0, .ofNat 1)], (some (.inl (1, .ofNat 0)), ([((19, (0, .ofNat 5)), (0, .ofNat 2))], [])))))))))
set_option maxRecDepth 100000 in
theorem wS_75_k : aMeth wG [wS_74] (zfun [102]) (fun _ _ => none) 4000 wS_75 [(39, ([(.ofNat 0, .ofNat 0), (.ofNat 0, .ofNat 1), (.negSucc 2147483647, .ofNat 2147483647), (.ofNat 0, .ofNat 1)], ([(0, .inr (.inr (.inr (.inl 19)))), (1, .inl (0, .ofNat 2)), (2, .inl (1, .ofNat 0)), (3, .inl (0, .ofNat 1)), (4, .inl (2, .ofNat 0)), (5, .inl (3, .ofNat 0))], (([((19, (0, .ofNat 5)), (0, .ofNat 2))], []), [(true, (0, .ofNat 39)), (true, (3, .ofNat 0))]))))] 2 = true := by decide +kernel
theorem wS_75_ok : aSumOk wG wS_75 := aMeth_ok (zmc wS_74_ok zm0) wS_75_k
/-- MaidsMemory$Tape readLevel -/
def wS_76 : aSum := (102, (39, ([(.ofNat 0, .ofNat 0)], ([.inr (.inr (.inr (.inl 19))), .inl (0, .ofNat 1)], ([((19, (0, .ofNat 5)), (0, .ofNat 2))], ([(19, 3), (19, 4), (19, 5), (21, 999)], ([(.ofNat 0, .ofNat 1)], (some (.inl (1, .ofNat 0)), ([((19, (0, .ofNat 5)), (0, .ofNat 2))], [])))))))))
set_option maxRecDepth 100000 in
theorem wS_76_k : aMeth wG [wS_75] (zfun [102]) (fun _ _ => none) 4000 wS_76 [(39, ([(.ofNat 0, .ofNat 0), (.ofNat 0, .ofNat 1), (.negSucc 2147483647, .ofNat 2147483647), (.ofNat 0, .ofNat 120)], ([(0, .inr (.inr (.inr (.inl 19)))), (1, .inl (0, .ofNat 1)), (2, .inl (1, .ofNat 0)), (3, .inl (0, .ofNat 120)), (4, .inl (2, .ofNat 0)), (5, .inl (3, .ofNat 0))], (([((19, (0, .ofNat 5)), (0, .ofNat 2))], []), [(true, (0, .ofNat 39)), (true, (3, .ofNat 0))]))))] 2 = true := by decide +kernel
theorem wS_76_ok : aSumOk wG wS_76 := aMeth_ok (zmc wS_75_ok zm0) wS_76_k
/-- MaidsMemory$Tape readLevel -/
def wS_77 : aSum := (102, (40, ([(.ofNat 0, .ofNat 0)], ([.inr (.inr (.inr (.inl 19))), .inl (0, .ofNat 0)], ([((19, (0, .ofNat 5)), (0, .ofNat 2))], ([(19, 3), (19, 4), (19, 5), (21, 999)], ([(.ofNat 0, .ofNat 1)], (some (.inl (1, .ofNat 0)), ([((19, (0, .ofNat 5)), (0, .ofNat 2))], [])))))))))
set_option maxRecDepth 100000 in
theorem wS_77_k : aMeth wG [wS_76] (zfun [102]) (fun _ _ => none) 4000 wS_77 [(39, ([(.ofNat 0, .ofNat 0), (.ofNat 0, .ofNat 1), (.negSucc 2147483647, .ofNat 2147483647), (.ofNat 0, .ofNat 120)], ([(0, .inr (.inr (.inr (.inl 19)))), (1, .inl (0, .ofNat 0)), (2, .inl (1, .ofNat 0)), (3, .inl (0, .ofNat 120)), (4, .inl (2, .ofNat 0)), (5, .inl (3, .ofNat 0))], (([((19, (0, .ofNat 5)), (0, .ofNat 2))], []), [(true, (0, .ofNat 39)), (true, (3, .ofNat 0))]))))] 2 = true := by decide +kernel
theorem wS_77_ok : aSumOk wG wS_77 := aMeth_ok (zmc wS_76_ok zm0) wS_77_k
/-- MaidsMemory$Tape readOpened -/
def wS_78 : aSum := (105, (41, ([(.ofNat 0, .ofNat 0)], ([.inr (.inr (.inr (.inl 19))), .inl (0, .ofNat 40)], ([((19, (0, .ofNat 5)), (0, .ofNat 1))], ([(19, 3), (19, 4), (19, 5), (21, 999)], ([(.ofNat 0, .ofNat 1)], (some (.inl (1, .ofNat 0)), ([((19, (0, .ofNat 5)), (0, .ofNat 1))], [])))))))))
set_option maxRecDepth 100000 in
theorem wS_78_k : aMeth wG [wS_77] (zfun [102]) (fun _ _ => none) 4000 wS_78 [] 0 = true := by decide +kernel
theorem wS_78_ok : aSumOk wG wS_78 := aMeth_ok (zmc wS_77_ok zm0) wS_78_k
/-- MaidsMemory$Tape readOne -/
def wS_79 : aSum := (104, (42, ([(.ofNat 0, .ofNat 0)], ([.inr (.inr (.inr (.inl 19)))], ([((19, (0, .ofNat 5)), (0, .ofNat 1))], ([(19, 3), (19, 4), (19, 5), (21, 999)], ([(.ofNat 0, .ofNat 1)], (some (.inl (1, .ofNat 0)), ([((19, (0, .ofNat 5)), (0, .ofNat 1))], [])))))))))
set_option maxRecDepth 100000 in
theorem wS_79_k : aMeth wG [wS_28, wS_70, wS_71, wS_78] (zfun [105, 106]) (fun _ _ => none) 4000 wS_79 [] 0 = true := by decide +kernel
theorem wS_79_ok : aSumOk wG wS_79 := aMeth_ok (zmc wS_28_ok (zmc wS_70_ok (zmc wS_71_ok (zmc wS_78_ok zm0)))) wS_79_k
/-- MaidsMemory$Tape readOpened -/
def wS_80 : aSum := (105, (43, ([(.ofNat 0, .ofNat 0)], ([.inr (.inr (.inr (.inl 19))), .inl (0, .ofNat 45)], ([((19, (0, .ofNat 5)), (0, .ofNat 0))], ([(19, 3), (19, 4), (19, 5), (21, 999)], ([(.ofNat 0, .ofNat 1)], (some (.inl (1, .ofNat 0)), ([((19, (0, .ofNat 5)), (0, .ofNat 0))], [])))))))))
set_option maxRecDepth 100000 in
theorem wS_80_k : aMeth wG [wS_79] (zfun [104]) (fun _ _ => none) 4000 wS_80 [] 0 = true := by decide +kernel
theorem wS_80_ok : aSumOk wG wS_80 := aMeth_ok (zmc wS_79_ok zm0) wS_80_k
/-- MaidsMemory$Tape readOpened -/
def wS_81 : aSum := (105, (43, ([(.ofNat 0, .ofNat 0)], ([.inr (.inr (.inr (.inl 19))), .inl (0, .ofNat 33)], ([((19, (0, .ofNat 5)), (0, .ofNat 0))], ([(19, 3), (19, 4), (19, 5), (21, 999)], ([(.ofNat 0, .ofNat 1)], (some (.inl (1, .ofNat 0)), ([((19, (0, .ofNat 5)), (0, .ofNat 0))], [])))))))))
set_option maxRecDepth 100000 in
theorem wS_81_k : aMeth wG [wS_79] (zfun [104]) (fun _ _ => none) 4000 wS_81 [] 0 = true := by decide +kernel
theorem wS_81_ok : aSumOk wG wS_81 := aMeth_ok (zmc wS_79_ok zm0) wS_81_k
/-- MaidsMemory$Tape readLevel -/
def wS_82 : aSum := (102, (43, ([(.ofNat 0, .ofNat 0)], ([.inr (.inr (.inr (.inl 19))), .inl (0, .ofNat 5)], ([((19, (0, .ofNat 5)), (0, .ofNat 1))], ([(19, 3), (19, 4), (19, 5), (21, 999)], ([(.ofNat 0, .ofNat 1)], (some (.inl (1, .ofNat 0)), ([((19, (0, .ofNat 5)), (0, .ofNat 1))], [])))))))))
set_option maxRecDepth 100000 in
theorem wS_82_k : aMeth wG [wS_79] (zfun [104]) (fun _ _ => none) 4000 wS_82 [] 0 = true := by decide +kernel
theorem wS_82_ok : aSumOk wG wS_82 := aMeth_ok (zmc wS_79_ok zm0) wS_82_k
/-- MaidsMemory$Tape readLevel -/
def wS_83 : aSum := (102, (44, ([(.ofNat 0, .ofNat 0)], ([.inr (.inr (.inr (.inl 19))), .inl (0, .ofNat 4)], ([((19, (0, .ofNat 5)), (0, .ofNat 1))], ([(19, 3), (19, 4), (19, 5), (21, 999)], ([(.ofNat 0, .ofNat 1)], (some (.inl (1, .ofNat 0)), ([((19, (0, .ofNat 5)), (0, .ofNat 1))], [])))))))))
set_option maxRecDepth 100000 in
theorem wS_83_k : aMeth wG [wS_82] (zfun [102]) (fun _ _ => none) 4000 wS_83 [(39, ([(.ofNat 0, .ofNat 0), (.ofNat 0, .ofNat 1), (.negSucc 2147483647, .ofNat 2147483647), (.ofNat 0, .ofNat 120)], ([(0, .inr (.inr (.inr (.inl 19)))), (1, .inl (0, .ofNat 4)), (2, .inl (1, .ofNat 0)), (3, .inl (0, .ofNat 120)), (4, .inl (2, .ofNat 0)), (5, .inl (3, .ofNat 0))], (([((19, (0, .ofNat 5)), (0, .ofNat 1))], []), [(true, (0, .ofNat 39)), (true, (3, .ofNat 0))]))))] 2 = true := by decide +kernel
theorem wS_83_ok : aSumOk wG wS_83 := aMeth_ok (zmc wS_82_ok zm0) wS_83_k
/-- MaidsMemory$Tape readLevel -/
def wS_84 : aSum := (102, (45, ([(.ofNat 0, .ofNat 0)], ([.inr (.inr (.inr (.inl 19))), .inl (0, .ofNat 3)], ([((19, (0, .ofNat 5)), (0, .ofNat 1))], ([(19, 3), (19, 4), (19, 5), (21, 999)], ([(.ofNat 0, .ofNat 1)], (some (.inl (1, .ofNat 0)), ([((19, (0, .ofNat 5)), (0, .ofNat 1))], [])))))))))
set_option maxRecDepth 100000 in
theorem wS_84_k : aMeth wG [wS_83] (zfun [102]) (fun _ _ => none) 4000 wS_84 [(39, ([(.ofNat 0, .ofNat 0), (.ofNat 0, .ofNat 1), (.negSucc 2147483647, .ofNat 2147483647), (.ofNat 0, .ofNat 120)], ([(0, .inr (.inr (.inr (.inl 19)))), (1, .inl (0, .ofNat 3)), (2, .inl (1, .ofNat 0)), (3, .inl (0, .ofNat 120)), (4, .inl (2, .ofNat 0)), (5, .inl (3, .ofNat 0))], (([((19, (0, .ofNat 5)), (0, .ofNat 1))], []), [(true, (0, .ofNat 39)), (true, (3, .ofNat 0))]))))] 2 = true := by decide +kernel
theorem wS_84_ok : aSumOk wG wS_84 := aMeth_ok (zmc wS_83_ok zm0) wS_84_k
/-- MaidsMemory$Tape readLevel -/
def wS_85 : aSum := (102, (46, ([(.ofNat 0, .ofNat 0)], ([.inr (.inr (.inr (.inl 19))), .inl (0, .ofNat 2)], ([((19, (0, .ofNat 5)), (0, .ofNat 1))], ([(19, 3), (19, 4), (19, 5), (21, 999)], ([(.ofNat 0, .ofNat 1)], (some (.inl (1, .ofNat 0)), ([((19, (0, .ofNat 5)), (0, .ofNat 1))], [])))))))))
set_option maxRecDepth 100000 in
theorem wS_85_k : aMeth wG [wS_84] (zfun [102]) (fun _ _ => none) 4000 wS_85 [(39, ([(.ofNat 0, .ofNat 0), (.ofNat 0, .ofNat 1), (.negSucc 2147483647, .ofNat 2147483647), (.ofNat 0, .ofNat 1)], ([(0, .inr (.inr (.inr (.inl 19)))), (1, .inl (0, .ofNat 2)), (2, .inl (1, .ofNat 0)), (3, .inl (0, .ofNat 1)), (4, .inl (2, .ofNat 0)), (5, .inl (3, .ofNat 0))], (([((19, (0, .ofNat 5)), (0, .ofNat 1))], []), [(true, (0, .ofNat 39)), (true, (3, .ofNat 0))]))))] 2 = true := by decide +kernel
theorem wS_85_ok : aSumOk wG wS_85 := aMeth_ok (zmc wS_84_ok zm0) wS_85_k
/-- MaidsMemory$Tape readLevel -/
def wS_86 : aSum := (102, (47, ([(.ofNat 0, .ofNat 0)], ([.inr (.inr (.inr (.inl 19))), .inl (0, .ofNat 1)], ([((19, (0, .ofNat 5)), (0, .ofNat 1))], ([(19, 3), (19, 4), (19, 5), (21, 999)], ([(.ofNat 0, .ofNat 1)], (some (.inl (1, .ofNat 0)), ([((19, (0, .ofNat 5)), (0, .ofNat 1))], [])))))))))
set_option maxRecDepth 100000 in
theorem wS_86_k : aMeth wG [wS_85] (zfun [102]) (fun _ _ => none) 4000 wS_86 [(39, ([(.ofNat 0, .ofNat 0), (.ofNat 0, .ofNat 1), (.negSucc 2147483647, .ofNat 2147483647), (.ofNat 0, .ofNat 120)], ([(0, .inr (.inr (.inr (.inl 19)))), (1, .inl (0, .ofNat 1)), (2, .inl (1, .ofNat 0)), (3, .inl (0, .ofNat 120)), (4, .inl (2, .ofNat 0)), (5, .inl (3, .ofNat 0))], (([((19, (0, .ofNat 5)), (0, .ofNat 1))], []), [(true, (0, .ofNat 39)), (true, (3, .ofNat 0))]))))] 2 = true := by decide +kernel
theorem wS_86_ok : aSumOk wG wS_86 := aMeth_ok (zmc wS_85_ok zm0) wS_86_k
/-- MaidsMemory$Tape readLevel -/
def wS_87 : aSum := (102, (48, ([(.ofNat 0, .ofNat 0)], ([.inr (.inr (.inr (.inl 19))), .inl (0, .ofNat 0)], ([((19, (0, .ofNat 5)), (0, .ofNat 1))], ([(19, 3), (19, 4), (19, 5), (21, 999)], ([(.ofNat 0, .ofNat 1)], (some (.inl (1, .ofNat 0)), ([((19, (0, .ofNat 5)), (0, .ofNat 1))], [])))))))))
set_option maxRecDepth 100000 in
theorem wS_87_k : aMeth wG [wS_86] (zfun [102]) (fun _ _ => none) 4000 wS_87 [(39, ([(.ofNat 0, .ofNat 0), (.ofNat 0, .ofNat 1), (.negSucc 2147483647, .ofNat 2147483647), (.ofNat 0, .ofNat 120)], ([(0, .inr (.inr (.inr (.inl 19)))), (1, .inl (0, .ofNat 0)), (2, .inl (1, .ofNat 0)), (3, .inl (0, .ofNat 120)), (4, .inl (2, .ofNat 0)), (5, .inl (3, .ofNat 0))], (([((19, (0, .ofNat 5)), (0, .ofNat 1))], []), [(true, (0, .ofNat 39)), (true, (3, .ofNat 0))]))))] 2 = true := by decide +kernel
theorem wS_87_ok : aSumOk wG wS_87 := aMeth_ok (zmc wS_86_ok zm0) wS_87_k
/-- MaidsMemory$Tape readOpened -/
def wS_88 : aSum := (105, (49, ([(.ofNat 0, .ofNat 0)], ([.inr (.inr (.inr (.inl 19))), .inl (0, .ofNat 40)], ([((19, (0, .ofNat 5)), (0, .ofNat 0))], ([(19, 3), (19, 4), (19, 5), (21, 999)], ([(.ofNat 0, .ofNat 1)], (some (.inl (1, .ofNat 0)), ([((19, (0, .ofNat 5)), (0, .ofNat 0))], [])))))))))
set_option maxRecDepth 100000 in
theorem wS_88_k : aMeth wG [wS_87] (zfun [102]) (fun _ _ => none) 4000 wS_88 [] 0 = true := by decide +kernel
theorem wS_88_ok : aSumOk wG wS_88 := aMeth_ok (zmc wS_87_ok zm0) wS_88_k
/-- MaidsMemory$Tape readOne -/
def wS_89 : aSum := (104, (50, ([(.ofNat 0, .ofNat 0)], ([.inr (.inr (.inr (.inl 19)))], ([((19, (0, .ofNat 5)), (0, .ofNat 0))], ([(19, 3), (19, 4), (19, 5), (21, 999)], ([(.ofNat 0, .ofNat 1)], (some (.inl (1, .ofNat 0)), ([((19, (0, .ofNat 5)), (0, .ofNat 0))], [])))))))))
set_option maxRecDepth 100000 in
theorem wS_89_k : aMeth wG [wS_28, wS_80, wS_81, wS_88] (zfun [105, 106]) (fun _ _ => none) 4000 wS_89 [] 0 = true := by decide +kernel
theorem wS_89_ok : aSumOk wG wS_89 := aMeth_ok (zmc wS_28_ok (zmc wS_80_ok (zmc wS_81_ok (zmc wS_88_ok zm0)))) wS_89_k
/-- MaidsMemory$Tape readLevel -/
def wS_90 : aSum := (102, (51, ([(.ofNat 0, .ofNat 0)], ([.inr (.inr (.inr (.inl 19))), .inl (0, .ofNat 5)], ([((19, (0, .ofNat 5)), (0, .ofNat 0))], ([(19, 3), (19, 4), (19, 5), (21, 999)], ([(.ofNat 0, .ofNat 1)], (some (.inl (1, .ofNat 0)), ([((19, (0, .ofNat 5)), (0, .ofNat 0))], [])))))))))
set_option maxRecDepth 100000 in
theorem wS_90_k : aMeth wG [wS_89] (zfun [104]) (fun _ _ => none) 4000 wS_90 [] 0 = true := by decide +kernel
theorem wS_90_ok : aSumOk wG wS_90 := aMeth_ok (zmc wS_89_ok zm0) wS_90_k
/-- MaidsMemory$Tape readLevel -/
def wS_91 : aSum := (102, (52, ([(.ofNat 0, .ofNat 0)], ([.inr (.inr (.inr (.inl 19))), .inl (0, .ofNat 4)], ([((19, (0, .ofNat 5)), (0, .ofNat 0))], ([(19, 3), (19, 4), (19, 5), (21, 999)], ([(.ofNat 0, .ofNat 1)], (some (.inl (1, .ofNat 0)), ([((19, (0, .ofNat 5)), (0, .ofNat 0))], [])))))))))
set_option maxRecDepth 100000 in
theorem wS_91_k : aMeth wG [wS_90] (zfun [102]) (fun _ _ => none) 4000 wS_91 [(39, ([(.ofNat 0, .ofNat 0), (.ofNat 0, .ofNat 1), (.negSucc 2147483647, .ofNat 2147483647), (.ofNat 0, .ofNat 120)], ([(0, .inr (.inr (.inr (.inl 19)))), (1, .inl (0, .ofNat 4)), (2, .inl (1, .ofNat 0)), (3, .inl (0, .ofNat 120)), (4, .inl (2, .ofNat 0)), (5, .inl (3, .ofNat 0))], (([((19, (0, .ofNat 5)), (0, .ofNat 0))], []), [(true, (0, .ofNat 39)), (true, (3, .ofNat 0))]))))] 2 = true := by decide +kernel
theorem wS_91_ok : aSumOk wG wS_91 := aMeth_ok (zmc wS_90_ok zm0) wS_91_k
/-- MaidsMemory$Tape readLevel -/
def wS_92 : aSum := (102, (53, ([(.ofNat 0, .ofNat 0)], ([.inr (.inr (.inr (.inl 19))), .inl (0, .ofNat 3)], ([((19, (0, .ofNat 5)), (0, .ofNat 0))], ([(19, 3), (19, 4), (19, 5), (21, 999)], ([(.ofNat 0, .ofNat 1)], (some (.inl (1, .ofNat 0)), ([((19, (0, .ofNat 5)), (0, .ofNat 0))], [])))))))))
set_option maxRecDepth 100000 in
theorem wS_92_k : aMeth wG [wS_91] (zfun [102]) (fun _ _ => none) 4000 wS_92 [(39, ([(.ofNat 0, .ofNat 0), (.ofNat 0, .ofNat 1), (.negSucc 2147483647, .ofNat 2147483647), (.ofNat 0, .ofNat 120)], ([(0, .inr (.inr (.inr (.inl 19)))), (1, .inl (0, .ofNat 3)), (2, .inl (1, .ofNat 0)), (3, .inl (0, .ofNat 120)), (4, .inl (2, .ofNat 0)), (5, .inl (3, .ofNat 0))], (([((19, (0, .ofNat 5)), (0, .ofNat 0))], []), [(true, (0, .ofNat 39)), (true, (3, .ofNat 0))]))))] 2 = true := by decide +kernel
theorem wS_92_ok : aSumOk wG wS_92 := aMeth_ok (zmc wS_91_ok zm0) wS_92_k
/-- MaidsMemory$Tape readLevel -/
def wS_93 : aSum := (102, (54, ([(.ofNat 0, .ofNat 0)], ([.inr (.inr (.inr (.inl 19))), .inl (0, .ofNat 2)], ([((19, (0, .ofNat 5)), (0, .ofNat 0))], ([(19, 3), (19, 4), (19, 5), (21, 999)], ([(.ofNat 0, .ofNat 1)], (some (.inl (1, .ofNat 0)), ([((19, (0, .ofNat 5)), (0, .ofNat 0))], [])))))))))
set_option maxRecDepth 100000 in
theorem wS_93_k : aMeth wG [wS_92] (zfun [102]) (fun _ _ => none) 4000 wS_93 [(39, ([(.ofNat 0, .ofNat 0), (.ofNat 0, .ofNat 1), (.negSucc 2147483647, .ofNat 2147483647), (.ofNat 0, .ofNat 1)], ([(0, .inr (.inr (.inr (.inl 19)))), (1, .inl (0, .ofNat 2)), (2, .inl (1, .ofNat 0)), (3, .inl (0, .ofNat 1)), (4, .inl (2, .ofNat 0)), (5, .inl (3, .ofNat 0))], (([((19, (0, .ofNat 5)), (0, .ofNat 0))], []), [(true, (0, .ofNat 39)), (true, (3, .ofNat 0))]))))] 2 = true := by decide +kernel
theorem wS_93_ok : aSumOk wG wS_93 := aMeth_ok (zmc wS_92_ok zm0) wS_93_k
/-- MaidsMemory$Tape readLevel -/
def wS_94 : aSum := (102, (55, ([(.ofNat 0, .ofNat 0)], ([.inr (.inr (.inr (.inl 19))), .inl (0, .ofNat 1)], ([((19, (0, .ofNat 5)), (0, .ofNat 0))], ([(19, 3), (19, 4), (19, 5), (21, 999)], ([(.ofNat 0, .ofNat 1)], (some (.inl (1, .ofNat 0)), ([((19, (0, .ofNat 5)), (0, .ofNat 0))], [])))))))))
set_option maxRecDepth 100000 in
theorem wS_94_k : aMeth wG [wS_93] (zfun [102]) (fun _ _ => none) 4000 wS_94 [(39, ([(.ofNat 0, .ofNat 0), (.ofNat 0, .ofNat 1), (.negSucc 2147483647, .ofNat 2147483647), (.ofNat 0, .ofNat 120)], ([(0, .inr (.inr (.inr (.inl 19)))), (1, .inl (0, .ofNat 1)), (2, .inl (1, .ofNat 0)), (3, .inl (0, .ofNat 120)), (4, .inl (2, .ofNat 0)), (5, .inl (3, .ofNat 0))], (([((19, (0, .ofNat 5)), (0, .ofNat 0))], []), [(true, (0, .ofNat 39)), (true, (3, .ofNat 0))]))))] 2 = true := by decide +kernel
theorem wS_94_ok : aSumOk wG wS_94 := aMeth_ok (zmc wS_93_ok zm0) wS_94_k
end
