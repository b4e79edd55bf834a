noncomputable section
/-- MaidsMemory$Tape readLevel -/
def wS_95 : aSum := (102, (56, ([(.ofNat 0, .ofNat 0)], ([.inr (.inr (.inr (.inl 19))), .inl (0, .ofNat 0)], ([((19, (0, .ofNat 5)), (0, .ofNat 0))], ([(19, 3), (19, 4), (19, 5), (21, 999)], ([(.ofNat 0, .ofNat 1)], (some (.inl (1, .ofNat 0)), ([((19, (0, .ofNat 5)), (0, .ofNat 0))], [])))))))))
set_option maxRecDepth 100000 in
theorem wS_95_k : aMeth wG [wS_94] (zfun [102]) (fun _ _ => none) 4000 wS_95 [(39, ([(.ofNat 0, .ofNat 0), (.ofNat 0, .ofNat 1), (.negSucc 2147483647, .ofNat 2147483647), (.ofNat 0, .ofNat 120)], ([(0, .inr (.inr (.inr (.inl 19)))), (1, .inl (0, .ofNat 0)), (2, .inl (1, .ofNat 0)), (3, .inl (0, .ofNat 120)), (4, .inl (2, .ofNat 0)), (5, .inl (3, .ofNat 0))], (([((19, (0, .ofNat 5)), (0, .ofNat 0))], []), [(true, (0, .ofNat 39)), (true, (3, .ofNat 0))]))))] 2 = true := by decide +kernel
theorem wS_95_ok : aSumOk wG wS_95 := aMeth_ok (zmc wS_94_ok zm0) wS_95_k
/-- MaidsMemory$Tape readText -/
def wS_96 : aSum := (100, (58, ([(.ofNat 0, .ofNat 0)], ([.inr (.inr (.inr (.inl 19)))], ([], ([(19, 3), (19, 4), (19, 5), (21, 999)], ([(.negSucc 2147483647, .ofNat 2147483647)], (some (.inl (1, .ofNat 0)), ([], [])))))))))
set_option maxRecDepth 100000 in
theorem wS_96_k : aMeth wG [wS_95] (zfun [102]) (fun _ _ => none) 4000 wS_96 [(19, ([(.ofNat 0, .ofNat 0), (.ofNat 0, .ofNat 1), (.ofNat 0, .ofNat 121)], ([(0, .inr (.inr (.inr (.inl 19)))), (1, .inl (1, .ofNat 0)), (2, .inl (2, .ofNat 0))], (([((19, (0, .ofNat 5)), (0, .ofNat 0))], []), [(true, (0, .ofNat 19)), (true, (2, .ofNat 0))]))))] 2 = true := by decide +kernel
theorem wS_96_ok : aSumOk wG wS_96 := aMeth_ok (zmc wS_95_ok zm0) wS_96_k
/-- MaidsMemory law -/
def wS_97 : aSum := (125, (59, ([(.ofNat 0, .ofNat 0)], ([.inr (.inr (.inr (.inl 0)))], ([], ([(19, 1), (19, 3), (19, 4), (19, 5), (21, 999), (22, 1), (23, 999)], ([(.negSucc 2147483647, .ofNat 2147483647)], (some (.inl (1, .ofNat 0)), ([], [])))))))))
set_option maxRecDepth 100000 in
theorem wS_97_k : aMeth wG [wS_96] (zfun [100]) (fun _ _ => none) 4000 wS_97 [] 0 = true := by decide +kernel
theorem wS_97_ok : aSumOk wG wS_97 := aMeth_ok (zmc wS_96_ok zm0) wS_97_k
/-- MaidsMemoryModel one -/
def wS_98 : aSum := (195, (1, ([(.ofNat 0, .ofNat 0), (.ofNat 0, .ofNat 120), (.ofNat 6, .ofNat 6)], ([.inr (.inr (.inr (.inl 50)))], ([((50, (0, .ofNat 14)), (1, .ofNat 0)), ((50, (0, .ofNat 17)), (2, .ofNat 0))], ([(50, 14), (50, 16)], ([(.negSucc 2147483647, .ofNat 2147483647), (.ofNat 0, .ofNat 120), (.ofNat 6, .ofNat 6)], (some (.inl (3, .ofNat 0)), ([((50, (0, .ofNat 14)), (4, .ofNat 0)), ((50, (0, .ofNat 17)), (5, .ofNat 0))], [((4, .ofNat 0), (1, .ofNat 0))])))))))))
set_option maxRecDepth 100000 in
theorem wS_98_k : aMeth wG [] (zfun []) (fun _ _ => none) 4000 wS_98 [(176, ([(.ofNat 0, .ofNat 0), (.ofNat 0, .ofNat 120), (.ofNat 6, .ofNat 6), (.negSucc 2147483647, .ofNat 2147483647), (.ofNat 0, .ofNat 4), (.ofNat 0, .ofNat 120)], ([(0, .inr (.inr (.inr (.inl 50)))), (3, .inl (3, .ofNat 0)), (4, .inl (4, .ofNat 0))], (([((50, (0, .ofNat 14)), (5, .ofNat 0)), ((50, (0, .ofNat 17)), (0, .ofNat 6))], [((5, .ofNat 0), (1, .ofNat 0))]), [(true, (0, .ofNat 176)), (true, (4, .ofNat 0))]))))] 2 = true := by decide +kernel
theorem wS_98_ok : aSumOk wG wS_98 := aMeth_ok zm0 wS_98_k
/-- MaidsMemoryModel product -/
def wS_99 : aSum := (193, (2, ([(.ofNat 0, .ofNat 0), (.ofNat 0, .ofNat 120), (.ofNat 6, .ofNat 6)], ([.inr (.inr (.inr (.inl 50)))], ([((50, (0, .ofNat 14)), (1, .ofNat 0)), ((50, (0, .ofNat 17)), (2, .ofNat 0))], ([(50, 14), (50, 16)], ([(.negSucc 2147483647, .ofNat 2147483647), (.ofNat 0, .ofNat 120), (.ofNat 6, .ofNat 6)], (some (.inl (3, .ofNat 0)), ([((50, (0, .ofNat 14)), (4, .ofNat 0)), ((50, (0, .ofNat 17)), (5, .ofNat 0))], [((4, .ofNat 0), (1, .ofNat 0))])))))))))
set_option maxRecDepth 100000 in
theorem wS_99_k : aMeth wG [wS_98] (zfun [195]) (fun _ _ => none) 4000 wS_99 [(86, ([(.ofNat 0, .ofNat 0), (.ofNat 0, .ofNat 120), (.ofNat 6, .ofNat 6), (.negSucc 2147483647, .ofNat 2147483647), (.ofNat 1, .ofNat 120)], ([(0, .inr (.inr (.inr (.inl 50)))), (1, .inl (3, .ofNat 0))], (([((50, (0, .ofNat 14)), (4, .ofNat 0)), ((50, (0, .ofNat 17)), (0, .ofNat 6))], [((4, .ofNat 0), (1, .ofNat 0))]), [(true, (0, .ofNat 86)), (true, (4, .ofNat 0))]))))] 2 = true := by decide +kernel
theorem wS_99_ok : aSumOk wG wS_99 := aMeth_ok (zmc wS_98_ok zm0) wS_99_k
/-- MaidsMemoryModel sums -/
def wS_100 : aSum := (192, (3, ([(.ofNat 0, .ofNat 0), (.ofNat 0, .ofNat 120), (.ofNat 6, .ofNat 6)], ([.inr (.inr (.inr (.inl 50)))], ([((50, (0, .ofNat 14)), (1, .ofNat 0)), ((50, (0, .ofNat 17)), (2, .ofNat 0))], ([(50, 14), (50, 16)], ([(.negSucc 2147483647, .ofNat 2147483647), (.ofNat 0, .ofNat 120), (.ofNat 6, .ofNat 6)], (some (.inl (3, .ofNat 0)), ([((50, (0, .ofNat 14)), (4, .ofNat 0)), ((50, (0, .ofNat 17)), (5, .ofNat 0))], [((4, .ofNat 0), (1, .ofNat 0))])))))))))
set_option maxRecDepth 100000 in
theorem wS_100_k : aMeth wG [wS_99] (zfun [193]) (fun _ _ => none) 4000 wS_100 [(5, ([(.ofNat 0, .ofNat 0), (.ofNat 0, .ofNat 120), (.ofNat 6, .ofNat 6), (.negSucc 2147483647, .ofNat 2147483647), (.ofNat 0, .ofNat 120)], ([(0, .inr (.inr (.inr (.inl 50)))), (1, .inl (3, .ofNat 0))], (([((50, (0, .ofNat 14)), (4, .ofNat 0)), ((50, (0, .ofNat 17)), (0, .ofNat 6))], [((4, .ofNat 0), (1, .ofNat 0))]), [(true, (0, .ofNat 5)), (true, (4, .ofNat 0))]))))] 2 = true := by decide +kernel
theorem wS_100_ok : aSumOk wG wS_100 := aMeth_ok (zmc wS_99_ok zm0) wS_100_k
/-- MaidsMemoryModel compared -/
def wS_101 : aSum := (191, (4, ([(.ofNat 0, .ofNat 0), (.ofNat 0, .ofNat 120), (.ofNat 6, .ofNat 6)], ([.inr (.inr (.inr (.inl 50)))], ([((50, (0, .ofNat 14)), (1, .ofNat 0)), ((50, (0, .ofNat 17)), (2, .ofNat 0))], ([(50, 14), (50, 16)], ([(.negSucc 2147483647, .ofNat 2147483647), (.ofNat 0, .ofNat 120), (.ofNat 6, .ofNat 6)], (some (.inl (3, .ofNat 0)), ([((50, (0, .ofNat 14)), (4, .ofNat 0)), ((50, (0, .ofNat 17)), (5, .ofNat 0))], [((4, .ofNat 0), (1, .ofNat 0))])))))))))
set_option maxRecDepth 100000 in
theorem wS_101_k : aMeth wG [wS_100] (zfun [192]) (fun _ _ => none) 4000 wS_101 [] 0 = true := by decide +kernel
theorem wS_101_ok : aSumOk wG wS_101 := aMeth_ok (zmc wS_100_ok zm0) wS_101_k
/-- MaidsMemoryModel both -/
def wS_102 : aSum := (190, (5, ([(.ofNat 0, .ofNat 0), (.ofNat 0, .ofNat 120), (.ofNat 6, .ofNat 6)], ([.inr (.inr (.inr (.inl 50)))], ([((50, (0, .ofNat 14)), (1, .ofNat 0)), ((50, (0, .ofNat 17)), (2, .ofNat 0))], ([(50, 14), (50, 16)], ([(.negSucc 2147483647, .ofNat 2147483647), (.ofNat 0, .ofNat 120), (.ofNat 6, .ofNat 6)], (some (.inl (3, .ofNat 0)), ([((50, (0, .ofNat 14)), (4, .ofNat 0)), ((50, (0, .ofNat 17)), (5, .ofNat 0))], [((4, .ofNat 0), (1, .ofNat 0))])))))))))
set_option maxRecDepth 100000 in
theorem wS_102_k : aMeth wG [wS_101] (zfun [191]) (fun _ _ => none) 4000 wS_102 [(5, ([(.ofNat 0, .ofNat 0), (.ofNat 0, .ofNat 120), (.ofNat 6, .ofNat 6), (.negSucc 2147483647, .ofNat 2147483647), (.ofNat 0, .ofNat 120)], ([(0, .inr (.inr (.inr (.inl 50)))), (1, .inl (3, .ofNat 0))], (([((50, (0, .ofNat 14)), (4, .ofNat 0)), ((50, (0, .ofNat 17)), (0, .ofNat 6))], [((4, .ofNat 0), (1, .ofNat 0))]), [(true, (0, .ofNat 5)), (true, (4, .ofNat 0))]))))] 2 = true := by decide +kernel
theorem wS_102_ok : aSumOk wG wS_102 := aMeth_ok (zmc wS_101_ok zm0) wS_102_k
/-- MaidsMemoryModel either -/
def wS_103 : aSum := (189, (6, ([(.ofNat 0, .ofNat 0), (.ofNat 0, .ofNat 120), (.ofNat 6, .ofNat 6)], ([.inr (.inr (.inr (.inl 50)))], ([((50, (0, .ofNat 14)), (1, .ofNat 0)), ((50, (0, .ofNat 17)), (2, .ofNat 0))], ([(50, 14), (50, 16)], ([(.negSucc 2147483647, .ofNat 2147483647), (.ofNat 0, .ofNat 120), (.ofNat 6, .ofNat 6)], (some (.inl (3, .ofNat 0)), ([((50, (0, .ofNat 14)), (4, .ofNat 0)), ((50, (0, .ofNat 17)), (5, .ofNat 0))], [((4, .ofNat 0), (1, .ofNat 0))])))))))))
set_option maxRecDepth 100000 in
theorem wS_103_k : aMeth wG [wS_102] (zfun [190]) (fun _ _ => none) 4000 wS_103 [(5, ([(.ofNat 0, .ofNat 0), (.ofNat 0, .ofNat 120), (.ofNat 6, .ofNat 6), (.negSucc 2147483647, .ofNat 2147483647), (.ofNat 0, .ofNat 120)], ([(0, .inr (.inr (.inr (.inl 50)))), (1, .inl (3, .ofNat 0))], (([((50, (0, .ofNat 14)), (4, .ofNat 0)), ((50, (0, .ofNat 17)), (0, .ofNat 6))], [((4, .ofNat 0), (1, .ofNat 0))]), [(true, (0, .ofNat 5)), (true, (4, .ofNat 0))]))))] 2 = true := by decide +kernel
theorem wS_103_ok : aSumOk wG wS_103 := aMeth_ok (zmc wS_102_ok zm0) wS_103_k
/-- MaidsMemoryModel one -/
def wS_104 : aSum := (195, (7, ([(.ofNat 0, .ofNat 0), (.ofNat 0, .ofNat 120), (.ofNat 5, .ofNat 6)], ([.inr (.inr (.inr (.inl 50)))], ([((50, (0, .ofNat 14)), (1, .ofNat 0)), ((50, (0, .ofNat 17)), (2, .ofNat 0))], ([(50, 14), (50, 16), (50, 17)], ([(.negSucc 2147483647, .ofNat 2147483647), (.ofNat 0, .ofNat 120), (.ofNat 5, .ofNat 6)], (some (.inl (3, .ofNat 0)), ([((50, (0, .ofNat 14)), (4, .ofNat 0)), ((50, (0, .ofNat 17)), (5, .ofNat 0))], [((4, .ofNat 0), (1, .ofNat 0))])))))))))
set_option maxRecDepth 100000 in
theorem wS_104_k : aMeth wG [wS_98, wS_103] (zfun [189, 195]) (fun _ _ => none) 4000 wS_104 [(176, ([(.ofNat 0, .ofNat 0), (.ofNat 0, .ofNat 120), (.ofNat 5, .ofNat 6), (.negSucc 2147483647, .ofNat 2147483647), (.ofNat 0, .ofNat 4), (.ofNat 0, .ofNat 120), (.ofNat 5, .ofNat 6)], ([(0, .inr (.inr (.inr (.inl 50)))), (3, .inl (3, .ofNat 0)), (4, .inl (4, .ofNat 0))], (([((50, (0, .ofNat 14)), (5, .ofNat 0)), ((50, (0, .ofNat 17)), (6, .ofNat 0))], [((5, .ofNat 0), (1, .ofNat 0))]), [(true, (0, .ofNat 176)), (true, (4, .ofNat 0))]))))] 2 = true := by decide +kernel
theorem wS_104_ok : aSumOk wG wS_104 := aMeth_ok (zmc wS_98_ok (zmc wS_103_ok zm0)) wS_104_k
/-- MaidsMemoryModel product -/
def wS_105 : aSum := (193, (8, ([(.ofNat 0, .ofNat 0), (.ofNat 0, .ofNat 120), (.ofNat 5, .ofNat 6)], ([.inr (.inr (.inr (.inl 50)))], ([((50, (0, .ofNat 14)), (1, .ofNat 0)), ((50, (0, .ofNat 17)), (2, .ofNat 0))], ([(50, 14), (50, 16), (50, 17)], ([(.negSucc 2147483647, .ofNat 2147483647), (.ofNat 0, .ofNat 120), (.ofNat 5, .ofNat 6)], (some (.inl (3, .ofNat 0)), ([((50, (0, .ofNat 14)), (4, .ofNat 0)), ((50, (0, .ofNat 17)), (5, .ofNat 0))], [((4, .ofNat 0), (1, .ofNat 0))])))))))))
set_option maxRecDepth 100000 in
theorem wS_105_k : aMeth wG [wS_104] (zfun [195]) (fun _ _ => none) 4000 wS_105 [(86, ([(.ofNat 0, .ofNat 0), (.ofNat 0, .ofNat 120), (.ofNat 5, .ofNat 6), (.negSucc 2147483647, .ofNat 2147483647), (.ofNat 1, .ofNat 120), (.ofNat 5, .ofNat 6)], ([(0, .inr (.inr (.inr (.inl 50)))), (1, .inl (3, .ofNat 0))], (([((50, (0, .ofNat 14)), (4, .ofNat 0)), ((50, (0, .ofNat 17)), (5, .ofNat 0))], [((4, .ofNat 0), (1, .ofNat 0))]), [(true, (0, .ofNat 86)), (true, (4, .ofNat 0))]))))] 2 = true := by decide +kernel
theorem wS_105_ok : aSumOk wG wS_105 := aMeth_ok (zmc wS_104_ok zm0) wS_105_k
/-- MaidsMemoryModel sums -/
def wS_106 : aSum := (192, (9, ([(.ofNat 0, .ofNat 0), (.ofNat 0, .ofNat 120), (.ofNat 5, .ofNat 6)], ([.inr (.inr (.inr (.inl 50)))], ([((50, (0, .ofNat 14)), (1, .ofNat 0)), ((50, (0, .ofNat 17)), (2, .ofNat 0))], ([(50, 14), (50, 16), (50, 17)], ([(.negSucc 2147483647, .ofNat 2147483647), (.ofNat 0, .ofNat 120), (.ofNat 5, .ofNat 6)], (some (.inl (3, .ofNat 0)), ([((50, (0, .ofNat 14)), (4, .ofNat 0)), ((50, (0, .ofNat 17)), (5, .ofNat 0))], [((4, .ofNat 0), (1, .ofNat 0))])))))))))
set_option maxRecDepth 100000 in
theorem wS_106_k : aMeth wG [wS_105] (zfun [193]) (fun _ _ => none) 4000 wS_106 [(5, ([(.ofNat 0, .ofNat 0), (.ofNat 0, .ofNat 120), (.ofNat 5, .ofNat 6), (.negSucc 2147483647, .ofNat 2147483647), (.ofNat 0, .ofNat 120), (.ofNat 5, .ofNat 6)], ([(0, .inr (.inr (.inr (.inl 50)))), (1, .inl (3, .ofNat 0))], (([((50, (0, .ofNat 14)), (4, .ofNat 0)), ((50, (0, .ofNat 17)), (5, .ofNat 0))], [((4, .ofNat 0), (1, .ofNat 0))]), [(true, (0, .ofNat 5)), (true, (4, .ofNat 0))]))))] 2 = true := by decide +kernel
theorem wS_106_ok : aSumOk wG wS_106 := aMeth_ok (zmc wS_105_ok zm0) wS_106_k
/-- MaidsMemoryModel compared -/
def wS_107 : aSum := (191, (10, ([(.ofNat 0, .ofNat 0), (.ofNat 0, .ofNat 120), (.ofNat 5, .ofNat 6)], ([.inr (.inr (.inr (.inl 50)))], ([((50, (0, .ofNat 14)), (1, .ofNat 0)), ((50, (0, .ofNat 17)), (2, .ofNat 0))], ([(50, 14), (50, 16), (50, 17)], ([(.negSucc 2147483647, .ofNat 2147483647), (.ofNat 0, .ofNat 120), (.ofNat 5, .ofNat 6)], (some (.inl (3, .ofNat 0)), ([((50, (0, .ofNat 14)), (4, .ofNat 0)), ((50, (0, .ofNat 17)), (5, .ofNat 0))], [((4, .ofNat 0), (1, .ofNat 0))])))))))))
set_option maxRecDepth 100000 in
theorem wS_107_k : aMeth wG [wS_106] (zfun [192]) (fun _ _ => none) 4000 wS_107 [] 0 = true := by decide +kernel
theorem wS_107_ok : aSumOk wG wS_107 := aMeth_ok (zmc wS_106_ok zm0) wS_107_k
/-- MaidsMemoryModel both -/
def wS_108 : aSum := (190, (11, ([(.ofNat 0, .ofNat 0), (.ofNat 0, .ofNat 120), (.ofNat 5, .ofNat 6)], ([.inr (.inr (.inr (.inl 50)))], ([((50, (0, .ofNat 14)), (1, .ofNat 0)), ((50, (0, .ofNat 17)), (2, .ofNat 0))], ([(50, 14), (50, 16), (50, 17)], ([(.negSucc 2147483647, .ofNat 2147483647), (.ofNat 0, .ofNat 120), (.ofNat 5, .ofNat 6)], (some (.inl (3, .ofNat 0)), ([((50, (0, .ofNat 14)), (4, .ofNat 0)), ((50, (0, .ofNat 17)), (5, .ofNat 0))], [((4, .ofNat 0), (1, .ofNat 0))])))))))))
set_option maxRecDepth 100000 in
theorem wS_108_k : aMeth wG [wS_107] (zfun [191]) (fun _ _ => none) 4000 wS_108 [(5, ([(.ofNat 0, .ofNat 0), (.ofNat 0, .ofNat 120), (.ofNat 5, .ofNat 6), (.negSucc 2147483647, .ofNat 2147483647), (.ofNat 0, .ofNat 120), (.ofNat 5, .ofNat 6)], ([(0, .inr (.inr (.inr (.inl 50)))), (1, .inl (3, .ofNat 0))], (([((50, (0, .ofNat 14)), (4, .ofNat 0)), ((50, (0, .ofNat 17)), (5, .ofNat 0))], [((4, .ofNat 0), (1, .ofNat 0))]), [(true, (0, .ofNat 5)), (true, (4, .ofNat 0))]))))] 2 = true := by decide +kernel
theorem wS_108_ok : aSumOk wG wS_108 := aMeth_ok (zmc wS_107_ok zm0) wS_108_k
/-- MaidsMemoryModel either -/
def wS_109 : aSum := (189, (12, ([(.ofNat 0, .ofNat 0), (.ofNat 0, .ofNat 120), (.ofNat 5, .ofNat 6)], ([.inr (.inr (.inr (.inl 50)))], ([((50, (0, .ofNat 14)), (1, .ofNat 0)), ((50, (0, .ofNat 17)), (2, .ofNat 0))], ([(50, 14), (50, 16), (50, 17)], ([(.negSucc 2147483647, .ofNat 2147483647), (.ofNat 0, .ofNat 120), (.ofNat 5, .ofNat 6)], (some (.inl (3, .ofNat 0)), ([((50, (0, .ofNat 14)), (4, .ofNat 0)), ((50, (0, .ofNat 17)), (5, .ofNat 0))], [((4, .ofNat 0), (1, .ofNat 0))])))))))))
set_option maxRecDepth 100000 in
theorem wS_109_k : aMeth wG [wS_108] (zfun [190]) (fun _ _ => none) 4000 wS_109 [(5, ([(.ofNat 0, .ofNat 0), (.ofNat 0, .ofNat 120), (.ofNat 5, .ofNat 6), (.negSucc 2147483647, .ofNat 2147483647), (.ofNat 0, .ofNat 120), (.ofNat 5, .ofNat 6)], ([(0, .inr (.inr (.inr (.inl 50)))), (1, .inl (3, .ofNat 0))], (([((50, (0, .ofNat 14)), (4, .ofNat 0)), ((50, (0, .ofNat 17)), (5, .ofNat 0))], [((4, .ofNat 0), (1, .ofNat 0))]), [(true, (0, .ofNat 5)), (true, (4, .ofNat 0))]))))] 2 = true := by decide +kernel
theorem wS_109_ok : aSumOk wG wS_109 := aMeth_ok (zmc wS_108_ok zm0) wS_109_k
/-- MaidsMemoryModel one -/
def wS_110 : aSum := (195, (13, ([(.ofNat 0, .ofNat 0), (.ofNat 0, .ofNat 120), (.ofNat 4, .ofNat 6)], ([.inr (.inr (.inr (.inl 50)))], ([((50, (0, .ofNat 14)), (1, .ofNat 0)), ((50, (0, .ofNat 17)), (2, .ofNat 0))], ([(50, 14), (50, 16), (50, 17)], ([(.negSucc 2147483647, .ofNat 2147483647), (.ofNat 0, .ofNat 120), (.ofNat 4, .ofNat 6)], (some (.inl (3, .ofNat 0)), ([((50, (0, .ofNat 14)), (4, .ofNat 0)), ((50, (0, .ofNat 17)), (5, .ofNat 0))], [((4, .ofNat 0), (1, .ofNat 0))])))))))))
set_option maxRecDepth 100000 in
theorem wS_110_k : aMeth wG [wS_104, wS_109] (zfun [189, 195]) (fun _ _ => none) 4000 wS_110 [(176, ([(.ofNat 0, .ofNat 0), (.ofNat 0, .ofNat 120), (.ofNat 4, .ofNat 6), (.negSucc 2147483647, .ofNat 2147483647), (.ofNat 0, .ofNat 4), (.ofNat 0, .ofNat 120), (.ofNat 4, .ofNat 6)], ([(0, .inr (.inr (.inr (.inl 50)))), (3, .inl (3, .ofNat 0)), (4, .inl (4, .ofNat 0))], (([((50, (0, .ofNat 14)), (5, .ofNat 0)), ((50, (0, .ofNat 17)), (6, .ofNat 0))], [((5, .ofNat 0), (1, .ofNat 0))]), [(true, (0, .ofNat 176)), (true, (4, .ofNat 0))]))))] 2 = true := by decide +kernel
theorem wS_110_ok : aSumOk wG wS_110 := aMeth_ok (zmc wS_104_ok (zmc wS_109_ok zm0)) wS_110_k
end
