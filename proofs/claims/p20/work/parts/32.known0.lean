noncomputable section
/-- MaidsMemory house -/
def wS_11 : aSum := (118, (1, ([(.ofNat 0, .ofNat 0)], ([.inr (.inr (.inr (.inl 0)))], ([], ([(1, 0)], ([(.negSucc 2, .ofNat 5)], (some (.inl (1, .ofNat 0)), ([], [])))))))))
set_option maxRecDepth 100000 in
theorem wS_11_k : aMeth wG [] (zfun []) (fun _ _ => none) 4000 wS_11 [] 0 = true := by decide +kernel
theorem wS_11_ok : aSumOk wG wS_11 := aMeth_ok zm0 wS_11_k
/-- MaidsMemoryModel house -/
def wS_12 : aSum := (175, (0, ([(.ofNat 0, .ofNat 0)], ([.inr (.inr (.inr (.inl 50)))], ([], ([(50, 6)], ([(.negSucc 2, .ofNat 5)], (some (.inl (1, .ofNat 0)), ([], [])))))))))
set_option maxRecDepth 100000 in
theorem wS_12_k : aMeth wG [] (zfun []) (fun _ _ => none) 4000 wS_12 [] 0 = true := by decide +kernel
theorem wS_12_ok : aSumOk wG wS_12 := aMeth_ok zm0 wS_12_k
/-- MaidsMemory girl -/
def wS_13 : aSum := (119, (1, ([(.ofNat 0, .ofNat 0), (.negSucc 2147483647, .ofNat 2147483647), (.negSucc 2147483647, .ofNat 2147483647)], ([.inr (.inr (.inr (.inl 0))), .inl (1, .ofNat 0), .inl (2, .ofNat 0)], ([], ([(1, 1), (2, 999)], ([(.negSucc 2, .ofNat 6)], (some (.inl (3, .ofNat 0)), ([], [])))))))))
set_option maxRecDepth 100000 in
theorem wS_13_k : aMeth wG [] (zfun []) (fun _ _ => none) 4000 wS_13 [] 0 = true := by decide +kernel
theorem wS_13_ok : aSumOk wG wS_13 := aMeth_ok zm0 wS_13_k
/-- MaidsMemoryModel girl -/
def wS_14 : aSum := (178, (2, ([(.ofNat 0, .ofNat 0), (.negSucc 2147483647, .ofNat 2147483647), (.negSucc 2147483647, .ofNat 2147483647)], ([.inr (.inr (.inr (.inl 50))), .inl (1, .ofNat 0), .inl (2, .ofNat 0)], ([], ([(50, 7), (51, 999)], ([(.negSucc 2, .ofNat 6)], (some (.inl (3, .ofNat 0)), ([], [])))))))))
set_option maxRecDepth 100000 in
theorem wS_14_k : aMeth wG [] (zfun []) (fun _ _ => none) 4000 wS_14 [] 0 = true := by decide +kernel
theorem wS_14_ok : aSumOk wG wS_14 := aMeth_ok zm0 wS_14_k
/-- MaidsMemory girls -/
def wS_15 : aSum := (120, (1, ([(.ofNat 0, .ofNat 0), (.negSucc 2147483647, .ofNat 2147483647), (.negSucc 2147483647, .ofNat 2147483647), (.negSucc 2147483647, .ofNat 2147483647)], ([.inr (.inr (.inr (.inl 0))), .inl (1, .ofNat 0), .inl (2, .ofNat 0), .inl (3, .ofNat 0)], ([], ([(1, 1), (2, 999)], ([(.negSucc 11, .ofNat 7)], (some (.inl (4, .ofNat 0)), ([], [])))))))))
set_option maxRecDepth 100000 in
theorem wS_15_k : aMeth wG [] (zfun []) (fun _ _ => none) 4000 wS_15 [(58, ([(.ofNat 0, .ofNat 0), (.ofNat 0, .ofNat 5), (.negSucc 2147483647, .ofNat 2147483647), (.ofNat 1, .ofNat 7), (.ofNat 0, .ofNat 7), (.negSucc 2147483647, .ofNat 2147483647)], ([(0, .inr (.inr (.inr (.inl 0)))), (1, .inl (1, .ofNat 0)), (3, .inl (3, .ofNat 0)), (4, .inl (4, .ofNat 0)), (5, .inl (5, .ofNat 0))], (([], []), [(true, (0, .ofNat 58)), (true, (4, .ofNat 0))]))))] 2 = true := by decide +kernel
theorem wS_15_ok : aSumOk wG wS_15 := aMeth_ok zm0 wS_15_k
/-- MaidsMemoryModel girls -/
def wS_16 : aSum := (179, (2, ([(.ofNat 0, .ofNat 0), (.negSucc 2147483647, .ofNat 2147483647), (.negSucc 2147483647, .negSucc 0), (.negSucc 2147483647, .ofNat 2147483647)], ([.inr (.inr (.inr (.inl 50))), .inl (1, .ofNat 0), .inl (2, .ofNat 0), .inl (3, .ofNat 0)], ([], ([], ([(.negSucc 11, .ofNat 0)], (some (.inl (4, .ofNat 0)), ([], [])))))))))
set_option maxRecDepth 100000 in
theorem wS_16_k : aMeth wG [] (zfun []) (zspl [((179, 69), (.inl 4, [.ofNat 0, .ofNat 1, .ofNat 2, .ofNat 3, .ofNat 4, .ofNat 5, .ofNat 6]))]) 4000 wS_16 [(69, ([(.ofNat 0, .ofNat 0), (.ofNat 0, .ofNat 5), (.negSucc 2147483647, .negSucc 0), (.ofNat 1, .ofNat 7)], ([(0, .inr (.inr (.inr (.inl 50)))), (1, .inl (1, .ofNat 0)), (2, .inl (2, .ofNat 0)), (3, .inl (3, .ofNat 0)), (4, .inl (0, .ofNat 0)), (5, .inl (0, .ofNat 0))], (([], []), [(true, (0, .ofNat 69)), (true, (0, .ofNat 0)), (false, (0, .ofNat 0))]))))] 3 = true := by decide +kernel
theorem wS_16_ok : aSumOk wG wS_16 := aMeth_ok zm0 wS_16_k
/-- MaidsMemoryModel girls -/
def wS_17 : aSum := (179, (2, ([(.ofNat 0, .ofNat 0), (.negSucc 2147483647, .ofNat 2147483647), (.ofNat 0, .ofNat 2147483647), (.negSucc 2147483647, .ofNat 2147483647)], ([.inr (.inr (.inr (.inl 50))), .inl (1, .ofNat 0), .inl (2, .ofNat 0), .inl (3, .ofNat 0)], ([], ([(50, 7), (51, 999)], ([(.negSucc 11, .ofNat 7)], (some (.inl (4, .ofNat 0)), ([], [])))))))))
set_option maxRecDepth 100000 in
theorem wS_17_k : aMeth wG [] (zfun []) (zspl [((179, 69), (.inl 4, [.ofNat 0, .ofNat 1, .ofNat 2, .ofNat 3, .ofNat 4, .ofNat 5, .ofNat 6]))]) 4000 wS_17 [(69, ([(.ofNat 0, .ofNat 0), (.ofNat 0, .ofNat 5), (.ofNat 0, .ofNat 2147483647), (.ofNat 1, .ofNat 7), (.ofNat 0, .ofNat 7), (.ofNat 0, .ofNat 1)], ([(0, .inr (.inr (.inr (.inl 50)))), (1, .inl (1, .ofNat 0)), (2, .inl (2, .ofNat 0)), (3, .inl (3, .ofNat 0)), (4, .inl (4, .ofNat 0)), (5, .inl (5, .ofNat 0))], (([], []), [(true, (0, .ofNat 69)), (true, (4, .ofNat 0)), (false, (5, .ofNat 0))]))))] 3 = true := by decide +kernel
theorem wS_17_ok : aSumOk wG wS_17 := aMeth_ok zm0 wS_17_k
/-- MaidsMemory mend -/
def wS_18 : aSum := (121, (4, ([(.ofNat 0, .ofNat 0), (.negSucc 2147483647, .ofNat 2147483647), (.negSucc 2147483647, .ofNat 2147483647), (.negSucc 2147483647, .ofNat 2147483647)], ([.inr (.inr (.inr (.inl 0))), .inl (1, .ofNat 0), .inl (2, .ofNat 0), .inl (3, .ofNat 0)], ([], ([(2, 999), (26, 3), (26, 4), (27, 999), (28, 999), (29, 999)], ([(.negSucc 2147483647, .ofNat 2147483647)], (some (.inl (4, .ofNat 0)), ([], [])))))))))
set_option maxRecDepth 100000 in
theorem wS_18_k : aMeth wG [wH_note0, wH_note1, wH_note2] (zfun [13]) (zspl [((121, 0), (.inl 2, [.negSucc 0, .ofNat 0, .ofNat 1, .ofNat 2, .ofNat 3, .ofNat 4, .ofNat 5, .ofNat 6, .ofNat 7]))]) 4000 wS_18 [] 0 = true := by decide +kernel
theorem wS_18_ok : aSumOk wG wS_18 := aMeth_ok (zmc wH_note0_ok (zmc wH_note1_ok (zmc wH_note2_ok zm0))) wS_18_k
/-- MaidsMemoryModel mend -/
def wS_19 : aSum := (182, (4, ([(.ofNat 0, .ofNat 0), (.negSucc 2147483647, .ofNat 2147483647), (.negSucc 2147483647, .ofNat 2147483647), (.negSucc 2147483647, .ofNat 2147483647)], ([.inr (.inr (.inr (.inl 50))), .inl (1, .ofNat 0), .inl (2, .ofNat 0), .inl (3, .ofNat 0)], ([], ([(50, 4), (50, 5), (51, 999), (52, 999), (53, 999), (54, 999)], ([(.negSucc 2147483647, .ofNat 2147483647)], (some (.inl (4, .ofNat 0)), ([], [])))))))))
set_option maxRecDepth 100000 in
theorem wS_19_k : aMeth wG [wH_becomes0, wH_becomes1, wH_becomes2] (zfun [169]) (fun _ _ => none) 4000 wS_19 [] 0 = true := by decide +kernel
theorem wS_19_ok : aSumOk wG wS_19 := aMeth_ok (zmc wH_becomes0_ok (zmc wH_becomes1_ok (zmc wH_becomes2_ok zm0))) wS_19_k
/-- MaidsMemory of -/
def wS_20 : aSum := (122, (2, ([(.ofNat 0, .ofNat 0), (.negSucc 2147483647, .ofNat 2147483647), (.negSucc 2147483647, .ofNat 2147483647)], ([.inr (.inr (.inr (.inl 0))), .inl (1, .ofNat 0), .inl (2, .ofNat 0)], ([], ([], ([(.negSucc 2147483647, .ofNat 2147483647)], (some (.inl (3, .ofNat 0)), ([], [])))))))))
set_option maxRecDepth 100000 in
theorem wS_20_k : aMeth wG [] (zfun []) (zspl [((122, 0), (.inl 2, [.negSucc 0, .ofNat 0, .ofNat 1, .ofNat 2, .ofNat 3, .ofNat 4, .ofNat 5, .ofNat 6, .ofNat 7, .ofNat 8]))]) 4000 wS_20 [] 0 = true := by decide +kernel
theorem wS_20_ok : aSumOk wG wS_20 := aMeth_ok zm0 wS_20_k
/-- MaidsMemoryModel begins -/
def wS_21 : aSum := (198, (0, ([(.ofNat 0, .ofNat 0)], ([.inr (.inr (.inr (.inl 50)))], ([], ([(50, 24), (59, 999), (60, 999), (61, 999), (62, 999), (63, 999)], ([], (none, ([], [])))))))))
set_option maxRecDepth 100000 in
theorem wS_21_k : aMeth wG [] (zfun []) (fun _ _ => none) 4000 wS_21 [(2, ([(.ofNat 0, .ofNat 0), (.ofNat 0, .ofNat 168)], ([(0, .inr (.inr (.inr (.inl 50)))), (1, .inl (1, .ofNat 0))], (([], []), [(true, (0, .ofNat 2)), (true, (1, .ofNat 0))])))),
  (29, ([(.ofNat 0, .ofNat 0), (.ofNat 0, .ofNat 6)], ([(0, .inr (.inr (.inr (.inl 50)))), (1, .inl (1, .ofNat 0))], (([], []), [(true, (0, .ofNat 29)), (true, (1, .ofNat 0))])))),
  (58, ([(.ofNat 0, .ofNat 0), (.ofNat 0, .ofNat 4)], ([(0, .inr (.inr (.inr (.inl 50)))), (1, .inl (1, .ofNat 0))], (([], []), [(true, (0, .ofNat 58)), (true, (1, .ofNat 0))])))),
  (86, ([(.ofNat 0, .ofNat 0), (.ofNat 0, .ofNat 24)], ([(0, .inr (.inr (.inr (.inl 50)))), (1, .inl (1, .ofNat 0))], (([], []), [(true, (0, .ofNat 86)), (true, (1, .ofNat 0))])))),
  (112, ([(.ofNat 0, .ofNat 0), (.ofNat 0, .ofNat 7)], ([(0, .inr (.inr (.inr (.inl 50)))), (1, .inl (1, .ofNat 0))], (([], []), [(true, (0, .ofNat 112)), (true, (1, .ofNat 0))]))))] 2 = true := by decide +kernel
theorem wS_21_ok : aSumOk wG wS_21 := aMeth_ok zm0 wS_21_k
/-- MaidsMemoryModel allOf -/
def wS_22 : aSum := (199, (0, ([(.ofNat 0, .ofNat 0), (.ofNat 0, .ofNat 6)], ([.inr (.inr (.inr (.inl 50))), .inl (1, .ofNat 0)], ([], ([], ([(.negSucc 2147483647, .ofNat 2147483647)], (some (.inl (2, .ofNat 0)), ([], [])))))))))
set_option maxRecDepth 100000 in
theorem wS_22_k : aMeth wG [] (zfun []) (fun _ _ => none) 4000 wS_22 [(4, ([(.ofNat 0, .ofNat 0), (.ofNat 0, .ofNat 6), (.negSucc 2147483647, .ofNat 2147483647), (.ofNat 0, .ofNat 24)], ([(0, .inr (.inr (.inr (.inl 50)))), (1, .inl (1, .ofNat 0)), (2, .inl (2, .ofNat 0)), (3, .inl (3, .ofNat 0))], (([], []), [(true, (0, .ofNat 4)), (true, (3, .ofNat 0))]))))] 2 = true := by decide +kernel
theorem wS_22_ok : aSumOk wG wS_22 := aMeth_ok zm0 wS_22_k
/-- MaidsMemoryModel of -/
def wS_23 : aSum := (183, (4, ([(.ofNat 0, .ofNat 0), (.negSucc 2147483647, .ofNat 2147483647), (.negSucc 2147483647, .ofNat 2147483647)], ([.inr (.inr (.inr (.inl 50))), .inl (1, .ofNat 0), .inl (2, .ofNat 0)], ([], ([(50, 24), (59, 999), (60, 999), (61, 999), (62, 999), (63, 999)], ([(.negSucc 2147483647, .ofNat 2147483647)], (some (.inl (3, .ofNat 0)), ([], [])))))))))
set_option maxRecDepth 100000 in
theorem wS_23_k : aMeth wG [wS_21, wS_22] (zfun [198, 199]) (fun _ _ => none) 4000 wS_23 [] 0 = true := by decide +kernel
theorem wS_23_ok : aSumOk wG wS_23 := aMeth_ok (zmc wS_21_ok (zmc wS_22_ok zm0)) wS_23_k
/-- MaidsMemory has -/
def wS_24 : aSum := (123, (1, ([(.ofNat 0, .ofNat 0), (.negSucc 2147483647, .ofNat 2147483647), (.negSucc 2147483647, .ofNat 2147483647)], ([.inr (.inr (.inr (.inl 0))), .inl (1, .ofNat 0), .inl (2, .ofNat 0)], ([], ([], ([(.negSucc 2147483647, .ofNat 2147483647)], (some (.inl (3, .ofNat 0)), ([], [])))))))))
set_option maxRecDepth 100000 in
theorem wS_24_k : aMeth wG [] (zfun []) (fun _ _ => none) 4000 wS_24 [] 0 = true := by decide +kernel
theorem wS_24_ok : aSumOk wG wS_24 := aMeth_ok zm0 wS_24_k
/-- MaidsMemoryModel has -/
def wS_25 : aSum := (184, (3, ([(.ofNat 0, .ofNat 0), (.negSucc 2147483647, .ofNat 2147483647), (.negSucc 2147483647, .ofNat 2147483647)], ([.inr (.inr (.inr (.inl 50))), .inl (1, .ofNat 0), .inl (2, .ofNat 0)], ([], ([], ([(.negSucc 2147483647, .ofNat 2147483647)], (some (.inl (3, .ofNat 0)), ([], [])))))))))
set_option maxRecDepth 100000 in
theorem wS_25_k : aMeth wG [] (zfun []) (fun _ _ => none) 4000 wS_25 [] 0 = true := by decide +kernel
theorem wS_25_ok : aSumOk wG wS_25 := aMeth_ok zm0 wS_25_k
/-- MaidsMemory feed -/
def wS_26 : aSum := (124, (1, ([(.ofNat 0, .ofNat 0), (.negSucc 2147483647, .ofNat 2147483647)], ([.inr (.inr (.inr (.inl 0))), .inl (1, .ofNat 0)], ([], ([(19, 1), (20, 999)], ([(.negSucc 2, .ofNat 120)], (some (.inl (2, .ofNat 0)), ([], [])))))))))
set_option maxRecDepth 100000 in
theorem wS_26_k : aMeth wG [] (zfun []) (fun _ _ => none) 4000 wS_26 [] 0 = true := by decide +kernel
theorem wS_26_ok : aSumOk wG wS_26 := aMeth_ok zm0 wS_26_k
/-- MaidsMemoryModel feed -/
def wS_27 : aSum := (185, (1, ([(.ofNat 0, .ofNat 0), (.negSucc 2147483647, .ofNat 2147483647)], ([.inr (.inr (.inr (.inl 50))), .inl (1, .ofNat 0)], ([], ([(50, 10), (56, 999)], ([(.negSucc 2, .ofNat 120)], (some (.inl (2, .ofNat 0)), ([], [])))))))))
set_option maxRecDepth 100000 in
theorem wS_27_k : aMeth wG [] (zfun []) (fun _ _ => none) 4000 wS_27 [] 0 = true := by decide +kernel
theorem wS_27_ok : aSumOk wG wS_27 := aMeth_ok zm0 wS_27_k
/-- MaidsMemory$Tape readNumber -/
def wS_28 : aSum := (106, (1, ([(.ofNat 0, .ofNat 0)], ([.inr (.inr (.inr (.inl 19)))], ([], ([(19, 3), (19, 4), (21, 999)], ([], (some (.inl (0, .ofNat 1)), ([], [])))))))))
set_option maxRecDepth 100000 in
theorem wS_28_k : aMeth wG [] (zfun []) (fun _ _ => none) 4000 wS_28 [(12, ([(.ofNat 0, .ofNat 0), (.negSucc 2147483647, .ofNat 2147483647), (.negSucc 2147483647, .ofNat 2147483647), (.ofNat 0, .ofNat 4)], ([(0, .inr (.inr (.inr (.inl 19)))), (1, .inl (1, .ofNat 0)), (2, .inl (2, .ofNat 0)), (3, .inl (3, .ofNat 0))], (([], []), [(true, (0, .ofNat 12)), (true, (3, .ofNat 0))]))))] 2 = true := by decide +kernel
theorem wS_28_ok : aSumOk wG wS_28 := aMeth_ok zm0 wS_28_k
/-- MaidsMemory$Tape readOne -/
def wS_29 : aSum := (104, (2, ([(.ofNat 0, .ofNat 0)], ([.inr (.inr (.inr (.inl 19)))], ([((19, (0, .ofNat 5)), (0, .ofNat 6))], ([(19, 3), (19, 4), (21, 999)], ([(.ofNat 0, .ofNat 1)], (some (.inl (1, .ofNat 0)), ([((19, (0, .ofNat 5)), (0, .ofNat 6))], [])))))))))
set_option maxRecDepth 100000 in
theorem wS_29_k : aMeth wG [wS_28] (zfun [106]) (fun _ _ => none) 4000 wS_29 [] 0 = true := by decide +kernel
theorem wS_29_ok : aSumOk wG wS_29 := aMeth_ok (zmc wS_28_ok zm0) wS_29_k
/-- MaidsMemory$Tape readOpened -/
def wS_30 : aSum := (105, (3, ([(.ofNat 0, .ofNat 0)], ([.inr (.inr (.inr (.inl 19))), .inl (0, .ofNat 45)], ([((19, (0, .ofNat 5)), (0, .ofNat 5))], ([(19, 3), (19, 4), (19, 5), (21, 999)], ([(.ofNat 0, .ofNat 1)], (some (.inl (1, .ofNat 0)), ([((19, (0, .ofNat 5)), (0, .ofNat 5))], [])))))))))
set_option maxRecDepth 100000 in
theorem wS_30_k : aMeth wG [wS_29] (zfun [104]) (fun _ _ => none) 4000 wS_30 [] 0 = true := by decide +kernel
theorem wS_30_ok : aSumOk wG wS_30 := aMeth_ok (zmc wS_29_ok zm0) wS_30_k
/-- MaidsMemory$Tape readOpened -/
def wS_31 : aSum := (105, (3, ([(.ofNat 0, .ofNat 0)], ([.inr (.inr (.inr (.inl 19))), .inl (0, .ofNat 33)], ([((19, (0, .ofNat 5)), (0, .ofNat 5))], ([(19, 3), (19, 4), (19, 5), (21, 999)], ([(.ofNat 0, .ofNat 1)], (some (.inl (1, .ofNat 0)), ([((19, (0, .ofNat 5)), (0, .ofNat 5))], [])))))))))
set_option maxRecDepth 100000 in
theorem wS_31_k : aMeth wG [wS_29] (zfun [104]) (fun _ _ => none) 4000 wS_31 [] 0 = true := by decide +kernel
theorem wS_31_ok : aSumOk wG wS_31 := aMeth_ok (zmc wS_29_ok zm0) wS_31_k
/-- MaidsMemory$Tape readLevel -/
def wS_32 : aSum := (102, (3, ([(.ofNat 0, .ofNat 0)], ([.inr (.inr (.inr (.inl 19))), .inl (0, .ofNat 5)], ([((19, (0, .ofNat 5)), (0, .ofNat 6))], ([(19, 3), (19, 4), (21, 999)], ([(.ofNat 0, .ofNat 1)], (some (.inl (1, .ofNat 0)), ([((19, (0, .ofNat 5)), (0, .ofNat 6))], [])))))))))
set_option maxRecDepth 100000 in
theorem wS_32_k : aMeth wG [wS_29] (zfun [104]) (fun _ _ => none) 4000 wS_32 [] 0 = true := by decide +kernel
theorem wS_32_ok : aSumOk wG wS_32 := aMeth_ok (zmc wS_29_ok zm0) wS_32_k
/-- MaidsMemory$Tape readLevel -/
def wS_33 : aSum := (102, (4, ([(.ofNat 0, .ofNat 0)], ([.inr (.inr (.inr (.inl 19))), .inl (0, .ofNat 4)], ([((19, (0, .ofNat 5)), (0, .ofNat 6))], ([(19, 3), (19, 4), (21, 999)], ([(.ofNat 0, .ofNat 1)], (some (.inl (1, .ofNat 0)), ([((19, (0, .ofNat 5)), (0, .ofNat 6))], [])))))))))
set_option maxRecDepth 100000 in
theorem wS_33_k : aMeth wG [wS_32] (zfun [102]) (fun _ _ => none) 4000 wS_33 [(39, ([(.ofNat 0, .ofNat 0), (.ofNat 0, .ofNat 1), (.negSucc 2147483647, .ofNat 2147483647), (.ofNat 0, .ofNat 120)], ([(0, .inr (.inr (.inr (.inl 19)))), (1, .inl (0, .ofNat 4)), (2, .inl (1, .ofNat 0)), (3, .inl (0, .ofNat 120)), (4, .inl (2, .ofNat 0)), (5, .inl (3, .ofNat 0))], (([((19, (0, .ofNat 5)), (0, .ofNat 6))], []), [(true, (0, .ofNat 39)), (true, (3, .ofNat 0))]))))] 2 = true := by decide +kernel
theorem wS_33_ok : aSumOk wG wS_33 := aMeth_ok (zmc wS_32_ok zm0) wS_33_k
/-- MaidsMemory$Tape readLevel -/
def wS_34 : aSum := (102, (5, ([(.ofNat 0, .ofNat 0)], ([.inr (.inr (.inr (.inl 19))), .inl (0, .ofNat 3)], ([((19, (0, .ofNat 5)), (0, .ofNat 6))], ([(19, 3), (19, 4), (21, 999)], ([(.ofNat 0, .ofNat 1)], (some (.inl (1, .ofNat 0)), ([((19, (0, .ofNat 5)), (0, .ofNat 6))], [])))))))))
set_option maxRecDepth 100000 in
theorem wS_34_k : aMeth wG [wS_33] (zfun [102]) (fun _ _ => none) 4000 wS_34 [(39, ([(.ofNat 0, .ofNat 0), (.ofNat 0, .ofNat 1), (.negSucc 2147483647, .ofNat 2147483647), (.ofNat 0, .ofNat 120)], ([(0, .inr (.inr (.inr (.inl 19)))), (1, .inl (0, .ofNat 3)), (2, .inl (1, .ofNat 0)), (3, .inl (0, .ofNat 120)), (4, .inl (2, .ofNat 0)), (5, .inl (3, .ofNat 0))], (([((19, (0, .ofNat 5)), (0, .ofNat 6))], []), [(true, (0, .ofNat 39)), (true, (3, .ofNat 0))]))))] 2 = true := by decide +kernel
theorem wS_34_ok : aSumOk wG wS_34 := aMeth_ok (zmc wS_33_ok zm0) wS_34_k
/-- MaidsMemory$Tape readLevel -/
def wS_35 : aSum := (102, (6, ([(.ofNat 0, .ofNat 0)], ([.inr (.inr (.inr (.inl 19))), .inl (0, .ofNat 2)], ([((19, (0, .ofNat 5)), (0, .ofNat 6))], ([(19, 3), (19, 4), (21, 999)], ([(.ofNat 0, .ofNat 1)], (some (.inl (1, .ofNat 0)), ([((19, (0, .ofNat 5)), (0, .ofNat 6))], [])))))))))
set_option maxRecDepth 100000 in
theorem wS_35_k : aMeth wG [wS_34] (zfun [102]) (fun _ _ => none) 4000 wS_35 [(39, ([(.ofNat 0, .ofNat 0), (.ofNat 0, .ofNat 1), (.negSucc 2147483647, .ofNat 2147483647), (.ofNat 0, .ofNat 1)], ([(0, .inr (.inr (.inr (.inl 19)))), (1, .inl (0, .ofNat 2)), (2, .inl (1, .ofNat 0)), (3, .inl (0, .ofNat 1)), (4, .inl (2, .ofNat 0)), (5, .inl (3, .ofNat 0))], (([((19, (0, .ofNat 5)), (0, .ofNat 6))], []), [(true, (0, .ofNat 39)), (true, (3, .ofNat 0))]))))] 2 = true := by decide +kernel
theorem wS_35_ok : aSumOk wG wS_35 := aMeth_ok (zmc wS_34_ok zm0) wS_35_k
end
