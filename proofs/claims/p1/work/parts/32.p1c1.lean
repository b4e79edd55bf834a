def p1o_12 : List (Nat × List (Nat × aI)) := []
def p1g_12 : aG := gOv p1o_12 zG0
def p1s_12_0 : aSum := (33, (1, ([(.ofNat 0, .ofNat 0)], ([.inr (.inr (.inr (.inl 30))), .inr (.inr (.inr (.inl 1))), .inl (0, .ofNat 0)], ([], ([(31, 999), (32, 999)], ([], (none, []))))))))
set_option maxRecDepth 100000 in
theorem p1s_12_0_k : aMeth p1g_12 [] (zfun [198, 88, 203, 33, 241, 236, 202, 90]) (fun _ _ => none) 3000 p1s_12_0 [(2, ([(.ofNat 0, .ofNat 0), (.ofNat 0, .ofNat 128)], ([(0, .inr (.inr (.inr (.inl 30)))), (1, .inr (.inr (.inr (.inl 1)))), (2, .inl (0, .ofNat 0)), (3, .inl (1, .ofNat 0))], ([], [(true, (0, .ofNat 2)), (true, (1, .ofNat 0)), (true, (0, .negSucc 0)), (true, (0, .negSucc 0))])))),
  (43, ([(.ofNat 0, .ofNat 0)], ([(0, .inr (.inr (.inr (.inl 30)))), (1, .inr (.inr (.inr (.inl 1)))), (3, .inl (0, .negSucc 0))], ([], [(true, (0, .ofNat 43)), (false, (0, .negSucc 0)), (true, (0, .negSucc 0)), (true, (0, .negSucc 0))]))))] 4 = true := by decide +kernel
theorem p1s_12_0_ok : aSumOk p1g_12 p1s_12_0 := aMeth_ok zm0 p1s_12_0_k
def p1f_12 : List (aK × aA) := [((1001, (0, .ofNat 0)), (0, .ofNat 6))]
set_option maxRecDepth 100000 in
theorem p1c_12_k : aRun p1g_12 zAllW [p1s_12_0] (zfun [198, 88, 203, 33, 241, 236, 202, 90]) (zspl [((0, 606), (.inr (1000, 1), [.negSucc 1, .negSucc 0]))]) 600 (fun _ _ _ _ => none) 40 0 true 600 [] zLV ([(.ofNat 0, .ofNat 0)], ([], ([], p1f_12))) zR1 = true := by decide +kernel
theorem p1c_12_ok {sc : zC} (h6 : sc.1 = 6) (hs : ∀ j, zIn (sc.2 j)) : zR sc 40 0 600 [] [(0, zS 5), (1, zP 0), (2, zP 50), (3, zI 0)] 78 5571 zSH zF0 zQ1 := zlaw_c h6 hs (L := p1o_12) (by decide +kernel) (zmc p1s_12_0_ok zm0) (by decide +kernel) p1c_12_k
def p1o_13 : List (Nat × List (Nat × aI)) := []
def p1g_13 : aG := gOv p1o_13 zG0
def p1f_13 : List (aK × aA) := [((1001, (0, .ofNat 0)), (0, .ofNat 6))]
set_option maxRecDepth 100000 in
theorem p1c_13_k : aRun p1g_13 zAllW [] (zfun [198, 88, 203, 33, 241, 236, 202, 90]) (zspl []) 600 (fun _ _ _ _ => none) 40 0 true 623 [] zLV ([(.ofNat 0, .ofNat 0)], ([], ([], p1f_13))) zR1 = true := by decide +kernel
theorem p1c_13_ok {sc : zC} (h6 : sc.1 = 6) (hs : ∀ j, zIn (sc.2 j)) : zR sc 40 0 623 [] [(0, zS 5), (1, zP 0), (2, zP 50), (3, zI 0)] 78 5571 zSH zF0 zQ1 := zlaw_c h6 hs (L := p1o_13) (by decide +kernel) zm0 (by decide +kernel) p1c_13_k
def p1o_14 : List (Nat × List (Nat × aI)) := []
def p1g_14 : aG := gOv p1o_14 zG0
def p1f_14 : List (aK × aA) := [((1001, (0, .ofNat 0)), (0, .ofNat 6))]
set_option maxRecDepth 100000 in
theorem p1c_14_k : aRun p1g_14 zAllW [] (zfun [198, 88, 203, 33, 241, 236, 202, 90]) (zspl []) 600 (fun _ _ _ _ => none) 40 0 true 636 [] zLV ([(.ofNat 0, .ofNat 0)], ([], ([], p1f_14))) zR1 = true := by decide +kernel
theorem p1c_14_ok {sc : zC} (h6 : sc.1 = 6) (hs : ∀ j, zIn (sc.2 j)) : zR sc 40 0 636 [] [(0, zS 5), (1, zP 0), (2, zP 50), (3, zI 0)] 78 5571 zSH zF0 zQ1 := zlaw_c h6 hs (L := p1o_14) (by decide +kernel) zm0 (by decide +kernel) p1c_14_k
def p1o_15 : List (Nat × List (Nat × aI)) := [(2, [(24, (.ofNat 0, .ofNat 0)), (30, (.ofNat 0, .ofNat 0)), (37, (.ofNat 0, .ofNat 0)), (44, (.ofNat 0, .ofNat 0)), (51, (.ofNat 0, .ofNat 0)), (55, (.ofNat 100, .ofNat 100)), (59, (.ofNat 0, .ofNat 0)), (60, (.ofNat 0, .ofNat 6))]), (8, [(24, (.ofNat 0, .ofNat 0)), (30, (.ofNat 0, .ofNat 0)), (37, (.ofNat 0, .ofNat 0)), (44, (.ofNat 0, .ofNat 0)), (51, (.ofNat 0, .ofNat 0)), (55, (.ofNat 100, .ofNat 100)), (59, (.ofNat 0, .ofNat 0)), (60, (.ofNat 0, .ofNat 6))]), (11, [(6, (.negSucc 2147483647, .ofNat 2147483647))]), (50, [(1, (.ofNat 0, .ofNat 0)), (2, (.ofNat 0, .ofNat 0)), (3, (.ofNat 0, .ofNat 0)), (4, (.ofNat 0, .ofNat 0)), (5, (.ofNat 0, .ofNat 0)), (6, (.ofNat 0, .ofNat 0)), (7, (.ofNat 0, .ofNat 0)), (8, (.ofNat 0, .ofNat 0)), (9, (.ofNat 0, .ofNat 0)), (10, (.ofNat 0, .ofNat 0)), (11, (.ofNat 0, .ofNat 0)), (12, (.ofNat 0, .ofNat 0)), (13, (.negSucc 0, .negSucc 0)), (14, (.ofNat 0, .ofNat 0)), (15, (.ofNat 0, .ofNat 0)), (16, (.ofNat 0, .ofNat 0)), (17, (.ofNat 0, .ofNat 0)), (18, (.ofNat 0, .ofNat 0)), (19, (.ofNat 0, .ofNat 0)), (20, (.ofNat 0, .ofNat 0)), (21, (.ofNat 0, .ofNat 0)), (22, (.ofNat 0, .ofNat 0)), (23, (.ofNat 0, .ofNat 0)), (24, (.ofNat 0, .ofNat 0)), (25, (.negSucc 2147483647, .ofNat 2147483647)), (26, (.ofNat 0, .ofNat 0)), (27, (.ofNat 0, .ofNat 0)), (28, (.ofNat 0, .ofNat 0)), (29, (.ofNat 0, .ofNat 0)), (30, (.ofNat 0, .ofNat 0)), (31, (.ofNat 0, .ofNat 0)), (32, (.ofNat 0, .ofNat 0)), (33, (.ofNat 0, .ofNat 0)), (34, (.ofNat 0, .ofNat 0)), (35, (.ofNat 0, .ofNat 0)), (36, (.ofNat 0, .ofNat 0)), (37, (.ofNat 0, .ofNat 0)), (38, (.ofNat 0, .ofNat 0)), (39, (.ofNat 0, .ofNat 0)), (40, (.ofNat 0, .ofNat 0)), (41, (.ofNat 0, .ofNat 0)), (42, (.ofNat 0, .ofNat 0)), (43, (.ofNat 0, .ofNat 0)), (44, (.ofNat 0, .ofNat 0)), (45, (.ofNat 0, .ofNat 0)), (46, (.ofNat 0, .ofNat 0)), (47, (.ofNat 0, .ofNat 0)), (48, (.ofNat 0, .ofNat 0)), (49, (.ofNat 0, .ofNat 0)), (50, (.ofNat 0, .ofNat 0))]), (63, [(7, (.negSucc 0, .ofNat 0))])]
def p1g_15 : aG := gOv p1o_15 zG0
def p1s_15_0 : aSum := (90, (1, ([(.ofNat 0, .ofNat 0)], ([.inr (.inr (.inr (.inl 7))), .inr (.inr (.inr (.inl 22)))], ([], ([(8, 999), (11, 999)], ([], (some (.inl (0, .ofNat 0)), []))))))))
set_option maxRecDepth 100000 in
theorem p1s_15_0_k : aMeth p1g_15 [] (zfun [198, 88, 203, 33, 241, 236, 202, 90]) (fun _ _ => none) 3000 p1s_15_0 [(4, ([(.ofNat 0, .ofNat 0)], ([(0, .inr (.inr (.inr (.inl 7)))), (1, .inr (.inr (.inr (.inl 22)))), (2, .inl (0, .ofNat 0)), (3, .inl (0, .ofNat 0))], ([], [(true, (0, .ofNat 4)), (true, (0, .ofNat 0))]))))] 2 = true := by decide +kernel
theorem p1s_15_0_ok : aSumOk p1g_15 p1s_15_0 := aMeth_ok zm0 p1s_15_0_k
def p1s_15_1 : aSum := (88, (2, ([(.ofNat 0, .ofNat 0), (.ofNat 0, .ofNat 60)], ([.inr (.inr (.inr (.inl 7))), .inr (.inr (.inr (.inl 22))), .inl (1, .ofNat 0)], ([], ([(8, 999), (11, 999), (12, 999)], ([], (some (.inl (0, .ofNat 0)), []))))))))
set_option maxRecDepth 100000 in
theorem p1s_15_1_k : aMeth p1g_15 [p1s_15_0] (zfun [198, 88, 203, 33, 241, 236, 202, 90]) (fun _ _ => none) 3000 p1s_15_1 [(5, ([(.ofNat 0, .ofNat 0), (.ofNat 0, .ofNat 60), (.ofNat 0, .ofNat 60)], ([(0, .inr (.inr (.inr (.inl 7)))), (1, .inr (.inr (.inr (.inl 22)))), (2, .inl (1, .ofNat 0)), (3, .inl (0, .ofNat 0)), (4, .inl (2, .ofNat 0))], ([], [(true, (0, .ofNat 5)), (true, (2, .ofNat 0))]))))] 2 = true := by decide +kernel
theorem p1s_15_1_ok : aSumOk p1g_15 p1s_15_1 := aMeth_ok (zmc p1s_15_0_ok zm0) p1s_15_1_k
def p1s_15_2 : aSum := (198, (0, ([(.ofNat 0, .ofNat 0)], ([.inr (.inr (.inr (.inl 50)))], ([], ([(50, 24), (59, 999), (60, 999), (61, 999), (62, 999), (63, 999)], ([], (none, []))))))))
set_option maxRecDepth 100000 in
theorem p1s_15_2_k : aMeth p1g_15 [p1s_15_0, p1s_15_1] (zfun [198, 88, 203, 33, 241, 236, 202, 90]) (fun _ _ => none) 3000 p1s_15_2 [(2, ([(.ofNat 0, .ofNat 0), (.ofNat 0, .ofNat 168)], ([(0, .inr (.inr (.inr (.inl 50)))), (1, .inl (1, .ofNat 0))], ([], [(true, (0, .ofNat 2)), (true, (1, .ofNat 0))])))),
  (29, ([(.ofNat 0, .ofNat 0), (.ofNat 0, .ofNat 6)], ([(0, .inr (.inr (.inr (.inl 50)))), (1, .inl (1, .ofNat 0))], ([], [(true, (0, .ofNat 29)), (true, (1, .ofNat 0))])))),
  (58, ([(.ofNat 0, .ofNat 0), (.ofNat 0, .ofNat 4)], ([(0, .inr (.inr (.inr (.inl 50)))), (1, .inl (1, .ofNat 0))], ([], [(true, (0, .ofNat 58)), (true, (1, .ofNat 0))])))),
  (86, ([(.ofNat 0, .ofNat 0), (.ofNat 0, .ofNat 24)], ([(0, .inr (.inr (.inr (.inl 50)))), (1, .inl (1, .ofNat 0))], ([], [(true, (0, .ofNat 86)), (true, (1, .ofNat 0))])))),
  (112, ([(.ofNat 0, .ofNat 0), (.ofNat 0, .ofNat 7)], ([(0, .inr (.inr (.inr (.inl 50)))), (1, .inl (1, .ofNat 0))], ([], [(true, (0, .ofNat 112)), (true, (1, .ofNat 0))]))))] 2 = true := by decide +kernel
theorem p1s_15_2_ok : aSumOk p1g_15 p1s_15_2 := aMeth_ok (zmc p1s_15_0_ok (zmc p1s_15_1_ok zm0)) p1s_15_2_k
def p1s_15_3 : aSum := (202, (0, ([(.ofNat 0, .ofNat 0)], ([.inr (.inr (.inr (.inl 50)))], ([], ([(50, 24), (50, 25), (50, 26), (50, 27)], ([], (none, []))))))))
set_option maxRecDepth 100000 in
theorem p1s_15_3_k : aMeth p1g_15 [p1s_15_0, p1s_15_1, p1s_15_2] (zfun [198, 88, 203, 33, 241, 236, 202, 90]) (fun _ _ => none) 3000 p1s_15_3 [(17, ([(.ofNat 0, .ofNat 0)], ([(0, .inr (.inr (.inr (.inl 50)))), (1, .inl (0, .ofNat 0))], ([], [(true, (0, .ofNat 17)), (true, (0, .ofNat 0)), (true, (0, .negSucc 0)), (true, (0, .negSucc 0))])))),
  (195, ([(.ofNat 0, .ofNat 0)], ([(0, .inr (.inr (.inr (.inl 50)))), (1, .inl (0, .ofNat 0))], ([], [(true, (0, .ofNat 195)), (true, (0, .ofNat 0)), (true, (0, .negSucc 0)), (true, (0, .negSucc 0))]))))] 4 = true := by decide +kernel
theorem p1s_15_3_ok : aSumOk p1g_15 p1s_15_3 := aMeth_ok (zmc p1s_15_0_ok (zmc p1s_15_1_ok (zmc p1s_15_2_ok zm0))) p1s_15_3_k
def p1s_15_4 : aSum := (203, (1, ([(.ofNat 0, .ofNat 0), (.ofNat 0, .ofNat 60)], ([.inr (.inr (.inr (.inl 50))), .inl (1, .ofNat 0)], ([], ([(50, 24), (50, 25), (50, 26), (50, 27)], ([], (none, []))))))))
set_option maxRecDepth 100000 in
theorem p1s_15_4_k : aMeth p1g_15 [p1s_15_0, p1s_15_1, p1s_15_2, p1s_15_3] (zfun [198, 88, 203, 33, 241, 236, 202, 90]) (fun _ _ => none) 3000 p1s_15_4 [(2, ([(.ofNat 0, .ofNat 0), (.ofNat 0, .ofNat 60), (.ofNat 0, .ofNat 60)], ([(0, .inr (.inr (.inr (.inl 50)))), (1, .inl (1, .ofNat 0)), (2, .inl (2, .ofNat 0))], ([], [(true, (0, .ofNat 2)), (true, (2, .ofNat 0))]))))] 2 = true := by decide +kernel
theorem p1s_15_4_ok : aSumOk p1g_15 p1s_15_4 := aMeth_ok (zmc p1s_15_0_ok (zmc p1s_15_1_ok (zmc p1s_15_2_ok (zmc p1s_15_3_ok zm0)))) p1s_15_4_k
def p1f_15 : List (aK × aA) := [((1001, (0, .ofNat 0)), (0, .ofNat 6)), ((50, (0, .ofNat 24)), (0, .ofNat 0)), ((2, (0, .ofNat 59)), (0, .ofNat 0)), ((8, (0, .ofNat 59)), (0, .ofNat 0))]
set_option maxRecDepth 100000 in
theorem p1c_15_k : aRun p1g_15 zAllW [p1s_15_0, p1s_15_1, p1s_15_2, p1s_15_3, p1s_15_4] (zfun [198, 88, 203, 33, 241, 236, 202, 90]) (zspl []) 600 (fun _ _ _ _ => none) 40 0 true 679 [] zLV ([(.ofNat 0, .ofNat 0)], ([], ([], p1f_15))) zR1 = true := by decide +kernel
theorem p1c_15_ok {sc : zC} (h6 : sc.1 = 6) (hs : ∀ j, zIn (sc.2 j)) : zR sc 40 0 679 [] [(0, zS 5), (1, zP 0), (2, zP 50), (3, zI 0)] 78 5571 zSH zF0 zQ1 := zlaw_c h6 hs (L := p1o_15) (by decide +kernel) (zmc p1s_15_0_ok (zmc p1s_15_1_ok (zmc p1s_15_2_ok (zmc p1s_15_3_ok (zmc p1s_15_4_ok zm0))))) (by decide +kernel) p1c_15_k
def p1o_16 : List (Nat × List (Nat × aI)) := []
def p1g_16 : aG := gOv p1o_16 zG0
def p1f_16 : List (aK × aA) := [((1001, (0, .ofNat 0)), (0, .ofNat 6))]
set_option maxRecDepth 100000 in
theorem p1c_16_k : aRun p1g_16 zAllW [] (zfun [198, 88, 203, 33, 241, 236, 202, 90]) (zspl []) 600 (fun _ _ _ _ => none) 40 0 true 702 [] zLV ([(.ofNat 0, .ofNat 0)], ([], ([], p1f_16))) zR1 = true := by decide +kernel
theorem p1c_16_ok {sc : zC} (h6 : sc.1 = 6) (hs : ∀ j, zIn (sc.2 j)) : zR sc 40 0 702 [] [(0, zS 5), (1, zP 0), (2, zP 50), (3, zI 0)] 78 5571 zSH zF0 zQ1 := zlaw_c h6 hs (L := p1o_16) (by decide +kernel) zm0 (by decide +kernel) p1c_16_k
def p1o_17 : List (Nat × List (Nat × aI)) := []
def p1g_17 : aG := gOv p1o_17 zG0
def p1f_17 : List (aK × aA) := [((1001, (0, .ofNat 0)), (0, .ofNat 6))]
set_option maxRecDepth 100000 in
theorem p1c_17_k : aRun p1g_17 zAllW [] (zfun [198, 88, 203, 33, 241, 236, 202, 90]) (zspl []) 600 (fun _ _ _ _ => none) 40 0 true 725 [] zLV ([(.ofNat 0, .ofNat 0)], ([], ([], p1f_17))) zR1 = true := by decide +kernel
theorem p1c_17_ok {sc : zC} (h6 : sc.1 = 6) (hs : ∀ j, zIn (sc.2 j)) : zR sc 40 0 725 [] [(0, zS 5), (1, zP 0), (2, zP 50), (3, zI 0)] 78 5571 zSH zF0 zQ1 := zlaw_c h6 hs (L := p1o_17) (by decide +kernel) zm0 (by decide +kernel) p1c_17_k
def p1o_18 : List (Nat × List (Nat × aI)) := [(50, [(1, (.ofNat 0, .ofNat 0)), (2, (.ofNat 0, .ofNat 0)), (3, (.ofNat 0, .ofNat 0)), (4, (.ofNat 0, .ofNat 0)), (5, (.ofNat 0, .ofNat 0)), (6, (.ofNat 0, .ofNat 0)), (7, (.ofNat 0, .ofNat 0)), (8, (.ofNat 0, .ofNat 0)), (9, (.ofNat 0, .ofNat 0)), (10, (.ofNat 0, .ofNat 0)), (11, (.ofNat 0, .ofNat 0)), (12, (.ofNat 0, .ofNat 0)), (13, (.negSucc 0, .negSucc 0)), (14, (.ofNat 0, .ofNat 0)), (15, (.ofNat 0, .ofNat 0)), (16, (.ofNat 0, .ofNat 0)), (17, (.ofNat 0, .ofNat 0)), (18, (.ofNat 0, .ofNat 0)), (19, (.ofNat 0, .ofNat 0)), (20, (.ofNat 0, .ofNat 0)), (21, (.ofNat 0, .ofNat 0)), (22, (.ofNat 0, .ofNat 0)), (23, (.ofNat 0, .ofNat 0)), (24, (.ofNat 0, .ofNat 0)), (25, (.ofNat 0, .ofNat 0)), (26, (.ofNat 0, .ofNat 0)), (27, (.ofNat 0, .ofNat 0)), (28, (.ofNat 0, .ofNat 0)), (29, (.ofNat 0, .ofNat 0)), (30, (.ofNat 0, .ofNat 0)), (31, (.ofNat 0, .ofNat 0)), (32, (.ofNat 0, .ofNat 0)), (33, (.ofNat 0, .ofNat 1000000)), (34, (.ofNat 0, .ofNat 0)), (35, (.ofNat 0, .ofNat 0)), (36, (.ofNat 0, .ofNat 0)), (37, (.ofNat 0, .ofNat 0)), (38, (.ofNat 0, .ofNat 0)), (39, (.ofNat 0, .ofNat 0)), (40, (.ofNat 0, .ofNat 0)), (41, (.ofNat 0, .ofNat 0)), (42, (.ofNat 0, .ofNat 0)), (43, (.ofNat 0, .ofNat 0)), (44, (.ofNat 0, .ofNat 0)), (45, (.ofNat 0, .ofNat 0)), (46, (.ofNat 0, .ofNat 0)), (47, (.ofNat 0, .ofNat 0)), (48, (.ofNat 0, .ofNat 0)), (49, (.ofNat 0, .ofNat 0)), (50, (.ofNat 0, .ofNat 0))])]
def p1g_18 : aG := gOv p1o_18 zG0
def p1f_18 : List (aK × aA) := [((1001, (0, .ofNat 0)), (0, .ofNat 6)), ((50, (0, .ofNat 32)), (0, .ofNat 0))]
set_option maxRecDepth 100000 in
theorem p1c_18_k : aRun p1g_18 zAllW [] (zfun [198, 88, 203, 33, 241, 236, 202, 90]) (zspl [((0, 754), (.inr (1000, 1), [.negSucc 1, .negSucc 0]))]) 600 (fun _ _ _ _ => none) 40 0 true 748 [] zLV ([(.ofNat 0, .ofNat 0)], ([], ([], p1f_18))) zR1 = true := by decide +kernel
theorem p1c_18_ok {sc : zC} (h6 : sc.1 = 6) (hs : ∀ j, zIn (sc.2 j)) : zR sc 40 0 748 [] [(0, zS 5), (1, zP 0), (2, zP 50), (3, zI 0)] 78 5571 zSH zF0 zQ1 := zlaw_c h6 hs (L := p1o_18) (by decide +kernel) zm0 (by decide +kernel) p1c_18_k
def p1o_19 : List (Nat × List (Nat × aI)) := []
def p1g_19 : aG := gOv p1o_19 zG0
def p1f_19 : List (aK × aA) := [((1001, (0, .ofNat 0)), (0, .ofNat 6))]
set_option maxRecDepth 100000 in
theorem p1c_19_k : aRun p1g_19 zAllW [] (zfun [198, 88, 203, 33, 241, 236, 202, 90]) (zspl []) 600 (fun _ _ _ _ => none) 40 0 true 771 [] zLV ([(.ofNat 0, .ofNat 0)], ([], ([], p1f_19))) zR1 = true := by decide +kernel
theorem p1c_19_ok {sc : zC} (h6 : sc.1 = 6) (hs : ∀ j, zIn (sc.2 j)) : zR sc 40 0 771 [] [(0, zS 5), (1, zP 0), (2, zP 50), (3, zI 0)] 78 5571 zSH zF0 zQ1 := zlaw_c h6 hs (L := p1o_19) (by decide +kernel) zm0 (by decide +kernel) p1c_19_k
def p1o_20 : List (Nat × List (Nat × aI)) := []
def p1g_20 : aG := gOv p1o_20 zG0
def p1f_20 : List (aK × aA) := [((1001, (0, .ofNat 0)), (0, .ofNat 6))]
set_option maxRecDepth 100000 in
theorem p1c_20_k : aRun p1g_20 zAllW [] (zfun [198, 88, 203, 33, 241, 236, 202, 90]) (zspl []) 600 (fun _ _ _ _ => none) 40 0 true 804 [] zLV ([(.ofNat 0, .ofNat 0)], ([], ([], p1f_20))) zR1 = true := by decide +kernel
theorem p1c_20_ok {sc : zC} (h6 : sc.1 = 6) (hs : ∀ j, zIn (sc.2 j)) : zR sc 40 0 804 [] [(0, zS 5), (1, zP 0), (2, zP 50), (3, zI 0)] 78 5571 zSH zF0 zQ1 := zlaw_c h6 hs (L := p1o_20) (by decide +kernel) zm0 (by decide +kernel) p1c_20_k
def p1o_21 : List (Nat × List (Nat × aI)) := []
def p1g_21 : aG := gOv p1o_21 zG0
def p1f_21 : List (aK × aA) := [((1001, (0, .ofNat 0)), (0, .ofNat 6))]
set_option maxRecDepth 100000 in
theorem p1c_21_k : aRun p1g_21 zAllW [] (zfun [198, 88, 203, 33, 241, 236, 202, 90]) (zspl []) 600 (fun _ _ _ _ => none) 40 0 true 837 [] zLV ([(.ofNat 0, .ofNat 0)], ([], ([], p1f_21))) zR1 = true := by decide +kernel
theorem p1c_21_ok {sc : zC} (h6 : sc.1 = 6) (hs : ∀ j, zIn (sc.2 j)) : zR sc 40 0 837 [] [(0, zS 5), (1, zP 0), (2, zP 50), (3, zI 0)] 78 5571 zSH zF0 zQ1 := zlaw_c h6 hs (L := p1o_21) (by decide +kernel) zm0 (by decide +kernel) p1c_21_k
def p1o_22 : List (Nat × List (Nat × aI)) := []
def p1g_22 : aG := gOv p1o_22 zG0
def p1f_22 : List (aK × aA) := [((1001, (0, .ofNat 0)), (0, .ofNat 6))]
set_option maxRecDepth 100000 in
theorem p1c_22_k : aRun p1g_22 zAllW [] (zfun [198, 88, 203, 33, 241, 236, 202, 90]) (zspl []) 600 (fun _ _ _ _ => none) 40 0 true 870 [] zLV ([(.ofNat 0, .ofNat 0)], ([], ([], p1f_22))) zR1 = true := by decide +kernel
theorem p1c_22_ok {sc : zC} (h6 : sc.1 = 6) (hs : ∀ j, zIn (sc.2 j)) : zR sc 40 0 870 [] [(0, zS 5), (1, zP 0), (2, zP 50), (3, zI 0)] 78 5571 zSH zF0 zQ1 := zlaw_c h6 hs (L := p1o_22) (by decide +kernel) zm0 (by decide +kernel) p1c_22_k
def p1o_23 : List (Nat × List (Nat × aI)) := []
def p1g_23 : aG := gOv p1o_23 zG0
def p1f_23 : List (aK × aA) := [((1001, (0, .ofNat 0)), (0, .ofNat 6))]
set_option maxRecDepth 100000 in
theorem p1c_23_k : aRun p1g_23 zAllW [] (zfun [198, 88, 203, 33, 241, 236, 202, 90]) (zspl []) 600 (fun _ _ _ _ => none) 40 0 true 883 [] zLV ([(.ofNat 0, .ofNat 0)], ([], ([], p1f_23))) zR1 = true := by decide +kernel
theorem p1c_23_ok {sc : zC} (h6 : sc.1 = 6) (hs : ∀ j, zIn (sc.2 j)) : zR sc 40 0 883 [] [(0, zS 5), (1, zP 0), (2, zP 50), (3, zI 0)] 78 5571 zSH zF0 zQ1 := zlaw_c h6 hs (L := p1o_23) (by decide +kernel) zm0 (by decide +kernel) p1c_23_k
def p1o_25 : List (Nat × List (Nat × aI)) := [(2, [(24, (.ofNat 0, .ofNat 0)), (30, (.ofNat 0, .ofNat 0)), (37, (.ofNat 0, .ofNat 0)), (44, (.ofNat 0, .ofNat 0)), (51, (.ofNat 0, .ofNat 0)), (55, (.ofNat 100, .ofNat 100)), (59, (.ofNat 0, .ofNat 0)), (60, (.ofNat 0, .ofNat 6))]), (5, [(6, (.negSucc 2147483647, .ofNat 2147483647))]), (50, [(1, (.ofNat 0, .ofNat 0)), (2, (.ofNat 0, .ofNat 0)), (3, (.ofNat 0, .ofNat 0)), (4, (.ofNat 0, .ofNat 0)), (5, (.ofNat 0, .ofNat 0)), (6, (.ofNat 0, .ofNat 0)), (7, (.ofNat 0, .ofNat 0)), (8, (.ofNat 0, .ofNat 0)), (9, (.ofNat 0, .ofNat 0)), (10, (.ofNat 0, .ofNat 0)), (11, (.ofNat 0, .ofNat 0)), (12, (.ofNat 0, .ofNat 0)), (13, (.negSucc 0, .negSucc 0)), (14, (.ofNat 0, .ofNat 0)), (15, (.ofNat 0, .ofNat 0)), (16, (.ofNat 0, .ofNat 0)), (17, (.ofNat 0, .ofNat 0)), (18, (.ofNat 0, .ofNat 0)), (19, (.ofNat 0, .ofNat 0)), (20, (.ofNat 0, .ofNat 0)), (21, (.ofNat 0, .ofNat 0)), (22, (.ofNat 0, .ofNat 0)), (23, (.ofNat 0, .ofNat 0)), (24, (.ofNat 0, .ofNat 0)), (25, (.negSucc 2147483647, .ofNat 2147483647)), (26, (.ofNat 0, .ofNat 0)), (27, (.ofNat 0, .ofNat 0)), (28, (.ofNat 0, .ofNat 0)), (29, (.ofNat 0, .ofNat 0)), (30, (.ofNat 0, .ofNat 0)), (31, (.ofNat 0, .ofNat 0)), (32, (.ofNat 0, .ofNat 0)), (33, (.ofNat 0, .ofNat 0)), (34, (.ofNat 0, .ofNat 0)), (35, (.ofNat 0, .ofNat 0)), (36, (.ofNat 0, .ofNat 0)), (37, (.ofNat 0, .ofNat 0)), (38, (.ofNat 0, .ofNat 0)), (39, (.ofNat 0, .ofNat 0)), (40, (.ofNat 0, .ofNat 0)), (41, (.ofNat 0, .ofNat 0)), (42, (.ofNat 0, .ofNat 0)), (43, (.ofNat 0, .ofNat 0)), (44, (.ofNat 0, .ofNat 0)), (45, (.ofNat 0, .ofNat 0)), (46, (.ofNat 0, .ofNat 0)), (47, (.ofNat 0, .ofNat 0)), (48, (.ofNat 0, .ofNat 0)), (49, (.ofNat 0, .ofNat 0)), (50, (.ofNat 0, .ofNat 0))]), (51, [(24, (.ofNat 0, .ofNat 0)), (30, (.ofNat 0, .ofNat 0)), (37, (.ofNat 0, .ofNat 0)), (44, (.ofNat 0, .ofNat 0)), (51, (.ofNat 0, .ofNat 0)), (55, (.ofNat 100, .ofNat 100)), (59, (.ofNat 0, .ofNat 0)), (60, (.negSucc 2147483647, .ofNat 2147483647))]), (63, [(7, (.negSucc 0, .ofNat 0))]), (68, [(6, (.negSucc 2147483647, .ofNat 2147483647))])]
def p1g_25 : aG := gOv p1o_25 zG0
def p1s_25_0 : aSum := (90, (1, ([(.ofNat 0, .ofNat 0)], ([.inr (.inr (.inr (.inl 1))), .inr (.inr (.inr (.inl 22)))], ([], ([(2, 999), (5, 999)], ([], (some (.inl (0, .ofNat 0)), []))))))))
set_option maxRecDepth 100000 in
theorem p1s_25_0_k : aMeth p1g_25 [] (zfun [198, 88, 203, 33, 241, 236, 202, 90]) (fun _ _ => none) 3000 p1s_25_0 [(4, ([(.ofNat 0, .ofNat 0)], ([(0, .inr (.inr (.inr (.inl 1)))), (1, .inr (.inr (.inr (.inl 22)))), (2, .inl (0, .ofNat 0)), (3, .inl (0, .ofNat 0))], ([], [(true, (0, .ofNat 4)), (true, (0, .ofNat 0))]))))] 2 = true := by decide +kernel
theorem p1s_25_0_ok : aSumOk p1g_25 p1s_25_0 := aMeth_ok zm0 p1s_25_0_k
def p1s_25_1 : aSum := (88, (2, ([(.ofNat 0, .ofNat 0)], ([.inr (.inr (.inr (.inl 1))), .inr (.inr (.inr (.inl 22))), .inl (0, .ofNat 1)], ([], ([(2, 999), (5, 999), (6, 999)], ([], (some (.inl (0, .ofNat 0)), []))))))))
set_option maxRecDepth 100000 in
theorem p1s_25_1_k : aMeth p1g_25 [p1s_25_0] (zfun [198, 88, 203, 33, 241, 236, 202, 90]) (fun _ _ => none) 3000 p1s_25_1 [(5, ([(.ofNat 0, .ofNat 0), (.ofNat 0, .ofNat 1)], ([(0, .inr (.inr (.inr (.inl 1)))), (1, .inr (.inr (.inr (.inl 22)))), (2, .inl (0, .ofNat 1)), (3, .inl (0, .ofNat 0)), (4, .inl (1, .ofNat 0))], ([], [(true, (0, .ofNat 5)), (true, (1, .ofNat 0))]))))] 2 = true := by decide +kernel
theorem p1s_25_1_ok : aSumOk p1g_25 p1s_25_1 := aMeth_ok (zmc p1s_25_0_ok zm0) p1s_25_1_k
def p1s_25_2 : aSum := (198, (0, ([(.ofNat 0, .ofNat 0)], ([.inr (.inr (.inr (.inl 50)))], ([], ([(50, 24), (59, 999), (60, 999), (61, 999), (62, 999), (63, 999)], ([], (none, []))))))))
set_option maxRecDepth 100000 in
theorem p1s_25_2_k : aMeth p1g_25 [p1s_25_0, p1s_25_1] (zfun [198, 88, 203, 33, 241, 236, 202, 90]) (fun _ _ => none) 3000 p1s_25_2 [(2, ([(.ofNat 0, .ofNat 0), (.ofNat 0, .ofNat 168)], ([(0, .inr (.inr (.inr (.inl 50)))), (1, .inl (1, .ofNat 0))], ([], [(true, (0, .ofNat 2)), (true, (1, .ofNat 0))])))),
  (29, ([(.ofNat 0, .ofNat 0), (.ofNat 0, .ofNat 6)], ([(0, .inr (.inr (.inr (.inl 50)))), (1, .inl (1, .ofNat 0))], ([], [(true, (0, .ofNat 29)), (true, (1, .ofNat 0))])))),
  (58, ([(.ofNat 0, .ofNat 0), (.ofNat 0, .ofNat 4)], ([(0, .inr (.inr (.inr (.inl 50)))), (1, .inl (1, .ofNat 0))], ([], [(true, (0, .ofNat 58)), (true, (1, .ofNat 0))])))),
  (86, ([(.ofNat 0, .ofNat 0), (.ofNat 0, .ofNat 24)], ([(0, .inr (.inr (.inr (.inl 50)))), (1, .inl (1, .ofNat 0))], ([], [(true, (0, .ofNat 86)), (true, (1, .ofNat 0))])))),
  (112, ([(.ofNat 0, .ofNat 0), (.ofNat 0, .ofNat 7)], ([(0, .inr (.inr (.inr (.inl 50)))), (1, .inl (1, .ofNat 0))], ([], [(true, (0, .ofNat 112)), (true, (1, .ofNat 0))]))))] 2 = true := by decide +kernel
theorem p1s_25_2_ok : aSumOk p1g_25 p1s_25_2 := aMeth_ok (zmc p1s_25_0_ok (zmc p1s_25_1_ok zm0)) p1s_25_2_k
def p1s_25_3 : aSum := (202, (0, ([(.ofNat 0, .ofNat 0)], ([.inr (.inr (.inr (.inl 50)))], ([], ([(50, 24), (50, 25), (50, 26), (50, 27)], ([], (none, []))))))))
set_option maxRecDepth 100000 in
theorem p1s_25_3_k : aMeth p1g_25 [p1s_25_0, p1s_25_1, p1s_25_2] (zfun [198, 88, 203, 33, 241, 236, 202, 90]) (fun _ _ => none) 3000 p1s_25_3 [(17, ([(.ofNat 0, .ofNat 0)], ([(0, .inr (.inr (.inr (.inl 50)))), (1, .inl (0, .ofNat 0))], ([], [(true, (0, .ofNat 17)), (true, (0, .ofNat 0)), (true, (0, .negSucc 0)), (true, (0, .negSucc 0))])))),
  (195, ([(.ofNat 0, .ofNat 0)], ([(0, .inr (.inr (.inr (.inl 50)))), (1, .inl (0, .ofNat 0))], ([], [(true, (0, .ofNat 195)), (true, (0, .ofNat 0)), (true, (0, .negSucc 0)), (true, (0, .negSucc 0))]))))] 4 = true := by decide +kernel
theorem p1s_25_3_ok : aSumOk p1g_25 p1s_25_3 := aMeth_ok (zmc p1s_25_0_ok (zmc p1s_25_1_ok (zmc p1s_25_2_ok zm0))) p1s_25_3_k
def p1s_25_4 : aSum := (236, (1, ([(.ofNat 0, .ofNat 0)], ([.inr (.inr (.inr (.inl 50)))], ([], ([(50, 24), (50, 25), (50, 26), (50, 27), (51, 999), (55, 999), (59, 999), (60, 999), (61, 999), (62, 999), (63, 999), (68, 999)], ([], (some (.inl (0, .ofNat 0)), []))))))))
set_option maxRecDepth 100000 in
theorem p1s_25_4_k : aMeth p1g_25 [p1s_25_0, p1s_25_1, p1s_25_2, p1s_25_3] (zfun [198, 88, 203, 33, 241, 236, 202, 90]) (fun _ _ => none) 3000 p1s_25_4 [(10, ([(.ofNat 0, .ofNat 0), (.ofNat 0, .ofNat 168)], ([(0, .inr (.inr (.inr (.inl 50)))), (1, .inl (1, .ofNat 0))], ([], [(true, (0, .ofNat 10)), (true, (1, .ofNat 0))])))),
  (37, ([(.ofNat 0, .ofNat 0)], ([(0, .inr (.inr (.inr (.inl 50)))), (1, .inl (0, .ofNat 0))], ([], [(true, (0, .ofNat 37)), (true, (0, .ofNat 0))])))),
  (68, ([(.ofNat 0, .ofNat 0), (.ofNat 0, .ofNat 4)], ([(0, .inr (.inr (.inr (.inl 50)))), (1, .inl (1, .ofNat 0))], ([], [(true, (0, .ofNat 68)), (true, (1, .ofNat 0))]))))] 2 = true := by decide +kernel
theorem p1s_25_4_ok : aSumOk p1g_25 p1s_25_4 := aMeth_ok (zmc p1s_25_0_ok (zmc p1s_25_1_ok (zmc p1s_25_2_ok (zmc p1s_25_3_ok zm0)))) p1s_25_4_k
def p1f_25 : List (aK × aA) := [((1001, (0, .ofNat 0)), (0, .ofNat 6)), ((50, (0, .ofNat 24)), (0, .ofNat 0)), ((2, (0, .ofNat 59)), (0, .ofNat 0)), ((51, (0, .ofNat 59)), (0, .ofNat 0))]
set_option maxRecDepth 100000 in
theorem p1c_25_k : aRun p1g_25 zAllW [p1s_25_0, p1s_25_1, p1s_25_2, p1s_25_3, p1s_25_4] (zfun [198, 88, 203, 33, 241, 236, 202, 90]) (zspl []) 600 (fun _ _ _ _ => none) 40 0 true 969 [] zLV ([(.ofNat 0, .ofNat 0)], ([], ([], p1f_25))) zR1 = true := by decide +kernel
theorem p1c_25_ok {sc : zC} (h6 : sc.1 = 6) (hs : ∀ j, zIn (sc.2 j)) : zR sc 40 0 969 [] [(0, zS 5), (1, zP 0), (2, zP 50), (3, zI 0)] 78 5571 zSH zF0 zQ1 := zlaw_c h6 hs (L := p1o_25) (by decide +kernel) (zmc p1s_25_0_ok (zmc p1s_25_1_ok (zmc p1s_25_2_ok (zmc p1s_25_3_ok (zmc p1s_25_4_ok zm0))))) (by decide +kernel) p1c_25_k
def p1o_26 : List (Nat × List (Nat × aI)) := []
def p1g_26 : aG := gOv p1o_26 zG0
def p1f_26 : List (aK × aA) := [((1001, (0, .ofNat 0)), (0, .ofNat 6))]
set_option maxRecDepth 100000 in
theorem p1c_26_k : aRun p1g_26 zAllW [] (zfun [198, 88, 203, 33, 241, 236, 202, 90]) (zspl []) 600 (fun _ _ _ _ => none) 40 0 true 982 [] zLV ([(.ofNat 0, .ofNat 0)], ([], ([], p1f_26))) zR1 = true := by decide +kernel
theorem p1c_26_ok {sc : zC} (h6 : sc.1 = 6) (hs : ∀ j, zIn (sc.2 j)) : zR sc 40 0 982 [] [(0, zS 5), (1, zP 0), (2, zP 50), (3, zI 0)] 78 5571 zSH zF0 zQ1 := zlaw_c h6 hs (L := p1o_26) (by decide +kernel) zm0 (by decide +kernel) p1c_26_k
def p1o_27 : List (Nat × List (Nat × aI)) := []
def p1g_27 : aG := gOv p1o_27 zG0
def p1f_27 : List (aK × aA) := [((1001, (0, .ofNat 0)), (0, .ofNat 6))]
set_option maxRecDepth 100000 in
theorem p1c_27_k : aRun p1g_27 zAllW [] (zfun [198, 88, 203, 33, 241, 236, 202, 90]) (zspl []) 600 (fun _ _ _ _ => none) 40 0 true 1015 [] zLV ([(.ofNat 0, .ofNat 0)], ([], ([], p1f_27))) zR1 = true := by decide +kernel
theorem p1c_27_ok {sc : zC} (h6 : sc.1 = 6) (hs : ∀ j, zIn (sc.2 j)) : zR sc 40 0 1015 [] [(0, zS 5), (1, zP 0), (2, zP 50), (3, zI 0)] 78 5571 zSH zF0 zQ1 := zlaw_c h6 hs (L := p1o_27) (by decide +kernel) zm0 (by decide +kernel) p1c_27_k
def p1o_28 : List (Nat × List (Nat × aI)) := []
def p1g_28 : aG := gOv p1o_28 zG0
def p1f_28 : List (aK × aA) := [((1001, (0, .ofNat 0)), (0, .ofNat 6))]
set_option maxRecDepth 100000 in
theorem p1c_28_k : aRun p1g_28 zAllW [] (zfun [198, 88, 203, 33, 241, 236, 202, 90]) (zspl []) 600 (fun _ _ _ _ => none) 40 0 true 1038 [] zLV ([(.ofNat 0, .ofNat 0)], ([], ([], p1f_28))) zR1 = true := by decide +kernel
theorem p1c_28_ok {sc : zC} (h6 : sc.1 = 6) (hs : ∀ j, zIn (sc.2 j)) : zR sc 40 0 1038 [] [(0, zS 5), (1, zP 0), (2, zP 50), (3, zI 0)] 78 5571 zSH zF0 zQ1 := zlaw_c h6 hs (L := p1o_28) (by decide +kernel) zm0 (by decide +kernel) p1c_28_k
def p1o_29 : List (Nat × List (Nat × aI)) := []
def p1g_29 : aG := gOv p1o_29 zG0
def p1f_29 : List (aK × aA) := [((1001, (0, .ofNat 0)), (0, .ofNat 6))]
set_option maxRecDepth 100000 in
theorem p1c_29_k : aRun p1g_29 zAllW [] (zfun [198, 88, 203, 33, 241, 236, 202, 90]) (zspl []) 600 (fun _ _ _ _ => none) 40 0 true 1061 [] zLV ([(.ofNat 0, .ofNat 0)], ([], ([], p1f_29))) zR1 = true := by decide +kernel
theorem p1c_29_ok {sc : zC} (h6 : sc.1 = 6) (hs : ∀ j, zIn (sc.2 j)) : zR sc 40 0 1061 [] [(0, zS 5), (1, zP 0), (2, zP 50), (3, zI 0)] 78 5571 zSH zF0 zQ1 := zlaw_c h6 hs (L := p1o_29) (by decide +kernel) zm0 (by decide +kernel) p1c_29_k
def p1o_30 : List (Nat × List (Nat × aI)) := [(0, [(1, (.ofNat 0, .ofNat 0)), (2, (.ofNat 0, .ofNat 0)), (3, (.ofNat 0, .ofNat 0)), (4, (.ofNat 0, .ofNat 1)), (5, (.ofNat 0, .ofNat 0)), (6, (.ofNat 0, .ofNat 0)), (7, (.ofNat 0, .ofNat 0)), (8, (.ofNat 0, .ofNat 0)), (9, (.ofNat 0, .ofNat 0)), (10, (.ofNat 0, .ofNat 0)), (11, (.ofNat 0, .ofNat 0)), (12, (.ofNat 0, .ofNat 0)), (13, (.ofNat 0, .ofNat 0))]), (50, [(1, (.ofNat 0, .ofNat 0)), (2, (.ofNat 0, .ofNat 0)), (3, (.ofNat 0, .ofNat 0)), (4, (.ofNat 0, .ofNat 0)), (5, (.ofNat 0, .ofNat 0)), (6, (.ofNat 0, .ofNat 0)), (7, (.ofNat 0, .ofNat 0)), (8, (.ofNat 0, .ofNat 0)), (9, (.ofNat 0, .ofNat 0)), (10, (.ofNat 0, .ofNat 0)), (11, (.ofNat 0, .ofNat 0)), (12, (.ofNat 0, .ofNat 0)), (13, (.negSucc 0, .negSucc 0)), (14, (.ofNat 0, .ofNat 0)), (15, (.ofNat 0, .ofNat 0)), (16, (.ofNat 0, .ofNat 0)), (17, (.ofNat 0, .ofNat 0)), (18, (.ofNat 0, .ofNat 0)), (19, (.ofNat 0, .ofNat 0)), (20, (.ofNat 0, .ofNat 0)), (21, (.ofNat 0, .ofNat 0)), (22, (.ofNat 0, .ofNat 0)), (23, (.ofNat 0, .ofNat 0)), (24, (.ofNat 0, .ofNat 0)), (25, (.ofNat 0, .ofNat 0)), (26, (.ofNat 0, .ofNat 0)), (27, (.ofNat 0, .ofNat 0)), (28, (.ofNat 0, .ofNat 0)), (29, (.ofNat 0, .ofNat 0)), (30, (.ofNat 0, .ofNat 0)), (31, (.ofNat 0, .ofNat 0)), (32, (.ofNat 0, .ofNat 0)), (33, (.ofNat 0, .ofNat 0)), (34, (.ofNat 0, .ofNat 0)), (35, (.ofNat 0, .ofNat 1)), (36, (.ofNat 0, .ofNat 0)), (37, (.ofNat 0, .ofNat 0)), (38, (.ofNat 0, .ofNat 0)), (39, (.ofNat 0, .ofNat 0)), (40, (.ofNat 0, .ofNat 0)), (41, (.ofNat 0, .ofNat 0)), (42, (.ofNat 0, .ofNat 0)), (43, (.ofNat 0, .ofNat 0)), (44, (.ofNat 0, .ofNat 0)), (45, (.ofNat 0, .ofNat 0)), (46, (.ofNat 0, .ofNat 0)), (47, (.ofNat 0, .ofNat 0)), (48, (.ofNat 0, .ofNat 0)), (49, (.ofNat 0, .ofNat 0)), (50, (.ofNat 0, .ofNat 0))]), (69, [(24, (.ofNat 0, .ofNat 100)), (30, (.ofNat 0, .ofNat 100)), (37, (.ofNat 0, .ofNat 100)), (44, (.ofNat 0, .ofNat 100)), (51, (.ofNat 0, .ofNat 100)), (55, (.ofNat 0, .ofNat 100)), (59, (.ofNat 0, .ofNat 100)), (60, (.ofNat 0, .ofNat 100))])]
def p1g_30 : aG := gOv p1o_30 zG0
def p1s_30_0 : aSum := (241, (0, ([(.ofNat 0, .ofNat 0)], ([.inr (.inr (.inr (.inl 50)))], ([], ([(50, 34), (50, 35), (50, 36), (69, 999), (70, 999), (71, 999)], ([], (some (.inl (0, .ofNat 0)), []))))))))
set_option maxRecDepth 100000 in
theorem p1s_30_0_k : aMeth p1g_30 [] (zfun [198, 88, 203, 33, 241, 236, 202, 90]) (fun _ _ => none) 3000 p1s_30_0 [(23, ([(.ofNat 0, .ofNat 0), (.ofNat 0, .ofNat 60)], ([(0, .inr (.inr (.inr (.inl 50)))), (1, .inl (1, .ofNat 0))], ([], [(true, (0, .ofNat 23)), (true, (1, .ofNat 0))])))),
  (49, ([(.ofNat 0, .ofNat 0), (.ofNat 0, .ofNat 168)], ([(0, .inr (.inr (.inr (.inl 50)))), (1, .inl (1, .ofNat 0))], ([], [(true, (0, .ofNat 49)), (true, (1, .ofNat 0))])))),
  (76, ([(.ofNat 0, .ofNat 0), (.ofNat 0, .ofNat 6)], ([(0, .inr (.inr (.inr (.inl 50)))), (1, .inl (1, .ofNat 0))], ([], [(true, (0, .ofNat 76)), (true, (1, .ofNat 0))]))))] 2 = true := by decide +kernel
theorem p1s_30_0_ok : aSumOk p1g_30 p1s_30_0 := aMeth_ok zm0 p1s_30_0_k
def p1f_30 : List (aK × aA) := [((1001, (0, .ofNat 0)), (0, .ofNat 6)), ((0, (0, .ofNat 3)), (0, .ofNat 0)), ((50, (0, .ofNat 34)), (0, .ofNat 0))]
set_option maxRecDepth 100000 in
theorem p1c_30_k : aRun p1g_30 zAllW [p1s_30_0] (zfun [198, 88, 203, 33, 241, 236, 202, 90]) (zspl []) 600 (fun _ _ _ _ => none) 40 0 true 1084 [] zLV ([(.ofNat 0, .ofNat 0)], ([], ([], p1f_30))) zR1 = true := by decide +kernel
theorem p1c_30_ok {sc : zC} (h6 : sc.1 = 6) (hs : ∀ j, zIn (sc.2 j)) : zR sc 40 0 1084 [] [(0, zS 5), (1, zP 0), (2, zP 50), (3, zI 0)] 78 5571 zSH zF0 zQ1 := zlaw_c h6 hs (L := p1o_30) (by decide +kernel) (zmc p1s_30_0_ok zm0) (by decide +kernel) p1c_30_k
def p1o_31 : List (Nat × List (Nat × aI)) := []
def p1g_31 : aG := gOv p1o_31 zG0
def p1f_31 : List (aK × aA) := [((1001, (0, .ofNat 0)), (0, .ofNat 6))]
set_option maxRecDepth 100000 in
theorem p1c_31_k : aRun p1g_31 zAllW [] (zfun [198, 88, 203, 33, 241, 236, 202, 90]) (zspl []) 600 (fun _ _ _ _ => none) 40 0 true 1097 [] zLV ([(.ofNat 0, .ofNat 0)], ([], ([], p1f_31))) zR1 = true := by decide +kernel
theorem p1c_31_ok {sc : zC} (h6 : sc.1 = 6) (hs : ∀ j, zIn (sc.2 j)) : zR sc 40 0 1097 [] [(0, zS 5), (1, zP 0), (2, zP 50), (3, zI 0)] 78 5571 zSH zF0 zQ1 := zlaw_c h6 hs (L := p1o_31) (by decide +kernel) zm0 (by decide +kernel) p1c_31_k
def p1o_32 : List (Nat × List (Nat × aI)) := []
def p1g_32 : aG := gOv p1o_32 zG0
def p1f_32 : List (aK × aA) := [((1001, (0, .ofNat 0)), (0, .ofNat 6))]
set_option maxRecDepth 100000 in
theorem p1c_32_k : aRun p1g_32 zAllW [] (zfun [198, 88, 203, 33, 241, 236, 202, 90]) (zspl []) 600 (fun _ _ _ _ => none) 40 0 true 1110 [] zLV ([(.ofNat 0, .ofNat 0)], ([], ([], p1f_32))) zR1 = true := by decide +kernel
theorem p1c_32_ok {sc : zC} (h6 : sc.1 = 6) (hs : ∀ j, zIn (sc.2 j)) : zR sc 40 0 1110 [] [(0, zS 5), (1, zP 0), (2, zP 50), (3, zI 0)] 78 5571 zSH zF0 zQ1 := zlaw_c h6 hs (L := p1o_32) (by decide +kernel) zm0 (by decide +kernel) p1c_32_k
def p1o_33 : List (Nat × List (Nat × aI)) := []
def p1g_33 : aG := gOv p1o_33 zG0
def p1f_33 : List (aK × aA) := [((1001, (0, .ofNat 0)), (0, .ofNat 6))]
set_option maxRecDepth 100000 in
theorem p1c_33_k : aRun p1g_33 zAllW [] (zfun [198, 88, 203, 33, 241, 236, 202, 90]) (zspl []) 600 (fun _ _ _ _ => none) 40 0 true 1123 [] zLV ([(.ofNat 0, .ofNat 0)], ([], ([], p1f_33))) zR1 = true := by decide +kernel
theorem p1c_33_ok {sc : zC} (h6 : sc.1 = 6) (hs : ∀ j, zIn (sc.2 j)) : zR sc 40 0 1123 [] [(0, zS 5), (1, zP 0), (2, zP 50), (3, zI 0)] 78 5571 zSH zF0 zQ1 := zlaw_c h6 hs (L := p1o_33) (by decide +kernel) zm0 (by decide +kernel) p1c_33_k
def p1o_34 : List (Nat × List (Nat × aI)) := [(42, [(1, (.ofNat 0, .ofNat 0)), (2, (.ofNat 0, .ofNat 1)), (3, (.ofNat 0, .ofNat 0)), (4, (.ofNat 0, .ofNat 0))]), (43, [(50, (.ofNat 0, .ofNat 7))]), (50, [(1, (.ofNat 0, .ofNat 0)), (2, (.ofNat 0, .ofNat 0)), (3, (.ofNat 0, .ofNat 0)), (4, (.ofNat 0, .ofNat 0)), (5, (.ofNat 0, .ofNat 0)), (6, (.ofNat 0, .ofNat 0)), (7, (.ofNat 0, .ofNat 0)), (8, (.ofNat 0, .ofNat 0)), (9, (.ofNat 0, .ofNat 0)), (10, (.ofNat 0, .ofNat 0)), (11, (.ofNat 0, .ofNat 0)), (12, (.ofNat 0, .ofNat 0)), (13, (.negSucc 0, .negSucc 0)), (14, (.ofNat 0, .ofNat 0)), (15, (.ofNat 0, .ofNat 0)), (16, (.ofNat 0, .ofNat 0)), (17, (.ofNat 0, .ofNat 0)), (18, (.ofNat 0, .ofNat 0)), (19, (.ofNat 0, .ofNat 0)), (20, (.ofNat 0, .ofNat 0)), (21, (.ofNat 0, .ofNat 0)), (22, (.ofNat 0, .ofNat 0)), (23, (.ofNat 0, .ofNat 0)), (24, (.ofNat 0, .ofNat 0)), (25, (.ofNat 0, .ofNat 0)), (26, (.ofNat 0, .ofNat 0)), (27, (.ofNat 0, .ofNat 0)), (28, (.ofNat 0, .ofNat 0)), (29, (.ofNat 0, .ofNat 0)), (30, (.ofNat 0, .ofNat 0)), (31, (.ofNat 0, .ofNat 0)), (32, (.ofNat 0, .ofNat 0)), (33, (.ofNat 0, .ofNat 0)), (34, (.ofNat 0, .ofNat 0)), (35, (.ofNat 0, .ofNat 0)), (36, (.ofNat 0, .ofNat 0)), (37, (.ofNat 0, .ofNat 0)), (38, (.ofNat 0, .ofNat 0)), (39, (.ofNat 0, .ofNat 0)), (40, (.ofNat 0, .ofNat 0)), (41, (.ofNat 0, .ofNat 1)), (42, (.ofNat 0, .ofNat 0)), (43, (.ofNat 0, .ofNat 0)), (44, (.ofNat 0, .ofNat 0)), (45, (.ofNat 0, .ofNat 0)), (46, (.ofNat 0, .ofNat 0)), (47, (.ofNat 0, .ofNat 0)), (48, (.ofNat 0, .ofNat 0)), (49, (.ofNat 0, .ofNat 0)), (50, (.ofNat 0, .ofNat 0))]), (72, [(50, (.ofNat 0, .ofNat 7))])]
def p1g_34 : aG := gOv p1o_34 zG0
def p1f_34 : List (aK × aA) := [((1001, (0, .ofNat 0)), (0, .ofNat 6)), ((42, (0, .ofNat 1)), (0, .ofNat 0)), ((50, (0, .ofNat 40)), (0, .ofNat 0))]
set_option maxRecDepth 100000 in
theorem p1c_34_k : aRun p1g_34 zAllW [] (zfun [198, 88, 203, 33, 241, 236, 202, 90]) (zspl []) 600 (fun _ _ _ _ => none) 40 0 true 1136 [] zLV ([(.ofNat 0, .ofNat 0)], ([], ([], p1f_34))) zR1 = true := by decide +kernel
theorem p1c_34_ok {sc : zC} (h6 : sc.1 = 6) (hs : ∀ j, zIn (sc.2 j)) : zR sc 40 0 1136 [] [(0, zS 5), (1, zP 0), (2, zP 50), (3, zI 0)] 78 5571 zSH zF0 zQ1 := zlaw_c h6 hs (L := p1o_34) (by decide +kernel) zm0 (by decide +kernel) p1c_34_k
def p1o_35 : List (Nat × List (Nat × aI)) := []
def p1g_35 : aG := gOv p1o_35 zG0
def p1f_35 : List (aK × aA) := [((1001, (0, .ofNat 0)), (0, .ofNat 6))]
set_option maxRecDepth 100000 in
theorem p1c_35_k : aRun p1g_35 zAllW [] (zfun [198, 88, 203, 33, 241, 236, 202, 90]) (zspl []) 600 (fun _ _ _ _ => none) 40 0 true 1159 [] zLV ([(.ofNat 0, .ofNat 0)], ([], ([], p1f_35))) zR1 = true := by decide +kernel
theorem p1c_35_ok {sc : zC} (h6 : sc.1 = 6) (hs : ∀ j, zIn (sc.2 j)) : zR sc 40 0 1159 [] [(0, zS 5), (1, zP 0), (2, zP 50), (3, zI 0)] 78 5571 zSH zF0 zQ1 := zlaw_c h6 hs (L := p1o_35) (by decide +kernel) zm0 (by decide +kernel) p1c_35_k
def p1o_36 : List (Nat × List (Nat × aI)) := []
def p1g_36 : aG := gOv p1o_36 zG0
def p1f_36 : List (aK × aA) := [((1001, (0, .ofNat 0)), (0, .ofNat 6))]
set_option maxRecDepth 100000 in
theorem p1c_36_k : aRun p1g_36 zAllW [] (zfun [198, 88, 203, 33, 241, 236, 202, 90]) (zspl []) 600 (fun _ _ _ _ => none) 40 0 true 1202 [] zLV ([(.ofNat 0, .ofNat 0)], ([], ([], p1f_36))) zR1 = true := by decide +kernel
theorem p1c_36_ok {sc : zC} (h6 : sc.1 = 6) (hs : ∀ j, zIn (sc.2 j)) : zR sc 40 0 1202 [] [(0, zS 5), (1, zP 0), (2, zP 50), (3, zI 0)] 78 5571 zSH zF0 zQ1 := zlaw_c h6 hs (L := p1o_36) (by decide +kernel) zm0 (by decide +kernel) p1c_36_k
def p1o_37 : List (Nat × List (Nat × aI)) := [(47, [(6, (.negSucc 0, .ofNat 0))])]
def p1g_37 : aG := gOv p1o_37 zG0
def p1f_37 : List (aK × aA) := [((1001, (0, .ofNat 0)), (0, .ofNat 6))]
set_option maxRecDepth 100000 in
theorem p1c_37_k : aRun p1g_37 zAllW [] (zfun [198, 88, 203, 33, 241, 236, 202, 90]) (zspl [((0, 1236), (.inr (1000, 2), [.negSucc 1, .negSucc 0]))]) 602 (fun _ _ _ _ => none) 40 0 true 1225 [] zLV ([(.ofNat 0, .ofNat 0)], ([], ([], p1f_37))) zR1 = true := by decide +kernel
theorem p1c_37_ok {sc : zC} (h6 : sc.1 = 6) (hs : ∀ j, zIn (sc.2 j)) : zR sc 40 0 1225 [] [(0, zS 5), (1, zP 0), (2, zP 50), (3, zI 0)] 78 5571 zSH zF0 zQ1 := zlaw_c h6 hs (L := p1o_37) (by decide +kernel) zm0 (by decide +kernel) p1c_37_k
def p1o_38 : List (Nat × List (Nat × aI)) := [(46, [(6, (.negSucc 1, .ofNat 4))]), (48, [(6, (.ofNat 0, .ofNat 60))]), (74, [(6, (.negSucc 0, .ofNat 54))]), (75, [(6, (.ofNat 0, .ofNat 60))])]
def p1g_38 : aG := gOv p1o_38 zG0
def p1s_38_0 : aSum := (256, (2, ([(.ofNat 0, .ofNat 0), (.ofNat 6, .ofNat 2147483647), (.ofNat 5, .ofNat 2147483647), (.ofNat 61, .ofNat 2147483647)], ([.inr (.inr (.inr (.inl 50))), .inl (1, .ofNat 0), .inl (2, .ofNat 0), .inl (3, .ofNat 0)], ([], ([], ([], (some (.inl (0, .negSucc 0)), []))))))))
set_option maxRecDepth 100000 in
theorem p1s_38_0_k : aMeth p1g_38 [] (zfun [198, 88, 203, 33, 241, 236, 202, 90, 61, 256]) (fun _ _ => none) 3000 p1s_38_0 [] 0 = true := by decide +kernel
theorem p1s_38_0_ok : aSumOk p1g_38 p1s_38_0 := aMeth_ok zm0 p1s_38_0_k
def p1s_38_1 : aSum := (256, (2, ([(.ofNat 0, .ofNat 0), (.ofNat 6, .ofNat 2147483647), (.ofNat 5, .ofNat 2147483647), (.ofNat 0, .ofNat 60)], ([.inr (.inr (.inr (.inl 50))), .inl (1, .ofNat 0), .inl (2, .ofNat 0), .inl (3, .ofNat 0)], ([], ([], ([], (some (.inl (0, .negSucc 0)), []))))))))
set_option maxRecDepth 100000 in
theorem p1s_38_1_k : aMeth p1g_38 [p1s_38_0] (zfun [198, 88, 203, 33, 241, 236, 202, 90, 61, 256]) (fun _ _ => none) 3000 p1s_38_1 [] 0 = true := by decide +kernel
theorem p1s_38_1_ok : aSumOk p1g_38 p1s_38_1 := aMeth_ok (zmc p1s_38_0_ok zm0) p1s_38_1_k
def p1s_38_2 : aSum := (256, (2, ([(.ofNat 0, .ofNat 0), (.ofNat 6, .ofNat 2147483647), (.ofNat 5, .ofNat 2147483647), (.negSucc 2147483647, .negSucc 0)], ([.inr (.inr (.inr (.inl 50))), .inl (1, .ofNat 0), .inl (2, .ofNat 0), .inl (3, .ofNat 0)], ([], ([], ([], (some (.inl (0, .negSucc 0)), []))))))))
set_option maxRecDepth 100000 in
theorem p1s_38_2_k : aMeth p1g_38 [p1s_38_0, p1s_38_1] (zfun [198, 88, 203, 33, 241, 236, 202, 90, 61, 256]) (fun _ _ => none) 3000 p1s_38_2 [] 0 = true := by decide +kernel
theorem p1s_38_2_ok : aSumOk p1g_38 p1s_38_2 := aMeth_ok (zmc p1s_38_0_ok (zmc p1s_38_1_ok zm0)) p1s_38_2_k
def p1s_38_3 : aSum := (256, (2, ([(.ofNat 0, .ofNat 0), (.ofNat 6, .ofNat 2147483647), (.ofNat 0, .ofNat 4), (.ofNat 61, .ofNat 2147483647)], ([.inr (.inr (.inr (.inl 50))), .inl (1, .ofNat 0), .inl (2, .ofNat 0), .inl (3, .ofNat 0)], ([], ([], ([], (some (.inl (0, .negSucc 0)), []))))))))
set_option maxRecDepth 100000 in
theorem p1s_38_3_k : aMeth p1g_38 [p1s_38_0, p1s_38_1, p1s_38_2] (zfun [198, 88, 203, 33, 241, 236, 202, 90, 61, 256]) (fun _ _ => none) 3000 p1s_38_3 [] 0 = true := by decide +kernel
theorem p1s_38_3_ok : aSumOk p1g_38 p1s_38_3 := aMeth_ok (zmc p1s_38_0_ok (zmc p1s_38_1_ok (zmc p1s_38_2_ok zm0))) p1s_38_3_k
def p1s_38_4 : aSum := (256, (2, ([(.ofNat 0, .ofNat 0), (.ofNat 6, .ofNat 2147483647), (.ofNat 0, .ofNat 4), (.ofNat 0, .ofNat 60)], ([.inr (.inr (.inr (.inl 50))), .inl (1, .ofNat 0), .inl (2, .ofNat 0), .inl (3, .ofNat 0)], ([], ([], ([], (some (.inl (0, .negSucc 0)), []))))))))
set_option maxRecDepth 100000 in
theorem p1s_38_4_k : aMeth p1g_38 [p1s_38_0, p1s_38_1, p1s_38_2, p1s_38_3] (zfun [198, 88, 203, 33, 241, 236, 202, 90, 61, 256]) (fun _ _ => none) 3000 p1s_38_4 [] 0 = true := by decide +kernel
theorem p1s_38_4_ok : aSumOk p1g_38 p1s_38_4 := aMeth_ok (zmc p1s_38_0_ok (zmc p1s_38_1_ok (zmc p1s_38_2_ok (zmc p1s_38_3_ok zm0)))) p1s_38_4_k
def p1s_38_5 : aSum := (256, (2, ([(.ofNat 0, .ofNat 0), (.ofNat 6, .ofNat 2147483647), (.ofNat 0, .ofNat 4), (.negSucc 2147483647, .negSucc 0)], ([.inr (.inr (.inr (.inl 50))), .inl (1, .ofNat 0), .inl (2, .ofNat 0), .inl (3, .ofNat 0)], ([], ([], ([], (some (.inl (0, .negSucc 0)), []))))))))
set_option maxRecDepth 100000 in
theorem p1s_38_5_k : aMeth p1g_38 [p1s_38_0, p1s_38_1, p1s_38_2, p1s_38_3, p1s_38_4] (zfun [198, 88, 203, 33, 241, 236, 202, 90, 61, 256]) (fun _ _ => none) 3000 p1s_38_5 [] 0 = true := by decide +kernel
theorem p1s_38_5_ok : aSumOk p1g_38 p1s_38_5 := aMeth_ok (zmc p1s_38_0_ok (zmc p1s_38_1_ok (zmc p1s_38_2_ok (zmc p1s_38_3_ok (zmc p1s_38_4_ok zm0))))) p1s_38_5_k
def p1s_38_6 : aSum := (256, (2, ([(.ofNat 0, .ofNat 0), (.ofNat 6, .ofNat 2147483647), (.negSucc 2147483647, .negSucc 0), (.ofNat 61, .ofNat 2147483647)], ([.inr (.inr (.inr (.inl 50))), .inl (1, .ofNat 0), .inl (2, .ofNat 0), .inl (3, .ofNat 0)], ([], ([], ([], (some (.inl (0, .negSucc 0)), []))))))))
set_option maxRecDepth 100000 in
theorem p1s_38_6_k : aMeth p1g_38 [p1s_38_0, p1s_38_1, p1s_38_2, p1s_38_3, p1s_38_4, p1s_38_5] (zfun [198, 88, 203, 33, 241, 236, 202, 90, 61, 256]) (fun _ _ => none) 3000 p1s_38_6 [] 0 = true := by decide +kernel
theorem p1s_38_6_ok : aSumOk p1g_38 p1s_38_6 := aMeth_ok (zmc p1s_38_0_ok (zmc p1s_38_1_ok (zmc p1s_38_2_ok (zmc p1s_38_3_ok (zmc p1s_38_4_ok (zmc p1s_38_5_ok zm0)))))) p1s_38_6_k
def p1s_38_7 : aSum := (256, (2, ([(.ofNat 0, .ofNat 0), (.ofNat 6, .ofNat 2147483647), (.negSucc 2147483647, .negSucc 0), (.ofNat 0, .ofNat 60)], ([.inr (.inr (.inr (.inl 50))), .inl (1, .ofNat 0), .inl (2, .ofNat 0), .inl (3, .ofNat 0)], ([], ([], ([], (some (.inl (0, .negSucc 0)), []))))))))
set_option maxRecDepth 100000 in
theorem p1s_38_7_k : aMeth p1g_38 [p1s_38_0, p1s_38_1, p1s_38_2, p1s_38_3, p1s_38_4, p1s_38_5, p1s_38_6] (zfun [198, 88, 203, 33, 241, 236, 202, 90, 61, 256]) (fun _ _ => none) 3000 p1s_38_7 [] 0 = true := by decide +kernel
theorem p1s_38_7_ok : aSumOk p1g_38 p1s_38_7 := aMeth_ok (zmc p1s_38_0_ok (zmc p1s_38_1_ok (zmc p1s_38_2_ok (zmc p1s_38_3_ok (zmc p1s_38_4_ok (zmc p1s_38_5_ok (zmc p1s_38_6_ok zm0))))))) p1s_38_7_k
def p1s_38_8 : aSum := (256, (2, ([(.ofNat 0, .ofNat 0), (.ofNat 6, .ofNat 2147483647), (.negSucc 2147483647, .negSucc 0), (.negSucc 2147483647, .negSucc 0)], ([.inr (.inr (.inr (.inl 50))), .inl (1, .ofNat 0), .inl (2, .ofNat 0), .inl (3, .ofNat 0)], ([], ([], ([], (some (.inl (0, .negSucc 0)), []))))))))
set_option maxRecDepth 100000 in
theorem p1s_38_8_k : aMeth p1g_38 [p1s_38_0, p1s_38_1, p1s_38_2, p1s_38_3, p1s_38_4, p1s_38_5, p1s_38_6, p1s_38_7] (zfun [198, 88, 203, 33, 241, 236, 202, 90, 61, 256]) (fun _ _ => none) 3000 p1s_38_8 [] 0 = true := by decide +kernel
theorem p1s_38_8_ok : aSumOk p1g_38 p1s_38_8 := aMeth_ok (zmc p1s_38_0_ok (zmc p1s_38_1_ok (zmc p1s_38_2_ok (zmc p1s_38_3_ok (zmc p1s_38_4_ok (zmc p1s_38_5_ok (zmc p1s_38_6_ok (zmc p1s_38_7_ok zm0)))))))) p1s_38_8_k
def p1s_38_9 : aSum := (256, (2, ([(.ofNat 0, .ofNat 0), (.ofNat 0, .ofNat 5), (.ofNat 5, .ofNat 2147483647), (.ofNat 61, .ofNat 2147483647)], ([.inr (.inr (.inr (.inl 50))), .inl (1, .ofNat 0), .inl (2, .ofNat 0), .inl (3, .ofNat 0)], ([], ([], ([], (some (.inl (0, .negSucc 0)), []))))))))
set_option maxRecDepth 100000 in
theorem p1s_38_9_k : aMeth p1g_38 [p1s_38_0, p1s_38_1, p1s_38_2, p1s_38_3, p1s_38_4, p1s_38_5, p1s_38_6, p1s_38_7, p1s_38_8] (zfun [198, 88, 203, 33, 241, 236, 202, 90, 61, 256]) (fun _ _ => none) 3000 p1s_38_9 [] 0 = true := by decide +kernel
theorem p1s_38_9_ok : aSumOk p1g_38 p1s_38_9 := aMeth_ok (zmc p1s_38_0_ok (zmc p1s_38_1_ok (zmc p1s_38_2_ok (zmc p1s_38_3_ok (zmc p1s_38_4_ok (zmc p1s_38_5_ok (zmc p1s_38_6_ok (zmc p1s_38_7_ok (zmc p1s_38_8_ok zm0))))))))) p1s_38_9_k
def p1s_38_10 : aSum := (256, (2, ([(.ofNat 0, .ofNat 0), (.ofNat 0, .ofNat 5), (.ofNat 5, .ofNat 2147483647), (.ofNat 0, .ofNat 60)], ([.inr (.inr (.inr (.inl 50))), .inl (1, .ofNat 0), .inl (2, .ofNat 0), .inl (3, .ofNat 0)], ([], ([], ([], (some (.inl (0, .negSucc 0)), []))))))))
set_option maxRecDepth 100000 in
theorem p1s_38_10_k : aMeth p1g_38 [p1s_38_0, p1s_38_1, p1s_38_2, p1s_38_3, p1s_38_4, p1s_38_5, p1s_38_6, p1s_38_7, p1s_38_8, p1s_38_9] (zfun [198, 88, 203, 33, 241, 236, 202, 90, 61, 256]) (fun _ _ => none) 3000 p1s_38_10 [] 0 = true := by decide +kernel
theorem p1s_38_10_ok : aSumOk p1g_38 p1s_38_10 := aMeth_ok (zmc p1s_38_0_ok (zmc p1s_38_1_ok (zmc p1s_38_2_ok (zmc p1s_38_3_ok (zmc p1s_38_4_ok (zmc p1s_38_5_ok (zmc p1s_38_6_ok (zmc p1s_38_7_ok (zmc p1s_38_8_ok (zmc p1s_38_9_ok zm0)))))))))) p1s_38_10_k
def p1s_38_11 : aSum := (256, (2, ([(.ofNat 0, .ofNat 0), (.ofNat 0, .ofNat 5), (.ofNat 5, .ofNat 2147483647), (.negSucc 2147483647, .negSucc 0)], ([.inr (.inr (.inr (.inl 50))), .inl (1, .ofNat 0), .inl (2, .ofNat 0), .inl (3, .ofNat 0)], ([], ([], ([], (some (.inl (0, .negSucc 0)), []))))))))
set_option maxRecDepth 100000 in
theorem p1s_38_11_k : aMeth p1g_38 [p1s_38_0, p1s_38_1, p1s_38_2, p1s_38_3, p1s_38_4, p1s_38_5, p1s_38_6, p1s_38_7, p1s_38_8, p1s_38_9, p1s_38_10] (zfun [198, 88, 203, 33, 241, 236, 202, 90, 61, 256]) (fun _ _ => none) 3000 p1s_38_11 [] 0 = true := by decide +kernel
theorem p1s_38_11_ok : aSumOk p1g_38 p1s_38_11 := aMeth_ok (zmc p1s_38_0_ok (zmc p1s_38_1_ok (zmc p1s_38_2_ok (zmc p1s_38_3_ok (zmc p1s_38_4_ok (zmc p1s_38_5_ok (zmc p1s_38_6_ok (zmc p1s_38_7_ok (zmc p1s_38_8_ok (zmc p1s_38_9_ok (zmc p1s_38_10_ok zm0))))))))))) p1s_38_11_k
def p1s_38_12 : aSum := (256, (2, ([(.ofNat 0, .ofNat 0), (.ofNat 0, .ofNat 5), (.ofNat 0, .ofNat 4), (.ofNat 61, .ofNat 2147483647)], ([.inr (.inr (.inr (.inl 50))), .inl (1, .ofNat 0), .inl (2, .ofNat 0), .inl (3, .ofNat 0)], ([], ([], ([], (some (.inl (0, .negSucc 0)), []))))))))
set_option maxRecDepth 100000 in
theorem p1s_38_12_k : aMeth p1g_38 [p1s_38_0, p1s_38_1, p1s_38_2, p1s_38_3, p1s_38_4, p1s_38_5, p1s_38_6, p1s_38_7, p1s_38_8, p1s_38_9, p1s_38_10, p1s_38_11] (zfun [198, 88, 203, 33, 241, 236, 202, 90, 61, 256]) (fun _ _ => none) 3000 p1s_38_12 [] 0 = true := by decide +kernel
theorem p1s_38_12_ok : aSumOk p1g_38 p1s_38_12 := aMeth_ok (zmc p1s_38_0_ok (zmc p1s_38_1_ok (zmc p1s_38_2_ok (zmc p1s_38_3_ok (zmc p1s_38_4_ok (zmc p1s_38_5_ok (zmc p1s_38_6_ok (zmc p1s_38_7_ok (zmc p1s_38_8_ok (zmc p1s_38_9_ok (zmc p1s_38_10_ok (zmc p1s_38_11_ok zm0)))))))))))) p1s_38_12_k
def p1s_38_13 : aSum := (61, (0, ([(.ofNat 0, .ofNat 0), (.ofNat 0, .ofNat 5), (.ofNat 0, .ofNat 4), (.ofNat 0, .ofNat 60)], ([.inr (.inr (.inr (.inl 45))), .inl (1, .ofNat 0), .inl (2, .ofNat 0), .inl (3, .ofNat 0)], ([], ([(46, 999), (48, 999), (49, 999)], ([], (none, []))))))))
set_option maxRecDepth 100000 in
theorem p1s_38_13_k : aMeth p1g_38 [p1s_38_0, p1s_38_1, p1s_38_2, p1s_38_3, p1s_38_4, p1s_38_5, p1s_38_6, p1s_38_7, p1s_38_8, p1s_38_9, p1s_38_10, p1s_38_11, p1s_38_12] (zfun [198, 88, 203, 33, 241, 236, 202, 90, 61, 256]) (fun _ _ => none) 3000 p1s_38_13 [(17, ([(.ofNat 0, .ofNat 0), (.ofNat 0, .ofNat 5), (.ofNat 0, .ofNat 4), (.ofNat 0, .ofNat 60), (.ofNat 0, .ofNat 60)], ([(0, .inr (.inr (.inr (.inl 45)))), (1, .inl (1, .ofNat 0)), (4, .inl (4, .ofNat 0))], ([], [(true, (0, .ofNat 17)), (true, (4, .ofNat 0))]))))] 2 = true := by decide +kernel
theorem p1s_38_13_ok : aSumOk p1g_38 p1s_38_13 := aMeth_ok (zmc p1s_38_0_ok (zmc p1s_38_1_ok (zmc p1s_38_2_ok (zmc p1s_38_3_ok (zmc p1s_38_4_ok (zmc p1s_38_5_ok (zmc p1s_38_6_ok (zmc p1s_38_7_ok (zmc p1s_38_8_ok (zmc p1s_38_9_ok (zmc p1s_38_10_ok (zmc p1s_38_11_ok (zmc p1s_38_12_ok zm0))))))))))))) p1s_38_13_k
def p1s_38_14 : aSum := (256, (2, ([(.ofNat 0, .ofNat 0), (.ofNat 0, .ofNat 5), (.ofNat 0, .ofNat 4), (.ofNat 0, .ofNat 60)], ([.inr (.inr (.inr (.inl 50))), .inl (1, .ofNat 0), .inl (2, .ofNat 0), .inl (3, .ofNat 0)], ([], ([(74, 999), (75, 999), (76, 999)], ([], (some (.inl (0, .ofNat 1)), []))))))))
set_option maxRecDepth 100000 in
theorem p1s_38_14_k : aMeth p1g_38 [p1s_38_0, p1s_38_1, p1s_38_2, p1s_38_3, p1s_38_4, p1s_38_5, p1s_38_6, p1s_38_7, p1s_38_8, p1s_38_9, p1s_38_10, p1s_38_11, p1s_38_12, p1s_38_13] (zfun [198, 88, 203, 33, 241, 236, 202, 90, 61, 256]) (fun _ _ => none) 3000 p1s_38_14 [(57, ([(.ofNat 0, .ofNat 0), (.ofNat 0, .ofNat 5), (.ofNat 0, .ofNat 4), (.ofNat 0, .ofNat 60), (.ofNat 0, .ofNat 360)], ([(0, .inr (.inr (.inr (.inl 50)))), (1, .inl (1, .ofNat 0)), (4, .inl (4, .ofNat 0))], ([], [(true, (0, .ofNat 57)), (true, (4, .ofNat 0))]))))] 2 = true := by decide +kernel
theorem p1s_38_14_ok : aSumOk p1g_38 p1s_38_14 := aMeth_ok (zmc p1s_38_0_ok (zmc p1s_38_1_ok (zmc p1s_38_2_ok (zmc p1s_38_3_ok (zmc p1s_38_4_ok (zmc p1s_38_5_ok (zmc p1s_38_6_ok (zmc p1s_38_7_ok (zmc p1s_38_8_ok (zmc p1s_38_9_ok (zmc p1s_38_10_ok (zmc p1s_38_11_ok (zmc p1s_38_12_ok (zmc p1s_38_13_ok zm0)))))))))))))) p1s_38_14_k
def p1s_38_15 : aSum := (256, (2, ([(.ofNat 0, .ofNat 0), (.ofNat 0, .ofNat 5), (.ofNat 0, .ofNat 4), (.negSucc 2147483647, .negSucc 0)], ([.inr (.inr (.inr (.inl 50))), .inl (1, .ofNat 0), .inl (2, .ofNat 0), .inl (3, .ofNat 0)], ([], ([], ([], (some (.inl (0, .negSucc 13)), []))))))))
set_option maxRecDepth 100000 in
theorem p1s_38_15_k : aMeth p1g_38 [p1s_38_0, p1s_38_1, p1s_38_2, p1s_38_3, p1s_38_4, p1s_38_5, p1s_38_6, p1s_38_7, p1s_38_8, p1s_38_9, p1s_38_10, p1s_38_11, p1s_38_12, p1s_38_13, p1s_38_14] (zfun [198, 88, 203, 33, 241, 236, 202, 90, 61, 256]) (fun _ _ => none) 3000 p1s_38_15 [] 0 = true := by decide +kernel
theorem p1s_38_15_ok : aSumOk p1g_38 p1s_38_15 := aMeth_ok (zmc p1s_38_0_ok (zmc p1s_38_1_ok (zmc p1s_38_2_ok (zmc p1s_38_3_ok (zmc p1s_38_4_ok (zmc p1s_38_5_ok (zmc p1s_38_6_ok (zmc p1s_38_7_ok (zmc p1s_38_8_ok (zmc p1s_38_9_ok (zmc p1s_38_10_ok (zmc p1s_38_11_ok (zmc p1s_38_12_ok (zmc p1s_38_13_ok (zmc p1s_38_14_ok zm0))))))))))))))) p1s_38_15_k
def p1s_38_16 : aSum := (256, (2, ([(.ofNat 0, .ofNat 0), (.ofNat 0, .ofNat 5), (.negSucc 2147483647, .negSucc 0), (.ofNat 61, .ofNat 2147483647)], ([.inr (.inr (.inr (.inl 50))), .inl (1, .ofNat 0), .inl (2, .ofNat 0), .inl (3, .ofNat 0)], ([], ([], ([], (some (.inl (0, .negSucc 0)), []))))))))
set_option maxRecDepth 100000 in
theorem p1s_38_16_k : aMeth p1g_38 [p1s_38_0, p1s_38_1, p1s_38_2, p1s_38_3, p1s_38_4, p1s_38_5, p1s_38_6, p1s_38_7, p1s_38_8, p1s_38_9, p1s_38_10, p1s_38_11, p1s_38_12, p1s_38_13, p1s_38_14, p1s_38_15] (zfun [198, 88, 203, 33, 241, 236, 202, 90, 61, 256]) (fun _ _ => none) 3000 p1s_38_16 [] 0 = true := by decide +kernel
theorem p1s_38_16_ok : aSumOk p1g_38 p1s_38_16 := aMeth_ok (zmc p1s_38_0_ok (zmc p1s_38_1_ok (zmc p1s_38_2_ok (zmc p1s_38_3_ok (zmc p1s_38_4_ok (zmc p1s_38_5_ok (zmc p1s_38_6_ok (zmc p1s_38_7_ok (zmc p1s_38_8_ok (zmc p1s_38_9_ok (zmc p1s_38_10_ok (zmc p1s_38_11_ok (zmc p1s_38_12_ok (zmc p1s_38_13_ok (zmc p1s_38_14_ok (zmc p1s_38_15_ok zm0)))))))))))))))) p1s_38_16_k
def p1s_38_17 : aSum := (256, (2, ([(.ofNat 0, .ofNat 0), (.ofNat 0, .ofNat 5), (.negSucc 2147483647, .negSucc 0), (.ofNat 0, .ofNat 60)], ([.inr (.inr (.inr (.inl 50))), .inl (1, .ofNat 0), .inl (2, .ofNat 0), .inl (3, .ofNat 0)], ([], ([], ([], (some (.inl (0, .negSucc 0)), []))))))))
set_option maxRecDepth 100000 in
theorem p1s_38_17_k : aMeth p1g_38 [p1s_38_0, p1s_38_1, p1s_38_2, p1s_38_3, p1s_38_4, p1s_38_5, p1s_38_6, p1s_38_7, p1s_38_8, p1s_38_9, p1s_38_10, p1s_38_11, p1s_38_12, p1s_38_13, p1s_38_14, p1s_38_15, p1s_38_16] (zfun [198, 88, 203, 33, 241, 236, 202, 90, 61, 256]) (fun _ _ => none) 3000 p1s_38_17 [] 0 = true := by decide +kernel
theorem p1s_38_17_ok : aSumOk p1g_38 p1s_38_17 := aMeth_ok (zmc p1s_38_0_ok (zmc p1s_38_1_ok (zmc p1s_38_2_ok (zmc p1s_38_3_ok (zmc p1s_38_4_ok (zmc p1s_38_5_ok (zmc p1s_38_6_ok (zmc p1s_38_7_ok (zmc p1s_38_8_ok (zmc p1s_38_9_ok (zmc p1s_38_10_ok (zmc p1s_38_11_ok (zmc p1s_38_12_ok (zmc p1s_38_13_ok (zmc p1s_38_14_ok (zmc p1s_38_15_ok (zmc p1s_38_16_ok zm0))))))))))))))))) p1s_38_17_k
def p1s_38_18 : aSum := (256, (2, ([(.ofNat 0, .ofNat 0), (.ofNat 0, .ofNat 5), (.negSucc 2147483647, .negSucc 0), (.negSucc 2147483647, .negSucc 0)], ([.inr (.inr (.inr (.inl 50))), .inl (1, .ofNat 0), .inl (2, .ofNat 0), .inl (3, .ofNat 0)], ([], ([], ([], (some (.inl (0, .negSucc 0)), []))))))))
set_option maxRecDepth 100000 in
theorem p1s_38_18_k : aMeth p1g_38 [p1s_38_0, p1s_38_1, p1s_38_2, p1s_38_3, p1s_38_4, p1s_38_5, p1s_38_6, p1s_38_7, p1s_38_8, p1s_38_9, p1s_38_10, p1s_38_11, p1s_38_12, p1s_38_13, p1s_38_14, p1s_38_15, p1s_38_16, p1s_38_17] (zfun [198, 88, 203, 33, 241, 236, 202, 90, 61, 256]) (fun _ _ => none) 3000 p1s_38_18 [] 0 = true := by decide +kernel
theorem p1s_38_18_ok : aSumOk p1g_38 p1s_38_18 := aMeth_ok (zmc p1s_38_0_ok (zmc p1s_38_1_ok (zmc p1s_38_2_ok (zmc p1s_38_3_ok (zmc p1s_38_4_ok (zmc p1s_38_5_ok (zmc p1s_38_6_ok (zmc p1s_38_7_ok (zmc p1s_38_8_ok (zmc p1s_38_9_ok (zmc p1s_38_10_ok (zmc p1s_38_11_ok (zmc p1s_38_12_ok (zmc p1s_38_13_ok (zmc p1s_38_14_ok (zmc p1s_38_15_ok (zmc p1s_38_16_ok (zmc p1s_38_17_ok zm0)))))))))))))))))) p1s_38_18_k
def p1s_38_19 : aSum := (256, (2, ([(.ofNat 0, .ofNat 0), (.negSucc 2147483647, .negSucc 0), (.ofNat 5, .ofNat 2147483647), (.ofNat 61, .ofNat 2147483647)], ([.inr (.inr (.inr (.inl 50))), .inl (1, .ofNat 0), .inl (2, .ofNat 0), .inl (3, .ofNat 0)], ([], ([], ([], (some (.inl (0, .negSucc 0)), []))))))))
set_option maxRecDepth 100000 in
theorem p1s_38_19_k : aMeth p1g_38 [p1s_38_0, p1s_38_1, p1s_38_2, p1s_38_3, p1s_38_4, p1s_38_5, p1s_38_6, p1s_38_7, p1s_38_8, p1s_38_9, p1s_38_10, p1s_38_11, p1s_38_12, p1s_38_13, p1s_38_14, p1s_38_15, p1s_38_16, p1s_38_17, p1s_38_18] (zfun [198, 88, 203, 33, 241, 236, 202, 90, 61, 256]) (fun _ _ => none) 3000 p1s_38_19 [] 0 = true := by decide +kernel
theorem p1s_38_19_ok : aSumOk p1g_38 p1s_38_19 := aMeth_ok (zmc p1s_38_0_ok (zmc p1s_38_1_ok (zmc p1s_38_2_ok (zmc p1s_38_3_ok (zmc p1s_38_4_ok (zmc p1s_38_5_ok (zmc p1s_38_6_ok (zmc p1s_38_7_ok (zmc p1s_38_8_ok (zmc p1s_38_9_ok (zmc p1s_38_10_ok (zmc p1s_38_11_ok (zmc p1s_38_12_ok (zmc p1s_38_13_ok (zmc p1s_38_14_ok (zmc p1s_38_15_ok (zmc p1s_38_16_ok (zmc p1s_38_17_ok (zmc p1s_38_18_ok zm0))))))))))))))))))) p1s_38_19_k
def p1s_38_20 : aSum := (256, (2, ([(.ofNat 0, .ofNat 0), (.negSucc 2147483647, .negSucc 0), (.ofNat 5, .ofNat 2147483647), (.ofNat 0, .ofNat 60)], ([.inr (.inr (.inr (.inl 50))), .inl (1, .ofNat 0), .inl (2, .ofNat 0), .inl (3, .ofNat 0)], ([], ([], ([], (some (.inl (0, .negSucc 0)), []))))))))
set_option maxRecDepth 100000 in
theorem p1s_38_20_k : aMeth p1g_38 [p1s_38_0, p1s_38_1, p1s_38_2, p1s_38_3, p1s_38_4, p1s_38_5, p1s_38_6, p1s_38_7, p1s_38_8, p1s_38_9, p1s_38_10, p1s_38_11, p1s_38_12, p1s_38_13, p1s_38_14, p1s_38_15, p1s_38_16, p1s_38_17, p1s_38_18, p1s_38_19] (zfun [198, 88, 203, 33, 241, 236, 202, 90, 61, 256]) (fun _ _ => none) 3000 p1s_38_20 [] 0 = true := by decide +kernel
theorem p1s_38_20_ok : aSumOk p1g_38 p1s_38_20 := aMeth_ok (zmc p1s_38_0_ok (zmc p1s_38_1_ok (zmc p1s_38_2_ok (zmc p1s_38_3_ok (zmc p1s_38_4_ok (zmc p1s_38_5_ok (zmc p1s_38_6_ok (zmc p1s_38_7_ok (zmc p1s_38_8_ok (zmc p1s_38_9_ok (zmc p1s_38_10_ok (zmc p1s_38_11_ok (zmc p1s_38_12_ok (zmc p1s_38_13_ok (zmc p1s_38_14_ok (zmc p1s_38_15_ok (zmc p1s_38_16_ok (zmc p1s_38_17_ok (zmc p1s_38_18_ok (zmc p1s_38_19_ok zm0)))))))))))))))))))) p1s_38_20_k
def p1s_38_21 : aSum := (256, (2, ([(.ofNat 0, .ofNat 0), (.negSucc 2147483647, .negSucc 0), (.ofNat 5, .ofNat 2147483647), (.negSucc 2147483647, .negSucc 0)], ([.inr (.inr (.inr (.inl 50))), .inl (1, .ofNat 0), .inl (2, .ofNat 0), .inl (3, .ofNat 0)], ([], ([], ([], (some (.inl (0, .negSucc 0)), []))))))))
set_option maxRecDepth 100000 in
theorem p1s_38_21_k : aMeth p1g_38 [p1s_38_0, p1s_38_1, p1s_38_2, p1s_38_3, p1s_38_4, p1s_38_5, p1s_38_6, p1s_38_7, p1s_38_8, p1s_38_9, p1s_38_10, p1s_38_11, p1s_38_12, p1s_38_13, p1s_38_14, p1s_38_15, p1s_38_16, p1s_38_17, p1s_38_18, p1s_38_19, p1s_38_20] (zfun [198, 88, 203, 33, 241, 236, 202, 90, 61, 256]) (fun _ _ => none) 3000 p1s_38_21 [] 0 = true := by decide +kernel
theorem p1s_38_21_ok : aSumOk p1g_38 p1s_38_21 := aMeth_ok (zmc p1s_38_0_ok (zmc p1s_38_1_ok (zmc p1s_38_2_ok (zmc p1s_38_3_ok (zmc p1s_38_4_ok (zmc p1s_38_5_ok (zmc p1s_38_6_ok (zmc p1s_38_7_ok (zmc p1s_38_8_ok (zmc p1s_38_9_ok (zmc p1s_38_10_ok (zmc p1s_38_11_ok (zmc p1s_38_12_ok (zmc p1s_38_13_ok (zmc p1s_38_14_ok (zmc p1s_38_15_ok (zmc p1s_38_16_ok (zmc p1s_38_17_ok (zmc p1s_38_18_ok (zmc p1s_38_19_ok (zmc p1s_38_20_ok zm0))))))))))))))))))))) p1s_38_21_k
def p1s_38_22 : aSum := (256, (2, ([(.ofNat 0, .ofNat 0), (.negSucc 2147483647, .negSucc 0), (.ofNat 0, .ofNat 4), (.ofNat 61, .ofNat 2147483647)], ([.inr (.inr (.inr (.inl 50))), .inl (1, .ofNat 0), .inl (2, .ofNat 0), .inl (3, .ofNat 0)], ([], ([], ([], (some (.inl (0, .negSucc 0)), []))))))))
set_option maxRecDepth 100000 in
theorem p1s_38_22_k : aMeth p1g_38 [p1s_38_0, p1s_38_1, p1s_38_2, p1s_38_3, p1s_38_4, p1s_38_5, p1s_38_6, p1s_38_7, p1s_38_8, p1s_38_9, p1s_38_10, p1s_38_11, p1s_38_12, p1s_38_13, p1s_38_14, p1s_38_15, p1s_38_16, p1s_38_17, p1s_38_18, p1s_38_19, p1s_38_20, p1s_38_21] (zfun [198, 88, 203, 33, 241, 236, 202, 90, 61, 256]) (fun _ _ => none) 3000 p1s_38_22 [] 0 = true := by decide +kernel
theorem p1s_38_22_ok : aSumOk p1g_38 p1s_38_22 := aMeth_ok (zmc p1s_38_0_ok (zmc p1s_38_1_ok (zmc p1s_38_2_ok (zmc p1s_38_3_ok (zmc p1s_38_4_ok (zmc p1s_38_5_ok (zmc p1s_38_6_ok (zmc p1s_38_7_ok (zmc p1s_38_8_ok (zmc p1s_38_9_ok (zmc p1s_38_10_ok (zmc p1s_38_11_ok (zmc p1s_38_12_ok (zmc p1s_38_13_ok (zmc p1s_38_14_ok (zmc p1s_38_15_ok (zmc p1s_38_16_ok (zmc p1s_38_17_ok (zmc p1s_38_18_ok (zmc p1s_38_19_ok (zmc p1s_38_20_ok (zmc p1s_38_21_ok zm0)))))))))))))))))))))) p1s_38_22_k
def p1s_38_23 : aSum := (256, (2, ([(.ofNat 0, .ofNat 0), (.negSucc 2147483647, .negSucc 0), (.ofNat 0, .ofNat 4), (.ofNat 0, .ofNat 60)], ([.inr (.inr (.inr (.inl 50))), .inl (1, .ofNat 0), .inl (2, .ofNat 0), .inl (3, .ofNat 0)], ([], ([], ([], (some (.inl (0, .negSucc 0)), []))))))))
set_option maxRecDepth 100000 in
theorem p1s_38_23_k : aMeth p1g_38 [p1s_38_0, p1s_38_1, p1s_38_2, p1s_38_3, p1s_38_4, p1s_38_5, p1s_38_6, p1s_38_7, p1s_38_8, p1s_38_9, p1s_38_10, p1s_38_11, p1s_38_12, p1s_38_13, p1s_38_14, p1s_38_15, p1s_38_16, p1s_38_17, p1s_38_18, p1s_38_19, p1s_38_20, p1s_38_21, p1s_38_22] (zfun [198, 88, 203, 33, 241, 236, 202, 90, 61, 256]) (fun _ _ => none) 3000 p1s_38_23 [] 0 = true := by decide +kernel
theorem p1s_38_23_ok : aSumOk p1g_38 p1s_38_23 := aMeth_ok (zmc p1s_38_0_ok (zmc p1s_38_1_ok (zmc p1s_38_2_ok (zmc p1s_38_3_ok (zmc p1s_38_4_ok (zmc p1s_38_5_ok (zmc p1s_38_6_ok (zmc p1s_38_7_ok (zmc p1s_38_8_ok (zmc p1s_38_9_ok (zmc p1s_38_10_ok (zmc p1s_38_11_ok (zmc p1s_38_12_ok (zmc p1s_38_13_ok (zmc p1s_38_14_ok (zmc p1s_38_15_ok (zmc p1s_38_16_ok (zmc p1s_38_17_ok (zmc p1s_38_18_ok (zmc p1s_38_19_ok (zmc p1s_38_20_ok (zmc p1s_38_21_ok (zmc p1s_38_22_ok zm0))))))))))))))))))))))) p1s_38_23_k
def p1s_38_24 : aSum := (256, (2, ([(.ofNat 0, .ofNat 0), (.negSucc 2147483647, .negSucc 0), (.ofNat 0, .ofNat 4), (.negSucc 2147483647, .negSucc 0)], ([.inr (.inr (.inr (.inl 50))), .inl (1, .ofNat 0), .inl (2, .ofNat 0), .inl (3, .ofNat 0)], ([], ([], ([], (some (.inl (0, .negSucc 0)), []))))))))
set_option maxRecDepth 100000 in
theorem p1s_38_24_k : aMeth p1g_38 [p1s_38_0, p1s_38_1, p1s_38_2, p1s_38_3, p1s_38_4, p1s_38_5, p1s_38_6, p1s_38_7, p1s_38_8, p1s_38_9, p1s_38_10, p1s_38_11, p1s_38_12, p1s_38_13, p1s_38_14, p1s_38_15, p1s_38_16, p1s_38_17, p1s_38_18, p1s_38_19, p1s_38_20, p1s_38_21, p1s_38_22, p1s_38_23] (zfun [198, 88, 203, 33, 241, 236, 202, 90, 61, 256]) (fun _ _ => none) 3000 p1s_38_24 [] 0 = true := by decide +kernel
theorem p1s_38_24_ok : aSumOk p1g_38 p1s_38_24 := aMeth_ok (zmc p1s_38_0_ok (zmc p1s_38_1_ok (zmc p1s_38_2_ok (zmc p1s_38_3_ok (zmc p1s_38_4_ok (zmc p1s_38_5_ok (zmc p1s_38_6_ok (zmc p1s_38_7_ok (zmc p1s_38_8_ok (zmc p1s_38_9_ok (zmc p1s_38_10_ok (zmc p1s_38_11_ok (zmc p1s_38_12_ok (zmc p1s_38_13_ok (zmc p1s_38_14_ok (zmc p1s_38_15_ok (zmc p1s_38_16_ok (zmc p1s_38_17_ok (zmc p1s_38_18_ok (zmc p1s_38_19_ok (zmc p1s_38_20_ok (zmc p1s_38_21_ok (zmc p1s_38_22_ok (zmc p1s_38_23_ok zm0)))))))))))))))))))))))) p1s_38_24_k
def p1s_38_25 : aSum := (256, (2, ([(.ofNat 0, .ofNat 0), (.negSucc 2147483647, .negSucc 0), (.negSucc 2147483647, .negSucc 0), (.ofNat 61, .ofNat 2147483647)], ([.inr (.inr (.inr (.inl 50))), .inl (1, .ofNat 0), .inl (2, .ofNat 0), .inl (3, .ofNat 0)], ([], ([], ([], (some (.inl (0, .negSucc 0)), []))))))))
set_option maxRecDepth 100000 in
theorem p1s_38_25_k : aMeth p1g_38 [p1s_38_0, p1s_38_1, p1s_38_2, p1s_38_3, p1s_38_4, p1s_38_5, p1s_38_6, p1s_38_7, p1s_38_8, p1s_38_9, p1s_38_10, p1s_38_11, p1s_38_12, p1s_38_13, p1s_38_14, p1s_38_15, p1s_38_16, p1s_38_17, p1s_38_18, p1s_38_19, p1s_38_20, p1s_38_21, p1s_38_22, p1s_38_23, p1s_38_24] (zfun [198, 88, 203, 33, 241, 236, 202, 90, 61, 256]) (fun _ _ => none) 3000 p1s_38_25 [] 0 = true := by decide +kernel
theorem p1s_38_25_ok : aSumOk p1g_38 p1s_38_25 := aMeth_ok (zmc p1s_38_0_ok (zmc p1s_38_1_ok (zmc p1s_38_2_ok (zmc p1s_38_3_ok (zmc p1s_38_4_ok (zmc p1s_38_5_ok (zmc p1s_38_6_ok (zmc p1s_38_7_ok (zmc p1s_38_8_ok (zmc p1s_38_9_ok (zmc p1s_38_10_ok (zmc p1s_38_11_ok (zmc p1s_38_12_ok (zmc p1s_38_13_ok (zmc p1s_38_14_ok (zmc p1s_38_15_ok (zmc p1s_38_16_ok (zmc p1s_38_17_ok (zmc p1s_38_18_ok (zmc p1s_38_19_ok (zmc p1s_38_20_ok (zmc p1s_38_21_ok (zmc p1s_38_22_ok (zmc p1s_38_23_ok (zmc p1s_38_24_ok zm0))))))))))))))))))))))))) p1s_38_25_k
def p1s_38_26 : aSum := (256, (2, ([(.ofNat 0, .ofNat 0), (.negSucc 2147483647, .negSucc 0), (.negSucc 2147483647, .negSucc 0), (.ofNat 0, .ofNat 60)], ([.inr (.inr (.inr (.inl 50))), .inl (1, .ofNat 0), .inl (2, .ofNat 0), .inl (3, .ofNat 0)], ([], ([], ([], (some (.inl (0, .negSucc 0)), []))))))))
set_option maxRecDepth 100000 in
theorem p1s_38_26_k : aMeth p1g_38 [p1s_38_0, p1s_38_1, p1s_38_2, p1s_38_3, p1s_38_4, p1s_38_5, p1s_38_6, p1s_38_7, p1s_38_8, p1s_38_9, p1s_38_10, p1s_38_11, p1s_38_12, p1s_38_13, p1s_38_14, p1s_38_15, p1s_38_16, p1s_38_17, p1s_38_18, p1s_38_19, p1s_38_20, p1s_38_21, p1s_38_22, p1s_38_23, p1s_38_24, p1s_38_25] (zfun [198, 88, 203, 33, 241, 236, 202, 90, 61, 256]) (fun _ _ => none) 3000 p1s_38_26 [] 0 = true := by decide +kernel
theorem p1s_38_26_ok : aSumOk p1g_38 p1s_38_26 := aMeth_ok (zmc p1s_38_0_ok (zmc p1s_38_1_ok (zmc p1s_38_2_ok (zmc p1s_38_3_ok (zmc p1s_38_4_ok (zmc p1s_38_5_ok (zmc p1s_38_6_ok (zmc p1s_38_7_ok (zmc p1s_38_8_ok (zmc p1s_38_9_ok (zmc p1s_38_10_ok (zmc p1s_38_11_ok (zmc p1s_38_12_ok (zmc p1s_38_13_ok (zmc p1s_38_14_ok (zmc p1s_38_15_ok (zmc p1s_38_16_ok (zmc p1s_38_17_ok (zmc p1s_38_18_ok (zmc p1s_38_19_ok (zmc p1s_38_20_ok (zmc p1s_38_21_ok (zmc p1s_38_22_ok (zmc p1s_38_23_ok (zmc p1s_38_24_ok (zmc p1s_38_25_ok zm0)))))))))))))))))))))))))) p1s_38_26_k
def p1s_38_27 : aSum := (256, (2, ([(.ofNat 0, .ofNat 0), (.negSucc 2147483647, .negSucc 0), (.negSucc 2147483647, .negSucc 0), (.negSucc 2147483647, .negSucc 0)], ([.inr (.inr (.inr (.inl 50))), .inl (1, .ofNat 0), .inl (2, .ofNat 0), .inl (3, .ofNat 0)], ([], ([], ([], (some (.inl (0, .negSucc 0)), []))))))))
set_option maxRecDepth 100000 in
theorem p1s_38_27_k : aMeth p1g_38 [p1s_38_0, p1s_38_1, p1s_38_2, p1s_38_3, p1s_38_4, p1s_38_5, p1s_38_6, p1s_38_7, p1s_38_8, p1s_38_9, p1s_38_10, p1s_38_11, p1s_38_12, p1s_38_13, p1s_38_14, p1s_38_15, p1s_38_16, p1s_38_17, p1s_38_18, p1s_38_19, p1s_38_20, p1s_38_21, p1s_38_22, p1s_38_23, p1s_38_24, p1s_38_25, p1s_38_26] (zfun [198, 88, 203, 33, 241, 236, 202, 90, 61, 256]) (fun _ _ => none) 3000 p1s_38_27 [] 0 = true := by decide +kernel
theorem p1s_38_27_ok : aSumOk p1g_38 p1s_38_27 := aMeth_ok (zmc p1s_38_0_ok (zmc p1s_38_1_ok (zmc p1s_38_2_ok (zmc p1s_38_3_ok (zmc p1s_38_4_ok (zmc p1s_38_5_ok (zmc p1s_38_6_ok (zmc p1s_38_7_ok (zmc p1s_38_8_ok (zmc p1s_38_9_ok (zmc p1s_38_10_ok (zmc p1s_38_11_ok (zmc p1s_38_12_ok (zmc p1s_38_13_ok (zmc p1s_38_14_ok (zmc p1s_38_15_ok (zmc p1s_38_16_ok (zmc p1s_38_17_ok (zmc p1s_38_18_ok (zmc p1s_38_19_ok (zmc p1s_38_20_ok (zmc p1s_38_21_ok (zmc p1s_38_22_ok (zmc p1s_38_23_ok (zmc p1s_38_24_ok (zmc p1s_38_25_ok (zmc p1s_38_26_ok zm0))))))))))))))))))))))))))) p1s_38_27_k
def p1f_38 : List (aK × aA) := [((1001, (0, .ofNat 0)), (0, .ofNat 6))]
set_option maxRecDepth 100000 in
theorem p1c_38_k : aRun p1g_38 zAllW [p1s_38_0, p1s_38_1, p1s_38_2, p1s_38_3, p1s_38_4, p1s_38_5, p1s_38_6, p1s_38_7, p1s_38_8, p1s_38_9, p1s_38_10, p1s_38_11, p1s_38_12, p1s_38_13, p1s_38_14, p1s_38_15, p1s_38_16, p1s_38_17, p1s_38_18, p1s_38_19, p1s_38_20, p1s_38_21, p1s_38_22, p1s_38_23, p1s_38_24, p1s_38_25, p1s_38_26, p1s_38_27] (zfun [198, 88, 203, 33, 241, 236, 202, 90, 61, 256]) (zspl [((0, 1264), (.inr (1000, 1), [.negSucc 0, .ofNat 5])), ((0, 1269), (.inr (1000, 2), [.negSucc 0, .ofNat 4])), ((0, 1274), (.inr (1000, 3), [.negSucc 0, .ofNat 60]))]) 1314 (fun _ _ _ _ => none) 40 0 true 1258 [] zLV ([(.ofNat 0, .ofNat 0)], ([], ([], p1f_38))) zR1 = true := by decide +kernel
theorem p1c_38_ok {sc : zC} (h6 : sc.1 = 6) (hs : ∀ j, zIn (sc.2 j)) : zR sc 40 0 1258 [] [(0, zS 5), (1, zP 0), (2, zP 50), (3, zI 0)] 78 5571 zSH zF0 zQ1 := zlaw_c h6 hs (L := p1o_38) (by decide +kernel) (zmc p1s_38_0_ok (zmc p1s_38_1_ok (zmc p1s_38_2_ok (zmc p1s_38_3_ok (zmc p1s_38_4_ok (zmc p1s_38_5_ok (zmc p1s_38_6_ok (zmc p1s_38_7_ok (zmc p1s_38_8_ok (zmc p1s_38_9_ok (zmc p1s_38_10_ok (zmc p1s_38_11_ok (zmc p1s_38_12_ok (zmc p1s_38_13_ok (zmc p1s_38_14_ok (zmc p1s_38_15_ok (zmc p1s_38_16_ok (zmc p1s_38_17_ok (zmc p1s_38_18_ok (zmc p1s_38_19_ok (zmc p1s_38_20_ok (zmc p1s_38_21_ok (zmc p1s_38_22_ok (zmc p1s_38_23_ok (zmc p1s_38_24_ok (zmc p1s_38_25_ok (zmc p1s_38_26_ok (zmc p1s_38_27_ok zm0)))))))))))))))))))))))))))) (by decide +kernel) p1c_38_k
def p1o_39 : List (Nat × List (Nat × aI)) := []
def p1g_39 : aG := gOv p1o_39 zG0
def p1f_39 : List (aK × aA) := [((1001, (0, .ofNat 0)), (0, .ofNat 6))]
set_option maxRecDepth 100000 in
theorem p1c_39_k : aRun p1g_39 zAllW [] (zfun [198, 88, 203, 33, 241, 236, 202, 90]) (zspl []) 600 (fun _ _ _ _ => none) 40 0 true 1301 [] zLV ([(.ofNat 0, .ofNat 0)], ([], ([], p1f_39))) zR1 = true := by decide +kernel
theorem p1c_39_ok {sc : zC} (h6 : sc.1 = 6) (hs : ∀ j, zIn (sc.2 j)) : zR sc 40 0 1301 [] [(0, zS 5), (1, zP 0), (2, zP 50), (3, zI 0)] 78 5571 zSH zF0 zQ1 := zlaw_c h6 hs (L := p1o_39) (by decide +kernel) zm0 (by decide +kernel) p1c_39_k
def p1o_40 : List (Nat × List (Nat × aI)) := []
def p1g_40 : aG := gOv p1o_40 zG0
def p1f_40 : List (aK × aA) := [((1001, (0, .ofNat 0)), (0, .ofNat 6))]
set_option maxRecDepth 100000 in
theorem p1c_40_k : aRun p1g_40 zAllW [] (zfun [198, 88, 203, 33, 241, 236, 202, 90]) (zspl []) 600 (fun _ _ _ _ => none) 40 0 true 1374 [] zLV ([(.ofNat 0, .ofNat 0)], ([], ([], p1f_40))) zR1 = true := by decide +kernel
theorem p1c_40_ok {sc : zC} (h6 : sc.1 = 6) (hs : ∀ j, zIn (sc.2 j)) : zR sc 40 0 1374 [] [(0, zS 5), (1, zP 0), (2, zP 50), (3, zI 0)] 78 5571 zSH zF0 zQ1 := zlaw_c h6 hs (L := p1o_40) (by decide +kernel) zm0 (by decide +kernel) p1c_40_k
def p1o_41 : List (Nat × List (Nat × aI)) := []
def p1g_41 : aG := gOv p1o_41 zG0
def p1f_41 : List (aK × aA) := [((1001, (0, .ofNat 0)), (0, .ofNat 6))]
set_option maxRecDepth 100000 in
theorem p1c_41_k : aRun p1g_41 zAllW [] (zfun [198, 88, 203, 33, 241, 236, 202, 90]) (zspl []) 600 (fun _ _ _ _ => none) 40 0 true 1408 [] zLV ([(.ofNat 0, .ofNat 0)], ([], ([], p1f_41))) zR1 = true := by decide +kernel
theorem p1c_41_ok {sc : zC} (h6 : sc.1 = 6) (hs : ∀ j, zIn (sc.2 j)) : zR sc 40 0 1408 [] [(0, zS 5), (1, zP 0), (2, zP 50), (3, zI 0)] 78 5571 zSH zF0 zQ1 := zlaw_c h6 hs (L := p1o_41) (by decide +kernel) zm0 (by decide +kernel) p1c_41_k
def p1o_42 : List (Nat × List (Nat × aI)) := []
def p1g_42 : aG := gOv p1o_42 zG0
def p1f_42 : List (aK × aA) := [((1001, (0, .ofNat 0)), (0, .ofNat 6))]
set_option maxRecDepth 100000 in
theorem p1c_42_k : aRun p1g_42 zAllW [] (zfun [198, 88, 203, 33, 241, 236, 202, 90]) (zspl []) 600 (fun _ _ _ _ => none) 40 0 true 1471 [] zLV ([(.ofNat 0, .ofNat 0)], ([], ([], p1f_42))) zR1 = true := by decide +kernel
theorem p1c_42_ok {sc : zC} (h6 : sc.1 = 6) (hs : ∀ j, zIn (sc.2 j)) : zR sc 40 0 1471 [] [(0, zS 5), (1, zP 0), (2, zP 50), (3, zI 0)] 78 5571 zSH zF0 zQ1 := zlaw_c h6 hs (L := p1o_42) (by decide +kernel) zm0 (by decide +kernel) p1c_42_k
def p1o_43 : List (Nat × List (Nat × aI)) := []
def p1g_43 : aG := gOv p1o_43 zG0
def p1f_43 : List (aK × aA) := [((1001, (0, .ofNat 0)), (0, .ofNat 6))]
set_option maxRecDepth 100000 in
theorem p1c_43_k : aRun p1g_43 zAllW [] (zfun [198, 88, 203, 33, 241, 236, 202, 90]) (zspl [((0, 1510), (.inr (1000, 1), [.negSucc 0, .ofNat 5]))]) 600 (fun _ _ _ _ => none) 40 0 true 1504 [] zLV ([(.ofNat 0, .ofNat 0)], ([], ([], p1f_43))) zR1 = true := by decide +kernel
theorem p1c_43_ok {sc : zC} (h6 : sc.1 = 6) (hs : ∀ j, zIn (sc.2 j)) : zR sc 40 0 1504 [] [(0, zS 5), (1, zP 0), (2, zP 50), (3, zI 0)] 78 5571 zSH zF0 zQ1 := zlaw_c h6 hs (L := p1o_43) (by decide +kernel) zm0 (by decide +kernel) p1c_43_k
