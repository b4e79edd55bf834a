noncomputable section
/-- MaidsMemory$Law answer -/
def wS_142 : aSum := (29, (1, ([(.ofNat 0, .ofNat 0), (.negSucc 2147483647, .ofNat 2147483647), (.negSucc 2147483647, .ofNat 2147483647), (.negSucc 2147483647, .ofNat 2147483647), (.negSucc 2147483647, .ofNat 2147483647), (.negSucc 2147483647, .ofNat 2147483647), (.negSucc 2147483647, .ofNat 2147483647)], ([.inr (.inr (.inr (.inl 22))), .inl (1, .ofNat 0), .inl (2, .ofNat 0), .inl (3, .ofNat 0), .inl (4, .ofNat 0), .inl (5, .ofNat 0), .inl (6, .ofNat 0)], ([], ([(22, 4), (24, 999), (25, 999)], ([(.negSucc 2147483647, .ofNat 2147483647)], (some (.inl (7, .ofNat 0)), ([], [])))))))))
set_option maxRecDepth 100000 in
theorem wS_142_k : aMeth wG [] (zfun []) (fun _ _ => none) 4000 wS_142 [(65, ([(.ofNat 0, .ofNat 0), (.negSucc 2147483647, .ofNat 2147483647), (.negSucc 2147483647, .ofNat 2147483647), (.negSucc 2147483647, .ofNat 2147483647), (.negSucc 2147483647, .ofNat 2147483647), (.negSucc 2147483647, .ofNat 2147483647), (.negSucc 2147483647, .ofNat 2147483647), (.ofNat 0, .ofNat 1), (.ofNat 0, .ofNat 121)], ([(0, .inr (.inr (.inr (.inl 22)))), (7, .inl (7, .ofNat 0)), (8, .inl (8, .ofNat 0))], (([], []), [(true, (0, .ofNat 65)), (true, (8, .ofNat 0))]))))] 2 = true := by decide +kernel
theorem wS_142_ok : aSumOk wG wS_142 := aMeth_ok zm0 wS_142_k
/-- MaidsMemory$Street putAway -/
def wS_143 : aSum := (91, (2, ([(.ofNat 0, .ofNat 0), (.ofNat 0, .ofNat 23)], ([.inr (.inr (.inr (.inl 7))), .inr (.inr (.inr (.inl 22))), .inl (1, .ofNat 0)], ([], ([(9, 999), (10, 999), (11, 999), (22, 4), (24, 999), (25, 999)], ([(.negSucc 2147483647, .ofNat 2147483647)], (some (.inl (2, .ofNat 0)), ([], [])))))))))
set_option maxRecDepth 100000 in
theorem wS_143_k : aMeth wG [wS_142] (zfun [29]) (fun _ _ => none) 4000 wS_143 [(15, ([(.ofNat 0, .ofNat 0), (.ofNat 0, .ofNat 23), (.ofNat 0, .ofNat 5), (.negSucc 2147483647, .ofNat 2147483647), (.ofNat 0, .ofNat 7)], ([(0, .inr (.inr (.inr (.inl 7)))), (1, .inr (.inr (.inr (.inl 22)))), (2, .inl (1, .ofNat 0)), (3, .inl (2, .ofNat 0)), (4, .inl (3, .ofNat 0)), (5, .inl (4, .ofNat 0))], (([], []), [(true, (0, .ofNat 15)), (true, (4, .ofNat 0))]))))] 2 = true := by decide +kernel
theorem wS_143_ok : aSumOk wG wS_143 := aMeth_ok (zmc wS_142_ok zm0) wS_143_k
/-- MaidsMemory$Street goHome -/
def wS_144 : aSum := (94, (2, ([(.ofNat 0, .ofNat 0)], ([.inr (.inr (.inr (.inl 7)))], ([], ([(8, 999), (9, 999), (10, 999), (11, 999)], ([], (none, ([], [])))))))))
set_option maxRecDepth 100000 in
theorem wS_144_k : aMeth wG [] (zfun []) (fun _ _ => none) 4000 wS_144 [(2, ([(.ofNat 0, .ofNat 0), (.ofNat 0, .ofNat 7)], ([(0, .inr (.inr (.inr (.inl 7)))), (1, .inl (1, .ofNat 0))], (([], []), [(true, (0, .ofNat 2)), (true, (1, .ofNat 0)), (true, (0, .negSucc 0)), (true, (0, .negSucc 0))])))),
  (12, ([(.ofNat 0, .ofNat 0), (.ofNat 0, .ofNat 6), (.ofNat 0, .ofNat 24)], ([(0, .inr (.inr (.inr (.inl 7)))), (1, .inl (1, .ofNat 0)), (2, .inl (2, .ofNat 0))], (([], []), [(true, (0, .ofNat 2)), (true, (1, .ofNat 0)), (true, (0, .ofNat 12)), (true, (2, .ofNat 0))]))))] 4 = true := by decide +kernel
theorem wS_144_ok : aSumOk wG wS_144 := aMeth_ok zm0 wS_144_k
/-- MaidsMemory$Street live -/
def wS_145 : aSum := (90, (3, ([(.ofNat 0, .ofNat 0)], ([.inr (.inr (.inr (.inl 7))), .inr (.inr (.inr (.inl 22)))], ([], ([(8, 999), (9, 999), (10, 999), (11, 999), (22, 4), (24, 999), (25, 999)], ([(.negSucc 2147483647, .ofNat 2147483647)], (some (.inl (1, .ofNat 0)), ([], [])))))))))
set_option maxRecDepth 100000 in
theorem wS_145_k : aMeth wG [wS_143, wS_144] (zfun [91, 94]) (fun _ _ => none) 4000 wS_145 [(4, ([(.ofNat 0, .ofNat 0), (.negSucc 2147483647, .ofNat 2147483647), (.ofNat 0, .ofNat 24)], ([(0, .inr (.inr (.inr (.inl 7)))), (1, .inr (.inr (.inr (.inl 22)))), (2, .inl (1, .ofNat 0)), (3, .inl (2, .ofNat 0))], (([], []), [(true, (0, .ofNat 4)), (true, (2, .ofNat 0))]))))] 2 = true := by decide +kernel
theorem wS_145_ok : aSumOk wG wS_145 := aMeth_ok (zmc wS_143_ok (zmc wS_144_ok zm0)) wS_145_k
/-- MaidsMemory$Street passDays -/
def wS_146 : aSum := (88, (4, ([(.ofNat 0, .ofNat 0), (.ofNat 0, .ofNat 60)], ([.inr (.inr (.inr (.inl 7))), .inr (.inr (.inr (.inl 22))), .inl (1, .ofNat 0)], ([], ([(8, 999), (9, 999), (10, 999), (11, 999), (12, 999), (22, 4), (24, 999), (25, 999)], ([(.negSucc 2147483647, .ofNat 2147483647)], (some (.inl (2, .ofNat 0)), ([], [])))))))))
set_option maxRecDepth 100000 in
theorem wS_146_k : aMeth wG [wS_145] (zfun [90]) (fun _ _ => none) 4000 wS_146 [(5, ([(.ofNat 0, .ofNat 0), (.ofNat 0, .ofNat 60), (.negSucc 2147483647, .ofNat 2147483647), (.ofNat 0, .ofNat 60)], ([(0, .inr (.inr (.inr (.inl 7)))), (1, .inr (.inr (.inr (.inl 22)))), (2, .inl (1, .ofNat 0)), (3, .inl (2, .ofNat 0)), (4, .inl (3, .ofNat 0))], (([], []), [(true, (0, .ofNat 5)), (true, (3, .ofNat 0))]))))] 2 = true := by decide +kernel
theorem wS_146_ok : aSumOk wG wS_146 := aMeth_ok (zmc wS_145_ok zm0) wS_146_k
/-- MaidsMemory later -/
def wS_147 : aSum := (126, (6, ([(.ofNat 0, .ofNat 0), (.negSucc 2147483647, .ofNat 2147483647), (.negSucc 2147483647, .ofNat 2147483647), (.negSucc 2147483647, .ofNat 2147483647)], ([.inr (.inr (.inr (.inl 0))), .inl (1, .ofNat 0), .inl (2, .ofNat 0), .inl (3, .ofNat 0)], ([], ([(7, 0), (7, 1), (8, 999), (9, 999), (10, 999), (11, 999), (12, 999), (22, 4), (24, 999), (25, 999)], ([(.negSucc 2147483647, .ofNat 2147483647)], (some (.inl (4, .ofNat 0)), ([], [])))))))))
set_option maxRecDepth 100000 in
theorem wS_147_k : aMeth wG [wS_146] (zfun [88]) (fun _ _ => none) 4000 wS_147 [] 0 = true := by decide +kernel
theorem wS_147_ok : aSumOk wG wS_147 := aMeth_ok (zmc wS_146_ok zm0) wS_147_k
/-- MaidsMemoryModel workOut -/
def wS_148 : aSum := (196, (43, ([(.ofNat 0, .ofNat 0), (.ofNat 0, .ofNat 120)], ([.inr (.inr (.inr (.inl 50))), .inl (0, .ofNat 0), .inl (1, .ofNat 0)], ([], ([(50, 13), (50, 14), (50, 15), (50, 16), (50, 17)], ([(.negSucc 2147483647, .ofNat 2147483647)], (some (.inl (2, .ofNat 0)), ([], [])))))))))
set_option maxRecDepth 100000 in
theorem wS_148_k : aMeth wG [wS_139] (zfun [189]) (fun _ _ => none) 4000 wS_148 [(33, ([(.ofNat 0, .ofNat 0), (.ofNat 0, .ofNat 120), (.ofNat 0, .ofNat 1), (.negSucc 2147483647, .ofNat 2147483647), (.ofNat 0, .ofNat 1), (.ofNat 0, .ofNat 120), (.ofNat 0, .ofNat 6)], ([(0, .inr (.inr (.inr (.inl 50)))), (3, .inl (2, .ofNat 0)), (4, .inl (3, .ofNat 0)), (5, .inl (4, .ofNat 0))], (([((50, (0, .ofNat 14)), (5, .ofNat 0)), ((50, (0, .ofNat 17)), (6, .ofNat 0))], []), [(true, (0, .ofNat 33)), (false, (4, .ofNat 0)), (true, (5, .ofNat 0))]))))] 3 = true := by decide +kernel
theorem wS_148_ok : aSumOk wG wS_148 := aMeth_ok (zmc wS_139_ok zm0) wS_148_k
/-- MaidsMemoryModel goesHome -/
def wS_149 : aSum := (201, (0, ([(.ofNat 0, .ofNat 0), (.ofNat 0, .ofNat 6)], ([.inr (.inr (.inr (.inl 50))), .inl (1, .ofNat 0)], ([], ([(50, 27), (59, 999), (61, 999)], ([], (none, ([], [])))))))))
set_option maxRecDepth 100000 in
theorem wS_149_k : aMeth wG [] (zfun []) (fun _ _ => none) 4000 wS_149 [(12, ([(.ofNat 0, .ofNat 0), (.ofNat 0, .ofNat 6), (.ofNat 0, .ofNat 3), (.ofNat 0, .ofNat 24)], ([(0, .inr (.inr (.inr (.inl 50)))), (1, .inl (1, .ofNat 0)), (2, .inl (2, .ofNat 0)), (3, .inl (3, .ofNat 0))], (([], []), [(true, (0, .ofNat 12)), (true, (3, .ofNat 0))]))))] 2 = true := by decide +kernel
theorem wS_149_ok : aSumOk wG wS_149 := aMeth_ok zm0 wS_149_k
/-- MaidsMemoryModel goesDay -/
def wS_150 : aSum := (202, (45, ([(.ofNat 0, .ofNat 0)], ([.inr (.inr (.inr (.inl 50)))], ([], ([(50, 13), (50, 14), (50, 15), (50, 16), (50, 17), (50, 24), (50, 25), (50, 26), (50, 27), (58, 999), (59, 999), (60, 999), (61, 999)], ([], (none, ([], [])))))))))
set_option maxRecDepth 100000 in
theorem wS_150_k : aMeth wG [wS_22, wS_148, wS_149] (zfun [196, 199, 201]) (fun _ _ => none) 4000 wS_150 [(17, ([(.ofNat 0, .ofNat 0), (.ofNat 0, .ofNat 24)], ([(0, .inr (.inr (.inr (.inl 50)))), (1, .inl (1, .ofNat 0))], (([], []), [(true, (0, .ofNat 17)), (true, (1, .ofNat 0)), (true, (0, .negSucc 0)), (true, (0, .negSucc 0))])))),
  (36, ([(.ofNat 0, .ofNat 0), (.ofNat 0, .ofNat 23), (.negSucc 2147483647, .ofNat 2147483647), (.ofNat 0, .ofNat 7)], ([(0, .inr (.inr (.inr (.inl 50)))), (1, .inl (1, .ofNat 0)), (2, .inl (2, .ofNat 0)), (3, .inl (3, .ofNat 0))], (([], []), [(true, (0, .ofNat 17)), (true, (1, .ofNat 0)), (true, (0, .ofNat 36)), (true, (3, .ofNat 0))])))),
  (195, ([(.ofNat 0, .ofNat 0), (.ofNat 0, .ofNat 7)], ([(0, .inr (.inr (.inr (.inl 50)))), (1, .inl (1, .ofNat 0))], (([], []), [(true, (0, .ofNat 195)), (true, (1, .ofNat 0)), (true, (0, .negSucc 0)), (true, (0, .negSucc 0))]))))] 4 = true := by decide +kernel
theorem wS_150_ok : aSumOk wG wS_150 := aMeth_ok (zmc wS_22_ok (zmc wS_148_ok (zmc wS_149_ok zm0))) wS_150_k
/-- MaidsMemoryModel goesDays -/
def wS_151 : aSum := (203, (46, ([(.ofNat 0, .ofNat 0), (.ofNat 0, .ofNat 60)], ([.inr (.inr (.inr (.inl 50))), .inl (1, .ofNat 0)], ([], ([(50, 13), (50, 14), (50, 15), (50, 16), (50, 17), (50, 24), (50, 25), (50, 26), (50, 27), (58, 999), (59, 999), (60, 999), (61, 999)], ([], (none, ([], [])))))))))
set_option maxRecDepth 100000 in
theorem wS_151_k : aMeth wG [wS_150] (zfun [202]) (fun _ _ => none) 4000 wS_151 [(2, ([(.ofNat 0, .ofNat 0), (.ofNat 0, .ofNat 60), (.ofNat 0, .ofNat 60)], ([(0, .inr (.inr (.inr (.inl 50)))), (1, .inl (1, .ofNat 0)), (2, .inl (2, .ofNat 0))], (([], []), [(true, (0, .ofNat 2)), (true, (2, .ofNat 0))]))))] 2 = true := by decide +kernel
theorem wS_151_ok : aSumOk wG wS_151 := aMeth_ok (zmc wS_150_ok zm0) wS_151_k
/-- MaidsMemoryModel later -/
def wS_152 : aSum := (205, (47, ([(.ofNat 0, .ofNat 0), (.negSucc 2147483647, .ofNat 2147483647), (.negSucc 2147483647, .ofNat 2147483647), (.negSucc 2147483647, .ofNat 2147483647)], ([.inr (.inr (.inr (.inl 50))), .inl (1, .ofNat 0), .inl (2, .ofNat 0), .inl (3, .ofNat 0)], ([], ([(50, 13), (50, 14), (50, 15), (50, 16), (50, 17), (50, 24), (50, 25), (50, 26), (50, 27), (58, 999), (59, 999), (60, 999), (61, 999), (62, 999), (63, 999)], ([(.negSucc 2147483647, .ofNat 2147483647)], (some (.inl (4, .ofNat 0)), ([], [])))))))))
set_option maxRecDepth 100000 in
theorem wS_152_k : aMeth wG [wS_21, wS_22, wS_151] (zfun [198, 199, 203]) (fun _ _ => none) 4000 wS_152 [] 0 = true := by decide +kernel
theorem wS_152_ok : aSumOk wG wS_152 := aMeth_ok (zmc wS_21_ok (zmc wS_22_ok (zmc wS_151_ok zm0))) wS_152_k
/-- MaidsMemory knows -/
def wS_153 : aSum := (127, (6, ([(.ofNat 0, .ofNat 0), (.negSucc 2147483647, .ofNat 2147483647), (.negSucc 2147483647, .ofNat 2147483647), (.negSucc 2147483647, .ofNat 2147483647)], ([.inr (.inr (.inr (.inl 0))), .inl (1, .ofNat 0), .inl (2, .ofNat 0), .inl (3, .ofNat 0)], ([], ([(7, 0), (7, 1), (8, 999), (9, 999), (10, 999), (11, 999), (12, 999), (22, 4), (24, 999), (25, 999)], ([(.negSucc 2147483647, .ofNat 2147483647)], (some (.inl (4, .ofNat 0)), ([], [])))))))))
set_option maxRecDepth 100000 in
theorem wS_153_k : aMeth wG [wS_146] (zfun [88]) (fun _ _ => none) 4000 wS_153 [] 0 = true := by decide +kernel
theorem wS_153_ok : aSumOk wG wS_153 := aMeth_ok (zmc wS_146_ok zm0) wS_153_k
/-- MaidsMemoryModel knows -/
def wS_154 : aSum := (206, (47, ([(.ofNat 0, .ofNat 0), (.negSucc 2147483647, .ofNat 2147483647), (.negSucc 2147483647, .ofNat 2147483647), (.negSucc 2147483647, .ofNat 2147483647)], ([.inr (.inr (.inr (.inl 50))), .inl (1, .ofNat 0), .inl (2, .ofNat 0), .inl (3, .ofNat 0)], ([], ([(50, 13), (50, 14), (50, 15), (50, 16), (50, 17), (50, 24), (50, 25), (50, 26), (50, 27), (58, 999), (59, 999), (60, 999), (61, 999), (62, 999), (63, 999)], ([(.negSucc 2147483647, .ofNat 2147483647)], (some (.inl (4, .ofNat 0)), ([], [])))))))))
set_option maxRecDepth 100000 in
theorem wS_154_k : aMeth wG [wS_21, wS_151] (zfun [198, 203]) (fun _ _ => none) 4000 wS_154 [] 0 = true := by decide +kernel
theorem wS_154_ok : aSumOk wG wS_154 := aMeth_ok (zmc wS_21_ok (zmc wS_151_ok zm0)) wS_154_k
/-- MaidsMemory first -/
def wS_155 : aSum := (128, (1, ([(.ofNat 0, .ofNat 0), (.negSucc 2147483647, .ofNat 2147483647), (.negSucc 2147483647, .negSucc 0)], ([.inr (.inr (.inr (.inl 0))), .inl (1, .ofNat 0), .inl (2, .ofNat 0)], ([], ([], ([], (some (.inl (0, .negSucc 0)), ([], [])))))))))
set_option maxRecDepth 100000 in
theorem wS_155_k : aMeth wG [] (zfun []) (fun _ _ => none) 4000 wS_155 [] 0 = true := by decide +kernel
theorem wS_155_ok : aSumOk wG wS_155 := aMeth_ok zm0 wS_155_k
/-- MaidsMemory first -/
def wS_156 : aSum := (128, (5, ([(.ofNat 0, .ofNat 0), (.negSucc 2147483647, .ofNat 2147483647), (.ofNat 0, .ofNat 0)], ([.inr (.inr (.inr (.inl 0))), .inl (1, .ofNat 0), .inl (2, .ofNat 0)], ([], ([(7, 0), (7, 1), (8, 999), (9, 999), (10, 999), (11, 999), (12, 999), (22, 4), (24, 999), (25, 999)], ([(.negSucc 1, .ofNat 60)], (some (.inl (3, .ofNat 0)), ([], [])))))))))
set_option maxRecDepth 100000 in
theorem wS_156_k : aMeth wG [wS_146] (zfun [88]) (fun _ _ => none) 4000 wS_156 [(38, ([(.ofNat 0, .ofNat 0), (.ofNat 0, .ofNat 6), (.ofNat 0, .ofNat 0), (.negSucc 2147483647, .ofNat 2147483647), (.ofNat 0, .ofNat 61)], ([(0, .inr (.inr (.inr (.inl 0)))), (1, .inl (1, .ofNat 0)), (2, .inl (2, .ofNat 0)), (3, .inl (3, .ofNat 0)), (4, .inl (4, .ofNat 0))], (([], []), [(true, (0, .ofNat 38)), (true, (4, .ofNat 0))]))))] 2 = true := by decide +kernel
theorem wS_156_ok : aSumOk wG wS_156 := aMeth_ok (zmc wS_146_ok zm0) wS_156_k
/-- MaidsMemory first -/
def wS_157 : aSum := (128, (5, ([(.ofNat 0, .ofNat 0), (.negSucc 2147483647, .ofNat 2147483647), (.ofNat 1, .ofNat 1)], ([.inr (.inr (.inr (.inl 0))), .inl (1, .ofNat 0), .inl (2, .ofNat 0)], ([], ([(7, 0), (7, 1), (8, 999), (9, 999), (10, 999), (11, 999), (12, 999), (22, 4), (24, 999), (25, 999)], ([(.negSucc 1, .ofNat 60)], (some (.inl (3, .ofNat 0)), ([], [])))))))))
set_option maxRecDepth 100000 in
theorem wS_157_k : aMeth wG [wS_146] (zfun [88]) (fun _ _ => none) 4000 wS_157 [(38, ([(.ofNat 0, .ofNat 0), (.ofNat 0, .ofNat 5), (.ofNat 1, .ofNat 1), (.negSucc 2147483647, .ofNat 2147483647), (.ofNat 0, .ofNat 61)], ([(0, .inr (.inr (.inr (.inl 0)))), (1, .inl (1, .ofNat 0)), (2, .inl (2, .ofNat 0)), (3, .inl (3, .ofNat 0)), (4, .inl (4, .ofNat 0))], (([], []), [(true, (0, .ofNat 38)), (true, (4, .ofNat 0))]))))] 2 = true := by decide +kernel
theorem wS_157_ok : aSumOk wG wS_157 := aMeth_ok (zmc wS_146_ok zm0) wS_157_k
/-- MaidsMemory first -/
def wS_158 : aSum := (128, (5, ([(.ofNat 0, .ofNat 0), (.negSucc 2147483647, .ofNat 2147483647), (.ofNat 2, .ofNat 2)], ([.inr (.inr (.inr (.inl 0))), .inl (1, .ofNat 0), .inl (2, .ofNat 0)], ([], ([(7, 0), (7, 1), (8, 999), (9, 999), (10, 999), (11, 999), (12, 999), (22, 4), (24, 999), (25, 999)], ([(.negSucc 1, .ofNat 60)], (some (.inl (3, .ofNat 0)), ([], [])))))))))
set_option maxRecDepth 100000 in
theorem wS_158_k : aMeth wG [wS_146] (zfun [88]) (fun _ _ => none) 4000 wS_158 [(38, ([(.ofNat 0, .ofNat 0), (.ofNat 0, .ofNat 3), (.ofNat 2, .ofNat 2), (.negSucc 2147483647, .ofNat 2147483647), (.ofNat 0, .ofNat 61)], ([(0, .inr (.inr (.inr (.inl 0)))), (1, .inl (1, .ofNat 0)), (2, .inl (2, .ofNat 0)), (3, .inl (3, .ofNat 0)), (4, .inl (4, .ofNat 0))], (([], []), [(true, (0, .ofNat 38)), (true, (4, .ofNat 0))]))))] 2 = true := by decide +kernel
theorem wS_158_ok : aSumOk wG wS_158 := aMeth_ok (zmc wS_146_ok zm0) wS_158_k
/-- MaidsMemory first -/
def wS_159 : aSum := (128, (1, ([(.ofNat 0, .ofNat 0), (.negSucc 2147483647, .ofNat 2147483647), (.ofNat 3, .ofNat 2147483647)], ([.inr (.inr (.inr (.inl 0))), .inl (1, .ofNat 0), .inl (2, .ofNat 0)], ([], ([], ([], (some (.inl (0, .negSucc 0)), ([], [])))))))))
set_option maxRecDepth 100000 in
theorem wS_159_k : aMeth wG [] (zfun []) (fun _ _ => none) 4000 wS_159 [] 0 = true := by decide +kernel
theorem wS_159_ok : aSumOk wG wS_159 := aMeth_ok zm0 wS_159_k
/-- MaidsMemoryModel first -/
def wS_160 : aSum := (207, (0, ([(.ofNat 0, .ofNat 0), (.negSucc 2147483647, .ofNat 2147483647), (.negSucc 2147483647, .negSucc 0)], ([.inr (.inr (.inr (.inl 50))), .inl (1, .ofNat 0), .inl (2, .ofNat 0)], ([], ([], ([], (some (.inl (0, .negSucc 0)), ([], [])))))))))
set_option maxRecDepth 100000 in
theorem wS_160_k : aMeth wG [] (zfun []) (fun _ _ => none) 4000 wS_160 [] 0 = true := by decide +kernel
theorem wS_160_ok : aSumOk wG wS_160 := aMeth_ok zm0 wS_160_k
/-- MaidsMemoryModel first -/
def wS_161 : aSum := (207, (46, ([(.ofNat 0, .ofNat 0), (.negSucc 2147483647, .ofNat 2147483647), (.ofNat 0, .ofNat 0)], ([.inr (.inr (.inr (.inl 50))), .inl (1, .ofNat 0), .inl (2, .ofNat 0)], ([], ([(50, 13), (50, 14), (50, 15), (50, 16), (50, 17), (50, 24), (50, 25), (50, 26), (50, 27), (58, 999), (59, 999), (60, 999), (61, 999), (62, 999), (63, 999)], ([(.negSucc 1, .ofNat 60)], (some (.inl (3, .ofNat 0)), ([], [])))))))))
set_option maxRecDepth 100000 in
theorem wS_161_k : aMeth wG [wS_21, wS_22, wS_150] (zfun [198, 199, 202]) (fun _ _ => none) 4000 wS_161 [(63, ([(.ofNat 0, .ofNat 0), (.ofNat 0, .ofNat 6), (.ofNat 0, .ofNat 0), (.ofNat 0, .ofNat 61)], ([(0, .inr (.inr (.inr (.inl 50)))), (1, .inl (1, .ofNat 0)), (2, .inl (2, .ofNat 0)), (4, .inl (3, .ofNat 0))], (([], []), [(true, (0, .ofNat 63)), (true, (3, .ofNat 0))]))))] 2 = true := by decide +kernel
theorem wS_161_ok : aSumOk wG wS_161 := aMeth_ok (zmc wS_21_ok (zmc wS_22_ok (zmc wS_150_ok zm0))) wS_161_k
/-- MaidsMemoryModel first -/
def wS_162 : aSum := (207, (46, ([(.ofNat 0, .ofNat 0), (.negSucc 2147483647, .ofNat 2147483647), (.ofNat 1, .ofNat 1)], ([.inr (.inr (.inr (.inl 50))), .inl (1, .ofNat 0), .inl (2, .ofNat 0)], ([], ([(50, 13), (50, 14), (50, 15), (50, 16), (50, 17), (50, 24), (50, 25), (50, 26), (50, 27), (58, 999), (59, 999), (60, 999), (61, 999), (62, 999), (63, 999)], ([(.negSucc 1, .ofNat 60)], (some (.inl (3, .ofNat 0)), ([], [])))))))))
set_option maxRecDepth 100000 in
theorem wS_162_k : aMeth wG [wS_21, wS_150] (zfun [198, 202]) (fun _ _ => none) 4000 wS_162 [(63, ([(.ofNat 0, .ofNat 0), (.ofNat 0, .ofNat 5), (.ofNat 1, .ofNat 1), (.ofNat 0, .ofNat 61)], ([(0, .inr (.inr (.inr (.inl 50)))), (1, .inl (1, .ofNat 0)), (2, .inl (2, .ofNat 0)), (4, .inl (3, .ofNat 0))], (([], []), [(true, (0, .ofNat 63)), (true, (3, .ofNat 0))]))))] 2 = true := by decide +kernel
theorem wS_162_ok : aSumOk wG wS_162 := aMeth_ok (zmc wS_21_ok (zmc wS_150_ok zm0)) wS_162_k
/-- MaidsMemoryModel first -/
def wS_163 : aSum := (207, (46, ([(.ofNat 0, .ofNat 0), (.negSucc 2147483647, .ofNat 2147483647), (.ofNat 2, .ofNat 2)], ([.inr (.inr (.inr (.inl 50))), .inl (1, .ofNat 0), .inl (2, .ofNat 0)], ([], ([(50, 13), (50, 14), (50, 15), (50, 16), (50, 17), (50, 24), (50, 25), (50, 26), (50, 27), (58, 999), (59, 999), (60, 999), (61, 999), (62, 999), (63, 999)], ([(.negSucc 1, .ofNat 60)], (some (.inl (3, .ofNat 0)), ([], [])))))))))
set_option maxRecDepth 100000 in
theorem wS_163_k : aMeth wG [wS_21, wS_150] (zfun [198, 202]) (fun _ _ => none) 4000 wS_163 [(63, ([(.ofNat 0, .ofNat 0), (.ofNat 0, .ofNat 3), (.ofNat 2, .ofNat 2), (.ofNat 0, .ofNat 61)], ([(0, .inr (.inr (.inr (.inl 50)))), (1, .inl (1, .ofNat 0)), (2, .inl (2, .ofNat 0)), (4, .inl (3, .ofNat 0))], (([], []), [(true, (0, .ofNat 63)), (true, (3, .ofNat 0))]))))] 2 = true := by decide +kernel
theorem wS_163_ok : aSumOk wG wS_163 := aMeth_ok (zmc wS_21_ok (zmc wS_150_ok zm0)) wS_163_k
/-- MaidsMemoryModel first -/
def wS_164 : aSum := (207, (0, ([(.ofNat 0, .ofNat 0), (.negSucc 2147483647, .ofNat 2147483647), (.ofNat 3, .ofNat 2147483647)], ([.inr (.inr (.inr (.inl 50))), .inl (1, .ofNat 0), .inl (2, .ofNat 0)], ([], ([], ([], (some (.inl (0, .negSucc 0)), ([], [])))))))))
set_option maxRecDepth 100000 in
theorem wS_164_k : aMeth wG [] (zfun []) (fun _ _ => none) 4000 wS_164 [] 0 = true := by decide +kernel
theorem wS_164_ok : aSumOk wG wS_164 := aMeth_ok zm0 wS_164_k
/-- MaidsMemory$Street weekOf -/
def wS_165 : aSum := (82, (0, ([(.ofNat 0, .ofNat 0), (.ofNat 0, .ofNat 5)], ([.inr (.inr (.inr (.inl 1))), .inl (1, .ofNat 0)], ([], ([], ([(.negSucc 2147483647, .ofNat 2147483647)], (some (.inl (2, .ofNat 0)), ([], [])))))))))
set_option maxRecDepth 100000 in
theorem wS_165_k : aMeth wG [] (zfun []) (fun _ _ => none) 4000 wS_165 [(4, ([(.ofNat 0, .ofNat 0), (.ofNat 0, .ofNat 5), (.negSucc 2147483647, .ofNat 2147483647), (.ofNat 0, .ofNat 4)], ([(0, .inr (.inr (.inr (.inl 1)))), (1, .inl (1, .ofNat 0)), (2, .inl (2, .ofNat 0)), (3, .inl (3, .ofNat 0))], (([], []), [(true, (0, .ofNat 4)), (true, (3, .ofNat 0))]))))] 2 = true := by decide +kernel
theorem wS_165_ok : aSumOk wG wS_165 := aMeth_ok zm0 wS_165_k
/-- MaidsMemory week -/
def wS_166 : aSum := (129, (1, ([(.ofNat 0, .ofNat 0), (.negSucc 2147483647, .ofNat 2147483647)], ([.inr (.inr (.inr (.inl 0))), .inl (1, .ofNat 0)], ([], ([], ([(.negSucc 2147483647, .ofNat 2147483647)], (some (.inl (2, .ofNat 0)), ([], [])))))))))
set_option maxRecDepth 100000 in
theorem wS_166_k : aMeth wG [wS_165] (zfun [82]) (fun _ _ => none) 4000 wS_166 [] 0 = true := by decide +kernel
theorem wS_166_ok : aSumOk wG wS_166 := aMeth_ok (zmc wS_165_ok zm0) wS_166_k
/-- MaidsMemoryModel weekOf -/
def wS_167 : aSum := (208, (0, ([(.ofNat 0, .ofNat 0), (.ofNat 0, .ofNat 5)], ([.inr (.inr (.inr (.inl 50))), .inl (1, .ofNat 0)], ([], ([], ([(.negSucc 2147483647, .ofNat 2147483647)], (some (.inl (2, .ofNat 0)), ([], [])))))))))
set_option maxRecDepth 100000 in
theorem wS_167_k : aMeth wG [] (zfun []) (fun _ _ => none) 4000 wS_167 [(4, ([(.ofNat 0, .ofNat 0), (.ofNat 0, .ofNat 5), (.negSucc 2147483647, .ofNat 2147483647), (.ofNat 0, .ofNat 4)], ([(0, .inr (.inr (.inr (.inl 50)))), (1, .inl (1, .ofNat 0)), (2, .inl (2, .ofNat 0)), (3, .inl (3, .ofNat 0))], (([], []), [(true, (0, .ofNat 4)), (true, (3, .ofNat 0))]))))] 2 = true := by decide +kernel
theorem wS_167_ok : aSumOk wG wS_167 := aMeth_ok zm0 wS_167_k
/-- MaidsMemoryModel week -/
def wS_168 : aSum := (209, (2, ([(.ofNat 0, .ofNat 0), (.negSucc 2147483647, .ofNat 2147483647)], ([.inr (.inr (.inr (.inl 50))), .inl (1, .ofNat 0)], ([], ([], ([(.negSucc 2147483647, .ofNat 2147483647)], (some (.inl (2, .ofNat 0)), ([], [])))))))))
set_option maxRecDepth 100000 in
theorem wS_168_k : aMeth wG [wS_167] (zfun [208]) (fun _ _ => none) 4000 wS_168 [] 0 = true := by decide +kernel
theorem wS_168_ok : aSumOk wG wS_168 := aMeth_ok (zmc wS_167_ok zm0) wS_168_k
/-- MaidsMemory$Packing roomOf -/
def wS_169 : aSum := (34, (0, ([(.ofNat 0, .ofNat 0), (.ofNat 0, .ofNat 127)], ([.inr (.inr (.inr (.inl 1))), .inl (1, .ofNat 0)], ([], ([], ([(.negSucc 2147483647, .ofNat 2147483647)], (some (.inl (2, .ofNat 0)), ([], [])))))))))
set_option maxRecDepth 100000 in
theorem wS_169_k : aMeth wG [] (zfun []) (fun _ _ => none) 4000 wS_169 [(4, ([(.ofNat 0, .ofNat 0), (.ofNat 0, .ofNat 127), (.negSucc 2147483647, .ofNat 2147483647), (.ofNat 0, .ofNat 7)], ([(0, .inr (.inr (.inr (.inl 1)))), (1, .inl (1, .ofNat 0)), (2, .inl (2, .ofNat 0)), (3, .inl (3, .ofNat 0))], (([], []), [(true, (0, .ofNat 4)), (true, (3, .ofNat 0))]))))] 2 = true := by decide +kernel
theorem wS_169_ok : aSumOk wG wS_169 := aMeth_ok zm0 wS_169_k
/-- MaidsMemory$Packing fewestFor -/
def wS_170 : aSum := (35, (2, ([(.ofNat 0, .ofNat 0), (.negSucc 2147483647, .ofNat 2147483647), (.ofNat 0, .ofNat 5), (.ofNat 0, .ofNat 127)], ([.inr (.inr (.inr (.inl 30))), .inl (1, .ofNat 0), .inl (2, .ofNat 0), .inl (3, .ofNat 0)], ([], ([], ([(.negSucc 2147483647, .ofNat 99)], (some (.inl (4, .ofNat 0)), ([], [])))))))))
set_option maxRecDepth 100000 in
theorem wS_170_k : aMeth wG [] (zfun []) (fun _ _ => none) 4000 wS_170 [(10, ([(.ofNat 0, .ofNat 0), (.negSucc 2147483647, .ofNat 2147483647), (.ofNat 0, .ofNat 5), (.ofNat 0, .ofNat 127), (.negSucc 2147483647, .ofNat 99), (.ofNat 0, .ofNat 127), (.ofNat 0, .ofNat 2147483647)], ([(0, .inr (.inr (.inr (.inl 30)))), (1, .inl (1, .ofNat 0)), (2, .inl (2, .ofNat 0)), (3, .inl (3, .ofNat 0)), (4, .inl (4, .ofNat 0)), (5, .inl (5, .ofNat 0)), (6, .inl (6, .ofNat 0))], (([], []), [(true, (0, .ofNat 10)), (true, (6, .ofNat 0))]))))] 2 = true := by decide +kernel
theorem wS_170_ok : aSumOk wG wS_170 := aMeth_ok zm0 wS_170_k
/-- MaidsMemory$Packing fill -/
def wS_171 : aSum := (33, (3, ([(.ofNat 0, .ofNat 0), (.ofNat 1, .ofNat 6)], ([.inr (.inr (.inr (.inl 30))), .inr (.inr (.inr (.inl 1))), .inl (1, .ofNat 0)], ([], ([(31, 999), (32, 999)], ([], (none, ([], [])))))))))
set_option maxRecDepth 100000 in
theorem wS_171_k : aMeth wG [wS_165, wS_169, wS_170] (zfun [34, 35, 82]) (fun _ _ => none) 4000 wS_171 [(2, ([(.ofNat 0, .ofNat 0), (.ofNat 1, .ofNat 6), (.ofNat 0, .ofNat 128)], ([(0, .inr (.inr (.inr (.inl 30)))), (1, .inr (.inr (.inr (.inl 1)))), (2, .inl (1, .ofNat 0)), (3, .inl (2, .ofNat 0))], (([], []), [(true, (0, .ofNat 2)), (true, (2, .ofNat 0)), (true, (0, .negSucc 0)), (true, (0, .negSucc 0))])))),
  (43, ([(.ofNat 0, .ofNat 0), (.ofNat 1, .ofNat 6), (.negSucc 0, .ofNat 5)], ([(0, .inr (.inr (.inr (.inl 30)))), (1, .inr (.inr (.inr (.inl 1)))), (3, .inl (2, .ofNat 0))], (([], []), [(true, (0, .ofNat 43)), (false, (2, .ofNat 0)), (true, (0, .negSucc 0)), (true, (0, .negSucc 0))])))),
  (50, ([(.ofNat 0, .ofNat 0), (.ofNat 1, .ofNat 6), (.ofNat 0, .ofNat 5), (.ofNat 0, .ofNat 128)], ([(0, .inr (.inr (.inr (.inl 30)))), (1, .inr (.inr (.inr (.inl 1)))), (3, .inl (2, .ofNat 0)), (4, .inl (3, .ofNat 0))], (([], []), [(true, (0, .ofNat 43)), (false, (2, .ofNat 0)), (true, (0, .ofNat 50)), (true, (3, .ofNat 0))]))))] 4 = true := by decide +kernel
theorem wS_171_ok : aSumOk wG wS_171 := aMeth_ok (zmc wS_165_ok (zmc wS_169_ok (zmc wS_170_ok zm0))) wS_171_k
/-- MaidsMemory$Packing leastSet -/
def wS_172 : aSum := (41, (2, ([(.ofNat 0, .ofNat 0), (.negSucc 2147483647, .ofNat 2147483647), (.ofNat 0, .ofNat 5), (.ofNat 0, .ofNat 127)], ([.inr (.inr (.inr (.inl 30))), .inl (1, .ofNat 0), .inl (2, .ofNat 0), .inl (3, .ofNat 0)], ([], ([], ([(.ofNat 0, .ofNat 127)], (some (.inl (4, .ofNat 0)), ([], [])))))))))
set_option maxRecDepth 100000 in
theorem wS_172_k : aMeth wG [] (zfun []) (fun _ _ => none) 4000 wS_172 [(6, ([(.ofNat 0, .ofNat 0), (.negSucc 2147483647, .ofNat 2147483647), (.ofNat 0, .ofNat 5), (.ofNat 0, .ofNat 127), (.ofNat 0, .ofNat 127), (.ofNat 0, .ofNat 2147483647)], ([(0, .inr (.inr (.inr (.inl 30)))), (1, .inl (1, .ofNat 0)), (2, .inl (2, .ofNat 0)), (3, .inl (3, .ofNat 0)), (4, .inl (4, .ofNat 0)), (5, .inl (5, .ofNat 0))], (([], []), [(true, (0, .ofNat 6)), (true, (5, .ofNat 0))]))))] 2 = true := by decide +kernel
theorem wS_172_ok : aSumOk wG wS_172 := aMeth_ok zm0 wS_172_k
/-- MaidsMemory$Packing girlsFor -/
def wS_173 : aSum := (40, (3, ([(.ofNat 0, .ofNat 0), (.ofNat 0, .ofNat 5)], ([.inr (.inr (.inr (.inl 30))), .inr (.inr (.inr (.inl 1))), .inl (1, .ofNat 0)], ([], ([], ([(.ofNat 0, .ofNat 127)], (some (.inl (2, .ofNat 0)), ([], [])))))))))
set_option maxRecDepth 100000 in
theorem wS_173_k : aMeth wG [wS_165, wS_172] (zfun [41, 82]) (fun _ _ => none) 4000 wS_173 [(15, ([(.ofNat 0, .ofNat 0), (.ofNat 0, .ofNat 5), (.ofNat 0, .ofNat 127), (.ofNat 0, .ofNat 127), (.ofNat 0, .ofNat 6)], ([(0, .inr (.inr (.inr (.inl 30)))), (1, .inr (.inr (.inr (.inl 1)))), (2, .inl (1, .ofNat 0)), (3, .inl (2, .ofNat 0)), (4, .inl (3, .ofNat 0)), (5, .inl (4, .ofNat 0))], (([], []), [(true, (0, .ofNat 15)), (true, (4, .ofNat 0))]))))] 2 = true := by decide +kernel
theorem wS_173_ok : aSumOk wG wS_173 := aMeth_ok (zmc wS_165_ok (zmc wS_172_ok zm0)) wS_173_k
/-- MaidsMemory$Packing fill -/
def wS_174 : aSum := (33, (3, ([(.ofNat 0, .ofNat 0), (.ofNat 0, .ofNat 6)], ([.inr (.inr (.inr (.inl 30))), .inr (.inr (.inr (.inl 1))), .inl (1, .ofNat 0)], ([], ([(31, 999), (32, 999)], ([], (none, ([], [])))))))))
set_option maxRecDepth 100000 in
theorem wS_174_k : aMeth wG [wS_165, wS_169, wS_170] (zfun [34, 35, 82]) (fun _ _ => none) 4000 wS_174 [(2, ([(.ofNat 0, .ofNat 0), (.ofNat 0, .ofNat 6), (.ofNat 0, .ofNat 128)], ([(0, .inr (.inr (.inr (.inl 30)))), (1, .inr (.inr (.inr (.inl 1)))), (2, .inl (1, .ofNat 0)), (3, .inl (2, .ofNat 0))], (([], []), [(true, (0, .ofNat 2)), (true, (2, .ofNat 0)), (true, (0, .negSucc 0)), (true, (0, .negSucc 0))])))),
  (43, ([(.ofNat 0, .ofNat 0), (.ofNat 0, .ofNat 6), (.negSucc 0, .ofNat 5)], ([(0, .inr (.inr (.inr (.inl 30)))), (1, .inr (.inr (.inr (.inl 1)))), (3, .inl (2, .ofNat 0))], (([], []), [(true, (0, .ofNat 43)), (false, (2, .ofNat 0)), (true, (0, .negSucc 0)), (true, (0, .negSucc 0))])))),
  (50, ([(.ofNat 0, .ofNat 0), (.ofNat 0, .ofNat 6), (.ofNat 0, .ofNat 5), (.ofNat 0, .ofNat 128)], ([(0, .inr (.inr (.inr (.inl 30)))), (1, .inr (.inr (.inr (.inl 1)))), (3, .inl (2, .ofNat 0)), (4, .inl (3, .ofNat 0))], (([], []), [(true, (0, .ofNat 43)), (false, (2, .ofNat 0)), (true, (0, .ofNat 50)), (true, (3, .ofNat 0))]))))] 4 = true := by decide +kernel
theorem wS_174_ok : aSumOk wG wS_174 := aMeth_ok (zmc wS_165_ok (zmc wS_169_ok (zmc wS_170_ok zm0))) wS_174_k
/-- MaidsMemory pack -/
def wS_175 : aSum := (130, (4, ([(.ofNat 0, .ofNat 0), (.negSucc 2147483647, .ofNat 2147483647)], ([.inr (.inr (.inr (.inl 0))), .inl (1, .ofNat 0)], ([], ([(31, 999), (32, 999)], ([(.negSucc 2147483647, .ofNat 2147483647)], (some (.inl (2, .ofNat 0)), ([], [])))))))))
set_option maxRecDepth 100000 in
theorem wS_175_k : aMeth wG [wS_171, wS_173, wS_174] (zfun [33, 40]) (fun _ _ => none) 4000 wS_175 [] 0 = true := by decide +kernel
theorem wS_175_ok : aSumOk wG wS_175 := aMeth_ok (zmc wS_171_ok (zmc wS_173_ok (zmc wS_174_ok zm0))) wS_175_k
/-- MaidsMemory whose -/
def wS_176 : aSum := (131, (4, ([(.ofNat 0, .ofNat 0)], ([.inr (.inr (.inr (.inl 0)))], ([], ([(31, 999), (32, 999)], ([(.negSucc 1, .ofNat 5)], (some (.inl (1, .ofNat 0)), ([], [])))))))))
set_option maxRecDepth 100000 in
theorem wS_176_k : aMeth wG [wS_171] (zfun [33]) (fun _ _ => none) 4000 wS_176 [(2, ([(.ofNat 0, .ofNat 0), (.ofNat 0, .ofNat 6)], ([(0, .inr (.inr (.inr (.inl 0)))), (1, .inl (1, .ofNat 0))], (([], []), [(true, (0, .ofNat 2)), (true, (1, .ofNat 0))]))))] 2 = true := by decide +kernel
theorem wS_176_ok : aSumOk wG wS_176 := aMeth_ok (zmc wS_171_ok zm0) wS_176_k
/-- MaidsMemoryModel roomOf -/
def wS_177 : aSum := (210, (1, ([(.ofNat 0, .ofNat 0), (.negSucc 2147483647, .ofNat 2147483647)], ([.inr (.inr (.inr (.inl 50))), .inl (1, .ofNat 0)], ([], ([], ([(.negSucc 2147483647, .ofNat 2147483647)], (some (.inl (2, .ofNat 0)), ([], [])))))))))
set_option maxRecDepth 100000 in
theorem wS_177_k : aMeth wG [] (zfun []) (fun _ _ => none) 4000 wS_177 [(4, ([(.ofNat 0, .ofNat 0), (.negSucc 2147483647, .ofNat 2147483647), (.negSucc 2147483647, .ofNat 2147483647), (.ofNat 0, .ofNat 7)], ([(0, .inr (.inr (.inr (.inl 50)))), (1, .inl (1, .ofNat 0)), (2, .inl (2, .ofNat 0)), (3, .inl (3, .ofNat 0))], (([], []), [(true, (0, .ofNat 4)), (true, (3, .ofNat 0))]))))] 2 = true := by decide +kernel
theorem wS_177_ok : aSumOk wG wS_177 := aMeth_ok zm0 wS_177_k
/-- MaidsMemoryModel bitsOf -/
def wS_178 : aSum := (168, (0, ([(.ofNat 0, .ofNat 0), (.negSucc 2147483647, .ofNat 2147483647)], ([.inl (1, .ofNat 0)], ([], ([], ([(.negSucc 2147483647, .ofNat 2147483647)], (some (.inl (2, .ofNat 0)), ([], [])))))))))
set_option maxRecDepth 100000 in
theorem wS_178_k : aMeth wG [] (zfun []) (fun _ _ => none) 4000 wS_178 [(4, ([(.ofNat 0, .ofNat 0), (.negSucc 2147483647, .ofNat 2147483647), (.negSucc 2147483647, .ofNat 2147483647), (.ofNat 0, .ofNat 7)], ([(0, .inl (1, .ofNat 0)), (1, .inl (2, .ofNat 0)), (2, .inl (3, .ofNat 0))], (([], []), [(true, (0, .ofNat 4)), (true, (3, .ofNat 0))]))))] 2 = true := by decide +kernel
theorem wS_178_ok : aSumOk wG wS_178 := aMeth_ok zm0 wS_178_k
/-- MaidsMemoryModel asksPack -/
def wS_179 : aSum := (211, (2, ([(.ofNat 0, .ofNat 0), (.ofNat 1, .ofNat 6)], ([.inr (.inr (.inr (.inl 50))), .inl (1, .ofNat 0)], ([], ([(64, 999)], ([], (none, ([], [])))))))))
set_option maxRecDepth 100000 in
theorem wS_179_k : aMeth wG [wS_167, wS_177, wS_178] (zfun [168, 208, 210]) (fun _ _ => none) 4000 wS_179 [(2, ([(.ofNat 0, .ofNat 0), (.ofNat 1, .ofNat 6), (.negSucc 0, .ofNat 6)], ([(0, .inr (.inr (.inr (.inl 50)))), (1, .inl (1, .ofNat 0)), (2, .inl (2, .ofNat 0))], (([], []), [(true, (0, .ofNat 2)), (false, (2, .ofNat 0)), (true, (0, .negSucc 0)), (true, (0, .negSucc 0)), (true, (0, .negSucc 0)), (true, (0, .negSucc 0))])))),
  (8, ([(.ofNat 0, .ofNat 0), (.ofNat 1, .ofNat 6), (.ofNat 0, .ofNat 6), (.ofNat 0, .ofNat 128)], ([(0, .inr (.inr (.inr (.inl 50)))), (1, .inl (1, .ofNat 0)), (2, .inl (2, .ofNat 0)), (3, .inl (3, .ofNat 0))], (([], []), [(true, (0, .ofNat 2)), (false, (2, .ofNat 0)), (true, (0, .ofNat 8)), (true, (3, .ofNat 0)), (true, (0, .negSucc 0)), (true, (0, .negSucc 0))])))),
  (35, ([(.ofNat 0, .ofNat 0), (.ofNat 1, .ofNat 6), (.ofNat 0, .ofNat 6), (.ofNat 0, .ofNat 127), (.negSucc 2147483647, .ofNat 1000000), (.ofNat 0, .ofNat 128)], ([(0, .inr (.inr (.inr (.inl 50)))), (1, .inl (1, .ofNat 0)), (2, .inl (2, .ofNat 0)), (3, .inl (3, .ofNat 0)), (4, .inl (4, .ofNat 0)), (5, .inl (5, .ofNat 0))], (([], []), [(true, (0, .ofNat 2)), (false, (2, .ofNat 0)), (true, (0, .ofNat 8)), (true, (3, .ofNat 0)), (true, (0, .ofNat 35)), (true, (5, .ofNat 0))]))))] 6 = true := by decide +kernel
theorem wS_179_ok : aSumOk wG wS_179 := aMeth_ok (zmc wS_167_ok (zmc wS_177_ok (zmc wS_178_ok zm0))) wS_179_k
/-- MaidsMemoryModel whose -/
def wS_180 : aSum := (213, (3, ([(.ofNat 0, .ofNat 0)], ([.inr (.inr (.inr (.inl 50)))], ([], ([(64, 999)], ([(.negSucc 1, .ofNat 5)], (some (.inl (1, .ofNat 0)), ([], [])))))))))
set_option maxRecDepth 100000 in
theorem wS_180_k : aMeth wG [wS_179] (zfun [211]) (fun _ _ => none) 4000 wS_180 [(2, ([(.ofNat 0, .ofNat 0), (.ofNat 0, .ofNat 6)], ([(0, .inr (.inr (.inr (.inl 50)))), (1, .inl (1, .ofNat 0))], (([], []), [(true, (0, .ofNat 2)), (true, (1, .ofNat 0))]))))] 2 = true := by decide +kernel
theorem wS_180_ok : aSumOk wG wS_180 := aMeth_ok (zmc wS_179_ok zm0) wS_180_k
/-- MaidsMemory$Street clutterOfAll -/
def wS_181 : aSum := (83, (0, ([(.ofNat 0, .ofNat 0)], ([.inr (.inr (.inr (.inl 7)))], ([], ([], ([(.negSucc 2147483647, .ofNat 2147483647)], (some (.inl (1, .ofNat 0)), ([], [])))))))))
set_option maxRecDepth 100000 in
theorem wS_181_k : aMeth wG [] (zfun []) (fun _ _ => none) 4000 wS_181 [(4, ([(.ofNat 0, .ofNat 0), (.negSucc 2147483647, .ofNat 2147483647), (.ofNat 0, .ofNat 6)], ([(0, .inr (.inr (.inr (.inl 7)))), (1, .inl (1, .ofNat 0)), (2, .inl (2, .ofNat 0))], (([], []), [(true, (0, .ofNat 4)), (true, (2, .ofNat 0))]))))] 2 = true := by decide +kernel
theorem wS_181_ok : aSumOk wG wS_181 := aMeth_ok zm0 wS_181_k
/-- MaidsMemory hires -/
def wS_182 : aSum := (132, (6, ([(.ofNat 0, .ofNat 0), (.negSucc 2147483647, .ofNat 2147483647), (.negSucc 2147483647, .ofNat 2147483647), (.negSucc 2147483647, .ofNat 2147483647)], ([.inr (.inr (.inr (.inl 0))), .inl (1, .ofNat 0), .inl (2, .ofNat 0), .inl (3, .ofNat 0)], ([], ([(7, 0), (7, 1), (8, 999), (9, 999), (10, 999), (11, 999), (12, 999), (22, 4), (24, 999), (25, 999)], ([(.negSucc 2147483647, .ofNat 2147483647)], (some (.inl (4, .ofNat 0)), ([], [])))))))))
set_option maxRecDepth 100000 in
theorem wS_182_k : aMeth wG [wS_146, wS_181] (zfun [83, 88]) (fun _ _ => none) 4000 wS_182 [(40, ([(.ofNat 0, .ofNat 0), (.ofNat 0, .ofNat 5), (.ofNat 0, .ofNat 60), (.ofNat 0, .ofNat 1), (.negSucc 1, .ofNat 6), (.negSucc 2147483647, .ofNat 2147483647), (.ofNat 0, .ofNat 7)], ([(0, .inr (.inr (.inr (.inl 0)))), (1, .inl (1, .ofNat 0)), (2, .inl (2, .ofNat 0)), (3, .inl (3, .ofNat 0)), (4, .inl (4, .ofNat 0)), (5, .inl (5, .ofNat 0)), (6, .inl (6, .ofNat 0))], (([], []), [(true, (0, .ofNat 40)), (true, (6, .ofNat 0))]))))] 2 = true := by decide +kernel
theorem wS_182_ok : aSumOk wG wS_182 := aMeth_ok (zmc wS_146_ok (zmc wS_181_ok zm0)) wS_182_k
/-- MaidsMemoryModel clutterAll -/
def wS_183 : aSum := (214, (0, ([(.ofNat 0, .ofNat 0)], ([.inr (.inr (.inr (.inl 50)))], ([], ([], ([(.negSucc 2147483647, .ofNat 2147483647)], (some (.inl (1, .ofNat 0)), ([], [])))))))))
set_option maxRecDepth 100000 in
theorem wS_183_k : aMeth wG [] (zfun []) (fun _ _ => none) 4000 wS_183 [(4, ([(.ofNat 0, .ofNat 0), (.negSucc 2147483647, .ofNat 2147483647), (.ofNat 0, .ofNat 6)], ([(0, .inr (.inr (.inr (.inl 50)))), (1, .inl (1, .ofNat 0)), (2, .inl (2, .ofNat 0))], (([], []), [(true, (0, .ofNat 4)), (true, (2, .ofNat 0))]))))] 2 = true := by decide +kernel
theorem wS_183_ok : aSumOk wG wS_183 := aMeth_ok zm0 wS_183_k
end
