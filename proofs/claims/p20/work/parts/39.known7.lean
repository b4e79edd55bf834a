noncomputable section
/-- MaidsMemoryModel hires -/
def wS_184 : aSum := (216, (48, ([(.ofNat 0, .ofNat 0), (.negSucc 2147483647, .ofNat 2147483647), (.negSucc 2147483647, .ofNat 2147483647), (.negSucc 2147483647, .ofNat 2147483647)], ([.inr (.inr (.inr (.inl 50))), .inl (1, .ofNat 0), .inl (2, .ofNat 0), .inl (3, .ofNat 0)], ([], ([(50, 13), (50, 14), (50, 15), (50, 16), (50, 17), (50, 24), (50, 25), (50, 26), (50, 27), (58, 999), (59, 999), (60, 999), (61, 999), (62, 999), (63, 999)], ([(.negSucc 2147483647, .ofNat 2147483647)], (some (.inl (4, .ofNat 0)), ([], [])))))))))
set_option maxRecDepth 100000 in
theorem wS_184_k : aMeth wG [wS_21, wS_151, wS_183] (zfun [198, 203, 214]) (fun _ _ => none) 4000 wS_184 [(39, ([(.ofNat 0, .ofNat 0), (.ofNat 0, .ofNat 5), (.ofNat 0, .ofNat 60), (.ofNat 0, .ofNat 1), (.negSucc 1, .ofNat 6), (.negSucc 2147483647, .ofNat 2147483647), (.ofNat 0, .ofNat 7)], ([(0, .inr (.inr (.inr (.inl 50)))), (1, .inl (1, .ofNat 0)), (2, .inl (2, .ofNat 0)), (3, .inl (3, .ofNat 0)), (4, .inl (4, .ofNat 0)), (5, .inl (5, .ofNat 0)), (6, .inl (6, .ofNat 0))], (([], []), [(true, (0, .ofNat 39)), (true, (6, .ofNat 0))]))))] 2 = true := by decide +kernel
theorem wS_184_ok : aSumOk wG wS_184 := aMeth_ok (zmc wS_21_ok (zmc wS_151_ok (zmc wS_183_ok zm0))) wS_184_k
/-- MaidsMemory spare -/
def wS_185 : aSum := (133, (6, ([(.ofNat 0, .ofNat 0), (.negSucc 2147483647, .ofNat 2147483647)], ([.inr (.inr (.inr (.inl 0))), .inl (1, .ofNat 0)], ([], ([(7, 0), (7, 1), (8, 999), (9, 999), (10, 999), (11, 999), (12, 999), (22, 4), (24, 999), (25, 999)], ([(.negSucc 0, .ofNat 2147483647)], (some (.inl (2, .ofNat 0)), ([], [])))))))))
set_option maxRecDepth 100000 in
theorem wS_185_k : aMeth wG [wS_146, wS_181] (zfun [83, 88]) (fun _ _ => none) 4000 wS_185 [(27, ([(.ofNat 0, .ofNat 0), (.ofNat 0, .ofNat 60), (.negSucc 2147483647, .ofNat 2147483647), (.ofNat 0, .ofNat 2147483647), (.ofNat 0, .ofNat 7)], ([(0, .inr (.inr (.inr (.inl 0)))), (1, .inl (1, .ofNat 0)), (2, .inl (2, .ofNat 0)), (3, .inl (3, .ofNat 0)), (4, .inl (4, .ofNat 0))], (([], []), [(true, (0, .ofNat 27)), (true, (4, .ofNat 0))]))))] 2 = true := by decide +kernel
theorem wS_185_ok : aSumOk wG wS_185 := aMeth_ok (zmc wS_146_ok (zmc wS_181_ok zm0)) wS_185_k
/-- MaidsMemoryModel spare -/
def wS_186 : aSum := (217, (48, ([(.ofNat 0, .ofNat 0), (.negSucc 2147483647, .ofNat 2147483647)], ([.inr (.inr (.inr (.inl 50))), .inl (1, .ofNat 0)], ([], ([(50, 13), (50, 14), (50, 15), (50, 16), (50, 17), (50, 24), (50, 25), (50, 26), (50, 27), (58, 999), (59, 999), (60, 999), (61, 999), (62, 999), (63, 999)], ([(.negSucc 0, .ofNat 2147483647)], (some (.inl (2, .ofNat 0)), ([], [])))))))))
set_option maxRecDepth 100000 in
theorem wS_186_k : aMeth wG [wS_21, wS_151, wS_183] (zfun [198, 203, 214]) (fun _ _ => none) 4000 wS_186 [(22, ([(.ofNat 0, .ofNat 0), (.ofNat 0, .ofNat 60), (.negSucc 2147483647, .ofNat 2147483647), (.ofNat 0, .ofNat 2147483647), (.ofNat 0, .ofNat 7)], ([(0, .inr (.inr (.inr (.inl 50)))), (1, .inl (1, .ofNat 0)), (2, .inl (2, .ofNat 0)), (3, .inl (3, .ofNat 0)), (4, .inl (4, .ofNat 0))], (([], []), [(true, (0, .ofNat 22)), (true, (4, .ofNat 0))]))))] 2 = true := by decide +kernel
theorem wS_186_ok : aSumOk wG wS_186 := aMeth_ok (zmc wS_21_ok (zmc wS_151_ok (zmc wS_183_ok zm0))) wS_186_k
/-- MaidsMemory$Rumour sortsPut -/
def wS_187 : aSum := (43, (0, ([(.ofNat 0, .ofNat 0), (.ofNat 0, .ofNat 5)], ([.inr (.inr (.inr (.inl 1))), .inl (1, .ofNat 0)], ([], ([], ([(.ofNat 0, .ofNat 2147483647)], (some (.inl (2, .ofNat 0)), ([], [])))))))))
set_option maxRecDepth 100000 in
theorem wS_187_k : aMeth wG [] (zfun []) (fun _ _ => none) 4000 wS_187 [(4, ([(.ofNat 0, .ofNat 0), (.ofNat 0, .ofNat 5), (.ofNat 0, .ofNat 2147483647), (.ofNat 0, .ofNat 4)], ([(0, .inr (.inr (.inr (.inl 1)))), (1, .inl (1, .ofNat 0)), (2, .inl (2, .ofNat 0)), (3, .inl (3, .ofNat 0))], (([], []), [(true, (0, .ofNat 4)), (true, (3, .ofNat 0))]))))] 2 = true := by decide +kernel
theorem wS_187_ok : aSumOk wG wS_187 := aMeth_ok zm0 wS_187_k
/-- MaidsMemory$Rumour sortsKnown -/
def wS_188 : aSum := (44, (1, ([(.ofNat 0, .ofNat 0), (.ofNat 0, .ofNat 6), (.ofNat 0, .ofNat 5)], ([.inr (.inr (.inr (.inl 1))), .inl (1, .ofNat 0), .inl (2, .ofNat 0)], ([], ([], ([(.ofNat 0, .ofNat 2147483647)], (some (.inl (3, .ofNat 0)), ([], [])))))))))
set_option maxRecDepth 100000 in
theorem wS_188_k : aMeth wG [] (zfun []) (fun _ _ => none) 4000 wS_188 [(5, ([(.ofNat 0, .ofNat 0), (.ofNat 0, .ofNat 6), (.ofNat 0, .ofNat 5), (.ofNat 0, .ofNat 2147483647), (.ofNat 0, .ofNat 4)], ([(0, .inr (.inr (.inr (.inl 1)))), (1, .inl (1, .ofNat 0)), (2, .inl (2, .ofNat 0)), (3, .inl (3, .ofNat 0)), (4, .inl (4, .ofNat 0))], (([], []), [(true, (0, .ofNat 5)), (true, (4, .ofNat 0))]))))] 2 = true := by decide +kernel
theorem wS_188_ok : aSumOk wG wS_188 := aMeth_ok zm0 wS_188_k
/-- MaidsMemory$Rumour hear -/
def wS_189 : aSum := (42, (2, ([(.ofNat 0, .ofNat 0)], ([.inr (.inr (.inr (.inl 33))), .inr (.inr (.inr (.inl 1)))], ([], ([(33, 0), (33, 1), (34, 999), (35, 999)], ([], (none, ([], [])))))))))
set_option maxRecDepth 100000 in
theorem wS_189_k : aMeth wG [wS_187, wS_188] (zfun [43, 44]) (fun _ _ => none) 4000 wS_189 [(18, ([(.ofNat 0, .ofNat 0), (.ofNat 0, .ofNat 6)], ([(0, .inr (.inr (.inr (.inl 33)))), (1, .inr (.inr (.inr (.inl 1)))), (2, .inl (1, .ofNat 0))], (([], []), [(true, (0, .ofNat 18)), (true, (1, .ofNat 0)), (true, (0, .negSucc 0)), (true, (0, .negSucc 0))])))),
  (39, ([(.ofNat 0, .ofNat 0), (.ofNat 0, .ofNat 5), (.ofNat 0, .ofNat 7)], ([(0, .inr (.inr (.inr (.inl 33)))), (1, .inr (.inr (.inr (.inl 1)))), (2, .inl (1, .ofNat 0)), (3, .inl (2, .ofNat 0))], (([], []), [(true, (0, .ofNat 18)), (true, (1, .ofNat 0)), (true, (0, .ofNat 39)), (true, (2, .ofNat 0))]))))] 4 = true := by decide +kernel
theorem wS_189_ok : aSumOk wG wS_189 := aMeth_ok (zmc wS_187_ok (zmc wS_188_ok zm0)) wS_189_k
/-- MaidsMemory$Rumour givenBy -/
def wS_190 : aSum := (45, (0, ([(.ofNat 0, .ofNat 0), (.negSucc 2147483647, .ofNat 2147483647)], ([.inr (.inr (.inr (.inl 33))), .inl (1, .ofNat 0)], ([], ([], ([(.ofNat 0, .ofNat 2147483647)], (some (.inl (2, .ofNat 0)), ([], [])))))))))
set_option maxRecDepth 100000 in
theorem wS_190_k : aMeth wG [] (zfun []) (fun _ _ => none) 4000 wS_190 [(4, ([(.ofNat 0, .ofNat 0), (.negSucc 2147483647, .ofNat 2147483647), (.ofNat 0, .ofNat 2147483647), (.ofNat 0, .ofNat 6)], ([(0, .inr (.inr (.inr (.inl 33)))), (1, .inl (1, .ofNat 0)), (2, .inl (2, .ofNat 0)), (3, .inl (3, .ofNat 0))], (([], []), [(true, (0, .ofNat 4)), (true, (3, .ofNat 0)), (true, (0, .negSucc 0)), (true, (0, .negSucc 0))])))),
  (23, ([(.ofNat 0, .ofNat 0), (.negSucc 2147483647, .ofNat 2147483647), (.ofNat 0, .ofNat 2147483647), (.ofNat 0, .ofNat 5), (.negSucc 2147483647, .ofNat 2147483647), (.ofNat 0, .ofNat 7)], ([(0, .inr (.inr (.inr (.inl 33)))), (1, .inl (1, .ofNat 0)), (2, .inl (2, .ofNat 0)), (3, .inl (3, .ofNat 0)), (4, .inl (4, .ofNat 0)), (5, .inl (5, .ofNat 0))], (([], []), [(true, (0, .ofNat 4)), (true, (3, .ofNat 0)), (true, (0, .ofNat 23)), (true, (5, .ofNat 0))]))))] 4 = true := by decide +kernel
theorem wS_190_ok : aSumOk wG wS_190 := aMeth_ok zm0 wS_190_k
/-- MaidsMemory given -/
def wS_191 : aSum := (134, (3, ([(.ofNat 0, .ofNat 0), (.negSucc 2147483647, .ofNat 2147483647)], ([.inr (.inr (.inr (.inl 0))), .inl (1, .ofNat 0)], ([], ([(33, 0), (33, 1), (34, 999), (35, 999)], ([(.negSucc 0, .ofNat 2147483647)], (some (.inl (2, .ofNat 0)), ([], [])))))))))
set_option maxRecDepth 100000 in
theorem wS_191_k : aMeth wG [wS_189, wS_190] (zfun [42, 45]) (fun _ _ => none) 4000 wS_191 [] 0 = true := by decide +kernel
theorem wS_191_ok : aSumOk wG wS_191 := aMeth_ok (zmc wS_189_ok (zmc wS_190_ok zm0)) wS_191_k
/-- MaidsMemoryModel isGiven -/
def wS_192 : aSum := (218, (1, ([(.ofNat 0, .ofNat 0), (.ofNat 0, .ofNat 5), (.negSucc 2147483647, .ofNat 2147483647)], ([.inr (.inr (.inr (.inl 50))), .inl (1, .ofNat 0), .inl (2, .ofNat 0)], ([], ([], ([(.ofNat 0, .ofNat 1)], (some (.inl (3, .ofNat 0)), ([], [])))))))))
set_option maxRecDepth 100000 in
theorem wS_192_k : aMeth wG [] (zfun []) (fun _ _ => none) 4000 wS_192 [(5, ([(.ofNat 0, .ofNat 0), (.ofNat 0, .ofNat 5), (.negSucc 2147483647, .ofNat 2147483647), (.ofNat 0, .ofNat 1), (.ofNat 0, .ofNat 4)], ([(0, .inr (.inr (.inr (.inl 50)))), (1, .inl (1, .ofNat 0)), (2, .inl (2, .ofNat 0)), (3, .inl (3, .ofNat 0)), (4, .inl (4, .ofNat 0))], (([], []), [(true, (0, .ofNat 5)), (true, (4, .ofNat 0)), (true, (0, .negSucc 0)), (true, (0, .negSucc 0))])))),
  (33, ([(.ofNat 0, .ofNat 0), (.ofNat 0, .ofNat 5), (.negSucc 2147483647, .ofNat 2147483647), (.ofNat 0, .ofNat 3), (.negSucc 2147483647, .ofNat 2147483647), (.ofNat 0, .ofNat 7)], ([(0, .inr (.inr (.inr (.inl 50)))), (1, .inl (1, .ofNat 0)), (2, .inl (2, .ofNat 0)), (3, .inl (0, .ofNat 1)), (4, .inl (3, .ofNat 0)), (5, .inl (4, .ofNat 0)), (6, .inl (5, .ofNat 0))], (([], []), [(true, (0, .ofNat 5)), (true, (3, .ofNat 0)), (true, (0, .ofNat 33)), (true, (5, .ofNat 0))]))))] 4 = true := by decide +kernel
theorem wS_192_ok : aSumOk wG wS_192 := aMeth_ok zm0 wS_192_k
/-- MaidsMemoryModel givenBy -/
def wS_193 : aSum := (219, (2, ([(.ofNat 0, .ofNat 0), (.negSucc 2147483647, .ofNat 2147483647)], ([.inr (.inr (.inr (.inl 50))), .inl (1, .ofNat 0)], ([], ([], ([(.ofNat 0, .ofNat 2147483647)], (some (.inl (2, .ofNat 0)), ([], [])))))))))
set_option maxRecDepth 100000 in
theorem wS_193_k : aMeth wG [wS_192] (zfun [218]) (fun _ _ => none) 4000 wS_193 [(4, ([(.ofNat 0, .ofNat 0), (.negSucc 2147483647, .ofNat 2147483647), (.ofNat 0, .ofNat 2147483647), (.ofNat 0, .ofNat 6)], ([(0, .inr (.inr (.inr (.inl 50)))), (1, .inl (1, .ofNat 0)), (2, .inl (2, .ofNat 0)), (3, .inl (3, .ofNat 0))], (([], []), [(true, (0, .ofNat 4)), (true, (3, .ofNat 0))]))))] 2 = true := by decide +kernel
theorem wS_193_ok : aSumOk wG wS_193 := aMeth_ok (zmc wS_192_ok zm0) wS_193_k
/-- MaidsMemoryModel given -/
def wS_194 : aSum := (220, (3, ([(.ofNat 0, .ofNat 0), (.negSucc 2147483647, .ofNat 2147483647)], ([.inr (.inr (.inr (.inl 50))), .inl (1, .ofNat 0)], ([], ([], ([(.negSucc 0, .ofNat 2147483647)], (some (.inl (2, .ofNat 0)), ([], [])))))))))
set_option maxRecDepth 100000 in
theorem wS_194_k : aMeth wG [wS_193] (zfun [219]) (fun _ _ => none) 4000 wS_194 [] 0 = true := by decide +kernel
theorem wS_194_ok : aSumOk wG wS_194 := aMeth_ok (zmc wS_193_ok zm0) wS_194_k
/-- MaidsMemory$Rumour fewestWhoGive -/
def wS_195 : aSum := (46, (1, ([(.ofNat 0, .ofNat 0)], ([.inr (.inr (.inr (.inl 33)))], ([], ([], ([(.negSucc 1, .ofNat 21474836)], (some (.inl (1, .ofNat 0)), ([], [])))))))))
set_option maxRecDepth 100000 in
theorem wS_195_k : aMeth wG [wS_190] (zfun [45]) (fun _ _ => none) 4000 wS_195 [(5, ([(.ofNat 0, .ofNat 0), (.negSucc 1, .ofNat 21474836), (.ofNat 0, .ofNat 128)], ([(0, .inr (.inr (.inr (.inl 33)))), (1, .inl (1, .ofNat 0)), (2, .inl (2, .ofNat 0))], (([], []), [(true, (0, .ofNat 5)), (true, (2, .ofNat 0))]))))] 2 = true := by decide +kernel
theorem wS_195_ok : aSumOk wG wS_195 := aMeth_ok (zmc wS_190_ok zm0) wS_195_k
/-- MaidsMemory fewest -/
def wS_196 : aSum := (135, (3, ([(.ofNat 0, .ofNat 0), (.negSucc 2147483647, .ofNat 2147483647)], ([.inr (.inr (.inr (.inl 0))), .inl (1, .ofNat 0)], ([], ([(33, 0), (33, 1), (34, 999), (35, 999)], ([(.negSucc 1, .ofNat 21474836)], (some (.inl (2, .ofNat 0)), ([], [])))))))))
set_option maxRecDepth 100000 in
theorem wS_196_k : aMeth wG [wS_189, wS_195] (zfun [42, 46]) (fun _ _ => none) 4000 wS_196 [] 0 = true := by decide +kernel
theorem wS_196_ok : aSumOk wG wS_196 := aMeth_ok (zmc wS_189_ok (zmc wS_195_ok zm0)) wS_196_k
/-- MaidsMemoryModel fewest -/
def wS_197 : aSum := (221, (3, ([(.ofNat 0, .ofNat 0), (.negSucc 2147483647, .ofNat 2147483647)], ([.inr (.inr (.inr (.inl 50))), .inl (1, .ofNat 0)], ([], ([], ([(.negSucc 2147483647, .ofNat 2147483647)], (some (.inl (2, .ofNat 0)), ([], [])))))))))
set_option maxRecDepth 100000 in
theorem wS_197_k : aMeth wG [wS_178, wS_193] (zfun [168, 219]) (fun _ _ => none) 4000 wS_197 [(17, ([(.ofNat 0, .ofNat 0), (.ofNat 0, .ofNat 1), (.negSucc 1, .ofNat 21474836), (.ofNat 0, .ofNat 128)], ([(0, .inr (.inr (.inr (.inl 50)))), (1, .inl (1, .ofNat 0)), (2, .inl (2, .ofNat 0)), (3, .inl (3, .ofNat 0))], (([], []), [(true, (0, .ofNat 17)), (true, (3, .ofNat 0))]))))] 2 = true := by decide +kernel
theorem wS_197_ok : aSumOk wG wS_197 := aMeth_ok (zmc wS_178_ok (zmc wS_193_ok zm0)) wS_197_k
/-- MaidsMemory$Rumour boardFrom -/
def wS_198 : aSum := (49, (0, ([(.ofNat 0, .ofNat 0), (.ofNat 0, .ofNat 7), (.ofNat 0, .ofNat 7)], ([.inr (.inr (.inr (.inl 33))), .inl (0, .ofNat 7), .inl (1, .ofNat 0), .inl (2, .ofNat 0)], ([], ([], ([], (some (.inl (0, .ofNat 1)), ([], [])))))))))
set_option maxRecDepth 100000 in
theorem wS_198_k : aMeth wG [] (zfun []) (fun _ _ => none) 4000 wS_198 [] 0 = true := by decide +kernel
theorem wS_198_ok : aSumOk wG wS_198 := aMeth_ok zm0 wS_198_k
/-- MaidsMemory$Rumour boardFrom -/
def wS_199 : aSum := (49, (1, ([(.ofNat 0, .ofNat 0), (.ofNat 0, .ofNat 7), (.ofNat 0, .ofNat 7)], ([.inr (.inr (.inr (.inl 33))), .inl (0, .ofNat 6), .inl (1, .ofNat 0), .inl (2, .ofNat 0)], ([], ([(36, 999), (37, 999)], ([(.ofNat 0, .ofNat 1)], (some (.inl (3, .ofNat 0)), ([], [])))))))))
set_option maxRecDepth 100000 in
theorem wS_199_k : aMeth wG [wS_190, wS_198] (zfun [45, 49]) (fun _ _ => none) 4000 wS_199 [(19, ([(.ofNat 0, .ofNat 0), (.ofNat 0, .ofNat 7), (.ofNat 0, .ofNat 7), (.ofNat 0, .ofNat 7)], ([(0, .inr (.inr (.inr (.inl 33)))), (1, .inl (0, .ofNat 6)), (2, .inl (1, .ofNat 0)), (3, .inl (2, .ofNat 0)), (4, .inl (3, .ofNat 0))], (([], []), [(true, (0, .ofNat 19)), (true, (3, .ofNat 0))]))))] 2 = true := by decide +kernel
theorem wS_199_ok : aSumOk wG wS_199 := aMeth_ok (zmc wS_190_ok (zmc wS_198_ok zm0)) wS_199_k
/-- MaidsMemory$Rumour boardFrom -/
def wS_200 : aSum := (49, (2, ([(.ofNat 0, .ofNat 0), (.ofNat 0, .ofNat 7), (.ofNat 0, .ofNat 7)], ([.inr (.inr (.inr (.inl 33))), .inl (0, .ofNat 5), .inl (1, .ofNat 0), .inl (2, .ofNat 0)], ([], ([(36, 999), (37, 999)], ([(.ofNat 0, .ofNat 1)], (some (.inl (3, .ofNat 0)), ([], [])))))))))
set_option maxRecDepth 100000 in
theorem wS_200_k : aMeth wG [wS_190, wS_199] (zfun [45, 49]) (fun _ _ => none) 4000 wS_200 [(19, ([(.ofNat 0, .ofNat 0), (.ofNat 0, .ofNat 7), (.ofNat 0, .ofNat 7), (.ofNat 0, .ofNat 7)], ([(0, .inr (.inr (.inr (.inl 33)))), (1, .inl (0, .ofNat 5)), (2, .inl (1, .ofNat 0)), (3, .inl (2, .ofNat 0)), (4, .inl (3, .ofNat 0))], (([], []), [(true, (0, .ofNat 19)), (true, (3, .ofNat 0))]))))] 2 = true := by decide +kernel
theorem wS_200_ok : aSumOk wG wS_200 := aMeth_ok (zmc wS_190_ok (zmc wS_199_ok zm0)) wS_200_k
/-- MaidsMemory$Rumour boardFrom -/
def wS_201 : aSum := (49, (3, ([(.ofNat 0, .ofNat 0), (.ofNat 0, .ofNat 7), (.ofNat 0, .ofNat 7)], ([.inr (.inr (.inr (.inl 33))), .inl (0, .ofNat 4), .inl (1, .ofNat 0), .inl (2, .ofNat 0)], ([], ([(36, 999), (37, 999)], ([(.ofNat 0, .ofNat 1)], (some (.inl (3, .ofNat 0)), ([], [])))))))))
set_option maxRecDepth 100000 in
theorem wS_201_k : aMeth wG [wS_190, wS_200] (zfun [45, 49]) (fun _ _ => none) 4000 wS_201 [(19, ([(.ofNat 0, .ofNat 0), (.ofNat 0, .ofNat 7), (.ofNat 0, .ofNat 7), (.ofNat 0, .ofNat 7)], ([(0, .inr (.inr (.inr (.inl 33)))), (1, .inl (0, .ofNat 4)), (2, .inl (1, .ofNat 0)), (3, .inl (2, .ofNat 0)), (4, .inl (3, .ofNat 0))], (([], []), [(true, (0, .ofNat 19)), (true, (3, .ofNat 0))]))))] 2 = true := by decide +kernel
theorem wS_201_ok : aSumOk wG wS_201 := aMeth_ok (zmc wS_190_ok (zmc wS_200_ok zm0)) wS_201_k
/-- MaidsMemory$Rumour boardFrom -/
def wS_202 : aSum := (49, (4, ([(.ofNat 0, .ofNat 0), (.ofNat 0, .ofNat 7), (.ofNat 0, .ofNat 7)], ([.inr (.inr (.inr (.inl 33))), .inl (0, .ofNat 3), .inl (1, .ofNat 0), .inl (2, .ofNat 0)], ([], ([(36, 999), (37, 999)], ([(.ofNat 0, .ofNat 1)], (some (.inl (3, .ofNat 0)), ([], [])))))))))
set_option maxRecDepth 100000 in
theorem wS_202_k : aMeth wG [wS_190, wS_201] (zfun [45, 49]) (fun _ _ => none) 4000 wS_202 [(19, ([(.ofNat 0, .ofNat 0), (.ofNat 0, .ofNat 7), (.ofNat 0, .ofNat 7), (.ofNat 0, .ofNat 7)], ([(0, .inr (.inr (.inr (.inl 33)))), (1, .inl (0, .ofNat 3)), (2, .inl (1, .ofNat 0)), (3, .inl (2, .ofNat 0)), (4, .inl (3, .ofNat 0))], (([], []), [(true, (0, .ofNat 19)), (true, (3, .ofNat 0))]))))] 2 = true := by decide +kernel
theorem wS_202_ok : aSumOk wG wS_202 := aMeth_ok (zmc wS_190_ok (zmc wS_201_ok zm0)) wS_202_k
/-- MaidsMemory$Rumour boardFrom -/
def wS_203 : aSum := (49, (5, ([(.ofNat 0, .ofNat 0), (.ofNat 0, .ofNat 7), (.ofNat 0, .ofNat 7)], ([.inr (.inr (.inr (.inl 33))), .inl (0, .ofNat 2), .inl (1, .ofNat 0), .inl (2, .ofNat 0)], ([], ([(36, 999), (37, 999)], ([(.ofNat 0, .ofNat 1)], (some (.inl (3, .ofNat 0)), ([], [])))))))))
set_option maxRecDepth 100000 in
theorem wS_203_k : aMeth wG [wS_190, wS_202] (zfun [45, 49]) (fun _ _ => none) 4000 wS_203 [(19, ([(.ofNat 0, .ofNat 0), (.ofNat 0, .ofNat 7), (.ofNat 0, .ofNat 7), (.ofNat 0, .ofNat 7)], ([(0, .inr (.inr (.inr (.inl 33)))), (1, .inl (0, .ofNat 2)), (2, .inl (1, .ofNat 0)), (3, .inl (2, .ofNat 0)), (4, .inl (3, .ofNat 0))], (([], []), [(true, (0, .ofNat 19)), (true, (3, .ofNat 0))]))))] 2 = true := by decide +kernel
theorem wS_203_ok : aSumOk wG wS_203 := aMeth_ok (zmc wS_190_ok (zmc wS_202_ok zm0)) wS_203_k
/-- MaidsMemory$Rumour boardFrom -/
def wS_204 : aSum := (49, (6, ([(.ofNat 0, .ofNat 0), (.ofNat 0, .ofNat 7), (.ofNat 0, .ofNat 7)], ([.inr (.inr (.inr (.inl 33))), .inl (0, .ofNat 1), .inl (1, .ofNat 0), .inl (2, .ofNat 0)], ([], ([(36, 999), (37, 999)], ([(.ofNat 0, .ofNat 1)], (some (.inl (3, .ofNat 0)), ([], [])))))))))
set_option maxRecDepth 100000 in
theorem wS_204_k : aMeth wG [wS_190, wS_203] (zfun [45, 49]) (fun _ _ => none) 4000 wS_204 [(19, ([(.ofNat 0, .ofNat 0), (.ofNat 0, .ofNat 7), (.ofNat 0, .ofNat 7), (.ofNat 0, .ofNat 7)], ([(0, .inr (.inr (.inr (.inl 33)))), (1, .inl (0, .ofNat 1)), (2, .inl (1, .ofNat 0)), (3, .inl (2, .ofNat 0)), (4, .inl (3, .ofNat 0))], (([], []), [(true, (0, .ofNat 19)), (true, (3, .ofNat 0))]))))] 2 = true := by decide +kernel
theorem wS_204_ok : aSumOk wG wS_204 := aMeth_ok (zmc wS_190_ok (zmc wS_203_ok zm0)) wS_204_k
/-- MaidsMemory$Rumour boardFrom -/
def wS_205 : aSum := (49, (7, ([(.ofNat 0, .ofNat 0), (.ofNat 0, .ofNat 7), (.ofNat 0, .ofNat 7)], ([.inr (.inr (.inr (.inl 33))), .inl (0, .ofNat 0), .inl (1, .ofNat 0), .inl (2, .ofNat 0)], ([], ([(36, 999), (37, 999)], ([(.ofNat 0, .ofNat 1)], (some (.inl (3, .ofNat 0)), ([], [])))))))))
set_option maxRecDepth 100000 in
theorem wS_205_k : aMeth wG [wS_190, wS_204] (zfun [45, 49]) (fun _ _ => none) 4000 wS_205 [(19, ([(.ofNat 0, .ofNat 0), (.ofNat 0, .ofNat 7), (.ofNat 0, .ofNat 7), (.ofNat 0, .ofNat 7)], ([(0, .inr (.inr (.inr (.inl 33)))), (1, .inl (0, .ofNat 0)), (2, .inl (1, .ofNat 0)), (3, .inl (2, .ofNat 0)), (4, .inl (3, .ofNat 0))], (([], []), [(true, (0, .ofNat 19)), (true, (3, .ofNat 0))]))))] 2 = true := by decide +kernel
theorem wS_205_ok : aSumOk wG wS_205 := aMeth_ok (zmc wS_190_ok (zmc wS_204_ok zm0)) wS_205_k
/-- MaidsMemory$Rumour board -/
def wS_206 : aSum := (47, (8, ([(.ofNat 0, .ofNat 0)], ([.inr (.inr (.inr (.inl 33)))], ([], ([(36, 999), (37, 999)], ([(.negSucc 1, .ofNat 7)], (some (.inl (1, .ofNat 0)), ([], [])))))))))
set_option maxRecDepth 100000 in
theorem wS_206_k : aMeth wG [wS_205] (zfun [49]) (fun _ _ => none) 4000 wS_206 [(2, ([(.ofNat 0, .ofNat 0), (.ofNat 0, .ofNat 8)], ([(0, .inr (.inr (.inr (.inl 33)))), (1, .inl (1, .ofNat 0))], (([], []), [(true, (0, .ofNat 2)), (true, (1, .ofNat 0)), (true, (0, .negSucc 0)), (true, (0, .negSucc 0))])))),
  (12, ([(.ofNat 0, .ofNat 0), (.ofNat 0, .ofNat 7), (.ofNat 0, .ofNat 7)], ([(0, .inr (.inr (.inr (.inl 33)))), (1, .inl (1, .ofNat 0)), (2, .inl (2, .ofNat 0))], (([], []), [(true, (0, .ofNat 2)), (true, (1, .ofNat 0)), (true, (0, .ofNat 12)), (true, (2, .ofNat 0))]))))] 4 = true := by decide +kernel
theorem wS_206_ok : aSumOk wG wS_206 := aMeth_ok (zmc wS_205_ok zm0) wS_206_k
/-- MaidsMemory trains -/
def wS_207 : aSum := (136, (9, ([(.ofNat 0, .ofNat 0), (.negSucc 2147483647, .ofNat 2147483647)], ([.inr (.inr (.inr (.inl 0))), .inl (1, .ofNat 0)], ([], ([(33, 0), (33, 1), (34, 999), (35, 999), (36, 999), (37, 999)], ([(.negSucc 2147483647, .ofNat 2147483647)], (some (.inl (2, .ofNat 0)), ([], [])))))))))
set_option maxRecDepth 100000 in
theorem wS_207_k : aMeth wG [wS_189, wS_206] (zfun [42, 47]) (fun _ _ => none) 4000 wS_207 [] 0 = true := by decide +kernel
theorem wS_207_ok : aSumOk wG wS_207 := aMeth_ok (zmc wS_189_ok (zmc wS_206_ok zm0)) wS_207_k
/-- MaidsMemoryModel triesTrains -/
def wS_208 : aSum := (222, (0, ([(.ofNat 0, .ofNat 0), (.ofNat 0, .ofNat 7)], ([.inr (.inr (.inr (.inl 50))), .inl (0, .ofNat 7), .inl (1, .ofNat 0)], ([((50, (0, .ofNat 7)), (0, .ofNat 7))], ([(50, 32), (66, 999)], ([], (none, ([((50, (0, .ofNat 7)), (0, .ofNat 7))], [])))))))))
set_option maxRecDepth 100000 in
theorem wS_208_k : aMeth wG [] (zfun []) (fun _ _ => none) 4000 wS_208 [(23, ([(.ofNat 0, .ofNat 0), (.ofNat 0, .ofNat 7), (.ofNat 0, .ofNat 7)], ([(0, .inr (.inr (.inr (.inl 50)))), (3, .inl (2, .ofNat 0))], (([((50, (0, .ofNat 7)), (0, .ofNat 7))], []), [(true, (0, .ofNat 23)), (true, (2, .ofNat 0))]))))] 2 = true := by decide +kernel
theorem wS_208_ok : aSumOk wG wS_208 := aMeth_ok zm0 wS_208_k
/-- MaidsMemoryModel triesTrains -/
def wS_209 : aSum := (222, (3, ([(.ofNat 0, .ofNat 0), (.ofNat 0, .ofNat 6)], ([.inr (.inr (.inr (.inl 50))), .inl (0, .ofNat 6), .inl (1, .ofNat 0)], ([((50, (0, .ofNat 7)), (0, .ofNat 7))], ([(50, 32), (65, 999), (66, 999), (67, 999)], ([], (none, ([((50, (0, .ofNat 7)), (0, .ofNat 7))], [])))))))))
set_option maxRecDepth 100000 in
theorem wS_209_k : aMeth wG [wS_193, wS_208] (zfun [219, 222]) (fun _ _ => none) 4000 wS_209 [(52, ([(.ofNat 0, .ofNat 0), (.ofNat 0, .ofNat 6), (.ofNat 0, .ofNat 7)], ([(0, .inr (.inr (.inr (.inl 50)))), (1, .inl (0, .ofNat 6)), (2, .inl (1, .ofNat 0)), (3, .inl (2, .ofNat 0))], (([((50, (0, .ofNat 7)), (0, .ofNat 7))], []), [(true, (0, .ofNat 52)), (true, (2, .ofNat 0))]))))] 2 = true := by decide +kernel
theorem wS_209_ok : aSumOk wG wS_209 := aMeth_ok (zmc wS_193_ok (zmc wS_208_ok zm0)) wS_209_k
/-- MaidsMemoryModel triesTrains -/
def wS_210 : aSum := (222, (4, ([(.ofNat 0, .ofNat 0), (.ofNat 0, .ofNat 5)], ([.inr (.inr (.inr (.inl 50))), .inl (0, .ofNat 5), .inl (1, .ofNat 0)], ([((50, (0, .ofNat 7)), (0, .ofNat 7))], ([(50, 32), (65, 999), (66, 999), (67, 999)], ([], (none, ([((50, (0, .ofNat 7)), (0, .ofNat 7))], [])))))))))
set_option maxRecDepth 100000 in
theorem wS_210_k : aMeth wG [wS_193, wS_209] (zfun [219, 222]) (fun _ _ => none) 4000 wS_210 [(52, ([(.ofNat 0, .ofNat 0), (.ofNat 0, .ofNat 5), (.ofNat 0, .ofNat 6)], ([(0, .inr (.inr (.inr (.inl 50)))), (1, .inl (0, .ofNat 5)), (2, .inl (1, .ofNat 0)), (3, .inl (2, .ofNat 0))], (([((50, (0, .ofNat 7)), (0, .ofNat 7))], []), [(true, (0, .ofNat 52)), (true, (2, .ofNat 0))]))))] 2 = true := by decide +kernel
theorem wS_210_ok : aSumOk wG wS_210 := aMeth_ok (zmc wS_193_ok (zmc wS_209_ok zm0)) wS_210_k
/-- MaidsMemoryModel triesTrains -/
def wS_211 : aSum := (222, (5, ([(.ofNat 0, .ofNat 0), (.ofNat 0, .ofNat 4)], ([.inr (.inr (.inr (.inl 50))), .inl (0, .ofNat 4), .inl (1, .ofNat 0)], ([((50, (0, .ofNat 7)), (0, .ofNat 7))], ([(50, 32), (65, 999), (66, 999), (67, 999)], ([], (none, ([((50, (0, .ofNat 7)), (0, .ofNat 7))], [])))))))))
set_option maxRecDepth 100000 in
theorem wS_211_k : aMeth wG [wS_193, wS_210] (zfun [219, 222]) (fun _ _ => none) 4000 wS_211 [(52, ([(.ofNat 0, .ofNat 0), (.ofNat 0, .ofNat 4), (.ofNat 0, .ofNat 5)], ([(0, .inr (.inr (.inr (.inl 50)))), (1, .inl (0, .ofNat 4)), (2, .inl (1, .ofNat 0)), (3, .inl (2, .ofNat 0))], (([((50, (0, .ofNat 7)), (0, .ofNat 7))], []), [(true, (0, .ofNat 52)), (true, (2, .ofNat 0))]))))] 2 = true := by decide +kernel
theorem wS_211_ok : aSumOk wG wS_211 := aMeth_ok (zmc wS_193_ok (zmc wS_210_ok zm0)) wS_211_k
/-- MaidsMemoryModel triesTrains -/
def wS_212 : aSum := (222, (6, ([(.ofNat 0, .ofNat 0), (.ofNat 0, .ofNat 3)], ([.inr (.inr (.inr (.inl 50))), .inl (0, .ofNat 3), .inl (1, .ofNat 0)], ([((50, (0, .ofNat 7)), (0, .ofNat 7))], ([(50, 32), (65, 999), (66, 999), (67, 999)], ([], (none, ([((50, (0, .ofNat 7)), (0, .ofNat 7))], [])))))))))
set_option maxRecDepth 100000 in
theorem wS_212_k : aMeth wG [wS_193, wS_211] (zfun [219, 222]) (fun _ _ => none) 4000 wS_212 [(52, ([(.ofNat 0, .ofNat 0), (.ofNat 0, .ofNat 3), (.ofNat 0, .ofNat 4)], ([(0, .inr (.inr (.inr (.inl 50)))), (1, .inl (0, .ofNat 3)), (2, .inl (1, .ofNat 0)), (3, .inl (2, .ofNat 0))], (([((50, (0, .ofNat 7)), (0, .ofNat 7))], []), [(true, (0, .ofNat 52)), (true, (2, .ofNat 0))]))))] 2 = true := by decide +kernel
theorem wS_212_ok : aSumOk wG wS_212 := aMeth_ok (zmc wS_193_ok (zmc wS_211_ok zm0)) wS_212_k
/-- MaidsMemoryModel triesTrains -/
def wS_213 : aSum := (222, (7, ([(.ofNat 0, .ofNat 0), (.ofNat 0, .ofNat 2)], ([.inr (.inr (.inr (.inl 50))), .inl (0, .ofNat 2), .inl (1, .ofNat 0)], ([((50, (0, .ofNat 7)), (0, .ofNat 7))], ([(50, 32), (65, 999), (66, 999), (67, 999)], ([], (none, ([((50, (0, .ofNat 7)), (0, .ofNat 7))], [])))))))))
set_option maxRecDepth 100000 in
theorem wS_213_k : aMeth wG [wS_193, wS_212] (zfun [219, 222]) (fun _ _ => none) 4000 wS_213 [(52, ([(.ofNat 0, .ofNat 0), (.ofNat 0, .ofNat 2), (.ofNat 0, .ofNat 3)], ([(0, .inr (.inr (.inr (.inl 50)))), (1, .inl (0, .ofNat 2)), (2, .inl (1, .ofNat 0)), (3, .inl (2, .ofNat 0))], (([((50, (0, .ofNat 7)), (0, .ofNat 7))], []), [(true, (0, .ofNat 52)), (true, (2, .ofNat 0))]))))] 2 = true := by decide +kernel
theorem wS_213_ok : aSumOk wG wS_213 := aMeth_ok (zmc wS_193_ok (zmc wS_212_ok zm0)) wS_213_k
/-- MaidsMemoryModel triesTrains -/
def wS_214 : aSum := (222, (8, ([(.ofNat 0, .ofNat 0), (.ofNat 0, .ofNat 1)], ([.inr (.inr (.inr (.inl 50))), .inl (0, .ofNat 1), .inl (1, .ofNat 0)], ([((50, (0, .ofNat 7)), (0, .ofNat 7))], ([(50, 32), (65, 999), (66, 999), (67, 999)], ([], (none, ([((50, (0, .ofNat 7)), (0, .ofNat 7))], [])))))))))
set_option maxRecDepth 100000 in
theorem wS_214_k : aMeth wG [wS_193, wS_213] (zfun [219, 222]) (fun _ _ => none) 4000 wS_214 [(52, ([(.ofNat 0, .ofNat 0), (.ofNat 0, .ofNat 1), (.ofNat 0, .ofNat 2)], ([(0, .inr (.inr (.inr (.inl 50)))), (1, .inl (0, .ofNat 1)), (2, .inl (1, .ofNat 0)), (3, .inl (2, .ofNat 0))], (([((50, (0, .ofNat 7)), (0, .ofNat 7))], []), [(true, (0, .ofNat 52)), (true, (2, .ofNat 0))]))))] 2 = true := by decide +kernel
theorem wS_214_ok : aSumOk wG wS_214 := aMeth_ok (zmc wS_193_ok (zmc wS_213_ok zm0)) wS_214_k
/-- MaidsMemoryModel triesTrains -/
def wS_215 : aSum := (222, (9, ([(.ofNat 0, .ofNat 0)], ([.inr (.inr (.inr (.inl 50))), .inl (0, .ofNat 0), .inl (0, .ofNat 0)], ([((50, (0, .ofNat 7)), (0, .ofNat 7))], ([(50, 32), (65, 999), (66, 999), (67, 999)], ([], (none, ([((50, (0, .ofNat 7)), (0, .ofNat 7))], [])))))))))
set_option maxRecDepth 100000 in
theorem wS_215_k : aMeth wG [wS_193, wS_214] (zfun [219, 222]) (fun _ _ => none) 4000 wS_215 [(52, ([(.ofNat 0, .ofNat 0), (.ofNat 0, .ofNat 1)], ([(0, .inr (.inr (.inr (.inl 50)))), (1, .inl (0, .ofNat 0)), (2, .inl (0, .ofNat 0)), (3, .inl (1, .ofNat 0))], (([((50, (0, .ofNat 7)), (0, .ofNat 7))], []), [(true, (0, .ofNat 52)), (true, (1, .ofNat 0))]))))] 2 = true := by decide +kernel
theorem wS_215_ok : aSumOk wG wS_215 := aMeth_ok (zmc wS_193_ok (zmc wS_214_ok zm0)) wS_215_k
/-- MaidsMemoryModel triesTrains -/
def wS_216 : aSum := (222, (0, ([(.ofNat 0, .ofNat 0), (.ofNat 0, .ofNat 6)], ([.inr (.inr (.inr (.inl 50))), .inl (0, .ofNat 6), .inl (1, .ofNat 0)], ([((50, (0, .ofNat 7)), (0, .ofNat 6))], ([(50, 32), (66, 999)], ([], (none, ([((50, (0, .ofNat 7)), (0, .ofNat 6))], [])))))))))
set_option maxRecDepth 100000 in
theorem wS_216_k : aMeth wG [] (zfun []) (fun _ _ => none) 4000 wS_216 [(23, ([(.ofNat 0, .ofNat 0), (.ofNat 0, .ofNat 6), (.ofNat 0, .ofNat 6)], ([(0, .inr (.inr (.inr (.inl 50)))), (3, .inl (2, .ofNat 0))], (([((50, (0, .ofNat 7)), (0, .ofNat 6))], []), [(true, (0, .ofNat 23)), (true, (2, .ofNat 0))]))))] 2 = true := by decide +kernel
theorem wS_216_ok : aSumOk wG wS_216 := aMeth_ok zm0 wS_216_k
/-- MaidsMemoryModel triesTrains -/
def wS_217 : aSum := (222, (3, ([(.ofNat 0, .ofNat 0), (.ofNat 0, .ofNat 5)], ([.inr (.inr (.inr (.inl 50))), .inl (0, .ofNat 5), .inl (1, .ofNat 0)], ([((50, (0, .ofNat 7)), (0, .ofNat 6))], ([(50, 32), (65, 999), (66, 999), (67, 999)], ([], (none, ([((50, (0, .ofNat 7)), (0, .ofNat 6))], [])))))))))
set_option maxRecDepth 100000 in
theorem wS_217_k : aMeth wG [wS_193, wS_216] (zfun [219, 222]) (fun _ _ => none) 4000 wS_217 [(52, ([(.ofNat 0, .ofNat 0), (.ofNat 0, .ofNat 5), (.ofNat 0, .ofNat 6)], ([(0, .inr (.inr (.inr (.inl 50)))), (1, .inl (0, .ofNat 5)), (2, .inl (1, .ofNat 0)), (3, .inl (2, .ofNat 0))], (([((50, (0, .ofNat 7)), (0, .ofNat 6))], []), [(true, (0, .ofNat 52)), (true, (2, .ofNat 0))]))))] 2 = true := by decide +kernel
theorem wS_217_ok : aSumOk wG wS_217 := aMeth_ok (zmc wS_193_ok (zmc wS_216_ok zm0)) wS_217_k
/-- MaidsMemoryModel triesTrains -/
def wS_218 : aSum := (222, (4, ([(.ofNat 0, .ofNat 0), (.ofNat 0, .ofNat 4)], ([.inr (.inr (.inr (.inl 50))), .inl (0, .ofNat 4), .inl (1, .ofNat 0)], ([((50, (0, .ofNat 7)), (0, .ofNat 6))], ([(50, 32), (65, 999), (66, 999), (67, 999)], ([], (none, ([((50, (0, .ofNat 7)), (0, .ofNat 6))], [])))))))))
set_option maxRecDepth 100000 in
theorem wS_218_k : aMeth wG [wS_193, wS_217] (zfun [219, 222]) (fun _ _ => none) 4000 wS_218 [(52, ([(.ofNat 0, .ofNat 0), (.ofNat 0, .ofNat 4), (.ofNat 0, .ofNat 5)], ([(0, .inr (.inr (.inr (.inl 50)))), (1, .inl (0, .ofNat 4)), (2, .inl (1, .ofNat 0)), (3, .inl (2, .ofNat 0))], (([((50, (0, .ofNat 7)), (0, .ofNat 6))], []), [(true, (0, .ofNat 52)), (true, (2, .ofNat 0))]))))] 2 = true := by decide +kernel
theorem wS_218_ok : aSumOk wG wS_218 := aMeth_ok (zmc wS_193_ok (zmc wS_217_ok zm0)) wS_218_k
/-- MaidsMemoryModel triesTrains -/
def wS_219 : aSum := (222, (5, ([(.ofNat 0, .ofNat 0), (.ofNat 0, .ofNat 3)], ([.inr (.inr (.inr (.inl 50))), .inl (0, .ofNat 3), .inl (1, .ofNat 0)], ([((50, (0, .ofNat 7)), (0, .ofNat 6))], ([(50, 32), (65, 999), (66, 999), (67, 999)], ([], (none, ([((50, (0, .ofNat 7)), (0, .ofNat 6))], [])))))))))
set_option maxRecDepth 100000 in
theorem wS_219_k : aMeth wG [wS_193, wS_218] (zfun [219, 222]) (fun _ _ => none) 4000 wS_219 [(52, ([(.ofNat 0, .ofNat 0), (.ofNat 0, .ofNat 3), (.ofNat 0, .ofNat 4)], ([(0, .inr (.inr (.inr (.inl 50)))), (1, .inl (0, .ofNat 3)), (2, .inl (1, .ofNat 0)), (3, .inl (2, .ofNat 0))], (([((50, (0, .ofNat 7)), (0, .ofNat 6))], []), [(true, (0, .ofNat 52)), (true, (2, .ofNat 0))]))))] 2 = true := by decide +kernel
theorem wS_219_ok : aSumOk wG wS_219 := aMeth_ok (zmc wS_193_ok (zmc wS_218_ok zm0)) wS_219_k
/-- MaidsMemoryModel triesTrains -/
def wS_220 : aSum := (222, (6, ([(.ofNat 0, .ofNat 0), (.ofNat 0, .ofNat 2)], ([.inr (.inr (.inr (.inl 50))), .inl (0, .ofNat 2), .inl (1, .ofNat 0)], ([((50, (0, .ofNat 7)), (0, .ofNat 6))], ([(50, 32), (65, 999), (66, 999), (67, 999)], ([], (none, ([((50, (0, .ofNat 7)), (0, .ofNat 6))], [])))))))))
set_option maxRecDepth 100000 in
theorem wS_220_k : aMeth wG [wS_193, wS_219] (zfun [219, 222]) (fun _ _ => none) 4000 wS_220 [(52, ([(.ofNat 0, .ofNat 0), (.ofNat 0, .ofNat 2), (.ofNat 0, .ofNat 3)], ([(0, .inr (.inr (.inr (.inl 50)))), (1, .inl (0, .ofNat 2)), (2, .inl (1, .ofNat 0)), (3, .inl (2, .ofNat 0))], (([((50, (0, .ofNat 7)), (0, .ofNat 6))], []), [(true, (0, .ofNat 52)), (true, (2, .ofNat 0))]))))] 2 = true := by decide +kernel
theorem wS_220_ok : aSumOk wG wS_220 := aMeth_ok (zmc wS_193_ok (zmc wS_219_ok zm0)) wS_220_k
/-- MaidsMemoryModel triesTrains -/
def wS_221 : aSum := (222, (7, ([(.ofNat 0, .ofNat 0), (.ofNat 0, .ofNat 1)], ([.inr (.inr (.inr (.inl 50))), .inl (0, .ofNat 1), .inl (1, .ofNat 0)], ([((50, (0, .ofNat 7)), (0, .ofNat 6))], ([(50, 32), (65, 999), (66, 999), (67, 999)], ([], (none, ([((50, (0, .ofNat 7)), (0, .ofNat 6))], [])))))))))
set_option maxRecDepth 100000 in
theorem wS_221_k : aMeth wG [wS_193, wS_220] (zfun [219, 222]) (fun _ _ => none) 4000 wS_221 [(52, ([(.ofNat 0, .ofNat 0), (.ofNat 0, .ofNat 1), (.ofNat 0, .ofNat 2)], ([(0, .inr (.inr (.inr (.inl 50)))), (1, .inl (0, .ofNat 1)), (2, .inl (1, .ofNat 0)), (3, .inl (2, .ofNat 0))], (([((50, (0, .ofNat 7)), (0, .ofNat 6))], []), [(true, (0, .ofNat 52)), (true, (2, .ofNat 0))]))))] 2 = true := by decide +kernel
theorem wS_221_ok : aSumOk wG wS_221 := aMeth_ok (zmc wS_193_ok (zmc wS_220_ok zm0)) wS_221_k
/-- MaidsMemoryModel triesTrains -/
def wS_222 : aSum := (222, (8, ([(.ofNat 0, .ofNat 0)], ([.inr (.inr (.inr (.inl 50))), .inl (0, .ofNat 0), .inl (0, .ofNat 0)], ([((50, (0, .ofNat 7)), (0, .ofNat 6))], ([(50, 32), (65, 999), (66, 999), (67, 999)], ([], (none, ([((50, (0, .ofNat 7)), (0, .ofNat 6))], [])))))))))
set_option maxRecDepth 100000 in
theorem wS_222_k : aMeth wG [wS_193, wS_221] (zfun [219, 222]) (fun _ _ => none) 4000 wS_222 [(52, ([(.ofNat 0, .ofNat 0), (.ofNat 0, .ofNat 1)], ([(0, .inr (.inr (.inr (.inl 50)))), (1, .inl (0, .ofNat 0)), (2, .inl (0, .ofNat 0)), (3, .inl (1, .ofNat 0))], (([((50, (0, .ofNat 7)), (0, .ofNat 6))], []), [(true, (0, .ofNat 52)), (true, (1, .ofNat 0))]))))] 2 = true := by decide +kernel
theorem wS_222_ok : aSumOk wG wS_222 := aMeth_ok (zmc wS_193_ok (zmc wS_221_ok zm0)) wS_222_k
/-- MaidsMemoryModel triesTrains -/
def wS_223 : aSum := (222, (0, ([(.ofNat 0, .ofNat 0), (.ofNat 0, .ofNat 5)], ([.inr (.inr (.inr (.inl 50))), .inl (0, .ofNat 5), .inl (1, .ofNat 0)], ([((50, (0, .ofNat 7)), (0, .ofNat 5))], ([(50, 32), (66, 999)], ([], (none, ([((50, (0, .ofNat 7)), (0, .ofNat 5))], [])))))))))
set_option maxRecDepth 100000 in
theorem wS_223_k : aMeth wG [] (zfun []) (fun _ _ => none) 4000 wS_223 [(23, ([(.ofNat 0, .ofNat 0), (.ofNat 0, .ofNat 5), (.ofNat 0, .ofNat 5)], ([(0, .inr (.inr (.inr (.inl 50)))), (3, .inl (2, .ofNat 0))], (([((50, (0, .ofNat 7)), (0, .ofNat 5))], []), [(true, (0, .ofNat 23)), (true, (2, .ofNat 0))]))))] 2 = true := by decide +kernel
theorem wS_223_ok : aSumOk wG wS_223 := aMeth_ok zm0 wS_223_k
/-- MaidsMemoryModel triesTrains -/
def wS_224 : aSum := (222, (3, ([(.ofNat 0, .ofNat 0), (.ofNat 0, .ofNat 4)], ([.inr (.inr (.inr (.inl 50))), .inl (0, .ofNat 4), .inl (1, .ofNat 0)], ([((50, (0, .ofNat 7)), (0, .ofNat 5))], ([(50, 32), (65, 999), (66, 999), (67, 999)], ([], (none, ([((50, (0, .ofNat 7)), (0, .ofNat 5))], [])))))))))
set_option maxRecDepth 100000 in
theorem wS_224_k : aMeth wG [wS_193, wS_223] (zfun [219, 222]) (fun _ _ => none) 4000 wS_224 [(52, ([(.ofNat 0, .ofNat 0), (.ofNat 0, .ofNat 4), (.ofNat 0, .ofNat 5)], ([(0, .inr (.inr (.inr (.inl 50)))), (1, .inl (0, .ofNat 4)), (2, .inl (1, .ofNat 0)), (3, .inl (2, .ofNat 0))], (([((50, (0, .ofNat 7)), (0, .ofNat 5))], []), [(true, (0, .ofNat 52)), (true, (2, .ofNat 0))]))))] 2 = true := by decide +kernel
theorem wS_224_ok : aSumOk wG wS_224 := aMeth_ok (zmc wS_193_ok (zmc wS_223_ok zm0)) wS_224_k
/-- MaidsMemoryModel triesTrains -/
def wS_225 : aSum := (222, (4, ([(.ofNat 0, .ofNat 0), (.ofNat 0, .ofNat 3)], ([.inr (.inr (.inr (.inl 50))), .inl (0, .ofNat 3), .inl (1, .ofNat 0)], ([((50, (0, .ofNat 7)), (0, .ofNat 5))], ([(50, 32), (65, 999), (66, 999), (67, 999)], ([], (none, ([((50, (0, .ofNat 7)), (0, .ofNat 5))], [])))))))))
set_option maxRecDepth 100000 in
theorem wS_225_k : aMeth wG [wS_193, wS_224] (zfun [219, 222]) (fun _ _ => none) 4000 wS_225 [(52, ([(.ofNat 0, .ofNat 0), (.ofNat 0, .ofNat 3), (.ofNat 0, .ofNat 4)], ([(0, .inr (.inr (.inr (.inl 50)))), (1, .inl (0, .ofNat 3)), (2, .inl (1, .ofNat 0)), (3, .inl (2, .ofNat 0))], (([((50, (0, .ofNat 7)), (0, .ofNat 5))], []), [(true, (0, .ofNat 52)), (true, (2, .ofNat 0))]))))] 2 = true := by decide +kernel
theorem wS_225_ok : aSumOk wG wS_225 := aMeth_ok (zmc wS_193_ok (zmc wS_224_ok zm0)) wS_225_k
/-- MaidsMemoryModel triesTrains -/
def wS_226 : aSum := (222, (5, ([(.ofNat 0, .ofNat 0), (.ofNat 0, .ofNat 2)], ([.inr (.inr (.inr (.inl 50))), .inl (0, .ofNat 2), .inl (1, .ofNat 0)], ([((50, (0, .ofNat 7)), (0, .ofNat 5))], ([(50, 32), (65, 999), (66, 999), (67, 999)], ([], (none, ([((50, (0, .ofNat 7)), (0, .ofNat 5))], [])))))))))
set_option maxRecDepth 100000 in
theorem wS_226_k : aMeth wG [wS_193, wS_225] (zfun [219, 222]) (fun _ _ => none) 4000 wS_226 [(52, ([(.ofNat 0, .ofNat 0), (.ofNat 0, .ofNat 2), (.ofNat 0, .ofNat 3)], ([(0, .inr (.inr (.inr (.inl 50)))), (1, .inl (0, .ofNat 2)), (2, .inl (1, .ofNat 0)), (3, .inl (2, .ofNat 0))], (([((50, (0, .ofNat 7)), (0, .ofNat 5))], []), [(true, (0, .ofNat 52)), (true, (2, .ofNat 0))]))))] 2 = true := by decide +kernel
theorem wS_226_ok : aSumOk wG wS_226 := aMeth_ok (zmc wS_193_ok (zmc wS_225_ok zm0)) wS_226_k
/-- MaidsMemoryModel triesTrains -/
def wS_227 : aSum := (222, (6, ([(.ofNat 0, .ofNat 0), (.ofNat 0, .ofNat 1)], ([.inr (.inr (.inr (.inl 50))), .inl (0, .ofNat 1), .inl (1, .ofNat 0)], ([((50, (0, .ofNat 7)), (0, .ofNat 5))], ([(50, 32), (65, 999), (66, 999), (67, 999)], ([], (none, ([((50, (0, .ofNat 7)), (0, .ofNat 5))], [])))))))))
set_option maxRecDepth 100000 in
theorem wS_227_k : aMeth wG [wS_193, wS_226] (zfun [219, 222]) (fun _ _ => none) 4000 wS_227 [(52, ([(.ofNat 0, .ofNat 0), (.ofNat 0, .ofNat 1), (.ofNat 0, .ofNat 2)], ([(0, .inr (.inr (.inr (.inl 50)))), (1, .inl (0, .ofNat 1)), (2, .inl (1, .ofNat 0)), (3, .inl (2, .ofNat 0))], (([((50, (0, .ofNat 7)), (0, .ofNat 5))], []), [(true, (0, .ofNat 52)), (true, (2, .ofNat 0))]))))] 2 = true := by decide +kernel
theorem wS_227_ok : aSumOk wG wS_227 := aMeth_ok (zmc wS_193_ok (zmc wS_226_ok zm0)) wS_227_k
/-- MaidsMemoryModel triesTrains -/
def wS_228 : aSum := (222, (7, ([(.ofNat 0, .ofNat 0)], ([.inr (.inr (.inr (.inl 50))), .inl (0, .ofNat 0), .inl (0, .ofNat 0)], ([((50, (0, .ofNat 7)), (0, .ofNat 5))], ([(50, 32), (65, 999), (66, 999), (67, 999)], ([], (none, ([((50, (0, .ofNat 7)), (0, .ofNat 5))], [])))))))))
set_option maxRecDepth 100000 in
theorem wS_228_k : aMeth wG [wS_193, wS_227] (zfun [219, 222]) (fun _ _ => none) 4000 wS_228 [(52, ([(.ofNat 0, .ofNat 0), (.ofNat 0, .ofNat 1)], ([(0, .inr (.inr (.inr (.inl 50)))), (1, .inl (0, .ofNat 0)), (2, .inl (0, .ofNat 0)), (3, .inl (1, .ofNat 0))], (([((50, (0, .ofNat 7)), (0, .ofNat 5))], []), [(true, (0, .ofNat 52)), (true, (1, .ofNat 0))]))))] 2 = true := by decide +kernel
theorem wS_228_ok : aSumOk wG wS_228 := aMeth_ok (zmc wS_193_ok (zmc wS_227_ok zm0)) wS_228_k
/-- MaidsMemoryModel triesTrains -/
def wS_229 : aSum := (222, (0, ([(.ofNat 0, .ofNat 0), (.ofNat 0, .ofNat 4)], ([.inr (.inr (.inr (.inl 50))), .inl (0, .ofNat 4), .inl (1, .ofNat 0)], ([((50, (0, .ofNat 7)), (0, .ofNat 4))], ([(50, 32), (66, 999)], ([], (none, ([((50, (0, .ofNat 7)), (0, .ofNat 4))], [])))))))))
set_option maxRecDepth 100000 in
theorem wS_229_k : aMeth wG [] (zfun []) (fun _ _ => none) 4000 wS_229 [(23, ([(.ofNat 0, .ofNat 0), (.ofNat 0, .ofNat 4), (.ofNat 0, .ofNat 4)], ([(0, .inr (.inr (.inr (.inl 50)))), (3, .inl (2, .ofNat 0))], (([((50, (0, .ofNat 7)), (0, .ofNat 4))], []), [(true, (0, .ofNat 23)), (true, (2, .ofNat 0))]))))] 2 = true := by decide +kernel
theorem wS_229_ok : aSumOk wG wS_229 := aMeth_ok zm0 wS_229_k
/-- MaidsMemoryModel triesTrains -/
def wS_230 : aSum := (222, (3, ([(.ofNat 0, .ofNat 0), (.ofNat 0, .ofNat 3)], ([.inr (.inr (.inr (.inl 50))), .inl (0, .ofNat 3), .inl (1, .ofNat 0)], ([((50, (0, .ofNat 7)), (0, .ofNat 4))], ([(50, 32), (65, 999), (66, 999), (67, 999)], ([], (none, ([((50, (0, .ofNat 7)), (0, .ofNat 4))], [])))))))))
set_option maxRecDepth 100000 in
theorem wS_230_k : aMeth wG [wS_193, wS_229] (zfun [219, 222]) (fun _ _ => none) 4000 wS_230 [(52, ([(.ofNat 0, .ofNat 0), (.ofNat 0, .ofNat 3), (.ofNat 0, .ofNat 4)], ([(0, .inr (.inr (.inr (.inl 50)))), (1, .inl (0, .ofNat 3)), (2, .inl (1, .ofNat 0)), (3, .inl (2, .ofNat 0))], (([((50, (0, .ofNat 7)), (0, .ofNat 4))], []), [(true, (0, .ofNat 52)), (true, (2, .ofNat 0))]))))] 2 = true := by decide +kernel
theorem wS_230_ok : aSumOk wG wS_230 := aMeth_ok (zmc wS_193_ok (zmc wS_229_ok zm0)) wS_230_k
/-- MaidsMemoryModel triesTrains -/
def wS_231 : aSum := (222, (4, ([(.ofNat 0, .ofNat 0), (.ofNat 0, .ofNat 2)], ([.inr (.inr (.inr (.inl 50))), .inl (0, .ofNat 2), .inl (1, .ofNat 0)], ([((50, (0, .ofNat 7)), (0, .ofNat 4))], ([(50, 32), (65, 999), (66, 999), (67, 999)], ([], (none, ([((50, (0, .ofNat 7)), (0, .ofNat 4))], [])))))))))
set_option maxRecDepth 100000 in
theorem wS_231_k : aMeth wG [wS_193, wS_230] (zfun [219, 222]) (fun _ _ => none) 4000 wS_231 [(52, ([(.ofNat 0, .ofNat 0), (.ofNat 0, .ofNat 2), (.ofNat 0, .ofNat 3)], ([(0, .inr (.inr (.inr (.inl 50)))), (1, .inl (0, .ofNat 2)), (2, .inl (1, .ofNat 0)), (3, .inl (2, .ofNat 0))], (([((50, (0, .ofNat 7)), (0, .ofNat 4))], []), [(true, (0, .ofNat 52)), (true, (2, .ofNat 0))]))))] 2 = true := by decide +kernel
theorem wS_231_ok : aSumOk wG wS_231 := aMeth_ok (zmc wS_193_ok (zmc wS_230_ok zm0)) wS_231_k
/-- MaidsMemoryModel triesTrains -/
def wS_232 : aSum := (222, (5, ([(.ofNat 0, .ofNat 0), (.ofNat 0, .ofNat 1)], ([.inr (.inr (.inr (.inl 50))), .inl (0, .ofNat 1), .inl (1, .ofNat 0)], ([((50, (0, .ofNat 7)), (0, .ofNat 4))], ([(50, 32), (65, 999), (66, 999), (67, 999)], ([], (none, ([((50, (0, .ofNat 7)), (0, .ofNat 4))], [])))))))))
set_option maxRecDepth 100000 in
theorem wS_232_k : aMeth wG [wS_193, wS_231] (zfun [219, 222]) (fun _ _ => none) 4000 wS_232 [(52, ([(.ofNat 0, .ofNat 0), (.ofNat 0, .ofNat 1), (.ofNat 0, .ofNat 2)], ([(0, .inr (.inr (.inr (.inl 50)))), (1, .inl (0, .ofNat 1)), (2, .inl (1, .ofNat 0)), (3, .inl (2, .ofNat 0))], (([((50, (0, .ofNat 7)), (0, .ofNat 4))], []), [(true, (0, .ofNat 52)), (true, (2, .ofNat 0))]))))] 2 = true := by decide +kernel
theorem wS_232_ok : aSumOk wG wS_232 := aMeth_ok (zmc wS_193_ok (zmc wS_231_ok zm0)) wS_232_k
/-- MaidsMemoryModel triesTrains -/
def wS_233 : aSum := (222, (6, ([(.ofNat 0, .ofNat 0)], ([.inr (.inr (.inr (.inl 50))), .inl (0, .ofNat 0), .inl (0, .ofNat 0)], ([((50, (0, .ofNat 7)), (0, .ofNat 4))], ([(50, 32), (65, 999), (66, 999), (67, 999)], ([], (none, ([((50, (0, .ofNat 7)), (0, .ofNat 4))], [])))))))))
set_option maxRecDepth 100000 in
theorem wS_233_k : aMeth wG [wS_193, wS_232] (zfun [219, 222]) (fun _ _ => none) 4000 wS_233 [(52, ([(.ofNat 0, .ofNat 0), (.ofNat 0, .ofNat 1)], ([(0, .inr (.inr (.inr (.inl 50)))), (1, .inl (0, .ofNat 0)), (2, .inl (0, .ofNat 0)), (3, .inl (1, .ofNat 0))], (([((50, (0, .ofNat 7)), (0, .ofNat 4))], []), [(true, (0, .ofNat 52)), (true, (1, .ofNat 0))]))))] 2 = true := by decide +kernel
theorem wS_233_ok : aSumOk wG wS_233 := aMeth_ok (zmc wS_193_ok (zmc wS_232_ok zm0)) wS_233_k
/-- MaidsMemoryModel triesTrains -/
def wS_234 : aSum := (222, (0, ([(.ofNat 0, .ofNat 0), (.ofNat 0, .ofNat 3)], ([.inr (.inr (.inr (.inl 50))), .inl (0, .ofNat 3), .inl (1, .ofNat 0)], ([((50, (0, .ofNat 7)), (0, .ofNat 3))], ([(50, 32), (66, 999)], ([], (none, ([((50, (0, .ofNat 7)), (0, .ofNat 3))], [])))))))))
set_option maxRecDepth 100000 in
theorem wS_234_k : aMeth wG [] (zfun []) (fun _ _ => none) 4000 wS_234 [(23, ([(.ofNat 0, .ofNat 0), (.ofNat 0, .ofNat 3), (.ofNat 0, .ofNat 3)], ([(0, .inr (.inr (.inr (.inl 50)))), (3, .inl (2, .ofNat 0))], (([((50, (0, .ofNat 7)), (0, .ofNat 3))], []), [(true, (0, .ofNat 23)), (true, (2, .ofNat 0))]))))] 2 = true := by decide +kernel
theorem wS_234_ok : aSumOk wG wS_234 := aMeth_ok zm0 wS_234_k
/-- MaidsMemoryModel triesTrains -/
def wS_235 : aSum := (222, (3, ([(.ofNat 0, .ofNat 0), (.ofNat 0, .ofNat 2)], ([.inr (.inr (.inr (.inl 50))), .inl (0, .ofNat 2), .inl (1, .ofNat 0)], ([((50, (0, .ofNat 7)), (0, .ofNat 3))], ([(50, 32), (65, 999), (66, 999), (67, 999)], ([], (none, ([((50, (0, .ofNat 7)), (0, .ofNat 3))], [])))))))))
set_option maxRecDepth 100000 in
theorem wS_235_k : aMeth wG [wS_193, wS_234] (zfun [219, 222]) (fun _ _ => none) 4000 wS_235 [(52, ([(.ofNat 0, .ofNat 0), (.ofNat 0, .ofNat 2), (.ofNat 0, .ofNat 3)], ([(0, .inr (.inr (.inr (.inl 50)))), (1, .inl (0, .ofNat 2)), (2, .inl (1, .ofNat 0)), (3, .inl (2, .ofNat 0))], (([((50, (0, .ofNat 7)), (0, .ofNat 3))], []), [(true, (0, .ofNat 52)), (true, (2, .ofNat 0))]))))] 2 = true := by decide +kernel
theorem wS_235_ok : aSumOk wG wS_235 := aMeth_ok (zmc wS_193_ok (zmc wS_234_ok zm0)) wS_235_k
/-- MaidsMemoryModel triesTrains -/
def wS_236 : aSum := (222, (4, ([(.ofNat 0, .ofNat 0), (.ofNat 0, .ofNat 1)], ([.inr (.inr (.inr (.inl 50))), .inl (0, .ofNat 1), .inl (1, .ofNat 0)], ([((50, (0, .ofNat 7)), (0, .ofNat 3))], ([(50, 32), (65, 999), (66, 999), (67, 999)], ([], (none, ([((50, (0, .ofNat 7)), (0, .ofNat 3))], [])))))))))
set_option maxRecDepth 100000 in
theorem wS_236_k : aMeth wG [wS_193, wS_235] (zfun [219, 222]) (fun _ _ => none) 4000 wS_236 [(52, ([(.ofNat 0, .ofNat 0), (.ofNat 0, .ofNat 1), (.ofNat 0, .ofNat 2)], ([(0, .inr (.inr (.inr (.inl 50)))), (1, .inl (0, .ofNat 1)), (2, .inl (1, .ofNat 0)), (3, .inl (2, .ofNat 0))], (([((50, (0, .ofNat 7)), (0, .ofNat 3))], []), [(true, (0, .ofNat 52)), (true, (2, .ofNat 0))]))))] 2 = true := by decide +kernel
theorem wS_236_ok : aSumOk wG wS_236 := aMeth_ok (zmc wS_193_ok (zmc wS_235_ok zm0)) wS_236_k
/-- MaidsMemoryModel triesTrains -/
def wS_237 : aSum := (222, (5, ([(.ofNat 0, .ofNat 0)], ([.inr (.inr (.inr (.inl 50))), .inl (0, .ofNat 0), .inl (0, .ofNat 0)], ([((50, (0, .ofNat 7)), (0, .ofNat 3))], ([(50, 32), (65, 999), (66, 999), (67, 999)], ([], (none, ([((50, (0, .ofNat 7)), (0, .ofNat 3))], [])))))))))
set_option maxRecDepth 100000 in
theorem wS_237_k : aMeth wG [wS_193, wS_236] (zfun [219, 222]) (fun _ _ => none) 4000 wS_237 [(52, ([(.ofNat 0, .ofNat 0), (.ofNat 0, .ofNat 1)], ([(0, .inr (.inr (.inr (.inl 50)))), (1, .inl (0, .ofNat 0)), (2, .inl (0, .ofNat 0)), (3, .inl (1, .ofNat 0))], (([((50, (0, .ofNat 7)), (0, .ofNat 3))], []), [(true, (0, .ofNat 52)), (true, (1, .ofNat 0))]))))] 2 = true := by decide +kernel
theorem wS_237_ok : aSumOk wG wS_237 := aMeth_ok (zmc wS_193_ok (zmc wS_236_ok zm0)) wS_237_k
end
