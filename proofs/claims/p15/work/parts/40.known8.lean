noncomputable section
/-- MaidsMemoryModel triesTrains -/
def wS_238 : aSum := (222, (0, ([(.ofNat 0, .ofNat 0), (.ofNat 0, .ofNat 2)], ([.inr (.inr (.inr (.inl 50))), .inl (0, .ofNat 2), .inl (1, .ofNat 0)], ([((50, (0, .ofNat 7)), (0, .ofNat 2))], ([(50, 32), (66, 999)], ([], (none, ([((50, (0, .ofNat 7)), (0, .ofNat 2))], [])))))))))
set_option maxRecDepth 100000 in
theorem wS_238_k : aMeth wG [] (zfun []) (fun _ _ => none) 4000 wS_238 [(23, ([(.ofNat 0, .ofNat 0), (.ofNat 0, .ofNat 2), (.ofNat 0, .ofNat 2)], ([(0, .inr (.inr (.inr (.inl 50)))), (3, .inl (2, .ofNat 0))], (([((50, (0, .ofNat 7)), (0, .ofNat 2))], []), [(true, (0, .ofNat 23)), (true, (2, .ofNat 0))]))))] 2 = true := by decide +kernel
theorem wS_238_ok : aSumOk wG wS_238 := aMeth_ok zm0 wS_238_k
/-- MaidsMemoryModel triesTrains -/
def wS_239 : aSum := (222, (3, ([(.ofNat 0, .ofNat 0), (.ofNat 0, .ofNat 1)], ([.inr (.inr (.inr (.inl 50))), .inl (0, .ofNat 1), .inl (1, .ofNat 0)], ([((50, (0, .ofNat 7)), (0, .ofNat 2))], ([(50, 32), (65, 999), (66, 999), (67, 999)], ([], (none, ([((50, (0, .ofNat 7)), (0, .ofNat 2))], [])))))))))
set_option maxRecDepth 100000 in
theorem wS_239_k : aMeth wG [wS_193, wS_238] (zfun [219, 222]) (fun _ _ => none) 4000 wS_239 [(52, ([(.ofNat 0, .ofNat 0), (.ofNat 0, .ofNat 1), (.ofNat 0, .ofNat 2)], ([(0, .inr (.inr (.inr (.inl 50)))), (1, .inl (0, .ofNat 1)), (2, .inl (1, .ofNat 0)), (3, .inl (2, .ofNat 0))], (([((50, (0, .ofNat 7)), (0, .ofNat 2))], []), [(true, (0, .ofNat 52)), (true, (2, .ofNat 0))]))))] 2 = true := by decide +kernel
theorem wS_239_ok : aSumOk wG wS_239 := aMeth_ok (zmc wS_193_ok (zmc wS_238_ok zm0)) wS_239_k
/-- MaidsMemoryModel triesTrains -/
def wS_240 : aSum := (222, (4, ([(.ofNat 0, .ofNat 0)], ([.inr (.inr (.inr (.inl 50))), .inl (0, .ofNat 0), .inl (0, .ofNat 0)], ([((50, (0, .ofNat 7)), (0, .ofNat 2))], ([(50, 32), (65, 999), (66, 999), (67, 999)], ([], (none, ([((50, (0, .ofNat 7)), (0, .ofNat 2))], [])))))))))
set_option maxRecDepth 100000 in
theorem wS_240_k : aMeth wG [wS_193, wS_239] (zfun [219, 222]) (fun _ _ => none) 4000 wS_240 [(52, ([(.ofNat 0, .ofNat 0), (.ofNat 0, .ofNat 1)], ([(0, .inr (.inr (.inr (.inl 50)))), (1, .inl (0, .ofNat 0)), (2, .inl (0, .ofNat 0)), (3, .inl (1, .ofNat 0))], (([((50, (0, .ofNat 7)), (0, .ofNat 2))], []), [(true, (0, .ofNat 52)), (true, (1, .ofNat 0))]))))] 2 = true := by decide +kernel
theorem wS_240_ok : aSumOk wG wS_240 := aMeth_ok (zmc wS_193_ok (zmc wS_239_ok zm0)) wS_240_k
/-- MaidsMemoryModel triesTrains -/
def wS_241 : aSum := (222, (0, ([(.ofNat 0, .ofNat 0), (.ofNat 0, .ofNat 1)], ([.inr (.inr (.inr (.inl 50))), .inl (0, .ofNat 1), .inl (1, .ofNat 0)], ([((50, (0, .ofNat 7)), (0, .ofNat 1))], ([(50, 32), (66, 999)], ([], (none, ([((50, (0, .ofNat 7)), (0, .ofNat 1))], [])))))))))
set_option maxRecDepth 100000 in
theorem wS_241_k : aMeth wG [] (zfun []) (fun _ _ => none) 4000 wS_241 [(23, ([(.ofNat 0, .ofNat 0), (.ofNat 0, .ofNat 1), (.ofNat 0, .ofNat 1)], ([(0, .inr (.inr (.inr (.inl 50)))), (3, .inl (2, .ofNat 0))], (([((50, (0, .ofNat 7)), (0, .ofNat 1))], []), [(true, (0, .ofNat 23)), (true, (2, .ofNat 0))]))))] 2 = true := by decide +kernel
theorem wS_241_ok : aSumOk wG wS_241 := aMeth_ok zm0 wS_241_k
/-- MaidsMemoryModel triesTrains -/
def wS_242 : aSum := (222, (3, ([(.ofNat 0, .ofNat 0)], ([.inr (.inr (.inr (.inl 50))), .inl (0, .ofNat 0), .inl (0, .ofNat 0)], ([((50, (0, .ofNat 7)), (0, .ofNat 1))], ([(50, 32), (65, 999), (66, 999), (67, 999)], ([], (none, ([((50, (0, .ofNat 7)), (0, .ofNat 1))], [])))))))))
set_option maxRecDepth 100000 in
theorem wS_242_k : aMeth wG [wS_193, wS_241] (zfun [219, 222]) (fun _ _ => none) 4000 wS_242 [(52, ([(.ofNat 0, .ofNat 0), (.ofNat 0, .ofNat 1)], ([(0, .inr (.inr (.inr (.inl 50)))), (1, .inl (0, .ofNat 0)), (2, .inl (0, .ofNat 0)), (3, .inl (1, .ofNat 0))], (([((50, (0, .ofNat 7)), (0, .ofNat 1))], []), [(true, (0, .ofNat 52)), (true, (1, .ofNat 0))]))))] 2 = true := by decide +kernel
theorem wS_242_ok : aSumOk wG wS_242 := aMeth_ok (zmc wS_193_ok (zmc wS_241_ok zm0)) wS_242_k
/-- MaidsMemoryModel triesTrains -/
def wS_243 : aSum := (222, (0, ([(.ofNat 0, .ofNat 0)], ([.inr (.inr (.inr (.inl 50))), .inl (0, .ofNat 0), .inl (0, .ofNat 0)], ([((50, (0, .ofNat 7)), (0, .ofNat 0))], ([(50, 32)], ([], (none, ([((50, (0, .ofNat 7)), (0, .ofNat 0))], [])))))))))
set_option maxRecDepth 100000 in
theorem wS_243_k : aMeth wG [] (zfun []) (fun _ _ => none) 4000 wS_243 [(23, ([(.ofNat 0, .ofNat 0)], ([(0, .inr (.inr (.inr (.inl 50)))), (3, .inl (0, .ofNat 0))], (([((50, (0, .ofNat 7)), (0, .ofNat 0))], []), [(true, (0, .ofNat 23)), (true, (0, .ofNat 0))]))))] 2 = true := by decide +kernel
theorem wS_243_ok : aSumOk wG wS_243 := aMeth_ok zm0 wS_243_k
/-- MaidsMemoryModel trains -/
def wS_244 : aSum := (223, (10, ([(.ofNat 0, .ofNat 0), (.negSucc 2147483647, .ofNat 2147483647)], ([.inr (.inr (.inr (.inl 50))), .inl (1, .ofNat 0)], ([], ([(50, 32), (65, 999), (66, 999), (67, 999)], ([(.negSucc 2147483647, .ofNat 2147483647)], (some (.inl (2, .ofNat 0)), ([], [])))))))))
set_option maxRecDepth 100000 in
theorem wS_244_k : aMeth wG [wS_215, wS_222, wS_228, wS_233, wS_237, wS_240, wS_242, wS_243] (zfun [222]) (zspl [((223, 24), (.inr (50, 7), [.ofNat 0, .ofNat 1, .ofNat 2, .ofNat 3, .ofNat 4, .ofNat 5, .ofNat 6]))]) 4000 wS_244 [] 0 = true := by decide +kernel
theorem wS_244_ok : aSumOk wG wS_244 := aMeth_ok (zmc wS_215_ok (zmc wS_222_ok (zmc wS_228_ok (zmc wS_233_ok (zmc wS_237_ok (zmc wS_240_ok (zmc wS_242_ok (zmc wS_243_ok zm0)))))))) wS_244_k
/-- MaidsMemory$Voices addUp -/
def wS_245 : aSum := (116, (1, ([(.ofNat 0, .ofNat 0)], ([.inr (.inr (.inr (.inl 38))), .inr (.inr (.inr (.inl 1)))], ([], ([(39, 999)], ([], (none, ([], [])))))))))
set_option maxRecDepth 100000 in
theorem wS_245_k : aMeth wG [] (zfun []) (fun _ _ => none) 4000 wS_245 [(2, ([(.ofNat 0, .ofNat 0), (.ofNat 0, .ofNat 7)], ([(0, .inr (.inr (.inr (.inl 38)))), (1, .inr (.inr (.inr (.inl 1)))), (2, .inl (1, .ofNat 0))], (([], []), [(true, (0, .ofNat 2)), (true, (1, .ofNat 0)), (true, (0, .negSucc 0)), (true, (0, .negSucc 0)), (true, (0, .negSucc 0)), (true, (0, .negSucc 0))])))),
  (12, ([(.ofNat 0, .ofNat 0), (.ofNat 0, .ofNat 6), (.ofNat 0, .ofNat 4)], ([(0, .inr (.inr (.inr (.inl 38)))), (1, .inr (.inr (.inr (.inl 1)))), (2, .inl (1, .ofNat 0)), (3, .inl (2, .ofNat 0))], (([], []), [(true, (0, .ofNat 2)), (true, (1, .ofNat 0)), (true, (0, .ofNat 12)), (true, (2, .ofNat 0)), (true, (0, .negSucc 0)), (true, (0, .negSucc 0))])))),
  (23, ([(.ofNat 0, .ofNat 0), (.ofNat 0, .ofNat 6), (.ofNat 0, .ofNat 3), (.negSucc 2147483647, .ofNat 2147483647), (.ofNat 0, .ofNat 6)], ([(0, .inr (.inr (.inr (.inl 38)))), (1, .inr (.inr (.inr (.inl 1)))), (2, .inl (1, .ofNat 0)), (3, .inl (2, .ofNat 0)), (4, .inl (3, .ofNat 0)), (5, .inl (4, .ofNat 0))], (([], []), [(true, (0, .ofNat 2)), (true, (1, .ofNat 0)), (true, (0, .ofNat 12)), (true, (2, .ofNat 0)), (true, (0, .ofNat 23)), (true, (4, .ofNat 0))]))))] 6 = true := by decide +kernel
theorem wS_245_ok : aSumOk wG wS_245 := aMeth_ok zm0 wS_245_k
/-- MaidsMemory$Voices isJustSo -/
def wS_246 : aSum := (117, (1, ([(.ofNat 0, .ofNat 0), (.ofNat 0, .ofNat 127), (.ofNat 0, .ofNat 7), (.ofNat 0, .ofNat 5)], ([.inr (.inr (.inr (.inl 38))), .inl (1, .ofNat 0), .inl (2, .ofNat 0), .inr (.inr (.inr (.inl 45))), .inl (3, .ofNat 0)], ([], ([], ([(.ofNat 0, .ofNat 1)], (some (.inl (4, .ofNat 0)), ([], [])))))))))
set_option maxRecDepth 100000 in
theorem wS_246_k : aMeth wG [] (zfun []) (fun _ _ => none) 4000 wS_246 [(3, ([(.ofNat 0, .ofNat 0), (.ofNat 0, .ofNat 127), (.ofNat 0, .ofNat 7), (.ofNat 0, .ofNat 5), (.ofNat 0, .ofNat 4)], ([(0, .inr (.inr (.inr (.inl 38)))), (1, .inl (1, .ofNat 0)), (2, .inl (2, .ofNat 0)), (3, .inr (.inr (.inr (.inl 45)))), (4, .inl (3, .ofNat 0)), (5, .inl (4, .ofNat 0))], (([], []), [(true, (0, .ofNat 3)), (true, (4, .ofNat 0)), (true, (0, .negSucc 0)), (true, (0, .negSucc 0))])))),
  (15, ([(.ofNat 0, .ofNat 0), (.ofNat 0, .ofNat 127), (.ofNat 0, .ofNat 7), (.ofNat 0, .ofNat 5), (.ofNat 0, .ofNat 3), (.negSucc 2147483647, .ofNat 2147483647), (.ofNat 0, .ofNat 7)], ([(0, .inr (.inr (.inr (.inl 38)))), (1, .inl (1, .ofNat 0)), (2, .inl (2, .ofNat 0)), (3, .inr (.inr (.inr (.inl 45)))), (4, .inl (3, .ofNat 0)), (5, .inl (4, .ofNat 0)), (6, .inl (5, .ofNat 0)), (7, .inl (6, .ofNat 0))], (([], []), [(true, (0, .ofNat 3)), (true, (4, .ofNat 0)), (true, (0, .ofNat 15)), (true, (6, .ofNat 0))]))))] 4 = true := by decide +kernel
theorem wS_246_ok : aSumOk wG wS_246 := aMeth_ok zm0 wS_246_k
/-- MaidsMemory$Voices listen -/
def wS_247 : aSum := (115, (2, ([(.ofNat 0, .ofNat 0), (.ofNat 0, .ofNat 5)], ([.inr (.inr (.inr (.inl 38))), .inr (.inr (.inr (.inl 1))), .inr (.inr (.inr (.inl 45))), .inl (1, .ofNat 0)], ([], ([(38, 1), (38, 2), (38, 3), (39, 999)], ([], (none, ([], [])))))))))
set_option maxRecDepth 100000 in
theorem wS_247_k : aMeth wG [wS_245, wS_246] (zfun [116, 117]) (fun _ _ => none) 4000 wS_247 [(24, ([(.ofNat 0, .ofNat 0), (.ofNat 0, .ofNat 5), (.ofNat 0, .ofNat 128)], ([(0, .inr (.inr (.inr (.inl 38)))), (1, .inr (.inr (.inr (.inl 1)))), (2, .inr (.inr (.inr (.inl 45)))), (3, .inl (1, .ofNat 0)), (4, .inl (2, .ofNat 0))], (([], []), [(true, (0, .ofNat 24)), (true, (2, .ofNat 0))]))))] 2 = true := by decide +kernel
theorem wS_247_ok : aSumOk wG wS_247 := aMeth_ok (zmc wS_245_ok (zmc wS_246_ok zm0)) wS_247_k
/-- MaidsMemory voices -/
def wS_248 : aSum := (137, (3, ([(.ofNat 0, .ofNat 0), (.negSucc 2147483647, .ofNat 2147483647), (.negSucc 2147483647, .ofNat 2147483647)], ([.inr (.inr (.inr (.inl 0))), .inl (1, .ofNat 0), .inl (2, .ofNat 0)], ([], ([(38, 1), (38, 2), (38, 3), (39, 999)], ([(.negSucc 2147483647, .ofNat 2147483647)], (some (.inl (3, .ofNat 0)), ([], [])))))))))
set_option maxRecDepth 100000 in
theorem wS_248_k : aMeth wG [wS_247] (zfun [115]) (fun _ _ => none) 4000 wS_248 [] 0 = true := by decide +kernel
theorem wS_248_ok : aSumOk wG wS_248 := aMeth_ok (zmc wS_247_ok zm0) wS_248_k
/-- MaidsMemoryModel hasOf -/
def wS_249 : aSum := (225, (0, ([(.ofNat 0, .ofNat 0), (.ofNat 0, .ofNat 6), (.ofNat 0, .ofNat 3)], ([.inr (.inr (.inr (.inl 50))), .inl (1, .ofNat 0), .inl (2, .ofNat 0)], ([], ([], ([(.negSucc 2147483647, .ofNat 2147483647)], (some (.inl (3, .ofNat 0)), ([], [])))))))))
set_option maxRecDepth 100000 in
theorem wS_249_k : aMeth wG [] (zfun []) (fun _ _ => none) 4000 wS_249 [(5, ([(.ofNat 0, .ofNat 0), (.ofNat 0, .ofNat 6), (.ofNat 0, .ofNat 3), (.negSucc 2147483647, .ofNat 2147483647), (.ofNat 0, .ofNat 6)], ([(0, .inr (.inr (.inr (.inl 50)))), (1, .inl (1, .ofNat 0)), (2, .inl (2, .ofNat 0)), (3, .inl (3, .ofNat 0)), (4, .inl (4, .ofNat 0))], (([], []), [(true, (0, .ofNat 5)), (true, (4, .ofNat 0))]))))] 2 = true := by decide +kernel
theorem wS_249_ok : aSumOk wG wS_249 := aMeth_ok zm0 wS_249_k
/-- MaidsMemoryModel isHeard -/
def wS_250 : aSum := (226, (1, ([(.ofNat 0, .ofNat 0), (.ofNat 0, .ofNat 5), (.negSucc 2147483647, .ofNat 2147483647)], ([.inr (.inr (.inr (.inl 50))), .inl (1, .ofNat 0), .inl (2, .ofNat 0)], ([], ([], ([(.ofNat 0, .ofNat 1)], (some (.inl (3, .ofNat 0)), ([], [])))))))))
set_option maxRecDepth 100000 in
theorem wS_250_k : aMeth wG [wS_249] (zfun [225]) (fun _ _ => none) 4000 wS_250 [(2, ([(.ofNat 0, .ofNat 0), (.ofNat 0, .ofNat 5), (.negSucc 2147483647, .ofNat 2147483647), (.ofNat 0, .ofNat 4)], ([(0, .inr (.inr (.inr (.inl 50)))), (1, .inl (1, .ofNat 0)), (2, .inl (2, .ofNat 0)), (3, .inl (3, .ofNat 0))], (([], []), [(true, (0, .ofNat 2)), (true, (3, .ofNat 0)), (true, (0, .negSucc 0)), (true, (0, .negSucc 0))])))),
  (13, ([(.ofNat 0, .ofNat 0), (.ofNat 0, .ofNat 5), (.negSucc 2147483647, .ofNat 2147483647), (.ofNat 0, .ofNat 3), (.negSucc 2147483647, .ofNat 2147483647), (.ofNat 0, .ofNat 7)], ([(0, .inr (.inr (.inr (.inl 50)))), (1, .inl (1, .ofNat 0)), (2, .inl (2, .ofNat 0)), (3, .inl (3, .ofNat 0)), (4, .inl (4, .ofNat 0)), (5, .inl (5, .ofNat 0))], (([], []), [(true, (0, .ofNat 2)), (true, (3, .ofNat 0)), (true, (0, .ofNat 13)), (true, (5, .ofNat 0))]))))] 4 = true := by decide +kernel
theorem wS_250_ok : aSumOk wG wS_250 := aMeth_ok (zmc wS_249_ok zm0) wS_250_k
/-- MaidsMemoryModel voices -/
def wS_251 : aSum := (227, (3, ([(.ofNat 0, .ofNat 0), (.negSucc 2147483647, .ofNat 2147483647), (.negSucc 2147483647, .ofNat 2147483647)], ([.inr (.inr (.inr (.inl 50))), .inl (1, .ofNat 0), .inl (2, .ofNat 0)], ([], ([], ([(.negSucc 2147483647, .ofNat 2147483647)], (some (.inl (3, .ofNat 0)), ([], [])))))))))
set_option maxRecDepth 100000 in
theorem wS_251_k : aMeth wG [wS_250] (zfun [226]) (fun _ _ => none) 4000 wS_251 [(71, ([(.ofNat 0, .ofNat 0), (.ofNat 0, .ofNat 5), (.ofNat 0, .ofNat 2), (.negSucc 2147483647, .ofNat 2147483647), (.negSucc 1, .ofNat 21474836), (.ofNat 0, .ofNat 127), (.ofNat 0, .ofNat 128)], ([(0, .inr (.inr (.inr (.inl 50)))), (1, .inl (1, .ofNat 0)), (2, .inl (2, .ofNat 0)), (3, .inl (3, .ofNat 0)), (4, .inl (4, .ofNat 0)), (5, .inl (5, .ofNat 0)), (6, .inl (6, .ofNat 0))], (([], []), [(true, (0, .ofNat 71)), (true, (6, .ofNat 0))]))))] 2 = true := by decide +kernel
theorem wS_251_ok : aSumOk wG wS_251 := aMeth_ok (zmc wS_250_ok zm0) wS_251_k
/-- MaidsMemory judge -/
def wS_252 : aSum := (138, (1, ([(.ofNat 0, .ofNat 0), (.negSucc 2147483647, .ofNat 2147483647), (.negSucc 2147483647, .ofNat 2147483647)], ([.inr (.inr (.inr (.inl 0))), .inl (1, .ofNat 0), .inl (2, .ofNat 0)], ([], ([], ([(.negSucc 11, .ofNat 24)], (some (.inl (3, .ofNat 0)), ([], [])))))))))
set_option maxRecDepth 100000 in
theorem wS_252_k : aMeth wG [] (zfun []) (fun _ _ => none) 4000 wS_252 [(55, ([(.ofNat 0, .ofNat 0), (.ofNat 0, .ofNat 5), (.ofNat 0, .ofNat 6), (.ofNat 0, .ofNat 24)], ([(0, .inr (.inr (.inr (.inl 0)))), (1, .inl (1, .ofNat 0)), (2, .inl (2, .ofNat 0)), (3, .inl (3, .ofNat 0))], (([], []), [(true, (0, .ofNat 55)), (true, (3, .ofNat 0))]))))] 2 = true := by decide +kernel
theorem wS_252_ok : aSumOk wG wS_252 := aMeth_ok zm0 wS_252_k
/-- MaidsMemoryModel judge -/
def wS_253 : aSum := (228, (3, ([(.ofNat 0, .ofNat 0), (.negSucc 2147483647, .ofNat 2147483647), (.negSucc 2147483647, .ofNat 2147483647)], ([.inr (.inr (.inr (.inl 50))), .inl (1, .ofNat 0), .inl (2, .ofNat 0)], ([], ([], ([(.negSucc 11, .ofNat 24)], (some (.inl (3, .ofNat 0)), ([], [])))))))))
set_option maxRecDepth 100000 in
theorem wS_253_k : aMeth wG [] (zfun []) (fun _ _ => none) 4000 wS_253 [(39, ([(.ofNat 0, .ofNat 0), (.ofNat 0, .ofNat 5), (.ofNat 0, .ofNat 6), (.ofNat 0, .ofNat 24)], ([(0, .inr (.inr (.inr (.inl 50)))), (1, .inl (1, .ofNat 0)), (2, .inl (2, .ofNat 0)), (3, .inl (3, .ofNat 0))], (([], []), [(true, (0, .ofNat 39)), (true, (3, .ofNat 0))]))))] 2 = true := by decide +kernel
theorem wS_253_ok : aSumOk wG wS_253 := aMeth_ok zm0 wS_253_k
/-- MaidsMemory$Street hadOf -/
def wS_254 : aSum := (80, (1, ([(.ofNat 0, .ofNat 0), (.ofNat 0, .ofNat 6), (.ofNat 0, .ofNat 5)], ([.inr (.inr (.inr (.inl 1))), .inl (1, .ofNat 0), .inl (2, .ofNat 0)], ([], ([], ([(.negSucc 2147483647, .ofNat 2147483647)], (some (.inl (3, .ofNat 0)), ([], [])))))))))
set_option maxRecDepth 100000 in
theorem wS_254_k : aMeth wG [] (zfun []) (fun _ _ => none) 4000 wS_254 [(5, ([(.ofNat 0, .ofNat 0), (.ofNat 0, .ofNat 6), (.ofNat 0, .ofNat 5), (.negSucc 2147483647, .ofNat 2147483647), (.ofNat 0, .ofNat 4)], ([(0, .inr (.inr (.inr (.inl 1)))), (1, .inl (1, .ofNat 0)), (2, .inl (2, .ofNat 0)), (3, .inl (3, .ofNat 0)), (4, .inl (4, .ofNat 0))], (([], []), [(true, (0, .ofNat 5)), (true, (4, .ofNat 0))]))))] 2 = true := by decide +kernel
theorem wS_254_ok : aSumOk wG wS_254 := aMeth_ok zm0 wS_254_k
/-- MaidsMemory$Street hadOf -/
def wS_255 : aSum := (81, (2, ([(.ofNat 0, .ofNat 0), (.ofNat 0, .ofNat 5)], ([.inr (.inr (.inr (.inl 1))), .inl (1, .ofNat 0)], ([], ([], ([(.negSucc 2147483647, .ofNat 2147483647)], (some (.inl (2, .ofNat 0)), ([], [])))))))))
set_option maxRecDepth 100000 in
theorem wS_255_k : aMeth wG [wS_254] (zfun [80]) (fun _ _ => none) 4000 wS_255 [(4, ([(.ofNat 0, .ofNat 0), (.ofNat 0, .ofNat 5), (.negSucc 2147483647, .ofNat 2147483647), (.ofNat 0, .ofNat 7)], ([(0, .inr (.inr (.inr (.inl 1)))), (1, .inl (1, .ofNat 0)), (2, .inl (2, .ofNat 0)), (3, .inl (3, .ofNat 0))], (([], []), [(true, (0, .ofNat 4)), (true, (3, .ofNat 0))]))))] 2 = true := by decide +kernel
theorem wS_255_ok : aSumOk wG wS_255 := aMeth_ok (zmc wS_254_ok zm0) wS_255_k
/-- MaidsMemory bill -/
def wS_256 : aSum := (139, (3, ([(.ofNat 0, .ofNat 0), (.negSucc 2147483647, .ofNat 2147483647), (.negSucc 2147483647, .ofNat 2147483647)], ([.inr (.inr (.inr (.inl 0))), .inl (1, .ofNat 0), .inl (2, .ofNat 0)], ([], ([], ([(.negSucc 2147483647, .ofNat 2147483647)], (some (.inl (3, .ofNat 0)), ([], [])))))))))
set_option maxRecDepth 100000 in
theorem wS_256_k : aMeth wG [wS_255] (zfun [81]) (fun _ _ => none) 4000 wS_256 [(29, ([(.ofNat 0, .ofNat 0), (.ofNat 0, .ofNat 5), (.ofNat 0, .ofNat 9999), (.negSucc 2147483647, .ofNat 2147483647), (.ofNat 0, .ofNat 6)], ([(0, .inr (.inr (.inr (.inl 0)))), (1, .inl (1, .ofNat 0)), (2, .inl (2, .ofNat 0)), (3, .inl (3, .ofNat 0)), (4, .inl (4, .ofNat 0))], (([], []), [(true, (0, .ofNat 29)), (true, (4, .ofNat 0))]))))] 2 = true := by decide +kernel
theorem wS_256_ok : aSumOk wG wS_256 := aMeth_ok (zmc wS_255_ok zm0) wS_256_k
/-- MaidsMemoryModel hadOf -/
def wS_257 : aSum := (229, (0, ([(.ofNat 0, .ofNat 0), (.ofNat 0, .ofNat 5)], ([.inr (.inr (.inr (.inl 50))), .inl (1, .ofNat 0)], ([], ([], ([(.negSucc 2147483647, .ofNat 2147483647)], (some (.inl (2, .ofNat 0)), ([], [])))))))))
set_option maxRecDepth 100000 in
theorem wS_257_k : aMeth wG [] (zfun []) (fun _ _ => none) 4000 wS_257 [(4, ([(.ofNat 0, .ofNat 0), (.ofNat 0, .ofNat 5), (.negSucc 2147483647, .ofNat 2147483647), (.ofNat 0, .ofNat 7)], ([(0, .inr (.inr (.inr (.inl 50)))), (1, .inl (1, .ofNat 0)), (2, .inl (2, .ofNat 0)), (3, .inl (3, .ofNat 0))], (([], []), [(true, (0, .ofNat 4)), (true, (3, .ofNat 0)), (true, (0, .negSucc 0)), (true, (0, .negSucc 0))])))),
  (15, ([(.ofNat 0, .ofNat 0), (.ofNat 0, .ofNat 5), (.negSucc 2147483647, .ofNat 2147483647), (.ofNat 0, .ofNat 6), (.ofNat 0, .ofNat 4)], ([(0, .inr (.inr (.inr (.inl 50)))), (1, .inl (1, .ofNat 0)), (2, .inl (2, .ofNat 0)), (3, .inl (3, .ofNat 0)), (4, .inl (4, .ofNat 0))], (([], []), [(true, (0, .ofNat 4)), (true, (3, .ofNat 0)), (true, (0, .ofNat 15)), (true, (4, .ofNat 0))]))))] 4 = true := by decide +kernel
theorem wS_257_ok : aSumOk wG wS_257 := aMeth_ok zm0 wS_257_k
/-- MaidsMemoryModel bill -/
def wS_258 : aSum := (230, (2, ([(.ofNat 0, .ofNat 0), (.negSucc 2147483647, .ofNat 2147483647), (.negSucc 2147483647, .ofNat 2147483647)], ([.inr (.inr (.inr (.inl 50))), .inl (1, .ofNat 0), .inl (2, .ofNat 0)], ([], ([], ([(.negSucc 2147483647, .ofNat 2147483647)], (some (.inl (3, .ofNat 0)), ([], [])))))))))
set_option maxRecDepth 100000 in
theorem wS_258_k : aMeth wG [wS_257] (zfun [229]) (fun _ _ => none) 4000 wS_258 [(28, ([(.ofNat 0, .ofNat 0), (.ofNat 0, .ofNat 5), (.ofNat 0, .ofNat 9999), (.negSucc 2147483647, .ofNat 2147483647), (.ofNat 0, .ofNat 6)], ([(0, .inr (.inr (.inr (.inl 50)))), (1, .inl (1, .ofNat 0)), (2, .inl (2, .ofNat 0)), (3, .inl (3, .ofNat 0)), (4, .inl (4, .ofNat 0))], (([], []), [(true, (0, .ofNat 28)), (true, (4, .ofNat 0))]))))] 2 = true := by decide +kernel
theorem wS_258_ok : aSumOk wG wS_258 := aMeth_ok (zmc wS_257_ok zm0) wS_258_k
/-- MaidsMemory most -/
def wS_259 : aSum := (140, (3, ([(.ofNat 0, .ofNat 0)], ([.inr (.inr (.inr (.inl 0)))], ([], ([], ([(.negSucc 1, .ofNat 6)], (some (.inl (1, .ofNat 0)), ([], [])))))))))
set_option maxRecDepth 100000 in
theorem wS_259_k : aMeth wG [wS_255] (zfun [81]) (fun _ _ => none) 4000 wS_259 [(7, ([(.ofNat 0, .ofNat 0), (.negSucc 1, .ofNat 6), (.negSucc 2147483647, .ofNat 2147483647), (.ofNat 0, .ofNat 6)], ([(0, .inr (.inr (.inr (.inl 0)))), (1, .inl (1, .ofNat 0)), (2, .inl (2, .ofNat 0)), (3, .inl (3, .ofNat 0))], (([], []), [(true, (0, .ofNat 7)), (true, (3, .ofNat 0))]))))] 2 = true := by decide +kernel
theorem wS_259_ok : aSumOk wG wS_259 := aMeth_ok (zmc wS_255_ok zm0) wS_259_k
/-- MaidsMemoryModel most -/
def wS_260 : aSum := (231, (1, ([(.ofNat 0, .ofNat 0)], ([.inr (.inr (.inr (.inl 50)))], ([], ([], ([(.negSucc 1, .ofNat 6)], (some (.inl (1, .ofNat 0)), ([], [])))))))))
set_option maxRecDepth 100000 in
theorem wS_260_k : aMeth wG [wS_257] (zfun [229]) (fun _ _ => none) 4000 wS_260 [(7, ([(.ofNat 0, .ofNat 0), (.negSucc 1, .ofNat 6), (.ofNat 0, .ofNat 2147483647), (.ofNat 0, .ofNat 6)], ([(0, .inr (.inr (.inr (.inl 50)))), (1, .inl (1, .ofNat 0)), (2, .inl (2, .ofNat 0)), (3, .inl (3, .ofNat 0))], (([], []), [(true, (0, .ofNat 7)), (true, (3, .ofNat 0))]))))] 2 = true := by decide +kernel
theorem wS_260_ok : aSumOk wG wS_260 := aMeth_ok (zmc wS_257_ok zm0) wS_260_k
/-- MaidsMemory$Turns weigh -/
def wS_261 : aSum := (110, (2, ([(.ofNat 0, .ofNat 0), (.ofNat 0, .ofNat 5), (.ofNat 0, .ofNat 5)], ([.inr (.inr (.inr (.inl 40))), .inr (.inr (.inr (.inl 1))), .inl (1, .ofNat 0), .inl (2, .ofNat 0)], ([], ([(40, 0), (41, 999)], ([], (none, ([], [])))))))))
set_option maxRecDepth 100000 in
theorem wS_261_k : aMeth wG [wS_254] (zfun [80]) (fun _ _ => none) 4000 wS_261 [(8, ([(.ofNat 0, .ofNat 0), (.ofNat 0, .ofNat 5), (.ofNat 0, .ofNat 5), (.ofNat 0, .ofNat 7)], ([(0, .inr (.inr (.inr (.inl 40)))), (1, .inr (.inr (.inr (.inl 1)))), (2, .inl (1, .ofNat 0)), (3, .inl (2, .ofNat 0)), (4, .inl (3, .ofNat 0))], (([], []), [(true, (0, .ofNat 8)), (true, (3, .ofNat 0))]))))] 2 = true := by decide +kernel
theorem wS_261_ok : aSumOk wG wS_261 := aMeth_ok (zmc wS_254_ok zm0) wS_261_k
/-- MaidsMemory$Turns bestFrom -/
def wS_262 : aSum := (113, (0, ([(.ofNat 0, .ofNat 0), (.negSucc 2147483647, .ofNat 2147483647)], ([.inr (.inr (.inr (.inl 40))), .inl (1, .ofNat 0), .inl (0, .ofNat 4), .inl (0, .ofNat 4)], ([], ([], ([], (some (.inl (0, .ofNat 0)), ([], [])))))))))
set_option maxRecDepth 100000 in
theorem wS_262_k : aMeth wG [] (zfun []) (fun _ _ => none) 4000 wS_262 [] 0 = true := by decide +kernel
theorem wS_262_ok : aSumOk wG wS_262 := aMeth_ok zm0 wS_262_k
/-- MaidsMemory$Turns valueOf -/
def wS_263 : aSum := (114, (1, ([(.ofNat 0, .ofNat 0), (.ofNat 0, .ofNat 6), (.negSucc 2147483647, .ofNat 2147483647)], ([.inr (.inr (.inr (.inl 40))), .inl (1, .ofNat 0), .inl (2, .ofNat 0), .inl (0, .ofNat 3), .inl (0, .ofNat 4)], ([], ([], ([(.negSucc 2147483647, .ofNat 2147483647)], (some (.inl (3, .ofNat 0)), ([], [])))))))))
set_option maxRecDepth 100000 in
theorem wS_263_k : aMeth wG [wS_262] (zfun [113]) (fun _ _ => none) 4000 wS_263 [] 0 = true := by decide +kernel
theorem wS_263_ok : aSumOk wG wS_263 := aMeth_ok (zmc wS_262_ok zm0) wS_263_k
/-- MaidsMemory$Turns bestFrom -/
def wS_264 : aSum := (113, (2, ([(.ofNat 0, .ofNat 0), (.negSucc 2147483647, .ofNat 2147483647), (.ofNat 3, .ofNat 4)], ([.inr (.inr (.inr (.inl 40))), .inl (1, .ofNat 0), .inl (0, .ofNat 3), .inl (2, .ofNat 0)], ([], ([], ([(.ofNat 0, .ofNat 2147483647)], (some (.inl (3, .ofNat 0)), ([], [])))))))))
set_option maxRecDepth 100000 in
theorem wS_264_k : aMeth wG [wS_262, wS_263] (zfun [113, 114]) (fun _ _ => none) 4000 wS_264 [(27, ([(.ofNat 0, .ofNat 0), (.negSucc 2147483647, .ofNat 2147483647), (.ofNat 4, .ofNat 4), (.ofNat 0, .ofNat 2147483647), (.ofNat 0, .ofNat 7)], ([(0, .inr (.inr (.inr (.inl 40)))), (1, .inl (1, .ofNat 0)), (2, .inl (0, .ofNat 3)), (3, .inl (2, .ofNat 0)), (4, .inl (3, .ofNat 0)), (5, .inl (4, .ofNat 0))], (([], []), [(true, (0, .ofNat 27)), (true, (4, .ofNat 0))]))))] 2 = true := by decide +kernel
theorem wS_264_ok : aSumOk wG wS_264 := aMeth_ok (zmc wS_262_ok (zmc wS_263_ok zm0)) wS_264_k
/-- MaidsMemory$Turns valueOf -/
def wS_265 : aSum := (114, (3, ([(.ofNat 0, .ofNat 0), (.ofNat 0, .ofNat 6), (.negSucc 2147483647, .ofNat 2147483647), (.ofNat 3, .ofNat 4)], ([.inr (.inr (.inr (.inl 40))), .inl (1, .ofNat 0), .inl (2, .ofNat 0), .inl (0, .ofNat 2), .inl (3, .ofNat 0)], ([], ([], ([(.negSucc 2147483647, .ofNat 2147483647)], (some (.inl (4, .ofNat 0)), ([], [])))))))))
set_option maxRecDepth 100000 in
theorem wS_265_k : aMeth wG [wS_264] (zfun [113]) (fun _ _ => none) 4000 wS_265 [] 0 = true := by decide +kernel
theorem wS_265_ok : aSumOk wG wS_265 := aMeth_ok (zmc wS_264_ok zm0) wS_265_k
/-- MaidsMemory$Turns bestFrom -/
def wS_266 : aSum := (113, (4, ([(.ofNat 0, .ofNat 0), (.negSucc 2147483647, .ofNat 2147483647), (.ofNat 2, .ofNat 4)], ([.inr (.inr (.inr (.inl 40))), .inl (1, .ofNat 0), .inl (0, .ofNat 2), .inl (2, .ofNat 0)], ([], ([], ([(.negSucc 2147483646, .ofNat 2147483647)], (some (.inl (3, .ofNat 0)), ([], [])))))))))
set_option maxRecDepth 100000 in
theorem wS_266_k : aMeth wG [wS_264, wS_265] (zfun [113, 114]) (fun _ _ => none) 4000 wS_266 [(27, ([(.ofNat 0, .ofNat 0), (.negSucc 2147483647, .ofNat 2147483647), (.ofNat 3, .ofNat 4), (.negSucc 2147483646, .ofNat 2147483647), (.ofNat 0, .ofNat 7)], ([(0, .inr (.inr (.inr (.inl 40)))), (1, .inl (1, .ofNat 0)), (2, .inl (0, .ofNat 2)), (3, .inl (2, .ofNat 0)), (4, .inl (3, .ofNat 0)), (5, .inl (4, .ofNat 0))], (([], []), [(true, (0, .ofNat 27)), (true, (4, .ofNat 0))]))))] 2 = true := by decide +kernel
theorem wS_266_ok : aSumOk wG wS_266 := aMeth_ok (zmc wS_264_ok (zmc wS_265_ok zm0)) wS_266_k
/-- MaidsMemory$Turns valueOf -/
def wS_267 : aSum := (114, (5, ([(.ofNat 0, .ofNat 0), (.ofNat 0, .ofNat 6), (.negSucc 2147483647, .ofNat 2147483647), (.ofNat 2, .ofNat 4)], ([.inr (.inr (.inr (.inl 40))), .inl (1, .ofNat 0), .inl (2, .ofNat 0), .inl (0, .ofNat 1), .inl (3, .ofNat 0)], ([], ([], ([(.negSucc 2147483647, .ofNat 2147483647)], (some (.inl (4, .ofNat 0)), ([], [])))))))))
set_option maxRecDepth 100000 in
theorem wS_267_k : aMeth wG [wS_266] (zfun [113]) (fun _ _ => none) 4000 wS_267 [] 0 = true := by decide +kernel
theorem wS_267_ok : aSumOk wG wS_267 := aMeth_ok (zmc wS_266_ok zm0) wS_267_k
/-- MaidsMemory$Turns bestFrom -/
def wS_268 : aSum := (113, (6, ([(.ofNat 0, .ofNat 0), (.negSucc 2147483647, .ofNat 2147483647), (.ofNat 1, .ofNat 4)], ([.inr (.inr (.inr (.inl 40))), .inl (1, .ofNat 0), .inl (0, .ofNat 1), .inl (2, .ofNat 0)], ([], ([], ([(.negSucc 2147483646, .ofNat 2147483647)], (some (.inl (3, .ofNat 0)), ([], [])))))))))
set_option maxRecDepth 100000 in
theorem wS_268_k : aMeth wG [wS_266, wS_267] (zfun [113, 114]) (fun _ _ => none) 4000 wS_268 [(27, ([(.ofNat 0, .ofNat 0), (.negSucc 2147483647, .ofNat 2147483647), (.ofNat 2, .ofNat 4), (.negSucc 2147483646, .ofNat 2147483647), (.ofNat 0, .ofNat 7)], ([(0, .inr (.inr (.inr (.inl 40)))), (1, .inl (1, .ofNat 0)), (2, .inl (0, .ofNat 1)), (3, .inl (2, .ofNat 0)), (4, .inl (3, .ofNat 0)), (5, .inl (4, .ofNat 0))], (([], []), [(true, (0, .ofNat 27)), (true, (4, .ofNat 0))]))))] 2 = true := by decide +kernel
theorem wS_268_ok : aSumOk wG wS_268 := aMeth_ok (zmc wS_266_ok (zmc wS_267_ok zm0)) wS_268_k
/-- MaidsMemory$Turns valueOf -/
def wS_269 : aSum := (114, (7, ([(.ofNat 0, .ofNat 0), (.ofNat 0, .ofNat 6), (.negSucc 2147483647, .ofNat 2147483647), (.ofNat 1, .ofNat 4)], ([.inr (.inr (.inr (.inl 40))), .inl (1, .ofNat 0), .inl (2, .ofNat 0), .inl (0, .ofNat 0), .inl (3, .ofNat 0)], ([], ([], ([(.negSucc 2147483647, .ofNat 2147483647)], (some (.inl (4, .ofNat 0)), ([], [])))))))))
set_option maxRecDepth 100000 in
theorem wS_269_k : aMeth wG [wS_268] (zfun [113]) (fun _ _ => none) 4000 wS_269 [] 0 = true := by decide +kernel
theorem wS_269_ok : aSumOk wG wS_269 := aMeth_ok (zmc wS_268_ok zm0) wS_269_k
/-- MaidsMemory$Turns bestFrom -/
def wS_270 : aSum := (113, (8, ([(.ofNat 0, .ofNat 0), (.negSucc 2147483647, .ofNat 2147483647), (.ofNat 1, .ofNat 4)], ([.inr (.inr (.inr (.inl 40))), .inl (1, .ofNat 0), .inl (0, .ofNat 0), .inl (2, .ofNat 0)], ([], ([], ([(.negSucc 2147483646, .ofNat 2147483647)], (some (.inl (3, .ofNat 0)), ([], [])))))))))
set_option maxRecDepth 100000 in
theorem wS_270_k : aMeth wG [wS_268, wS_269] (zfun [113, 114]) (fun _ _ => none) 4000 wS_270 [(27, ([(.ofNat 0, .ofNat 0), (.negSucc 2147483647, .ofNat 2147483647), (.ofNat 1, .ofNat 4), (.negSucc 2147483646, .ofNat 2147483647), (.ofNat 0, .ofNat 7)], ([(0, .inr (.inr (.inr (.inl 40)))), (1, .inl (1, .ofNat 0)), (2, .inl (0, .ofNat 0)), (3, .inl (2, .ofNat 0)), (4, .inl (3, .ofNat 0)), (5, .inl (4, .ofNat 0))], (([], []), [(true, (0, .ofNat 27)), (true, (4, .ofNat 0))]))))] 2 = true := by decide +kernel
theorem wS_270_ok : aSumOk wG wS_270 := aMeth_ok (zmc wS_268_ok (zmc wS_269_ok zm0)) wS_270_k
/-- MaidsMemory$Turns opening -/
def wS_271 : aSum := (112, (8, ([(.ofNat 0, .ofNat 0), (.ofNat 1, .ofNat 4)], ([.inr (.inr (.inr (.inl 40))), .inl (1, .ofNat 0)], ([], ([], ([(.ofNat 0, .ofNat 7)], (some (.inl (2, .ofNat 0)), ([], [])))))))))
set_option maxRecDepth 100000 in
theorem wS_271_k : aMeth wG [wS_268, wS_269] (zfun [113, 114]) (fun _ _ => none) 4000 wS_271 [(18, ([(.ofNat 0, .ofNat 0), (.ofNat 1, .ofNat 4), (.negSucc 2147483646, .ofNat 2147483647), (.ofNat 0, .ofNat 7), (.ofNat 0, .ofNat 7)], ([(0, .inr (.inr (.inr (.inl 40)))), (1, .inl (1, .ofNat 0)), (2, .inl (2, .ofNat 0)), (3, .inl (3, .ofNat 0)), (4, .inl (4, .ofNat 0))], (([], []), [(true, (0, .ofNat 18)), (true, (4, .ofNat 0))]))))] 2 = true := by decide +kernel
theorem wS_271_ok : aSumOk wG wS_271 := aMeth_ok (zmc wS_268_ok (zmc wS_269_ok zm0)) wS_271_k
/-- MaidsMemory byTurns -/
def wS_272 : aSum := (141, (10, ([(.ofNat 0, .ofNat 0), (.negSucc 2147483647, .ofNat 2147483647), (.negSucc 2147483647, .ofNat 2147483647), (.negSucc 2147483647, .ofNat 2147483647)], ([.inr (.inr (.inr (.inl 0))), .inl (1, .ofNat 0), .inl (2, .ofNat 0), .inl (3, .ofNat 0)], ([], ([(40, 0), (41, 999)], ([(.negSucc 2147483646, .ofNat 2147483647)], (some (.inl (4, .ofNat 0)), ([], [])))))))))
set_option maxRecDepth 100000 in
theorem wS_272_k : aMeth wG [wS_261, wS_270, wS_271] (zfun [110, 112, 113]) (fun _ _ => none) 4000 wS_272 [] 0 = true := by decide +kernel
theorem wS_272_ok : aSumOk wG wS_272 := aMeth_ok (zmc wS_261_ok (zmc wS_270_ok (zmc wS_271_ok zm0))) wS_272_k
/-- MaidsMemoryModel playsFrom -/
def wS_273 : aSum := (233, (0, ([(.ofNat 0, .ofNat 0), (.ofNat 0, .ofNat 5), (.ofNat 0, .ofNat 5), (.negSucc 2147483647, .ofNat 2147483647)], ([.inr (.inr (.inr (.inl 50))), .inl (1, .ofNat 0), .inl (2, .ofNat 0), .inl (0, .ofNat 4), .inl (0, .ofNat 4), .inl (3, .ofNat 0)], ([], ([], ([], (some (.inl (0, .ofNat 0)), ([], [])))))))))
set_option maxRecDepth 100000 in
theorem wS_273_k : aMeth wG [] (zfun []) (fun _ _ => none) 4000 wS_273 [] 0 = true := by decide +kernel
theorem wS_273_ok : aSumOk wG wS_273 := aMeth_ok zm0 wS_273_k
/-- MaidsMemoryModel worthOf -/
def wS_274 : aSum := (232, (0, ([(.ofNat 0, .ofNat 0), (.ofNat 0, .ofNat 6), (.ofNat 0, .ofNat 5)], ([.inr (.inr (.inr (.inl 50))), .inl (1, .ofNat 0), .inl (2, .ofNat 0)], ([], ([], ([(.negSucc 2147483647, .ofNat 2147483647)], (some (.inl (3, .ofNat 0)), ([], [])))))))))
set_option maxRecDepth 100000 in
theorem wS_274_k : aMeth wG [] (zfun []) (fun _ _ => none) 4000 wS_274 [(13, ([(.ofNat 0, .ofNat 0), (.ofNat 0, .ofNat 6), (.ofNat 0, .ofNat 5), (.negSucc 2147483647, .ofNat 2147483647), (.ofNat 0, .ofNat 24)], ([(0, .inr (.inr (.inr (.inl 50)))), (1, .inl (1, .ofNat 0)), (2, .inl (2, .ofNat 0)), (3, .inl (3, .ofNat 0)), (4, .inl (4, .ofNat 0))], (([], []), [(true, (0, .ofNat 13)), (true, (4, .ofNat 0))])))),
  (44, ([(.ofNat 0, .ofNat 0), (.ofNat 0, .ofNat 6), (.ofNat 0, .ofNat 5), (.negSucc 2147483647, .ofNat 2147483647), (.ofNat 0, .ofNat 4)], ([(0, .inr (.inr (.inr (.inl 50)))), (1, .inl (1, .ofNat 0)), (2, .inl (2, .ofNat 0)), (3, .inl (3, .ofNat 0)), (4, .inl (4, .ofNat 0))], (([], []), [(true, (0, .ofNat 44)), (true, (4, .ofNat 0))]))))] 2 = true := by decide +kernel
theorem wS_274_ok : aSumOk wG wS_274 := aMeth_ok zm0 wS_274_k
/-- MaidsMemoryModel playsFrom -/
def wS_275 : aSum := (233, (1, ([(.ofNat 0, .ofNat 0), (.ofNat 0, .ofNat 5), (.ofNat 0, .ofNat 5), (.ofNat 3, .ofNat 4), (.negSucc 2147483647, .ofNat 2147483647)], ([.inr (.inr (.inr (.inl 50))), .inl (1, .ofNat 0), .inl (2, .ofNat 0), .inl (0, .ofNat 3), .inl (3, .ofNat 0), .inl (4, .ofNat 0)], ([], ([], ([(.negSucc 2147483647, .ofNat 2147483647)], (some (.inl (5, .ofNat 0)), ([], [])))))))))
set_option maxRecDepth 100000 in
theorem wS_275_k : aMeth wG [wS_273, wS_274] (zfun [232, 233]) (fun _ _ => none) 4000 wS_275 [(26, ([(.ofNat 0, .ofNat 0), (.ofNat 0, .ofNat 5), (.ofNat 0, .ofNat 5), (.ofNat 4, .ofNat 4), (.negSucc 2147483647, .ofNat 2147483647), (.negSucc 2147483647, .ofNat 2147483647), (.ofNat 0, .ofNat 7)], ([(0, .inr (.inr (.inr (.inl 50)))), (1, .inl (1, .ofNat 0)), (2, .inl (2, .ofNat 0)), (3, .inl (0, .ofNat 3)), (4, .inl (3, .ofNat 0)), (5, .inl (4, .ofNat 0)), (6, .inl (5, .ofNat 0)), (7, .inl (6, .ofNat 0))], (([], []), [(true, (0, .ofNat 26)), (true, (6, .ofNat 0))]))))] 2 = true := by decide +kernel
theorem wS_275_ok : aSumOk wG wS_275 := aMeth_ok (zmc wS_273_ok (zmc wS_274_ok zm0)) wS_275_k
/-- MaidsMemoryModel playsFrom -/
def wS_276 : aSum := (233, (2, ([(.ofNat 0, .ofNat 0), (.ofNat 0, .ofNat 5), (.ofNat 0, .ofNat 5), (.ofNat 2, .ofNat 4), (.negSucc 2147483647, .ofNat 2147483647)], ([.inr (.inr (.inr (.inl 50))), .inl (1, .ofNat 0), .inl (2, .ofNat 0), .inl (0, .ofNat 2), .inl (3, .ofNat 0), .inl (4, .ofNat 0)], ([], ([], ([(.negSucc 2147483647, .ofNat 2147483647)], (some (.inl (5, .ofNat 0)), ([], [])))))))))
set_option maxRecDepth 100000 in
theorem wS_276_k : aMeth wG [wS_274, wS_275] (zfun [232, 233]) (fun _ _ => none) 4000 wS_276 [(26, ([(.ofNat 0, .ofNat 0), (.ofNat 0, .ofNat 5), (.ofNat 0, .ofNat 5), (.ofNat 3, .ofNat 4), (.negSucc 2147483647, .ofNat 2147483647), (.negSucc 2147483647, .ofNat 2147483647), (.ofNat 0, .ofNat 7)], ([(0, .inr (.inr (.inr (.inl 50)))), (1, .inl (1, .ofNat 0)), (2, .inl (2, .ofNat 0)), (3, .inl (0, .ofNat 2)), (4, .inl (3, .ofNat 0)), (5, .inl (4, .ofNat 0)), (6, .inl (5, .ofNat 0)), (7, .inl (6, .ofNat 0))], (([], []), [(true, (0, .ofNat 26)), (true, (6, .ofNat 0))]))))] 2 = true := by decide +kernel
theorem wS_276_ok : aSumOk wG wS_276 := aMeth_ok (zmc wS_274_ok (zmc wS_275_ok zm0)) wS_276_k
/-- MaidsMemoryModel playsFrom -/
def wS_277 : aSum := (233, (3, ([(.ofNat 0, .ofNat 0), (.ofNat 0, .ofNat 5), (.ofNat 0, .ofNat 5), (.ofNat 1, .ofNat 4), (.negSucc 2147483647, .ofNat 2147483647)], ([.inr (.inr (.inr (.inl 50))), .inl (1, .ofNat 0), .inl (2, .ofNat 0), .inl (0, .ofNat 1), .inl (3, .ofNat 0), .inl (4, .ofNat 0)], ([], ([], ([(.negSucc 2147483647, .ofNat 2147483647)], (some (.inl (5, .ofNat 0)), ([], [])))))))))
set_option maxRecDepth 100000 in
theorem wS_277_k : aMeth wG [wS_274, wS_276] (zfun [232, 233]) (fun _ _ => none) 4000 wS_277 [(26, ([(.ofNat 0, .ofNat 0), (.ofNat 0, .ofNat 5), (.ofNat 0, .ofNat 5), (.ofNat 2, .ofNat 4), (.negSucc 2147483647, .ofNat 2147483647), (.negSucc 2147483647, .ofNat 2147483647), (.ofNat 0, .ofNat 7)], ([(0, .inr (.inr (.inr (.inl 50)))), (1, .inl (1, .ofNat 0)), (2, .inl (2, .ofNat 0)), (3, .inl (0, .ofNat 1)), (4, .inl (3, .ofNat 0)), (5, .inl (4, .ofNat 0)), (6, .inl (5, .ofNat 0)), (7, .inl (6, .ofNat 0))], (([], []), [(true, (0, .ofNat 26)), (true, (6, .ofNat 0))]))))] 2 = true := by decide +kernel
theorem wS_277_ok : aSumOk wG wS_277 := aMeth_ok (zmc wS_274_ok (zmc wS_276_ok zm0)) wS_277_k
/-- MaidsMemoryModel playsFrom -/
def wS_278 : aSum := (233, (4, ([(.ofNat 0, .ofNat 0), (.ofNat 0, .ofNat 5), (.ofNat 0, .ofNat 5), (.ofNat 1, .ofNat 4), (.negSucc 2147483647, .ofNat 2147483647)], ([.inr (.inr (.inr (.inl 50))), .inl (1, .ofNat 0), .inl (2, .ofNat 0), .inl (0, .ofNat 0), .inl (3, .ofNat 0), .inl (4, .ofNat 0)], ([], ([], ([(.negSucc 2147483647, .ofNat 2147483647)], (some (.inl (5, .ofNat 0)), ([], [])))))))))
set_option maxRecDepth 100000 in
theorem wS_278_k : aMeth wG [wS_274, wS_277] (zfun [232, 233]) (fun _ _ => none) 4000 wS_278 [(26, ([(.ofNat 0, .ofNat 0), (.ofNat 0, .ofNat 5), (.ofNat 0, .ofNat 5), (.ofNat 1, .ofNat 4), (.negSucc 2147483647, .ofNat 2147483647), (.negSucc 2147483647, .ofNat 2147483647), (.ofNat 0, .ofNat 7)], ([(0, .inr (.inr (.inr (.inl 50)))), (1, .inl (1, .ofNat 0)), (2, .inl (2, .ofNat 0)), (3, .inl (0, .ofNat 0)), (4, .inl (3, .ofNat 0)), (5, .inl (4, .ofNat 0)), (6, .inl (5, .ofNat 0)), (7, .inl (6, .ofNat 0))], (([], []), [(true, (0, .ofNat 26)), (true, (6, .ofNat 0))]))))] 2 = true := by decide +kernel
theorem wS_278_ok : aSumOk wG wS_278 := aMeth_ok (zmc wS_274_ok (zmc wS_277_ok zm0)) wS_278_k
/-- MaidsMemoryModel byTurns -/
def wS_279 : aSum := (234, (5, ([(.ofNat 0, .ofNat 0), (.negSucc 2147483647, .ofNat 2147483647), (.negSucc 2147483647, .ofNat 2147483647), (.negSucc 2147483647, .ofNat 2147483647)], ([.inr (.inr (.inr (.inl 50))), .inl (1, .ofNat 0), .inl (2, .ofNat 0), .inl (3, .ofNat 0)], ([], ([], ([(.negSucc 2147483647, .ofNat 2147483647)], (some (.inl (4, .ofNat 0)), ([], [])))))))))
set_option maxRecDepth 100000 in
theorem wS_279_k : aMeth wG [wS_274, wS_277, wS_278] (zfun [232, 233]) (fun _ _ => none) 4000 wS_279 [(118, ([(.ofNat 0, .ofNat 0), (.ofNat 0, .ofNat 2147483647), (.ofNat 1, .ofNat 4), (.ofNat 1, .ofNat 1), (.ofNat 0, .ofNat 5), (.ofNat 0, .ofNat 5), (.negSucc 2147483647, .ofNat 2147483647), (.ofNat 0, .ofNat 7)], ([(0, .inr (.inr (.inr (.inl 50)))), (2, .inl (2, .ofNat 0)), (4, .inl (4, .ofNat 0)), (5, .inl (5, .ofNat 0)), (6, .inl (6, .ofNat 0)), (7, .inl (7, .ofNat 0))], (([], []), [(true, (0, .ofNat 118)), (true, (7, .ofNat 0))]))))] 2 = true := by decide +kernel
theorem wS_279_ok : aSumOk wG wS_279 := aMeth_ok (zmc wS_274_ok (zmc wS_277_ok (zmc wS_278_ok zm0))) wS_279_k
/-- MaidsMemory$Street passDrawnDay -/
def wS_280 : aSum := (89, (4, ([(.ofNat 0, .ofNat 0), (.negSucc 2147483647, .ofNat 2147483647)], ([.inr (.inr (.inr (.inl 7))), .inr (.inr (.inr (.inl 22))), .inl (1, .ofNat 0)], ([], ([(8, 999), (9, 999), (10, 999), (11, 999), (12, 999), (22, 4), (24, 999), (25, 999)], ([(.negSucc 2147483647, .ofNat 2147483647)], (some (.inl (2, .ofNat 0)), ([], [])))))))))
set_option maxRecDepth 100000 in
theorem wS_280_k : aMeth wG [wS_145] (zfun [90]) (fun _ _ => none) 4000 wS_280 [(5, ([(.ofNat 0, .ofNat 0), (.negSucc 2147483647, .ofNat 2147483647), (.negSucc 2147483647, .ofNat 2147483647), (.ofNat 0, .ofNat 24)], ([(0, .inr (.inr (.inr (.inl 7)))), (1, .inr (.inr (.inr (.inl 22)))), (3, .inl (2, .ofNat 0)), (4, .inl (3, .ofNat 0))], (([], []), [(true, (0, .ofNat 5)), (true, (3, .ofNat 0))]))))] 2 = true := by decide +kernel
theorem wS_280_ok : aSumOk wG wS_280 := aMeth_ok (zmc wS_145_ok zm0) wS_280_k
/-- MaidsMemory$Street clutterOfAll -/
def wS_281 : aSum := (83, (0, ([(.ofNat 0, .ofNat 0)], ([.inr (.inr (.inr (.inl 1)))], ([], ([], ([(.negSucc 2147483647, .ofNat 2147483647)], (some (.inl (1, .ofNat 0)), ([], [])))))))))
set_option maxRecDepth 100000 in
theorem wS_281_k : aMeth wG [] (zfun []) (fun _ _ => none) 4000 wS_281 [(4, ([(.ofNat 0, .ofNat 0), (.negSucc 2147483647, .ofNat 2147483647), (.ofNat 0, .ofNat 6)], ([(0, .inr (.inr (.inr (.inl 1)))), (1, .inl (1, .ofNat 0)), (2, .inl (2, .ofNat 0))], (([], []), [(true, (0, .ofNat 4)), (true, (2, .ofNat 0))]))))] 2 = true := by decide +kernel
theorem wS_281_ok : aSumOk wG wS_281 := aMeth_ok zm0 wS_281_k
/-- MaidsMemory$Street fullGirls -/
def wS_282 : aSum := (84, (0, ([(.ofNat 0, .ofNat 0)], ([.inr (.inr (.inr (.inl 7)))], ([], ([], ([(.negSucc 2147483647, .ofNat 2147483647)], (some (.inl (1, .ofNat 0)), ([], [])))))))))
set_option maxRecDepth 100000 in
theorem wS_282_k : aMeth wG [] (zfun []) (fun _ _ => none) 4000 wS_282 [(4, ([(.ofNat 0, .ofNat 0), (.negSucc 2147483647, .ofNat 2147483647), (.ofNat 0, .ofNat 7)], ([(0, .inr (.inr (.inr (.inl 7)))), (1, .inl (1, .ofNat 0)), (2, .inl (2, .ofNat 0))], (([], []), [(true, (0, .ofNat 4)), (true, (2, .ofNat 0))]))))] 2 = true := by decide +kernel
theorem wS_282_ok : aSumOk wG wS_282 := aMeth_ok zm0 wS_282_k
/-- MaidsMemory drawn -/
def wS_283 : aSum := (142, (5, ([(.ofNat 0, .ofNat 0), (.negSucc 2147483647, .ofNat 2147483647), (.negSucc 2147483647, .ofNat 2147483647), (.negSucc 2147483647, .ofNat 2147483647)], ([.inr (.inr (.inr (.inl 0))), .inl (1, .ofNat 0), .inl (2, .ofNat 0), .inl (3, .ofNat 0)], ([], ([(7, 0), (7, 1), (8, 999), (9, 999), (10, 999), (11, 999), (12, 999), (22, 4), (24, 999), (25, 999)], ([(.negSucc 2147483647, .ofNat 2147483647)], (some (.inl (4, .ofNat 0)), ([], [])))))))))
set_option maxRecDepth 100000 in
theorem wS_283_k : aMeth wG [wS_181, wS_280, wS_281, wS_282] (zfun [83, 84, 89]) (fun _ _ => none) 4000 wS_283 [(67, ([(.ofNat 0, .ofNat 0), (.negSucc 2147483647, .ofNat 2147483647), (.ofNat 0, .ofNat 2147483647), (.ofNat 0, .ofNat 1), (.ofNat 1, .ofNat 30), (.ofNat 1, .ofNat 40), (.negSucc 2147483647, .ofNat 2147483647), (.negSucc 2147483647, .ofNat 2147483647), (.negSucc 2147483647, .ofNat 2147483647), (.ofNat 0, .ofNat 30)], ([(0, .inr (.inr (.inr (.inl 0)))), (3, .inl (3, .ofNat 0)), (4, .inl (4, .ofNat 0)), (5, .inl (5, .ofNat 0)), (6, .inl (6, .ofNat 0)), (7, .inl (7, .ofNat 0)), (8, .inl (8, .ofNat 0)), (9, .inl (9, .ofNat 0))], (([], []), [(true, (0, .ofNat 67)), (true, (9, .ofNat 0)), (true, (0, .negSucc 0)), (true, (0, .negSucc 0))])))),
  (88, ([(.ofNat 0, .ofNat 0), (.negSucc 2147483647, .ofNat 2147483647), (.ofNat 0, .ofNat 2147483647), (.ofNat 0, .ofNat 1), (.ofNat 1, .ofNat 30), (.ofNat 1, .ofNat 40), (.negSucc 2147483647, .ofNat 2147483647), (.negSucc 2147483647, .ofNat 2147483647), (.negSucc 2147483647, .ofNat 2147483647), (.ofNat 0, .ofNat 29), (.ofNat 0, .ofNat 40)], ([(0, .inr (.inr (.inr (.inl 0)))), (3, .inl (3, .ofNat 0)), (4, .inl (4, .ofNat 0)), (5, .inl (5, .ofNat 0)), (6, .inl (6, .ofNat 0)), (7, .inl (7, .ofNat 0)), (8, .inl (8, .ofNat 0)), (9, .inl (9, .ofNat 0)), (10, .inl (10, .ofNat 0))], (([], []), [(true, (0, .ofNat 67)), (true, (9, .ofNat 0)), (true, (0, .ofNat 88)), (true, (10, .ofNat 0))]))))] 4 = true := by decide +kernel
theorem wS_283_ok : aSumOk wG wS_283 := aMeth_ok (zmc wS_181_ok (zmc wS_280_ok (zmc wS_281_ok (zmc wS_282_ok zm0)))) wS_283_k
/-- MaidsMemoryModel drawn -/
def wS_284 : aSum := (235, (46, ([(.ofNat 0, .ofNat 0), (.negSucc 2147483647, .ofNat 2147483647), (.negSucc 2147483647, .ofNat 2147483647), (.negSucc 2147483647, .ofNat 2147483647)], ([.inr (.inr (.inr (.inl 50))), .inl (1, .ofNat 0), .inl (2, .ofNat 0), .inl (3, .ofNat 0)], ([], ([(50, 13), (50, 14), (50, 15), (50, 16), (50, 17), (50, 24), (50, 25), (50, 26), (50, 27), (58, 999), (59, 999), (60, 999), (61, 999), (62, 999), (63, 999)], ([(.negSucc 2147483647, .ofNat 2147483647)], (some (.inl (4, .ofNat 0)), ([], [])))))))))
set_option maxRecDepth 100000 in
theorem wS_284_k : aMeth wG [wS_21, wS_22, wS_150, wS_183] (zfun [198, 199, 202, 214]) (fun _ _ => none) 4000 wS_284 [(58, ([(.ofNat 0, .ofNat 0), (.negSucc 2147483647, .ofNat 2147483647), (.ofNat 0, .ofNat 2147483647), (.ofNat 0, .ofNat 1), (.negSucc 2147483647, .ofNat 2147483647), (.negSucc 2147483647, .ofNat 2147483647), (.negSucc 2147483647, .ofNat 2147483647), (.ofNat 0, .ofNat 21474837)], ([(0, .inr (.inr (.inr (.inl 50)))), (2, .inl (2, .ofNat 0)), (3, .inl (3, .ofNat 0)), (4, .inl (4, .ofNat 0)), (5, .inl (5, .ofNat 0)), (6, .inl (6, .ofNat 0)), (7, .inl (7, .ofNat 0))], (([], []), [(true, (0, .ofNat 58)), (true, (7, .ofNat 0)), (true, (0, .negSucc 0)), (true, (0, .negSucc 0)), (true, (0, .negSucc 0)), (true, (0, .negSucc 0))])))),
  (80, ([(.ofNat 0, .ofNat 0), (.negSucc 2147483647, .ofNat 2147483647), (.ofNat 0, .ofNat 2147483647), (.ofNat 0, .ofNat 1), (.negSucc 2147483647, .ofNat 2147483647), (.negSucc 2147483647, .ofNat 2147483647), (.negSucc 2147483647, .ofNat 2147483647), (.ofNat 0, .ofNat 21474836), (.negSucc 2147483647, .ofNat 2147483647), (.ofNat 0, .ofNat 100)], ([(0, .inr (.inr (.inr (.inl 50)))), (2, .inl (2, .ofNat 0)), (3, .inl (3, .ofNat 0)), (4, .inl (4, .ofNat 0)), (5, .inl (5, .ofNat 0)), (6, .inl (6, .ofNat 0)), (7, .inl (7, .ofNat 0)), (8, .inl (8, .ofNat 0)), (9, .inl (9, .ofNat 0))], (([], []), [(true, (0, .ofNat 58)), (true, (7, .ofNat 0)), (true, (0, .ofNat 80)), (true, (9, .ofNat 0)), (true, (0, .negSucc 0)), (true, (0, .negSucc 0))])))),
  (92, ([(.ofNat 0, .ofNat 0), (.negSucc 2147483647, .ofNat 2147483647), (.ofNat 0, .ofNat 2147483647), (.ofNat 0, .ofNat 1), (.negSucc 2147483647, .ofNat 2147483647), (.negSucc 2147483647, .ofNat 2147483647), (.negSucc 2147483647, .ofNat 2147483647), (.ofNat 0, .ofNat 21474836), (.negSucc 2147483647, .ofNat 2147483647), (.ofNat 0, .ofNat 99), (.ofNat 0, .ofNat 24)], ([(0, .inr (.inr (.inr (.inl 50)))), (2, .inl (2, .ofNat 0)), (3, .inl (3, .ofNat 0)), (4, .inl (4, .ofNat 0)), (5, .inl (5, .ofNat 0)), (6, .inl (6, .ofNat 0)), (7, .inl (7, .ofNat 0)), (8, .inl (8, .ofNat 0)), (9, .inl (9, .ofNat 0)), (10, .inl (10, .ofNat 0))], (([], []), [(true, (0, .ofNat 58)), (true, (7, .ofNat 0)), (true, (0, .ofNat 80)), (true, (9, .ofNat 0)), (true, (0, .ofNat 92)), (true, (10, .ofNat 0))])))),
  (161, ([(.ofNat 0, .ofNat 0), (.negSucc 2147483647, .ofNat 2147483647), (.ofNat 0, .ofNat 2147483647), (.ofNat 0, .ofNat 1), (.negSucc 2147483647, .ofNat 2147483647), (.negSucc 2147483647, .ofNat 2147483647), (.negSucc 2147483647, .ofNat 2147483647), (.ofNat 0, .ofNat 21474836), (.ofNat 0, .ofNat 7)], ([(0, .inr (.inr (.inr (.inl 50)))), (2, .inl (2, .ofNat 0)), (3, .inl (3, .ofNat 0)), (4, .inl (4, .ofNat 0)), (5, .inl (5, .ofNat 0)), (6, .inl (6, .ofNat 0)), (7, .inl (7, .ofNat 0)), (9, .inl (8, .ofNat 0))], (([], []), [(true, (0, .ofNat 58)), (true, (7, .ofNat 0)), (true, (0, .ofNat 161)), (true, (8, .ofNat 0)), (true, (0, .negSucc 0)), (true, (0, .negSucc 0))]))))] 6 = true := by decide +kernel
theorem wS_284_ok : aSumOk wG wS_284 := aMeth_ok (zmc wS_21_ok (zmc wS_22_ok (zmc wS_150_ok (zmc wS_183_ok zm0)))) wS_284_k
/-- MaidsMemory$Street putAway -/
def wS_285 : aSum := (91, (2, ([(.ofNat 0, .ofNat 0), (.ofNat 0, .ofNat 23)], ([.inr (.inr (.inr (.inl 1))), .inr (.inr (.inr (.inl 22))), .inl (1, .ofNat 0)], ([], ([(3, 999), (4, 999), (5, 999), (22, 4), (24, 999), (25, 999)], ([(.negSucc 2147483647, .ofNat 2147483647)], (some (.inl (2, .ofNat 0)), ([], [])))))))))
set_option maxRecDepth 100000 in
theorem wS_285_k : aMeth wG [wS_142] (zfun [29]) (fun _ _ => none) 4000 wS_285 [(15, ([(.ofNat 0, .ofNat 0), (.ofNat 0, .ofNat 23), (.ofNat 0, .ofNat 5), (.negSucc 2147483647, .ofNat 2147483647), (.ofNat 0, .ofNat 7)], ([(0, .inr (.inr (.inr (.inl 1)))), (1, .inr (.inr (.inr (.inl 22)))), (2, .inl (1, .ofNat 0)), (3, .inl (2, .ofNat 0)), (4, .inl (3, .ofNat 0)), (5, .inl (4, .ofNat 0))], (([], []), [(true, (0, .ofNat 15)), (true, (4, .ofNat 0))]))))] 2 = true := by decide +kernel
theorem wS_285_ok : aSumOk wG wS_285 := aMeth_ok (zmc wS_142_ok zm0) wS_285_k
/-- MaidsMemory$Street goHome -/
def wS_286 : aSum := (94, (2, ([(.ofNat 0, .ofNat 0)], ([.inr (.inr (.inr (.inl 1)))], ([], ([(2, 999), (3, 999), (4, 999), (5, 999)], ([], (none, ([], [])))))))))
set_option maxRecDepth 100000 in
theorem wS_286_k : aMeth wG [] (zfun []) (fun _ _ => none) 4000 wS_286 [(2, ([(.ofNat 0, .ofNat 0), (.ofNat 0, .ofNat 7)], ([(0, .inr (.inr (.inr (.inl 1)))), (1, .inl (1, .ofNat 0))], (([], []), [(true, (0, .ofNat 2)), (true, (1, .ofNat 0)), (true, (0, .negSucc 0)), (true, (0, .negSucc 0))])))),
  (12, ([(.ofNat 0, .ofNat 0), (.ofNat 0, .ofNat 6), (.ofNat 0, .ofNat 24)], ([(0, .inr (.inr (.inr (.inl 1)))), (1, .inl (1, .ofNat 0)), (2, .inl (2, .ofNat 0))], (([], []), [(true, (0, .ofNat 2)), (true, (1, .ofNat 0)), (true, (0, .ofNat 12)), (true, (2, .ofNat 0))]))))] 4 = true := by decide +kernel
theorem wS_286_ok : aSumOk wG wS_286 := aMeth_ok zm0 wS_286_k
/-- MaidsMemory$Street live -/
def wS_287 : aSum := (90, (3, ([(.ofNat 0, .ofNat 0)], ([.inr (.inr (.inr (.inl 1))), .inr (.inr (.inr (.inl 22)))], ([], ([(2, 999), (3, 999), (4, 999), (5, 999), (22, 4), (24, 999), (25, 999)], ([(.negSucc 2147483647, .ofNat 2147483647)], (some (.inl (1, .ofNat 0)), ([], [])))))))))
set_option maxRecDepth 100000 in
theorem wS_287_k : aMeth wG [wS_285, wS_286] (zfun [91, 94]) (fun _ _ => none) 4000 wS_287 [(4, ([(.ofNat 0, .ofNat 0), (.negSucc 2147483647, .ofNat 2147483647), (.ofNat 0, .ofNat 24)], ([(0, .inr (.inr (.inr (.inl 1)))), (1, .inr (.inr (.inr (.inl 22)))), (2, .inl (1, .ofNat 0)), (3, .inl (2, .ofNat 0))], (([], []), [(true, (0, .ofNat 4)), (true, (2, .ofNat 0))]))))] 2 = true := by decide +kernel
theorem wS_287_ok : aSumOk wG wS_287 := aMeth_ok (zmc wS_285_ok (zmc wS_286_ok zm0)) wS_287_k
/-- MaidsMemory$Street passDays -/
def wS_288 : aSum := (88, (4, ([(.ofNat 0, .ofNat 0)], ([.inr (.inr (.inr (.inl 1))), .inr (.inr (.inr (.inl 22))), .inl (0, .ofNat 1)], ([], ([(2, 999), (3, 999), (4, 999), (5, 999), (6, 999), (22, 4), (24, 999), (25, 999)], ([(.negSucc 2147483647, .ofNat 2147483647)], (some (.inl (1, .ofNat 0)), ([], [])))))))))
set_option maxRecDepth 100000 in
theorem wS_288_k : aMeth wG [wS_287] (zfun [90]) (fun _ _ => none) 4000 wS_288 [(5, ([(.ofNat 0, .ofNat 0), (.negSucc 2147483647, .ofNat 2147483647), (.ofNat 0, .ofNat 1)], ([(0, .inr (.inr (.inr (.inl 1)))), (1, .inr (.inr (.inr (.inl 22)))), (2, .inl (0, .ofNat 1)), (3, .inl (1, .ofNat 0)), (4, .inl (2, .ofNat 0))], (([], []), [(true, (0, .ofNat 5)), (true, (2, .ofNat 0))]))))] 2 = true := by decide +kernel
theorem wS_288_ok : aSumOk wG wS_288 := aMeth_ok (zmc wS_287_ok zm0) wS_288_k
/-- MaidsMemory day -/
def wS_289 : aSum := (143, (5, ([(.ofNat 0, .ofNat 0)], ([.inr (.inr (.inr (.inl 0)))], ([], ([(2, 999), (3, 999), (4, 999), (5, 999), (6, 999), (22, 4), (24, 999), (25, 999)], ([(.negSucc 2147483647, .ofNat 2147483647)], (some (.inl (1, .ofNat 0)), ([], [])))))))))
set_option maxRecDepth 100000 in
theorem wS_289_k : aMeth wG [wS_288] (zfun [88]) (fun _ _ => none) 4000 wS_289 [] 0 = true := by decide +kernel
theorem wS_289_ok : aSumOk wG wS_289 := aMeth_ok (zmc wS_288_ok zm0) wS_289_k
/-- MaidsMemoryModel day -/
def wS_290 : aSum := (236, (46, ([(.ofNat 0, .ofNat 0)], ([.inr (.inr (.inr (.inl 50)))], ([], ([(50, 13), (50, 14), (50, 15), (50, 16), (50, 17), (50, 24), (50, 25), (50, 26), (50, 27), (51, 999), (55, 999), (58, 999), (59, 999), (60, 999), (61, 999), (62, 999), (63, 999), (68, 999)], ([(.negSucc 2147483647, .ofNat 2147483647)], (some (.inl (1, .ofNat 0)), ([], [])))))))))
set_option maxRecDepth 100000 in
theorem wS_290_k : aMeth wG [wS_21, wS_150] (zfun [198, 202]) (fun _ _ => none) 4000 wS_290 [(10, ([(.ofNat 0, .ofNat 0), (.ofNat 0, .ofNat 168)], ([(0, .inr (.inr (.inr (.inl 50)))), (1, .inl (1, .ofNat 0))], (([], []), [(true, (0, .ofNat 10)), (true, (1, .ofNat 0))])))),
  (37, ([(.ofNat 0, .ofNat 0), (.ofNat 0, .ofNat 6)], ([(0, .inr (.inr (.inr (.inl 50)))), (1, .inl (1, .ofNat 0))], (([], []), [(true, (0, .ofNat 37)), (true, (1, .ofNat 0))])))),
  (68, ([(.ofNat 0, .ofNat 0), (.ofNat 0, .ofNat 4)], ([(0, .inr (.inr (.inr (.inl 50)))), (1, .inl (1, .ofNat 0))], (([], []), [(true, (0, .ofNat 68)), (true, (1, .ofNat 0))]))))] 2 = true := by decide +kernel
theorem wS_290_ok : aSumOk wG wS_290 := aMeth_ok (zmc wS_21_ok (zmc wS_150_ok zm0)) wS_290_k
/-- MaidsMemory hire -/
def wS_291 : aSum := (144, (1, ([(.ofNat 0, .ofNat 0), (.negSucc 2147483647, .ofNat 2147483647), (.negSucc 2147483647, .ofNat 2147483647)], ([.inr (.inr (.inr (.inl 0))), .inl (1, .ofNat 0), .inl (2, .ofNat 0)], ([], ([(2, 999), (5, 999)], ([(.negSucc 4, .ofNat 1)], (some (.inl (3, .ofNat 0)), ([], [])))))))))
set_option maxRecDepth 100000 in
theorem wS_291_k : aMeth wG [] (zfun []) (fun _ _ => none) 4000 wS_291 [] 0 = true := by decide +kernel
theorem wS_291_ok : aSumOk wG wS_291 := aMeth_ok zm0 wS_291_k
/-- MaidsMemoryModel hire -/
def wS_292 : aSum := (237, (2, ([(.ofNat 0, .ofNat 0), (.negSucc 2147483647, .ofNat 2147483647), (.negSucc 2147483647, .ofNat 2147483647)], ([.inr (.inr (.inr (.inl 50))), .inl (1, .ofNat 0), .inl (2, .ofNat 0)], ([], ([(51, 999), (68, 999)], ([(.negSucc 4, .ofNat 1)], (some (.inl (3, .ofNat 0)), ([], [])))))))))
set_option maxRecDepth 100000 in
theorem wS_292_k : aMeth wG [] (zfun []) (fun _ _ => none) 4000 wS_292 [] 0 = true := by decide +kernel
theorem wS_292_ok : aSumOk wG wS_292 := aMeth_ok zm0 wS_292_k
/-- MaidsMemory letGo -/
def wS_293 : aSum := (145, (1, ([(.ofNat 0, .ofNat 0), (.negSucc 2147483647, .ofNat 2147483647)], ([.inr (.inr (.inr (.inl 0))), .inl (1, .ofNat 0)], ([], ([(2, 999)], ([(.negSucc 4, .ofNat 2147483647)], (some (.inl (2, .ofNat 0)), ([], [])))))))))
set_option maxRecDepth 100000 in
theorem wS_293_k : aMeth wG [] (zfun []) (fun _ _ => none) 4000 wS_293 [] 0 = true := by decide +kernel
theorem wS_293_ok : aSumOk wG wS_293 := aMeth_ok zm0 wS_293_k
/-- MaidsMemoryModel letGo -/
def wS_294 : aSum := (238, (2, ([(.ofNat 0, .ofNat 0), (.negSucc 2147483647, .ofNat 2147483647)], ([.inr (.inr (.inr (.inl 50))), .inl (1, .ofNat 0)], ([], ([(51, 999)], ([(.negSucc 4, .ofNat 2147483647)], (some (.inl (2, .ofNat 0)), ([], [])))))))))
set_option maxRecDepth 100000 in
theorem wS_294_k : aMeth wG [] (zfun []) (fun _ _ => none) 4000 wS_294 [] 0 = true := by decide +kernel
theorem wS_294_ok : aSumOk wG wS_294 := aMeth_ok zm0 wS_294_k
/-- MaidsMemory sweep -/
def wS_295 : aSum := (146, (1, ([(.ofNat 0, .ofNat 0), (.negSucc 2147483647, .ofNat 2147483647)], ([.inr (.inr (.inr (.inl 0))), .inl (1, .ofNat 0)], ([], ([(2, 999), (5, 999)], ([(.negSucc 2147483647, .ofNat 2147483647)], (some (.inl (2, .ofNat 0)), ([], [])))))))))
set_option maxRecDepth 100000 in
theorem wS_295_k : aMeth wG [] (zfun []) (fun _ _ => none) 4000 wS_295 [] 0 = true := by decide +kernel
theorem wS_295_ok : aSumOk wG wS_295 := aMeth_ok zm0 wS_295_k
/-- MaidsMemoryModel sweep -/
def wS_296 : aSum := (239, (2, ([(.ofNat 0, .ofNat 0), (.negSucc 2147483647, .ofNat 2147483647)], ([.inr (.inr (.inr (.inl 50))), .inl (1, .ofNat 0)], ([], ([(51, 999), (68, 999)], ([(.negSucc 2147483647, .ofNat 2147483647)], (some (.inl (2, .ofNat 0)), ([], [])))))))))
set_option maxRecDepth 100000 in
theorem wS_296_k : aMeth wG [] (zfun []) (fun _ _ => none) 4000 wS_296 [] 0 = true := by decide +kernel
theorem wS_296_ok : aSumOk wG wS_296 := aMeth_ok zm0 wS_296_k
/-- MaidsMemory led -/
def wS_297 : aSum := (147, (0, ([(.ofNat 0, .ofNat 0), (.negSucc 2147483647, .ofNat 2147483647)], ([.inr (.inr (.inr (.inl 0))), .inl (1, .ofNat 0)], ([], ([], ([(.negSucc 2147483647, .ofNat 2147483647)], (some (.inl (2, .ofNat 0)), ([], [])))))))))
set_option maxRecDepth 100000 in
theorem wS_297_k : aMeth wG [] (zfun []) (fun _ _ => none) 4000 wS_297 [] 0 = true := by decide +kernel
theorem wS_297_ok : aSumOk wG wS_297 := aMeth_ok zm0 wS_297_k
/-- MaidsMemoryModel led -/
def wS_298 : aSum := (240, (1, ([(.ofNat 0, .ofNat 0), (.negSucc 2147483647, .ofNat 2147483647)], ([.inr (.inr (.inr (.inl 50))), .inl (1, .ofNat 0)], ([], ([], ([(.negSucc 2147483647, .ofNat 2147483647)], (some (.inl (2, .ofNat 0)), ([], [])))))))))
set_option maxRecDepth 100000 in
theorem wS_298_k : aMeth wG [] (zfun []) (fun _ _ => none) 4000 wS_298 [] 0 = true := by decide +kernel
theorem wS_298_ok : aSumOk wG wS_298 := aMeth_ok zm0 wS_298_k
/-- MaidsMemory image -/
def wS_299 : aSum := (148, (2, ([(.ofNat 0, .ofNat 0)], ([.inr (.inr (.inr (.inl 0)))], ([], ([(0, 3), (13, 0), (13, 1), (14, 999), (15, 999), (16, 999), (17, 999)], ([(.negSucc 2147483647, .ofNat 2147483647)], (some (.inl (1, .ofNat 0)), ([], [])))))))))
set_option maxRecDepth 100000 in
theorem wS_299_k : aMeth wG [] (zfun []) (fun _ _ => none) 4000 wS_299 [] 0 = true := by decide +kernel
theorem wS_299_ok : aSumOk wG wS_299 := aMeth_ok zm0 wS_299_k
/-- MaidsMemoryModel image -/
def wS_300 : aSum := (241, (0, ([(.ofNat 0, .ofNat 0)], ([.inr (.inr (.inr (.inl 50)))], ([], ([(50, 34), (50, 35), (50, 36), (69, 999), (70, 999), (71, 999)], ([(.negSucc 2147483647, .ofNat 2147483647)], (some (.inl (1, .ofNat 0)), ([], [])))))))))
set_option maxRecDepth 100000 in
theorem wS_300_k : aMeth wG [] (zfun []) (zspl [((241, 23), (.inl 1, [.ofNat 36, .ofNat 43]))]) 4000 wS_300 [(23, ([(.ofNat 0, .ofNat 0), (.ofNat 0, .ofNat 60)], ([(0, .inr (.inr (.inr (.inl 50)))), (1, .inl (1, .ofNat 0))], (([], []), [(true, (0, .ofNat 23)), (true, (1, .ofNat 0))])))),
  (49, ([(.ofNat 0, .ofNat 0), (.ofNat 0, .ofNat 168)], ([(0, .inr (.inr (.inr (.inl 50)))), (1, .inl (1, .ofNat 0))], (([], []), [(true, (0, .ofNat 49)), (true, (1, .ofNat 0))])))),
  (76, ([(.ofNat 0, .ofNat 0), (.ofNat 0, .ofNat 6)], ([(0, .inr (.inr (.inr (.inl 50)))), (1, .inl (1, .ofNat 0))], (([], []), [(true, (0, .ofNat 76)), (true, (1, .ofNat 0))]))))] 2 = true := by decide +kernel
theorem wS_300_ok : aSumOk wG wS_300 := aMeth_ok zm0 wS_300_k
/-- MaidsMemory back -/
def wS_301 : aSum := (149, (2, ([(.ofNat 0, .ofNat 0)], ([.inr (.inr (.inr (.inl 0)))], ([], ([(2, 999), (3, 999), (4, 999), (5, 999)], ([(.negSucc 2147483647, .ofNat 2147483647)], (some (.inl (1, .ofNat 0)), ([], [])))))))))
set_option maxRecDepth 100000 in
theorem wS_301_k : aMeth wG [] (zfun []) (fun _ _ => none) 4000 wS_301 [] 0 = true := by decide +kernel
theorem wS_301_ok : aSumOk wG wS_301 := aMeth_ok zm0 wS_301_k
/-- MaidsMemoryModel back -/
def wS_302 : aSum := (242, (0, ([(.ofNat 0, .ofNat 0)], ([.inr (.inr (.inr (.inl 50)))], ([], ([(51, 999), (55, 999), (68, 999)], ([(.negSucc 2147483647, .ofNat 2147483647)], (some (.inl (1, .ofNat 0)), ([], [])))))))))
set_option maxRecDepth 100000 in
theorem wS_302_k : aMeth wG [] (zfun []) (fun _ _ => none) 4000 wS_302 [(12, ([(.ofNat 0, .ofNat 0), (.ofNat 0, .ofNat 6)], ([(0, .inr (.inr (.inr (.inl 50)))), (1, .inl (1, .ofNat 0))], (([], []), [(true, (0, .ofNat 12)), (true, (1, .ofNat 0))])))),
  (46, ([(.ofNat 0, .ofNat 0), (.ofNat 0, .ofNat 7)], ([(0, .inr (.inr (.inr (.inl 50)))), (1, .inl (1, .ofNat 0))], (([], []), [(true, (0, .ofNat 46)), (true, (1, .ofNat 0))])))),
  (80, ([(.ofNat 0, .ofNat 0), (.ofNat 0, .ofNat 4)], ([(0, .inr (.inr (.inr (.inl 50)))), (1, .inl (1, .ofNat 0))], (([], []), [(true, (0, .ofNat 80)), (true, (1, .ofNat 0))])))),
  (125, ([(.ofNat 0, .ofNat 0), (.ofNat 0, .ofNat 168)], ([(0, .inr (.inr (.inr (.inl 50)))), (1, .inl (1, .ofNat 0))], (([], []), [(true, (0, .ofNat 125)), (true, (1, .ofNat 0))])))),
  (156, ([(.ofNat 0, .ofNat 0), (.ofNat 0, .ofNat 6)], ([(0, .inr (.inr (.inr (.inl 50)))), (1, .inl (1, .ofNat 0))], (([], []), [(true, (0, .ofNat 156)), (true, (1, .ofNat 0))]))))] 2 = true := by decide +kernel
theorem wS_302_ok : aSumOk wG wS_302 := aMeth_ok zm0 wS_302_k
/-- MaidsMemory undo -/
def wS_303 : aSum := (150, (4, ([(.ofNat 0, .ofNat 0)], ([.inr (.inr (.inr (.inl 0)))], ([], ([(2, 999), (26, 3)], ([(.negSucc 2147483647, .ofNat 2147483647)], (some (.inl (1, .ofNat 0)), ([], [])))))))))
set_option maxRecDepth 100000 in
theorem wS_303_k : aMeth wG [wH_takeBack] (zfun [15]) (fun _ _ => none) 4000 wS_303 [] 0 = true := by decide +kernel
theorem wS_303_ok : aSumOk wG wS_303 := aMeth_ok (zmc wH_takeBack_ok zm0) wS_303_k
/-- MaidsMemory redo -/
def wS_304 : aSum := (151, (4, ([(.ofNat 0, .ofNat 0)], ([.inr (.inr (.inr (.inl 0)))], ([], ([(2, 999), (26, 3)], ([(.negSucc 2147483647, .ofNat 2147483647)], (some (.inl (1, .ofNat 0)), ([], [])))))))))
set_option maxRecDepth 100000 in
theorem wS_304_k : aMeth wG [wH_doAgain] (zfun [16]) (fun _ _ => none) 4000 wS_304 [] 0 = true := by decide +kernel
theorem wS_304_ok : aSumOk wG wS_304 := aMeth_ok (zmc wH_doAgain_ok zm0) wS_304_k
/-- MaidsMemory body -/
def wS_305 : aSum := (152, (2, ([(.ofNat 0, .ofNat 0), (.negSucc 2147483647, .ofNat 2147483647)], ([.inr (.inr (.inr (.inl 0))), .inl (1, .ofNat 0)], ([], ([(42, 1), (43, 999)], ([(.negSucc 2, .ofNat 49)], (some (.inl (2, .ofNat 0)), ([], [])))))))))
set_option maxRecDepth 100000 in
theorem wS_305_k : aMeth wG [] (zfun []) (fun _ _ => none) 4000 wS_305 [] 0 = true := by decide +kernel
theorem wS_305_ok : aSumOk wG wS_305 := aMeth_ok zm0 wS_305_k
/-- MaidsMemoryModel body -/
def wS_306 : aSum := (245, (1, ([(.ofNat 0, .ofNat 0), (.negSucc 2147483647, .ofNat 2147483647)], ([.inr (.inr (.inr (.inl 50))), .inl (1, .ofNat 0)], ([], ([(50, 40), (72, 999)], ([(.negSucc 2, .ofNat 49)], (some (.inl (2, .ofNat 0)), ([], [])))))))))
set_option maxRecDepth 100000 in
theorem wS_306_k : aMeth wG [] (zfun []) (fun _ _ => none) 4000 wS_306 [] 0 = true := by decide +kernel
theorem wS_306_ok : aSumOk wG wS_306 := aMeth_ok zm0 wS_306_k
end
