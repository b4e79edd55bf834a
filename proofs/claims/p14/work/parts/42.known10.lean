noncomputable section
/-- MaidsMemoryModel act -/
def wS_308 : aSum := (252, (7, ([(.ofNat 0, .ofNat 0), (.negSucc 2147483647, .ofNat 2147483647), (.negSucc 2147483647, .ofNat 2147483647), (.negSucc 2147483647, .ofNat 2147483647)], ([.inr (.inr (.inr (.inl 50))), .inl (1, .ofNat 0), .inl (2, .ofNat 0), .inl (3, .ofNat 0)], ([], ([(50, 43), (50, 44), (50, 45), (73, 999)], ([(.negSucc 2147483647, .ofNat 2147483647)], (some (.inl (4, .ofNat 0)), ([], [])))))))))
set_option maxRecDepth 100000 in
theorem wS_308_k : aMeth wG [] (zfun []) (fun _ _ => none) 4000 wS_308 [] 0 = true := by decide +kernel
theorem wS_308_ok : aSumOk wG wS_308 := aMeth_ok zm0 wS_308_k
/-- MaidsMemory trace -/
def wS_309 : aSum := (154, (1, ([(.ofNat 0, .ofNat 0), (.negSucc 2147483647, .ofNat 2147483647)], ([.inr (.inr (.inr (.inl 0))), .inl (1, .ofNat 0)], ([], ([], ([(.negSucc 2147483647, .ofNat 2147483647)], (some (.inl (2, .ofNat 0)), ([], [])))))))))
set_option maxRecDepth 100000 in
theorem wS_309_k : aMeth wG [] (zfun []) (fun _ _ => none) 4000 wS_309 [] 0 = true := by decide +kernel
theorem wS_309_ok : aSumOk wG wS_309 := aMeth_ok zm0 wS_309_k
/-- MaidsMemoryModel trace -/
def wS_310 : aSum := (253, (0, ([(.ofNat 0, .ofNat 0), (.negSucc 2147483647, .ofNat 2147483647)], ([.inr (.inr (.inr (.inl 50))), .inl (1, .ofNat 0)], ([], ([], ([(.negSucc 2147483647, .ofNat 2147483647)], (some (.inl (2, .ofNat 0)), ([], [])))))))))
set_option maxRecDepth 100000 in
theorem wS_310_k : aMeth wG [] (zfun []) (fun _ _ => none) 4000 wS_310 [] 0 = true := by decide +kernel
theorem wS_310_ok : aSumOk wG wS_310 := aMeth_ok zm0 wS_310_k
/-- MaidsMemory keep -/
def wS_311 : aSum := (155, (1, ([(.ofNat 0, .ofNat 0), (.negSucc 2147483647, .ofNat 2147483647), (.negSucc 2147483647, .ofNat 2147483647)], ([.inr (.inr (.inr (.inl 0))), .inl (1, .ofNat 0), .inl (2, .ofNat 0)], ([], ([(46, 999), (47, 999), (48, 999)], ([(.negSucc 0, .ofNat 1)], (some (.inl (3, .ofNat 0)), ([], [])))))))))
set_option maxRecDepth 100000 in
theorem wS_311_k : aMeth wG [] (zfun []) (fun _ _ => none) 4000 wS_311 [] 0 = true := by decide +kernel
theorem wS_311_ok : aSumOk wG wS_311 := aMeth_ok zm0 wS_311_k
/-- MaidsMemoryModel keep -/
def wS_312 : aSum := (255, (2, ([(.ofNat 0, .ofNat 0), (.negSucc 2147483647, .ofNat 2147483647), (.negSucc 2147483647, .ofNat 2147483647)], ([.inr (.inr (.inr (.inl 50))), .inl (1, .ofNat 0), .inl (2, .ofNat 0)], ([], ([(74, 999), (75, 999)], ([(.negSucc 0, .ofNat 1)], (some (.inl (3, .ofNat 0)), ([], [])))))))))
set_option maxRecDepth 100000 in
theorem wS_312_k : aMeth wG [] (zfun []) (fun _ _ => none) 4000 wS_312 [] 0 = true := by decide +kernel
theorem wS_312_ok : aSumOk wG wS_312 := aMeth_ok zm0 wS_312_k
/-- MaidsMemory$Shelves layRow -/
def wS_313 : aSum := (61, (0, ([(.ofNat 0, .ofNat 0), (.ofNat 0, .ofNat 5), (.ofNat 0, .ofNat 4), (.ofNat 0, .ofNat 60)], ([.inr (.inr (.inr (.inl 45))), .inl (1, .ofNat 0), .inl (2, .ofNat 0), .inl (3, .ofNat 0)], ([], ([(46, 999), (48, 999), (49, 999)], ([], (none, ([], [])))))))))
set_option maxRecDepth 100000 in
theorem wS_313_k : aMeth wG [] (zfun []) (fun _ _ => none) 4000 wS_313 [(17, ([(.ofNat 0, .ofNat 0), (.ofNat 0, .ofNat 5), (.ofNat 0, .ofNat 4), (.ofNat 0, .ofNat 60), (.ofNat 0, .ofNat 60)], ([(0, .inr (.inr (.inr (.inl 45)))), (1, .inl (1, .ofNat 0)), (4, .inl (4, .ofNat 0))], (([], []), [(true, (0, .ofNat 17)), (true, (4, .ofNat 0))]))))] 2 = true := by decide +kernel
theorem wS_313_ok : aSumOk wG wS_313 := aMeth_ok zm0 wS_313_k
/-- MaidsMemory row -/
def wS_314 : aSum := (156, (1, ([(.ofNat 0, .ofNat 0), (.negSucc 2147483647, .ofNat 2147483647), (.negSucc 2147483647, .ofNat 2147483647), (.negSucc 2147483647, .ofNat 2147483647)], ([.inr (.inr (.inr (.inl 0))), .inl (1, .ofNat 0), .inl (2, .ofNat 0), .inl (3, .ofNat 0)], ([], ([(46, 999), (48, 999), (49, 999)], ([(.negSucc 13, .ofNat 1)], (some (.inl (4, .ofNat 0)), ([], [])))))))))
set_option maxRecDepth 100000 in
theorem wS_314_k : aMeth wG [wS_313] (zfun [61]) (fun _ _ => none) 4000 wS_314 [] 0 = true := by decide +kernel
theorem wS_314_ok : aSumOk wG wS_314 := aMeth_ok (zmc wS_313_ok zm0) wS_314_k
/-- MaidsMemoryModel row -/
def wS_315 : aSum := (256, (2, ([(.ofNat 0, .ofNat 0), (.negSucc 2147483647, .ofNat 2147483647), (.negSucc 2147483647, .ofNat 2147483647), (.negSucc 2147483647, .ofNat 2147483647)], ([.inr (.inr (.inr (.inl 50))), .inl (1, .ofNat 0), .inl (2, .ofNat 0), .inl (3, .ofNat 0)], ([], ([(74, 999), (75, 999), (76, 999)], ([(.negSucc 13, .ofNat 1)], (some (.inl (4, .ofNat 0)), ([], [])))))))))
set_option maxRecDepth 100000 in
theorem wS_315_k : aMeth wG [] (zfun []) (fun _ _ => none) 4000 wS_315 [(57, ([(.ofNat 0, .ofNat 0), (.ofNat 0, .ofNat 5), (.ofNat 0, .ofNat 4), (.ofNat 0, .ofNat 60), (.ofNat 0, .ofNat 360)], ([(0, .inr (.inr (.inr (.inl 50)))), (1, .inl (1, .ofNat 0)), (4, .inl (4, .ofNat 0))], (([], []), [(true, (0, .ofNat 57)), (true, (4, .ofNat 0))]))))] 2 = true := by decide +kernel
theorem wS_315_ok : aSumOk wG wS_315 := aMeth_ok zm0 wS_315_k
/-- MaidsMemory put -/
def wS_316 : aSum := (157, (2, ([(.ofNat 0, .ofNat 0), (.negSucc 2147483647, .ofNat 2147483647), (.negSucc 2147483647, .ofNat 2147483647), (.negSucc 9223372036854775807, .ofNat 9223372036854775807)], ([.inr (.inr (.inr (.inl 0))), .inl (1, .ofNat 0), .inl (2, .ofNat 0), .inr (.inl (3, .ofNat 0))], ([], ([(49, 999)], ([(.negSucc 12, .ofNat 1)], (some (.inl (4, .ofNat 0)), ([], [])))))))))
set_option maxRecDepth 100000 in
theorem wS_316_k : aMeth wG [] (zfun []) (fun _ _ => none) 4000 wS_316 [] 0 = true := by decide +kernel
theorem wS_316_ok : aSumOk wG wS_316 := aMeth_ok zm0 wS_316_k
/-- MaidsMemoryModel put -/
def wS_317 : aSum := (259, (3, ([(.ofNat 0, .ofNat 0), (.negSucc 2147483647, .ofNat 2147483647), (.negSucc 2147483647, .ofNat 2147483647), (.negSucc 9223372036854775807, .ofNat 9223372036854775807)], ([.inr (.inr (.inr (.inl 50))), .inl (1, .ofNat 0), .inl (2, .ofNat 0), .inr (.inl (3, .ofNat 0))], ([], ([(76, 999)], ([(.negSucc 12, .ofNat 1)], (some (.inl (4, .ofNat 0)), ([], [])))))))))
set_option maxRecDepth 100000 in
theorem wS_317_k : aMeth wG [] (zfun []) (fun _ _ => none) 4000 wS_317 [] 0 = true := by decide +kernel
theorem wS_317_ok : aSumOk wG wS_317 := aMeth_ok zm0 wS_317_k
/-- MaidsMemory element -/
def wS_318 : aSum := (158, (2, ([(.ofNat 0, .ofNat 0), (.negSucc 2147483647, .ofNat 2147483647), (.negSucc 2147483647, .ofNat 2147483647)], ([.inr (.inr (.inr (.inl 0))), .inl (1, .ofNat 0), .inl (2, .ofNat 0)], ([], ([], ([(.negSucc 9223372036854775807, .ofNat 9223372036854775807)], (some (.inr (.inl (3, .ofNat 0))), ([], [])))))))))
set_option maxRecDepth 100000 in
theorem wS_318_k : aMeth wG [] (zfun []) (fun _ _ => none) 4000 wS_318 [] 0 = true := by decide +kernel
theorem wS_318_ok : aSumOk wG wS_318 := aMeth_ok zm0 wS_318_k
/-- MaidsMemoryModel element -/
def wS_319 : aSum := (260, (3, ([(.ofNat 0, .ofNat 0), (.negSucc 2147483647, .ofNat 2147483647), (.negSucc 2147483647, .ofNat 2147483647)], ([.inr (.inr (.inr (.inl 50))), .inl (1, .ofNat 0), .inl (2, .ofNat 0)], ([], ([], ([(.negSucc 9223372036854775807, .ofNat 9223372036854775807)], (some (.inr (.inl (3, .ofNat 0))), ([], [])))))))))
set_option maxRecDepth 100000 in
theorem wS_319_k : aMeth wG [] (zfun []) (fun _ _ => none) 4000 wS_319 [] 0 = true := by decide +kernel
theorem wS_319_ok : aSumOk wG wS_319 := aMeth_ok zm0 wS_319_k
/-- MaidsMemory shift -/
def wS_320 : aSum := (159, (1, ([(.ofNat 0, .ofNat 0), (.negSucc 2147483647, .ofNat 2147483647), (.negSucc 2147483647, .ofNat 2147483647), (.negSucc 2147483647, .ofNat 2147483647), (.negSucc 2147483647, .ofNat 2147483647), (.negSucc 2147483647, .negSucc 0)], ([.inr (.inr (.inr (.inl 0))), .inl (1, .ofNat 0), .inl (2, .ofNat 0), .inl (3, .ofNat 0), .inl (4, .ofNat 0), .inl (5, .ofNat 0)], ([], ([], ([(.negSucc 12, .negSucc 0)], (some (.inl (6, .ofNat 0)), ([], [])))))))))
set_option maxRecDepth 100000 in
theorem wS_320_k : aMeth wG [] (zfun []) (fun _ _ => none) 4000 wS_320 [] 0 = true := by decide +kernel
theorem wS_320_ok : aSumOk wG wS_320 := aMeth_ok zm0 wS_320_k
/-- MaidsMemory shift -/
def wS_321 : aSum := (159, (2, ([(.ofNat 0, .ofNat 0), (.negSucc 2147483647, .ofNat 2147483647), (.negSucc 2147483647, .ofNat 2147483647), (.negSucc 2147483647, .ofNat 2147483647), (.negSucc 2147483647, .ofNat 2147483647), (.ofNat 0, .ofNat 0)], ([.inr (.inr (.inr (.inl 0))), .inl (1, .ofNat 0), .inl (2, .ofNat 0), .inl (3, .ofNat 0), .inl (4, .ofNat 0), .inl (5, .ofNat 0)], ([], ([(49, 999)], ([(.negSucc 12, .ofNat 0)], (some (.inl (6, .ofNat 0)), ([], [])))))))))
set_option maxRecDepth 100000 in
theorem wS_321_k : aMeth wG [] (zfun []) (fun _ _ => none) 4000 wS_321 [] 0 = true := by decide +kernel
theorem wS_321_ok : aSumOk wG wS_321 := aMeth_ok zm0 wS_321_k
/-- MaidsMemory shift -/
def wS_322 : aSum := (159, (2, ([(.ofNat 0, .ofNat 0), (.negSucc 2147483647, .ofNat 2147483647), (.negSucc 2147483647, .ofNat 2147483647), (.negSucc 2147483647, .ofNat 2147483647), (.negSucc 2147483647, .ofNat 2147483647), (.ofNat 1, .ofNat 1)], ([.inr (.inr (.inr (.inl 0))), .inl (1, .ofNat 0), .inl (2, .ofNat 0), .inl (3, .ofNat 0), .inl (4, .ofNat 0), .inl (5, .ofNat 0)], ([], ([(49, 999)], ([(.negSucc 12, .ofNat 1)], (some (.inl (6, .ofNat 0)), ([], [])))))))))
set_option maxRecDepth 100000 in
theorem wS_322_k : aMeth wG [] (zfun []) (fun _ _ => none) 4000 wS_322 [] 0 = true := by decide +kernel
theorem wS_322_ok : aSumOk wG wS_322 := aMeth_ok zm0 wS_322_k
/-- MaidsMemory shift -/
def wS_323 : aSum := (159, (2, ([(.ofNat 0, .ofNat 0), (.negSucc 2147483647, .ofNat 2147483647), (.negSucc 2147483647, .ofNat 2147483647), (.negSucc 2147483647, .ofNat 2147483647), (.negSucc 2147483647, .ofNat 2147483647), (.ofNat 2, .ofNat 2)], ([.inr (.inr (.inr (.inl 0))), .inl (1, .ofNat 0), .inl (2, .ofNat 0), .inl (3, .ofNat 0), .inl (4, .ofNat 0), .inl (5, .ofNat 0)], ([], ([(49, 999)], ([(.negSucc 12, .ofNat 2)], (some (.inl (6, .ofNat 0)), ([], [])))))))))
set_option maxRecDepth 100000 in
theorem wS_323_k : aMeth wG [] (zfun []) (fun _ _ => none) 4000 wS_323 [] 0 = true := by decide +kernel
theorem wS_323_ok : aSumOk wG wS_323 := aMeth_ok zm0 wS_323_k
/-- MaidsMemory shift -/
def wS_324 : aSum := (159, (2, ([(.ofNat 0, .ofNat 0), (.negSucc 2147483647, .ofNat 2147483647), (.negSucc 2147483647, .ofNat 2147483647), (.negSucc 2147483647, .ofNat 2147483647), (.negSucc 2147483647, .ofNat 2147483647), (.ofNat 3, .ofNat 3)], ([.inr (.inr (.inr (.inl 0))), .inl (1, .ofNat 0), .inl (2, .ofNat 0), .inl (3, .ofNat 0), .inl (4, .ofNat 0), .inl (5, .ofNat 0)], ([], ([(49, 999)], ([(.negSucc 12, .ofNat 3)], (some (.inl (6, .ofNat 0)), ([], [])))))))))
set_option maxRecDepth 100000 in
theorem wS_324_k : aMeth wG [] (zfun []) (fun _ _ => none) 4000 wS_324 [] 0 = true := by decide +kernel
theorem wS_324_ok : aSumOk wG wS_324 := aMeth_ok zm0 wS_324_k
/-- MaidsMemory shift -/
def wS_325 : aSum := (159, (2, ([(.ofNat 0, .ofNat 0), (.negSucc 2147483647, .ofNat 2147483647), (.negSucc 2147483647, .ofNat 2147483647), (.negSucc 2147483647, .ofNat 2147483647), (.negSucc 2147483647, .ofNat 2147483647), (.ofNat 4, .ofNat 4)], ([.inr (.inr (.inr (.inl 0))), .inl (1, .ofNat 0), .inl (2, .ofNat 0), .inl (3, .ofNat 0), .inl (4, .ofNat 0), .inl (5, .ofNat 0)], ([], ([(49, 999)], ([(.negSucc 12, .ofNat 4)], (some (.inl (6, .ofNat 0)), ([], [])))))))))
set_option maxRecDepth 100000 in
theorem wS_325_k : aMeth wG [] (zfun []) (fun _ _ => none) 4000 wS_325 [] 0 = true := by decide +kernel
theorem wS_325_ok : aSumOk wG wS_325 := aMeth_ok zm0 wS_325_k
/-- MaidsMemory shift -/
def wS_326 : aSum := (159, (2, ([(.ofNat 0, .ofNat 0), (.negSucc 2147483647, .ofNat 2147483647), (.negSucc 2147483647, .ofNat 2147483647), (.negSucc 2147483647, .ofNat 2147483647), (.negSucc 2147483647, .ofNat 2147483647), (.ofNat 5, .ofNat 5)], ([.inr (.inr (.inr (.inl 0))), .inl (1, .ofNat 0), .inl (2, .ofNat 0), .inl (3, .ofNat 0), .inl (4, .ofNat 0), .inl (5, .ofNat 0)], ([], ([(49, 999)], ([(.negSucc 12, .ofNat 5)], (some (.inl (6, .ofNat 0)), ([], [])))))))))
set_option maxRecDepth 100000 in
theorem wS_326_k : aMeth wG [] (zfun []) (fun _ _ => none) 4000 wS_326 [] 0 = true := by decide +kernel
theorem wS_326_ok : aSumOk wG wS_326 := aMeth_ok zm0 wS_326_k
/-- MaidsMemory shift -/
def wS_327 : aSum := (159, (2, ([(.ofNat 0, .ofNat 0), (.negSucc 2147483647, .ofNat 2147483647), (.negSucc 2147483647, .ofNat 2147483647), (.negSucc 2147483647, .ofNat 2147483647), (.negSucc 2147483647, .ofNat 2147483647), (.ofNat 6, .ofNat 6)], ([.inr (.inr (.inr (.inl 0))), .inl (1, .ofNat 0), .inl (2, .ofNat 0), .inl (3, .ofNat 0), .inl (4, .ofNat 0), .inl (5, .ofNat 0)], ([], ([(49, 999)], ([(.negSucc 12, .ofNat 6)], (some (.inl (6, .ofNat 0)), ([], [])))))))))
set_option maxRecDepth 100000 in
theorem wS_327_k : aMeth wG [] (zfun []) (fun _ _ => none) 4000 wS_327 [] 0 = true := by decide +kernel
theorem wS_327_ok : aSumOk wG wS_327 := aMeth_ok zm0 wS_327_k
/-- MaidsMemory shift -/
def wS_328 : aSum := (159, (2, ([(.ofNat 0, .ofNat 0), (.negSucc 2147483647, .ofNat 2147483647), (.negSucc 2147483647, .ofNat 2147483647), (.negSucc 2147483647, .ofNat 2147483647), (.negSucc 2147483647, .ofNat 2147483647), (.ofNat 7, .ofNat 7)], ([.inr (.inr (.inr (.inl 0))), .inl (1, .ofNat 0), .inl (2, .ofNat 0), .inl (3, .ofNat 0), .inl (4, .ofNat 0), .inl (5, .ofNat 0)], ([], ([(49, 999)], ([(.negSucc 12, .ofNat 7)], (some (.inl (6, .ofNat 0)), ([], [])))))))))
set_option maxRecDepth 100000 in
theorem wS_328_k : aMeth wG [] (zfun []) (fun _ _ => none) 4000 wS_328 [] 0 = true := by decide +kernel
theorem wS_328_ok : aSumOk wG wS_328 := aMeth_ok zm0 wS_328_k
/-- MaidsMemory shift -/
def wS_329 : aSum := (159, (2, ([(.ofNat 0, .ofNat 0), (.negSucc 2147483647, .ofNat 2147483647), (.negSucc 2147483647, .ofNat 2147483647), (.negSucc 2147483647, .ofNat 2147483647), (.negSucc 2147483647, .ofNat 2147483647), (.ofNat 8, .ofNat 8)], ([.inr (.inr (.inr (.inl 0))), .inl (1, .ofNat 0), .inl (2, .ofNat 0), .inl (3, .ofNat 0), .inl (4, .ofNat 0), .inl (5, .ofNat 0)], ([], ([(49, 999)], ([(.negSucc 12, .ofNat 8)], (some (.inl (6, .ofNat 0)), ([], [])))))))))
set_option maxRecDepth 100000 in
theorem wS_329_k : aMeth wG [] (zfun []) (fun _ _ => none) 4000 wS_329 [] 0 = true := by decide +kernel
theorem wS_329_ok : aSumOk wG wS_329 := aMeth_ok zm0 wS_329_k
/-- MaidsMemory shift -/
def wS_330 : aSum := (159, (2, ([(.ofNat 0, .ofNat 0), (.negSucc 2147483647, .ofNat 2147483647), (.negSucc 2147483647, .ofNat 2147483647), (.negSucc 2147483647, .ofNat 2147483647), (.negSucc 2147483647, .ofNat 2147483647), (.ofNat 9, .ofNat 9)], ([.inr (.inr (.inr (.inl 0))), .inl (1, .ofNat 0), .inl (2, .ofNat 0), .inl (3, .ofNat 0), .inl (4, .ofNat 0), .inl (5, .ofNat 0)], ([], ([(49, 999)], ([(.negSucc 12, .ofNat 9)], (some (.inl (6, .ofNat 0)), ([], [])))))))))
set_option maxRecDepth 100000 in
theorem wS_330_k : aMeth wG [] (zfun []) (fun _ _ => none) 4000 wS_330 [] 0 = true := by decide +kernel
theorem wS_330_ok : aSumOk wG wS_330 := aMeth_ok zm0 wS_330_k
/-- MaidsMemory shift -/
def wS_331 : aSum := (159, (2, ([(.ofNat 0, .ofNat 0), (.negSucc 2147483647, .ofNat 2147483647), (.negSucc 2147483647, .ofNat 2147483647), (.negSucc 2147483647, .ofNat 2147483647), (.negSucc 2147483647, .ofNat 2147483647), (.ofNat 10, .ofNat 10)], ([.inr (.inr (.inr (.inl 0))), .inl (1, .ofNat 0), .inl (2, .ofNat 0), .inl (3, .ofNat 0), .inl (4, .ofNat 0), .inl (5, .ofNat 0)], ([], ([(49, 999)], ([(.negSucc 12, .ofNat 10)], (some (.inl (6, .ofNat 0)), ([], [])))))))))
set_option maxRecDepth 100000 in
theorem wS_331_k : aMeth wG [] (zfun []) (fun _ _ => none) 4000 wS_331 [] 0 = true := by decide +kernel
theorem wS_331_ok : aSumOk wG wS_331 := aMeth_ok zm0 wS_331_k
end
