noncomputable section
/-- MaidsMemory shift -/
def wS_332 : aSum := (159, (2, ([(.ofNat 0, .ofNat 0), (.negSucc 2147483647, .ofNat 2147483647), (.negSucc 2147483647, .ofNat 2147483647), (.negSucc 2147483647, .ofNat 2147483647), (.negSucc 2147483647, .ofNat 2147483647), (.ofNat 11, .ofNat 11)], ([.inr (.inr (.inr (.inl 0))), .inl (1, .ofNat 0), .inl (2, .ofNat 0), .inl (3, .ofNat 0), .inl (4, .ofNat 0), .inl (5, .ofNat 0)], ([], ([(49, 999)], ([(.negSucc 12, .ofNat 11)], (some (.inl (6, .ofNat 0)), ([], [])))))))))
set_option maxRecDepth 100000 in
theorem wS_332_k : aMeth wG [] (zfun []) (fun _ _ => none) 4000 wS_332 [] 0 = true := by decide +kernel
theorem wS_332_ok : aSumOk wG wS_332 := aMeth_ok zm0 wS_332_k
/-- MaidsMemory shift -/
def wS_333 : aSum := (159, (2, ([(.ofNat 0, .ofNat 0), (.negSucc 2147483647, .ofNat 2147483647), (.negSucc 2147483647, .ofNat 2147483647), (.negSucc 2147483647, .ofNat 2147483647), (.negSucc 2147483647, .ofNat 2147483647), (.ofNat 12, .ofNat 12)], ([.inr (.inr (.inr (.inl 0))), .inl (1, .ofNat 0), .inl (2, .ofNat 0), .inl (3, .ofNat 0), .inl (4, .ofNat 0), .inl (5, .ofNat 0)], ([], ([(49, 999)], ([(.negSucc 12, .ofNat 12)], (some (.inl (6, .ofNat 0)), ([], [])))))))))
set_option maxRecDepth 100000 in
theorem wS_333_k : aMeth wG [] (zfun []) (fun _ _ => none) 4000 wS_333 [] 0 = true := by decide +kernel
theorem wS_333_ok : aSumOk wG wS_333 := aMeth_ok zm0 wS_333_k
/-- MaidsMemory shift -/
def wS_334 : aSum := (159, (2, ([(.ofNat 0, .ofNat 0), (.negSucc 2147483647, .ofNat 2147483647), (.negSucc 2147483647, .ofNat 2147483647), (.negSucc 2147483647, .ofNat 2147483647), (.negSucc 2147483647, .ofNat 2147483647), (.ofNat 13, .ofNat 13)], ([.inr (.inr (.inr (.inl 0))), .inl (1, .ofNat 0), .inl (2, .ofNat 0), .inl (3, .ofNat 0), .inl (4, .ofNat 0), .inl (5, .ofNat 0)], ([], ([(49, 999)], ([(.negSucc 12, .ofNat 13)], (some (.inl (6, .ofNat 0)), ([], [])))))))))
set_option maxRecDepth 100000 in
theorem wS_334_k : aMeth wG [] (zfun []) (fun _ _ => none) 4000 wS_334 [] 0 = true := by decide +kernel
theorem wS_334_ok : aSumOk wG wS_334 := aMeth_ok zm0 wS_334_k
/-- MaidsMemory shift -/
def wS_335 : aSum := (159, (2, ([(.ofNat 0, .ofNat 0), (.negSucc 2147483647, .ofNat 2147483647), (.negSucc 2147483647, .ofNat 2147483647), (.negSucc 2147483647, .ofNat 2147483647), (.negSucc 2147483647, .ofNat 2147483647), (.ofNat 14, .ofNat 14)], ([.inr (.inr (.inr (.inl 0))), .inl (1, .ofNat 0), .inl (2, .ofNat 0), .inl (3, .ofNat 0), .inl (4, .ofNat 0), .inl (5, .ofNat 0)], ([], ([(49, 999)], ([(.negSucc 12, .ofNat 14)], (some (.inl (6, .ofNat 0)), ([], [])))))))))
set_option maxRecDepth 100000 in
theorem wS_335_k : aMeth wG [] (zfun []) (fun _ _ => none) 4000 wS_335 [] 0 = true := by decide +kernel
theorem wS_335_ok : aSumOk wG wS_335 := aMeth_ok zm0 wS_335_k
/-- MaidsMemory shift -/
def wS_336 : aSum := (159, (2, ([(.ofNat 0, .ofNat 0), (.negSucc 2147483647, .ofNat 2147483647), (.negSucc 2147483647, .ofNat 2147483647), (.negSucc 2147483647, .ofNat 2147483647), (.negSucc 2147483647, .ofNat 2147483647), (.ofNat 15, .ofNat 15)], ([.inr (.inr (.inr (.inl 0))), .inl (1, .ofNat 0), .inl (2, .ofNat 0), .inl (3, .ofNat 0), .inl (4, .ofNat 0), .inl (5, .ofNat 0)], ([], ([(49, 999)], ([(.negSucc 12, .ofNat 15)], (some (.inl (6, .ofNat 0)), ([], [])))))))))
set_option maxRecDepth 100000 in
theorem wS_336_k : aMeth wG [] (zfun []) (fun _ _ => none) 4000 wS_336 [] 0 = true := by decide +kernel
theorem wS_336_ok : aSumOk wG wS_336 := aMeth_ok zm0 wS_336_k
/-- MaidsMemory shift -/
def wS_337 : aSum := (159, (2, ([(.ofNat 0, .ofNat 0), (.negSucc 2147483647, .ofNat 2147483647), (.negSucc 2147483647, .ofNat 2147483647), (.negSucc 2147483647, .ofNat 2147483647), (.negSucc 2147483647, .ofNat 2147483647), (.ofNat 16, .ofNat 16)], ([.inr (.inr (.inr (.inl 0))), .inl (1, .ofNat 0), .inl (2, .ofNat 0), .inl (3, .ofNat 0), .inl (4, .ofNat 0), .inl (5, .ofNat 0)], ([], ([(49, 999)], ([(.negSucc 12, .ofNat 16)], (some (.inl (6, .ofNat 0)), ([], [])))))))))
set_option maxRecDepth 100000 in
theorem wS_337_k : aMeth wG [] (zfun []) (fun _ _ => none) 4000 wS_337 [] 0 = true := by decide +kernel
theorem wS_337_ok : aSumOk wG wS_337 := aMeth_ok zm0 wS_337_k
/-- MaidsMemory shift -/
def wS_338 : aSum := (159, (2, ([(.ofNat 0, .ofNat 0), (.negSucc 2147483647, .ofNat 2147483647), (.negSucc 2147483647, .ofNat 2147483647), (.negSucc 2147483647, .ofNat 2147483647), (.negSucc 2147483647, .ofNat 2147483647), (.ofNat 17, .ofNat 17)], ([.inr (.inr (.inr (.inl 0))), .inl (1, .ofNat 0), .inl (2, .ofNat 0), .inl (3, .ofNat 0), .inl (4, .ofNat 0), .inl (5, .ofNat 0)], ([], ([(49, 999)], ([(.negSucc 12, .ofNat 17)], (some (.inl (6, .ofNat 0)), ([], [])))))))))
set_option maxRecDepth 100000 in
theorem wS_338_k : aMeth wG [] (zfun []) (fun _ _ => none) 4000 wS_338 [] 0 = true := by decide +kernel
theorem wS_338_ok : aSumOk wG wS_338 := aMeth_ok zm0 wS_338_k
/-- MaidsMemory shift -/
def wS_339 : aSum := (159, (2, ([(.ofNat 0, .ofNat 0), (.negSucc 2147483647, .ofNat 2147483647), (.negSucc 2147483647, .ofNat 2147483647), (.negSucc 2147483647, .ofNat 2147483647), (.negSucc 2147483647, .ofNat 2147483647), (.ofNat 18, .ofNat 18)], ([.inr (.inr (.inr (.inl 0))), .inl (1, .ofNat 0), .inl (2, .ofNat 0), .inl (3, .ofNat 0), .inl (4, .ofNat 0), .inl (5, .ofNat 0)], ([], ([(49, 999)], ([(.negSucc 12, .ofNat 18)], (some (.inl (6, .ofNat 0)), ([], [])))))))))
set_option maxRecDepth 100000 in
theorem wS_339_k : aMeth wG [] (zfun []) (fun _ _ => none) 4000 wS_339 [] 0 = true := by decide +kernel
theorem wS_339_ok : aSumOk wG wS_339 := aMeth_ok zm0 wS_339_k
/-- MaidsMemory shift -/
def wS_340 : aSum := (159, (2, ([(.ofNat 0, .ofNat 0), (.negSucc 2147483647, .ofNat 2147483647), (.negSucc 2147483647, .ofNat 2147483647), (.negSucc 2147483647, .ofNat 2147483647), (.negSucc 2147483647, .ofNat 2147483647), (.ofNat 19, .ofNat 19)], ([.inr (.inr (.inr (.inl 0))), .inl (1, .ofNat 0), .inl (2, .ofNat 0), .inl (3, .ofNat 0), .inl (4, .ofNat 0), .inl (5, .ofNat 0)], ([], ([(49, 999)], ([(.negSucc 12, .ofNat 19)], (some (.inl (6, .ofNat 0)), ([], [])))))))))
set_option maxRecDepth 100000 in
theorem wS_340_k : aMeth wG [] (zfun []) (fun _ _ => none) 4000 wS_340 [] 0 = true := by decide +kernel
theorem wS_340_ok : aSumOk wG wS_340 := aMeth_ok zm0 wS_340_k
/-- MaidsMemory shift -/
def wS_341 : aSum := (159, (2, ([(.ofNat 0, .ofNat 0), (.negSucc 2147483647, .ofNat 2147483647), (.negSucc 2147483647, .ofNat 2147483647), (.negSucc 2147483647, .ofNat 2147483647), (.negSucc 2147483647, .ofNat 2147483647), (.ofNat 20, .ofNat 20)], ([.inr (.inr (.inr (.inl 0))), .inl (1, .ofNat 0), .inl (2, .ofNat 0), .inl (3, .ofNat 0), .inl (4, .ofNat 0), .inl (5, .ofNat 0)], ([], ([(49, 999)], ([(.negSucc 12, .ofNat 20)], (some (.inl (6, .ofNat 0)), ([], [])))))))))
set_option maxRecDepth 100000 in
theorem wS_341_k : aMeth wG [] (zfun []) (fun _ _ => none) 4000 wS_341 [] 0 = true := by decide +kernel
theorem wS_341_ok : aSumOk wG wS_341 := aMeth_ok zm0 wS_341_k
/-- MaidsMemory shift -/
def wS_342 : aSum := (159, (2, ([(.ofNat 0, .ofNat 0), (.negSucc 2147483647, .ofNat 2147483647), (.negSucc 2147483647, .ofNat 2147483647), (.negSucc 2147483647, .ofNat 2147483647), (.negSucc 2147483647, .ofNat 2147483647), (.ofNat 21, .ofNat 21)], ([.inr (.inr (.inr (.inl 0))), .inl (1, .ofNat 0), .inl (2, .ofNat 0), .inl (3, .ofNat 0), .inl (4, .ofNat 0), .inl (5, .ofNat 0)], ([], ([(49, 999)], ([(.negSucc 12, .ofNat 21)], (some (.inl (6, .ofNat 0)), ([], [])))))))))
set_option maxRecDepth 100000 in
theorem wS_342_k : aMeth wG [] (zfun []) (fun _ _ => none) 4000 wS_342 [] 0 = true := by decide +kernel
theorem wS_342_ok : aSumOk wG wS_342 := aMeth_ok zm0 wS_342_k
/-- MaidsMemory shift -/
def wS_343 : aSum := (159, (2, ([(.ofNat 0, .ofNat 0), (.negSucc 2147483647, .ofNat 2147483647), (.negSucc 2147483647, .ofNat 2147483647), (.negSucc 2147483647, .ofNat 2147483647), (.negSucc 2147483647, .ofNat 2147483647), (.ofNat 22, .ofNat 22)], ([.inr (.inr (.inr (.inl 0))), .inl (1, .ofNat 0), .inl (2, .ofNat 0), .inl (3, .ofNat 0), .inl (4, .ofNat 0), .inl (5, .ofNat 0)], ([], ([(49, 999)], ([(.negSucc 12, .ofNat 22)], (some (.inl (6, .ofNat 0)), ([], [])))))))))
set_option maxRecDepth 100000 in
theorem wS_343_k : aMeth wG [] (zfun []) (fun _ _ => none) 4000 wS_343 [] 0 = true := by decide +kernel
theorem wS_343_ok : aSumOk wG wS_343 := aMeth_ok zm0 wS_343_k
/-- MaidsMemory shift -/
def wS_344 : aSum := (159, (2, ([(.ofNat 0, .ofNat 0), (.negSucc 2147483647, .ofNat 2147483647), (.negSucc 2147483647, .ofNat 2147483647), (.negSucc 2147483647, .ofNat 2147483647), (.negSucc 2147483647, .ofNat 2147483647), (.ofNat 23, .ofNat 23)], ([.inr (.inr (.inr (.inl 0))), .inl (1, .ofNat 0), .inl (2, .ofNat 0), .inl (3, .ofNat 0), .inl (4, .ofNat 0), .inl (5, .ofNat 0)], ([], ([(49, 999)], ([(.negSucc 12, .ofNat 23)], (some (.inl (6, .ofNat 0)), ([], [])))))))))
set_option maxRecDepth 100000 in
theorem wS_344_k : aMeth wG [] (zfun []) (fun _ _ => none) 4000 wS_344 [] 0 = true := by decide +kernel
theorem wS_344_ok : aSumOk wG wS_344 := aMeth_ok zm0 wS_344_k
/-- MaidsMemory shift -/
def wS_345 : aSum := (159, (2, ([(.ofNat 0, .ofNat 0), (.negSucc 2147483647, .ofNat 2147483647), (.negSucc 2147483647, .ofNat 2147483647), (.negSucc 2147483647, .ofNat 2147483647), (.negSucc 2147483647, .ofNat 2147483647), (.ofNat 24, .ofNat 24)], ([.inr (.inr (.inr (.inl 0))), .inl (1, .ofNat 0), .inl (2, .ofNat 0), .inl (3, .ofNat 0), .inl (4, .ofNat 0), .inl (5, .ofNat 0)], ([], ([(49, 999)], ([(.negSucc 12, .ofNat 24)], (some (.inl (6, .ofNat 0)), ([], [])))))))))
set_option maxRecDepth 100000 in
theorem wS_345_k : aMeth wG [] (zfun []) (fun _ _ => none) 4000 wS_345 [] 0 = true := by decide +kernel
theorem wS_345_ok : aSumOk wG wS_345 := aMeth_ok zm0 wS_345_k
/-- MaidsMemory shift -/
def wS_346 : aSum := (159, (2, ([(.ofNat 0, .ofNat 0), (.negSucc 2147483647, .ofNat 2147483647), (.negSucc 2147483647, .ofNat 2147483647), (.negSucc 2147483647, .ofNat 2147483647), (.negSucc 2147483647, .ofNat 2147483647), (.ofNat 25, .ofNat 25)], ([.inr (.inr (.inr (.inl 0))), .inl (1, .ofNat 0), .inl (2, .ofNat 0), .inl (3, .ofNat 0), .inl (4, .ofNat 0), .inl (5, .ofNat 0)], ([], ([(49, 999)], ([(.negSucc 12, .ofNat 25)], (some (.inl (6, .ofNat 0)), ([], [])))))))))
set_option maxRecDepth 100000 in
theorem wS_346_k : aMeth wG [] (zfun []) (fun _ _ => none) 4000 wS_346 [] 0 = true := by decide +kernel
theorem wS_346_ok : aSumOk wG wS_346 := aMeth_ok zm0 wS_346_k
/-- MaidsMemory shift -/
def wS_347 : aSum := (159, (2, ([(.ofNat 0, .ofNat 0), (.negSucc 2147483647, .ofNat 2147483647), (.negSucc 2147483647, .ofNat 2147483647), (.negSucc 2147483647, .ofNat 2147483647), (.negSucc 2147483647, .ofNat 2147483647), (.ofNat 26, .ofNat 26)], ([.inr (.inr (.inr (.inl 0))), .inl (1, .ofNat 0), .inl (2, .ofNat 0), .inl (3, .ofNat 0), .inl (4, .ofNat 0), .inl (5, .ofNat 0)], ([], ([(49, 999)], ([(.negSucc 12, .ofNat 26)], (some (.inl (6, .ofNat 0)), ([], [])))))))))
set_option maxRecDepth 100000 in
theorem wS_347_k : aMeth wG [] (zfun []) (fun _ _ => none) 4000 wS_347 [] 0 = true := by decide +kernel
theorem wS_347_ok : aSumOk wG wS_347 := aMeth_ok zm0 wS_347_k
/-- MaidsMemory shift -/
def wS_348 : aSum := (159, (2, ([(.ofNat 0, .ofNat 0), (.negSucc 2147483647, .ofNat 2147483647), (.negSucc 2147483647, .ofNat 2147483647), (.negSucc 2147483647, .ofNat 2147483647), (.negSucc 2147483647, .ofNat 2147483647), (.ofNat 27, .ofNat 27)], ([.inr (.inr (.inr (.inl 0))), .inl (1, .ofNat 0), .inl (2, .ofNat 0), .inl (3, .ofNat 0), .inl (4, .ofNat 0), .inl (5, .ofNat 0)], ([], ([(49, 999)], ([(.negSucc 12, .ofNat 27)], (some (.inl (6, .ofNat 0)), ([], [])))))))))
set_option maxRecDepth 100000 in
theorem wS_348_k : aMeth wG [] (zfun []) (fun _ _ => none) 4000 wS_348 [] 0 = true := by decide +kernel
theorem wS_348_ok : aSumOk wG wS_348 := aMeth_ok zm0 wS_348_k
/-- MaidsMemory shift -/
def wS_349 : aSum := (159, (2, ([(.ofNat 0, .ofNat 0), (.negSucc 2147483647, .ofNat 2147483647), (.negSucc 2147483647, .ofNat 2147483647), (.negSucc 2147483647, .ofNat 2147483647), (.negSucc 2147483647, .ofNat 2147483647), (.ofNat 28, .ofNat 28)], ([.inr (.inr (.inr (.inl 0))), .inl (1, .ofNat 0), .inl (2, .ofNat 0), .inl (3, .ofNat 0), .inl (4, .ofNat 0), .inl (5, .ofNat 0)], ([], ([(49, 999)], ([(.negSucc 12, .ofNat 28)], (some (.inl (6, .ofNat 0)), ([], [])))))))))
set_option maxRecDepth 100000 in
theorem wS_349_k : aMeth wG [] (zfun []) (fun _ _ => none) 4000 wS_349 [] 0 = true := by decide +kernel
theorem wS_349_ok : aSumOk wG wS_349 := aMeth_ok zm0 wS_349_k
/-- MaidsMemory shift -/
def wS_350 : aSum := (159, (2, ([(.ofNat 0, .ofNat 0), (.negSucc 2147483647, .ofNat 2147483647), (.negSucc 2147483647, .ofNat 2147483647), (.negSucc 2147483647, .ofNat 2147483647), (.negSucc 2147483647, .ofNat 2147483647), (.ofNat 29, .ofNat 29)], ([.inr (.inr (.inr (.inl 0))), .inl (1, .ofNat 0), .inl (2, .ofNat 0), .inl (3, .ofNat 0), .inl (4, .ofNat 0), .inl (5, .ofNat 0)], ([], ([(49, 999)], ([(.negSucc 12, .ofNat 29)], (some (.inl (6, .ofNat 0)), ([], [])))))))))
set_option maxRecDepth 100000 in
theorem wS_350_k : aMeth wG [] (zfun []) (fun _ _ => none) 4000 wS_350 [] 0 = true := by decide +kernel
theorem wS_350_ok : aSumOk wG wS_350 := aMeth_ok zm0 wS_350_k
/-- MaidsMemory shift -/
def wS_351 : aSum := (159, (2, ([(.ofNat 0, .ofNat 0), (.negSucc 2147483647, .ofNat 2147483647), (.negSucc 2147483647, .ofNat 2147483647), (.negSucc 2147483647, .ofNat 2147483647), (.negSucc 2147483647, .ofNat 2147483647), (.ofNat 30, .ofNat 30)], ([.inr (.inr (.inr (.inl 0))), .inl (1, .ofNat 0), .inl (2, .ofNat 0), .inl (3, .ofNat 0), .inl (4, .ofNat 0), .inl (5, .ofNat 0)], ([], ([(49, 999)], ([(.negSucc 12, .ofNat 30)], (some (.inl (6, .ofNat 0)), ([], [])))))))))
set_option maxRecDepth 100000 in
theorem wS_351_k : aMeth wG [] (zfun []) (fun _ _ => none) 4000 wS_351 [] 0 = true := by decide +kernel
theorem wS_351_ok : aSumOk wG wS_351 := aMeth_ok zm0 wS_351_k
/-- MaidsMemory shift -/
def wS_352 : aSum := (159, (2, ([(.ofNat 0, .ofNat 0), (.negSucc 2147483647, .ofNat 2147483647), (.negSucc 2147483647, .ofNat 2147483647), (.negSucc 2147483647, .ofNat 2147483647), (.negSucc 2147483647, .ofNat 2147483647), (.ofNat 31, .ofNat 31)], ([.inr (.inr (.inr (.inl 0))), .inl (1, .ofNat 0), .inl (2, .ofNat 0), .inl (3, .ofNat 0), .inl (4, .ofNat 0), .inl (5, .ofNat 0)], ([], ([(49, 999)], ([(.negSucc 12, .ofNat 31)], (some (.inl (6, .ofNat 0)), ([], [])))))))))
set_option maxRecDepth 100000 in
theorem wS_352_k : aMeth wG [] (zfun []) (fun _ _ => none) 4000 wS_352 [] 0 = true := by decide +kernel
theorem wS_352_ok : aSumOk wG wS_352 := aMeth_ok zm0 wS_352_k
/-- MaidsMemory shift -/
def wS_353 : aSum := (159, (2, ([(.ofNat 0, .ofNat 0), (.negSucc 2147483647, .ofNat 2147483647), (.negSucc 2147483647, .ofNat 2147483647), (.negSucc 2147483647, .ofNat 2147483647), (.negSucc 2147483647, .ofNat 2147483647), (.ofNat 32, .ofNat 32)], ([.inr (.inr (.inr (.inl 0))), .inl (1, .ofNat 0), .inl (2, .ofNat 0), .inl (3, .ofNat 0), .inl (4, .ofNat 0), .inl (5, .ofNat 0)], ([], ([(49, 999)], ([(.negSucc 12, .ofNat 32)], (some (.inl (6, .ofNat 0)), ([], [])))))))))
set_option maxRecDepth 100000 in
theorem wS_353_k : aMeth wG [] (zfun []) (fun _ _ => none) 4000 wS_353 [] 0 = true := by decide +kernel
theorem wS_353_ok : aSumOk wG wS_353 := aMeth_ok zm0 wS_353_k
/-- MaidsMemory shift -/
def wS_354 : aSum := (159, (2, ([(.ofNat 0, .ofNat 0), (.negSucc 2147483647, .ofNat 2147483647), (.negSucc 2147483647, .ofNat 2147483647), (.negSucc 2147483647, .ofNat 2147483647), (.negSucc 2147483647, .ofNat 2147483647), (.ofNat 33, .ofNat 33)], ([.inr (.inr (.inr (.inl 0))), .inl (1, .ofNat 0), .inl (2, .ofNat 0), .inl (3, .ofNat 0), .inl (4, .ofNat 0), .inl (5, .ofNat 0)], ([], ([(49, 999)], ([(.negSucc 12, .ofNat 33)], (some (.inl (6, .ofNat 0)), ([], [])))))))))
set_option maxRecDepth 100000 in
theorem wS_354_k : aMeth wG [] (zfun []) (fun _ _ => none) 4000 wS_354 [] 0 = true := by decide +kernel
theorem wS_354_ok : aSumOk wG wS_354 := aMeth_ok zm0 wS_354_k
/-- MaidsMemory shift -/
def wS_355 : aSum := (159, (2, ([(.ofNat 0, .ofNat 0), (.negSucc 2147483647, .ofNat 2147483647), (.negSucc 2147483647, .ofNat 2147483647), (.negSucc 2147483647, .ofNat 2147483647), (.negSucc 2147483647, .ofNat 2147483647), (.ofNat 34, .ofNat 34)], ([.inr (.inr (.inr (.inl 0))), .inl (1, .ofNat 0), .inl (2, .ofNat 0), .inl (3, .ofNat 0), .inl (4, .ofNat 0), .inl (5, .ofNat 0)], ([], ([(49, 999)], ([(.negSucc 12, .ofNat 34)], (some (.inl (6, .ofNat 0)), ([], [])))))))))
set_option maxRecDepth 100000 in
theorem wS_355_k : aMeth wG [] (zfun []) (fun _ _ => none) 4000 wS_355 [] 0 = true := by decide +kernel
theorem wS_355_ok : aSumOk wG wS_355 := aMeth_ok zm0 wS_355_k
/-- MaidsMemory shift -/
def wS_356 : aSum := (159, (2, ([(.ofNat 0, .ofNat 0), (.negSucc 2147483647, .ofNat 2147483647), (.negSucc 2147483647, .ofNat 2147483647), (.negSucc 2147483647, .ofNat 2147483647), (.negSucc 2147483647, .ofNat 2147483647), (.ofNat 35, .ofNat 35)], ([.inr (.inr (.inr (.inl 0))), .inl (1, .ofNat 0), .inl (2, .ofNat 0), .inl (3, .ofNat 0), .inl (4, .ofNat 0), .inl (5, .ofNat 0)], ([], ([(49, 999)], ([(.negSucc 12, .ofNat 35)], (some (.inl (6, .ofNat 0)), ([], [])))))))))
set_option maxRecDepth 100000 in
theorem wS_356_k : aMeth wG [] (zfun []) (fun _ _ => none) 4000 wS_356 [] 0 = true := by decide +kernel
theorem wS_356_ok : aSumOk wG wS_356 := aMeth_ok zm0 wS_356_k
/-- MaidsMemory shift -/
def wS_357 : aSum := (159, (2, ([(.ofNat 0, .ofNat 0), (.negSucc 2147483647, .ofNat 2147483647), (.negSucc 2147483647, .ofNat 2147483647), (.negSucc 2147483647, .ofNat 2147483647), (.negSucc 2147483647, .ofNat 2147483647), (.ofNat 36, .ofNat 36)], ([.inr (.inr (.inr (.inl 0))), .inl (1, .ofNat 0), .inl (2, .ofNat 0), .inl (3, .ofNat 0), .inl (4, .ofNat 0), .inl (5, .ofNat 0)], ([], ([(49, 999)], ([(.negSucc 12, .ofNat 36)], (some (.inl (6, .ofNat 0)), ([], [])))))))))
set_option maxRecDepth 100000 in
theorem wS_357_k : aMeth wG [] (zfun []) (fun _ _ => none) 4000 wS_357 [] 0 = true := by decide +kernel
theorem wS_357_ok : aSumOk wG wS_357 := aMeth_ok zm0 wS_357_k
/-- MaidsMemory shift -/
def wS_358 : aSum := (159, (2, ([(.ofNat 0, .ofNat 0), (.negSucc 2147483647, .ofNat 2147483647), (.negSucc 2147483647, .ofNat 2147483647), (.negSucc 2147483647, .ofNat 2147483647), (.negSucc 2147483647, .ofNat 2147483647), (.ofNat 37, .ofNat 37)], ([.inr (.inr (.inr (.inl 0))), .inl (1, .ofNat 0), .inl (2, .ofNat 0), .inl (3, .ofNat 0), .inl (4, .ofNat 0), .inl (5, .ofNat 0)], ([], ([(49, 999)], ([(.negSucc 12, .ofNat 37)], (some (.inl (6, .ofNat 0)), ([], [])))))))))
set_option maxRecDepth 100000 in
theorem wS_358_k : aMeth wG [] (zfun []) (fun _ _ => none) 4000 wS_358 [] 0 = true := by decide +kernel
theorem wS_358_ok : aSumOk wG wS_358 := aMeth_ok zm0 wS_358_k
/-- MaidsMemory shift -/
def wS_359 : aSum := (159, (2, ([(.ofNat 0, .ofNat 0), (.negSucc 2147483647, .ofNat 2147483647), (.negSucc 2147483647, .ofNat 2147483647), (.negSucc 2147483647, .ofNat 2147483647), (.negSucc 2147483647, .ofNat 2147483647), (.ofNat 38, .ofNat 38)], ([.inr (.inr (.inr (.inl 0))), .inl (1, .ofNat 0), .inl (2, .ofNat 0), .inl (3, .ofNat 0), .inl (4, .ofNat 0), .inl (5, .ofNat 0)], ([], ([(49, 999)], ([(.negSucc 12, .ofNat 38)], (some (.inl (6, .ofNat 0)), ([], [])))))))))
set_option maxRecDepth 100000 in
theorem wS_359_k : aMeth wG [] (zfun []) (fun _ _ => none) 4000 wS_359 [] 0 = true := by decide +kernel
theorem wS_359_ok : aSumOk wG wS_359 := aMeth_ok zm0 wS_359_k
/-- MaidsMemory shift -/
def wS_360 : aSum := (159, (2, ([(.ofNat 0, .ofNat 0), (.negSucc 2147483647, .ofNat 2147483647), (.negSucc 2147483647, .ofNat 2147483647), (.negSucc 2147483647, .ofNat 2147483647), (.negSucc 2147483647, .ofNat 2147483647), (.ofNat 39, .ofNat 39)], ([.inr (.inr (.inr (.inl 0))), .inl (1, .ofNat 0), .inl (2, .ofNat 0), .inl (3, .ofNat 0), .inl (4, .ofNat 0), .inl (5, .ofNat 0)], ([], ([(49, 999)], ([(.negSucc 12, .ofNat 39)], (some (.inl (6, .ofNat 0)), ([], [])))))))))
set_option maxRecDepth 100000 in
theorem wS_360_k : aMeth wG [] (zfun []) (fun _ _ => none) 4000 wS_360 [] 0 = true := by decide +kernel
theorem wS_360_ok : aSumOk wG wS_360 := aMeth_ok zm0 wS_360_k
/-- MaidsMemory shift -/
def wS_361 : aSum := (159, (2, ([(.ofNat 0, .ofNat 0), (.negSucc 2147483647, .ofNat 2147483647), (.negSucc 2147483647, .ofNat 2147483647), (.negSucc 2147483647, .ofNat 2147483647), (.negSucc 2147483647, .ofNat 2147483647), (.ofNat 40, .ofNat 40)], ([.inr (.inr (.inr (.inl 0))), .inl (1, .ofNat 0), .inl (2, .ofNat 0), .inl (3, .ofNat 0), .inl (4, .ofNat 0), .inl (5, .ofNat 0)], ([], ([(49, 999)], ([(.negSucc 12, .ofNat 40)], (some (.inl (6, .ofNat 0)), ([], [])))))))))
set_option maxRecDepth 100000 in
theorem wS_361_k : aMeth wG [] (zfun []) (fun _ _ => none) 4000 wS_361 [] 0 = true := by decide +kernel
theorem wS_361_ok : aSumOk wG wS_361 := aMeth_ok zm0 wS_361_k
/-- MaidsMemory shift -/
def wS_362 : aSum := (159, (2, ([(.ofNat 0, .ofNat 0), (.negSucc 2147483647, .ofNat 2147483647), (.negSucc 2147483647, .ofNat 2147483647), (.negSucc 2147483647, .ofNat 2147483647), (.negSucc 2147483647, .ofNat 2147483647), (.ofNat 41, .ofNat 41)], ([.inr (.inr (.inr (.inl 0))), .inl (1, .ofNat 0), .inl (2, .ofNat 0), .inl (3, .ofNat 0), .inl (4, .ofNat 0), .inl (5, .ofNat 0)], ([], ([(49, 999)], ([(.negSucc 12, .ofNat 41)], (some (.inl (6, .ofNat 0)), ([], [])))))))))
set_option maxRecDepth 100000 in
theorem wS_362_k : aMeth wG [] (zfun []) (fun _ _ => none) 4000 wS_362 [] 0 = true := by decide +kernel
theorem wS_362_ok : aSumOk wG wS_362 := aMeth_ok zm0 wS_362_k
/-- MaidsMemory shift -/
def wS_363 : aSum := (159, (2, ([(.ofNat 0, .ofNat 0), (.negSucc 2147483647, .ofNat 2147483647), (.negSucc 2147483647, .ofNat 2147483647), (.negSucc 2147483647, .ofNat 2147483647), (.negSucc 2147483647, .ofNat 2147483647), (.ofNat 42, .ofNat 42)], ([.inr (.inr (.inr (.inl 0))), .inl (1, .ofNat 0), .inl (2, .ofNat 0), .inl (3, .ofNat 0), .inl (4, .ofNat 0), .inl (5, .ofNat 0)], ([], ([(49, 999)], ([(.negSucc 12, .ofNat 42)], (some (.inl (6, .ofNat 0)), ([], [])))))))))
set_option maxRecDepth 100000 in
theorem wS_363_k : aMeth wG [] (zfun []) (fun _ _ => none) 4000 wS_363 [] 0 = true := by decide +kernel
theorem wS_363_ok : aSumOk wG wS_363 := aMeth_ok zm0 wS_363_k
end
