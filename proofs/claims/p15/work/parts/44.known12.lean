noncomputable section
/-- MaidsMemory shift -/
def wS_364 : aSum := (159, (2, ([(.ofNat 0, .ofNat 0), (.negSucc 2147483647, .ofNat 2147483647), (.negSucc 2147483647, .ofNat 2147483647), (.negSucc 2147483647, .ofNat 2147483647), (.negSucc 2147483647, .ofNat 2147483647), (.ofNat 43, .ofNat 43)], ([.inr (.inr (.inr (.inl 0))), .inl (1, .ofNat 0), .inl (2, .ofNat 0), .inl (3, .ofNat 0), .inl (4, .ofNat 0), .inl (5, .ofNat 0)], ([], ([(49, 999)], ([(.negSucc 12, .ofNat 43)], (some (.inl (6, .ofNat 0)), ([], [])))))))))
set_option maxRecDepth 100000 in
theorem wS_364_k : aMeth wG [] (zfun []) (fun _ _ => none) 4000 wS_364 [] 0 = true := by decide +kernel
theorem wS_364_ok : aSumOk wG wS_364 := aMeth_ok zm0 wS_364_k
/-- MaidsMemory shift -/
def wS_365 : aSum := (159, (2, ([(.ofNat 0, .ofNat 0), (.negSucc 2147483647, .ofNat 2147483647), (.negSucc 2147483647, .ofNat 2147483647), (.negSucc 2147483647, .ofNat 2147483647), (.negSucc 2147483647, .ofNat 2147483647), (.ofNat 44, .ofNat 44)], ([.inr (.inr (.inr (.inl 0))), .inl (1, .ofNat 0), .inl (2, .ofNat 0), .inl (3, .ofNat 0), .inl (4, .ofNat 0), .inl (5, .ofNat 0)], ([], ([(49, 999)], ([(.negSucc 12, .ofNat 44)], (some (.inl (6, .ofNat 0)), ([], [])))))))))
set_option maxRecDepth 100000 in
theorem wS_365_k : aMeth wG [] (zfun []) (fun _ _ => none) 4000 wS_365 [] 0 = true := by decide +kernel
theorem wS_365_ok : aSumOk wG wS_365 := aMeth_ok zm0 wS_365_k
/-- MaidsMemory shift -/
def wS_366 : aSum := (159, (2, ([(.ofNat 0, .ofNat 0), (.negSucc 2147483647, .ofNat 2147483647), (.negSucc 2147483647, .ofNat 2147483647), (.negSucc 2147483647, .ofNat 2147483647), (.negSucc 2147483647, .ofNat 2147483647), (.ofNat 45, .ofNat 45)], ([.inr (.inr (.inr (.inl 0))), .inl (1, .ofNat 0), .inl (2, .ofNat 0), .inl (3, .ofNat 0), .inl (4, .ofNat 0), .inl (5, .ofNat 0)], ([], ([(49, 999)], ([(.negSucc 12, .ofNat 45)], (some (.inl (6, .ofNat 0)), ([], [])))))))))
set_option maxRecDepth 100000 in
theorem wS_366_k : aMeth wG [] (zfun []) (fun _ _ => none) 4000 wS_366 [] 0 = true := by decide +kernel
theorem wS_366_ok : aSumOk wG wS_366 := aMeth_ok zm0 wS_366_k
/-- MaidsMemory shift -/
def wS_367 : aSum := (159, (2, ([(.ofNat 0, .ofNat 0), (.negSucc 2147483647, .ofNat 2147483647), (.negSucc 2147483647, .ofNat 2147483647), (.negSucc 2147483647, .ofNat 2147483647), (.negSucc 2147483647, .ofNat 2147483647), (.ofNat 46, .ofNat 46)], ([.inr (.inr (.inr (.inl 0))), .inl (1, .ofNat 0), .inl (2, .ofNat 0), .inl (3, .ofNat 0), .inl (4, .ofNat 0), .inl (5, .ofNat 0)], ([], ([(49, 999)], ([(.negSucc 12, .ofNat 46)], (some (.inl (6, .ofNat 0)), ([], [])))))))))
set_option maxRecDepth 100000 in
theorem wS_367_k : aMeth wG [] (zfun []) (fun _ _ => none) 4000 wS_367 [] 0 = true := by decide +kernel
theorem wS_367_ok : aSumOk wG wS_367 := aMeth_ok zm0 wS_367_k
/-- MaidsMemory shift -/
def wS_368 : aSum := (159, (2, ([(.ofNat 0, .ofNat 0), (.negSucc 2147483647, .ofNat 2147483647), (.negSucc 2147483647, .ofNat 2147483647), (.negSucc 2147483647, .ofNat 2147483647), (.negSucc 2147483647, .ofNat 2147483647), (.ofNat 47, .ofNat 47)], ([.inr (.inr (.inr (.inl 0))), .inl (1, .ofNat 0), .inl (2, .ofNat 0), .inl (3, .ofNat 0), .inl (4, .ofNat 0), .inl (5, .ofNat 0)], ([], ([(49, 999)], ([(.negSucc 12, .ofNat 47)], (some (.inl (6, .ofNat 0)), ([], [])))))))))
set_option maxRecDepth 100000 in
theorem wS_368_k : aMeth wG [] (zfun []) (fun _ _ => none) 4000 wS_368 [] 0 = true := by decide +kernel
theorem wS_368_ok : aSumOk wG wS_368 := aMeth_ok zm0 wS_368_k
/-- MaidsMemory shift -/
def wS_369 : aSum := (159, (2, ([(.ofNat 0, .ofNat 0), (.negSucc 2147483647, .ofNat 2147483647), (.negSucc 2147483647, .ofNat 2147483647), (.negSucc 2147483647, .ofNat 2147483647), (.negSucc 2147483647, .ofNat 2147483647), (.ofNat 48, .ofNat 48)], ([.inr (.inr (.inr (.inl 0))), .inl (1, .ofNat 0), .inl (2, .ofNat 0), .inl (3, .ofNat 0), .inl (4, .ofNat 0), .inl (5, .ofNat 0)], ([], ([(49, 999)], ([(.negSucc 12, .ofNat 48)], (some (.inl (6, .ofNat 0)), ([], [])))))))))
set_option maxRecDepth 100000 in
theorem wS_369_k : aMeth wG [] (zfun []) (fun _ _ => none) 4000 wS_369 [] 0 = true := by decide +kernel
theorem wS_369_ok : aSumOk wG wS_369 := aMeth_ok zm0 wS_369_k
/-- MaidsMemory shift -/
def wS_370 : aSum := (159, (2, ([(.ofNat 0, .ofNat 0), (.negSucc 2147483647, .ofNat 2147483647), (.negSucc 2147483647, .ofNat 2147483647), (.negSucc 2147483647, .ofNat 2147483647), (.negSucc 2147483647, .ofNat 2147483647), (.ofNat 49, .ofNat 49)], ([.inr (.inr (.inr (.inl 0))), .inl (1, .ofNat 0), .inl (2, .ofNat 0), .inl (3, .ofNat 0), .inl (4, .ofNat 0), .inl (5, .ofNat 0)], ([], ([(49, 999)], ([(.negSucc 12, .ofNat 49)], (some (.inl (6, .ofNat 0)), ([], [])))))))))
set_option maxRecDepth 100000 in
theorem wS_370_k : aMeth wG [] (zfun []) (fun _ _ => none) 4000 wS_370 [] 0 = true := by decide +kernel
theorem wS_370_ok : aSumOk wG wS_370 := aMeth_ok zm0 wS_370_k
/-- MaidsMemory shift -/
def wS_371 : aSum := (159, (2, ([(.ofNat 0, .ofNat 0), (.negSucc 2147483647, .ofNat 2147483647), (.negSucc 2147483647, .ofNat 2147483647), (.negSucc 2147483647, .ofNat 2147483647), (.negSucc 2147483647, .ofNat 2147483647), (.ofNat 50, .ofNat 50)], ([.inr (.inr (.inr (.inl 0))), .inl (1, .ofNat 0), .inl (2, .ofNat 0), .inl (3, .ofNat 0), .inl (4, .ofNat 0), .inl (5, .ofNat 0)], ([], ([(49, 999)], ([(.negSucc 12, .ofNat 50)], (some (.inl (6, .ofNat 0)), ([], [])))))))))
set_option maxRecDepth 100000 in
theorem wS_371_k : aMeth wG [] (zfun []) (fun _ _ => none) 4000 wS_371 [] 0 = true := by decide +kernel
theorem wS_371_ok : aSumOk wG wS_371 := aMeth_ok zm0 wS_371_k
/-- MaidsMemory shift -/
def wS_372 : aSum := (159, (2, ([(.ofNat 0, .ofNat 0), (.negSucc 2147483647, .ofNat 2147483647), (.negSucc 2147483647, .ofNat 2147483647), (.negSucc 2147483647, .ofNat 2147483647), (.negSucc 2147483647, .ofNat 2147483647), (.ofNat 51, .ofNat 51)], ([.inr (.inr (.inr (.inl 0))), .inl (1, .ofNat 0), .inl (2, .ofNat 0), .inl (3, .ofNat 0), .inl (4, .ofNat 0), .inl (5, .ofNat 0)], ([], ([(49, 999)], ([(.negSucc 12, .ofNat 51)], (some (.inl (6, .ofNat 0)), ([], [])))))))))
set_option maxRecDepth 100000 in
theorem wS_372_k : aMeth wG [] (zfun []) (fun _ _ => none) 4000 wS_372 [] 0 = true := by decide +kernel
theorem wS_372_ok : aSumOk wG wS_372 := aMeth_ok zm0 wS_372_k
/-- MaidsMemory shift -/
def wS_373 : aSum := (159, (2, ([(.ofNat 0, .ofNat 0), (.negSucc 2147483647, .ofNat 2147483647), (.negSucc 2147483647, .ofNat 2147483647), (.negSucc 2147483647, .ofNat 2147483647), (.negSucc 2147483647, .ofNat 2147483647), (.ofNat 52, .ofNat 52)], ([.inr (.inr (.inr (.inl 0))), .inl (1, .ofNat 0), .inl (2, .ofNat 0), .inl (3, .ofNat 0), .inl (4, .ofNat 0), .inl (5, .ofNat 0)], ([], ([(49, 999)], ([(.negSucc 12, .ofNat 52)], (some (.inl (6, .ofNat 0)), ([], [])))))))))
set_option maxRecDepth 100000 in
theorem wS_373_k : aMeth wG [] (zfun []) (fun _ _ => none) 4000 wS_373 [] 0 = true := by decide +kernel
theorem wS_373_ok : aSumOk wG wS_373 := aMeth_ok zm0 wS_373_k
/-- MaidsMemory shift -/
def wS_374 : aSum := (159, (2, ([(.ofNat 0, .ofNat 0), (.negSucc 2147483647, .ofNat 2147483647), (.negSucc 2147483647, .ofNat 2147483647), (.negSucc 2147483647, .ofNat 2147483647), (.negSucc 2147483647, .ofNat 2147483647), (.ofNat 53, .ofNat 53)], ([.inr (.inr (.inr (.inl 0))), .inl (1, .ofNat 0), .inl (2, .ofNat 0), .inl (3, .ofNat 0), .inl (4, .ofNat 0), .inl (5, .ofNat 0)], ([], ([(49, 999)], ([(.negSucc 12, .ofNat 53)], (some (.inl (6, .ofNat 0)), ([], [])))))))))
set_option maxRecDepth 100000 in
theorem wS_374_k : aMeth wG [] (zfun []) (fun _ _ => none) 4000 wS_374 [] 0 = true := by decide +kernel
theorem wS_374_ok : aSumOk wG wS_374 := aMeth_ok zm0 wS_374_k
/-- MaidsMemory shift -/
def wS_375 : aSum := (159, (2, ([(.ofNat 0, .ofNat 0), (.negSucc 2147483647, .ofNat 2147483647), (.negSucc 2147483647, .ofNat 2147483647), (.negSucc 2147483647, .ofNat 2147483647), (.negSucc 2147483647, .ofNat 2147483647), (.ofNat 54, .ofNat 54)], ([.inr (.inr (.inr (.inl 0))), .inl (1, .ofNat 0), .inl (2, .ofNat 0), .inl (3, .ofNat 0), .inl (4, .ofNat 0), .inl (5, .ofNat 0)], ([], ([(49, 999)], ([(.negSucc 12, .ofNat 54)], (some (.inl (6, .ofNat 0)), ([], [])))))))))
set_option maxRecDepth 100000 in
theorem wS_375_k : aMeth wG [] (zfun []) (fun _ _ => none) 4000 wS_375 [] 0 = true := by decide +kernel
theorem wS_375_ok : aSumOk wG wS_375 := aMeth_ok zm0 wS_375_k
/-- MaidsMemory shift -/
def wS_376 : aSum := (159, (2, ([(.ofNat 0, .ofNat 0), (.negSucc 2147483647, .ofNat 2147483647), (.negSucc 2147483647, .ofNat 2147483647), (.negSucc 2147483647, .ofNat 2147483647), (.negSucc 2147483647, .ofNat 2147483647), (.ofNat 55, .ofNat 55)], ([.inr (.inr (.inr (.inl 0))), .inl (1, .ofNat 0), .inl (2, .ofNat 0), .inl (3, .ofNat 0), .inl (4, .ofNat 0), .inl (5, .ofNat 0)], ([], ([(49, 999)], ([(.negSucc 12, .ofNat 55)], (some (.inl (6, .ofNat 0)), ([], [])))))))))
set_option maxRecDepth 100000 in
theorem wS_376_k : aMeth wG [] (zfun []) (fun _ _ => none) 4000 wS_376 [] 0 = true := by decide +kernel
theorem wS_376_ok : aSumOk wG wS_376 := aMeth_ok zm0 wS_376_k
/-- MaidsMemory shift -/
def wS_377 : aSum := (159, (2, ([(.ofNat 0, .ofNat 0), (.negSucc 2147483647, .ofNat 2147483647), (.negSucc 2147483647, .ofNat 2147483647), (.negSucc 2147483647, .ofNat 2147483647), (.negSucc 2147483647, .ofNat 2147483647), (.ofNat 56, .ofNat 56)], ([.inr (.inr (.inr (.inl 0))), .inl (1, .ofNat 0), .inl (2, .ofNat 0), .inl (3, .ofNat 0), .inl (4, .ofNat 0), .inl (5, .ofNat 0)], ([], ([(49, 999)], ([(.negSucc 12, .ofNat 56)], (some (.inl (6, .ofNat 0)), ([], [])))))))))
set_option maxRecDepth 100000 in
theorem wS_377_k : aMeth wG [] (zfun []) (fun _ _ => none) 4000 wS_377 [] 0 = true := by decide +kernel
theorem wS_377_ok : aSumOk wG wS_377 := aMeth_ok zm0 wS_377_k
/-- MaidsMemory shift -/
def wS_378 : aSum := (159, (2, ([(.ofNat 0, .ofNat 0), (.negSucc 2147483647, .ofNat 2147483647), (.negSucc 2147483647, .ofNat 2147483647), (.negSucc 2147483647, .ofNat 2147483647), (.negSucc 2147483647, .ofNat 2147483647), (.ofNat 57, .ofNat 57)], ([.inr (.inr (.inr (.inl 0))), .inl (1, .ofNat 0), .inl (2, .ofNat 0), .inl (3, .ofNat 0), .inl (4, .ofNat 0), .inl (5, .ofNat 0)], ([], ([(49, 999)], ([(.negSucc 12, .ofNat 57)], (some (.inl (6, .ofNat 0)), ([], [])))))))))
set_option maxRecDepth 100000 in
theorem wS_378_k : aMeth wG [] (zfun []) (fun _ _ => none) 4000 wS_378 [] 0 = true := by decide +kernel
theorem wS_378_ok : aSumOk wG wS_378 := aMeth_ok zm0 wS_378_k
/-- MaidsMemory shift -/
def wS_379 : aSum := (159, (2, ([(.ofNat 0, .ofNat 0), (.negSucc 2147483647, .ofNat 2147483647), (.negSucc 2147483647, .ofNat 2147483647), (.negSucc 2147483647, .ofNat 2147483647), (.negSucc 2147483647, .ofNat 2147483647), (.ofNat 58, .ofNat 58)], ([.inr (.inr (.inr (.inl 0))), .inl (1, .ofNat 0), .inl (2, .ofNat 0), .inl (3, .ofNat 0), .inl (4, .ofNat 0), .inl (5, .ofNat 0)], ([], ([(49, 999)], ([(.negSucc 12, .ofNat 58)], (some (.inl (6, .ofNat 0)), ([], [])))))))))
set_option maxRecDepth 100000 in
theorem wS_379_k : aMeth wG [] (zfun []) (fun _ _ => none) 4000 wS_379 [] 0 = true := by decide +kernel
theorem wS_379_ok : aSumOk wG wS_379 := aMeth_ok zm0 wS_379_k
/-- MaidsMemory shift -/
def wS_380 : aSum := (159, (2, ([(.ofNat 0, .ofNat 0), (.negSucc 2147483647, .ofNat 2147483647), (.negSucc 2147483647, .ofNat 2147483647), (.negSucc 2147483647, .ofNat 2147483647), (.negSucc 2147483647, .ofNat 2147483647), (.ofNat 59, .ofNat 59)], ([.inr (.inr (.inr (.inl 0))), .inl (1, .ofNat 0), .inl (2, .ofNat 0), .inl (3, .ofNat 0), .inl (4, .ofNat 0), .inl (5, .ofNat 0)], ([], ([(49, 999)], ([(.negSucc 12, .ofNat 59)], (some (.inl (6, .ofNat 0)), ([], [])))))))))
set_option maxRecDepth 100000 in
theorem wS_380_k : aMeth wG [] (zfun []) (fun _ _ => none) 4000 wS_380 [] 0 = true := by decide +kernel
theorem wS_380_ok : aSumOk wG wS_380 := aMeth_ok zm0 wS_380_k
/-- MaidsMemory shift -/
def wS_381 : aSum := (159, (2, ([(.ofNat 0, .ofNat 0), (.negSucc 2147483647, .ofNat 2147483647), (.negSucc 2147483647, .ofNat 2147483647), (.negSucc 2147483647, .ofNat 2147483647), (.negSucc 2147483647, .ofNat 2147483647), (.ofNat 60, .ofNat 60)], ([.inr (.inr (.inr (.inl 0))), .inl (1, .ofNat 0), .inl (2, .ofNat 0), .inl (3, .ofNat 0), .inl (4, .ofNat 0), .inl (5, .ofNat 0)], ([], ([(49, 999)], ([(.negSucc 12, .ofNat 60)], (some (.inl (6, .ofNat 0)), ([], [])))))))))
set_option maxRecDepth 100000 in
theorem wS_381_k : aMeth wG [] (zfun []) (fun _ _ => none) 4000 wS_381 [] 0 = true := by decide +kernel
theorem wS_381_ok : aSumOk wG wS_381 := aMeth_ok zm0 wS_381_k
/-- MaidsMemory shift -/
def wS_382 : aSum := (159, (1, ([(.ofNat 0, .ofNat 0), (.negSucc 2147483647, .ofNat 2147483647), (.negSucc 2147483647, .ofNat 2147483647), (.negSucc 2147483647, .ofNat 2147483647), (.negSucc 2147483647, .ofNat 2147483647), (.ofNat 61, .ofNat 2147483647)], ([.inr (.inr (.inr (.inl 0))), .inl (1, .ofNat 0), .inl (2, .ofNat 0), .inl (3, .ofNat 0), .inl (4, .ofNat 0), .inl (5, .ofNat 0)], ([], ([], ([(.negSucc 12, .negSucc 0)], (some (.inl (6, .ofNat 0)), ([], [])))))))))
set_option maxRecDepth 100000 in
theorem wS_382_k : aMeth wG [] (zfun []) (fun _ _ => none) 4000 wS_382 [] 0 = true := by decide +kernel
theorem wS_382_ok : aSumOk wG wS_382 := aMeth_ok zm0 wS_382_k
/-- MaidsMemoryModel shift -/
def wS_383 : aSum := (261, (2, ([(.ofNat 0, .ofNat 0), (.negSucc 2147483647, .ofNat 2147483647), (.negSucc 2147483647, .ofNat 2147483647), (.negSucc 2147483647, .ofNat 2147483647), (.negSucc 2147483647, .ofNat 2147483647), (.negSucc 2147483647, .negSucc 0)], ([.inr (.inr (.inr (.inl 50))), .inl (1, .ofNat 0), .inl (2, .ofNat 0), .inl (3, .ofNat 0), .inl (4, .ofNat 0), .inl (5, .ofNat 0)], ([], ([], ([(.negSucc 12, .negSucc 0)], (some (.inl (6, .ofNat 0)), ([], [])))))))))
set_option maxRecDepth 100000 in
theorem wS_383_k : aMeth wG [] (zfun []) (fun _ _ => none) 4000 wS_383 [] 0 = true := by decide +kernel
theorem wS_383_ok : aSumOk wG wS_383 := aMeth_ok zm0 wS_383_k
/-- MaidsMemoryModel shift -/
def wS_384 : aSum := (261, (2, ([(.ofNat 0, .ofNat 0), (.negSucc 2147483647, .ofNat 2147483647), (.negSucc 2147483647, .ofNat 2147483647), (.negSucc 2147483647, .ofNat 2147483647), (.negSucc 2147483647, .ofNat 2147483647), (.ofNat 0, .ofNat 0)], ([.inr (.inr (.inr (.inl 50))), .inl (1, .ofNat 0), .inl (2, .ofNat 0), .inl (3, .ofNat 0), .inl (4, .ofNat 0), .inl (5, .ofNat 0)], ([], ([], ([(.negSucc 12, .ofNat 0)], (some (.inl (6, .ofNat 0)), ([], [])))))))))
set_option maxRecDepth 100000 in
theorem wS_384_k : aMeth wG [] (zfun []) (fun _ _ => none) 4000 wS_384 [(113, ([(.ofNat 0, .ofNat 0), (.ofNat 0, .ofNat 5), (.ofNat 0, .ofNat 60), (.ofNat 0, .ofNat 5), (.ofNat 0, .ofNat 60), (.ofNat 0, .ofNat 0)], ([(0, .inr (.inr (.inr (.inl 50)))), (1, .inl (1, .ofNat 0)), (2, .inl (2, .ofNat 0)), (3, .inl (3, .ofNat 0)), (4, .inl (4, .ofNat 0)), (5, .inl (5, .ofNat 0)), (6, .inl (0, .ofNat 0))], (([], []), [(true, (0, .ofNat 113)), (true, (0, .ofNat 0))])))),
  (150, ([(.ofNat 0, .ofNat 0), (.ofNat 0, .ofNat 5), (.ofNat 0, .ofNat 60), (.ofNat 0, .ofNat 5), (.ofNat 0, .ofNat 60), (.ofNat 0, .ofNat 0)], ([(0, .inr (.inr (.inr (.inl 50)))), (3, .inl (3, .ofNat 0)), (4, .inl (4, .ofNat 0)), (5, .inl (5, .ofNat 0)), (6, .inl (0, .ofNat 0))], (([], []), [(true, (0, .ofNat 150)), (true, (0, .ofNat 0))]))))] 2 = true := by decide +kernel
theorem wS_384_ok : aSumOk wG wS_384 := aMeth_ok zm0 wS_384_k
/-- MaidsMemoryModel shift -/
def wS_385 : aSum := (261, (2, ([(.ofNat 0, .ofNat 0), (.negSucc 2147483647, .ofNat 2147483647), (.negSucc 2147483647, .ofNat 2147483647), (.negSucc 2147483647, .ofNat 2147483647), (.negSucc 2147483647, .ofNat 2147483647), (.ofNat 1, .ofNat 1)], ([.inr (.inr (.inr (.inl 50))), .inl (1, .ofNat 0), .inl (2, .ofNat 0), .inl (3, .ofNat 0), .inl (4, .ofNat 0), .inl (5, .ofNat 0)], ([], ([(76, 999), (77, 999)], ([(.negSucc 12, .ofNat 1)], (some (.inl (6, .ofNat 0)), ([], [])))))))))
set_option maxRecDepth 100000 in
theorem wS_385_k : aMeth wG [] (zfun []) (fun _ _ => none) 4000 wS_385 [(113, ([(.ofNat 0, .ofNat 0), (.ofNat 0, .ofNat 5), (.ofNat 0, .ofNat 59), (.ofNat 0, .ofNat 5), (.ofNat 0, .ofNat 59), (.ofNat 1, .ofNat 1), (.ofNat 0, .ofNat 1)], ([(0, .inr (.inr (.inr (.inl 50)))), (1, .inl (1, .ofNat 0)), (2, .inl (2, .ofNat 0)), (3, .inl (3, .ofNat 0)), (4, .inl (4, .ofNat 0)), (5, .inl (5, .ofNat 0)), (6, .inl (6, .ofNat 0))], (([], []), [(true, (0, .ofNat 113)), (true, (6, .ofNat 0))])))),
  (150, ([(.ofNat 0, .ofNat 0), (.ofNat 0, .ofNat 5), (.ofNat 0, .ofNat 59), (.ofNat 0, .ofNat 5), (.ofNat 0, .ofNat 59), (.ofNat 1, .ofNat 1), (.ofNat 0, .ofNat 1)], ([(0, .inr (.inr (.inr (.inl 50)))), (3, .inl (3, .ofNat 0)), (4, .inl (4, .ofNat 0)), (5, .inl (5, .ofNat 0)), (6, .inl (6, .ofNat 0))], (([], []), [(true, (0, .ofNat 150)), (true, (6, .ofNat 0))]))))] 2 = true := by decide +kernel
theorem wS_385_ok : aSumOk wG wS_385 := aMeth_ok zm0 wS_385_k
/-- MaidsMemoryModel shift -/
def wS_386 : aSum := (261, (2, ([(.ofNat 0, .ofNat 0), (.negSucc 2147483647, .ofNat 2147483647), (.negSucc 2147483647, .ofNat 2147483647), (.negSucc 2147483647, .ofNat 2147483647), (.negSucc 2147483647, .ofNat 2147483647), (.ofNat 2, .ofNat 2)], ([.inr (.inr (.inr (.inl 50))), .inl (1, .ofNat 0), .inl (2, .ofNat 0), .inl (3, .ofNat 0), .inl (4, .ofNat 0), .inl (5, .ofNat 0)], ([], ([(76, 999), (77, 999)], ([(.negSucc 12, .ofNat 2)], (some (.inl (6, .ofNat 0)), ([], [])))))))))
set_option maxRecDepth 100000 in
theorem wS_386_k : aMeth wG [] (zfun []) (fun _ _ => none) 4000 wS_386 [(113, ([(.ofNat 0, .ofNat 0), (.ofNat 0, .ofNat 5), (.ofNat 0, .ofNat 58), (.ofNat 0, .ofNat 5), (.ofNat 0, .ofNat 58), (.ofNat 2, .ofNat 2), (.ofNat 0, .ofNat 2)], ([(0, .inr (.inr (.inr (.inl 50)))), (1, .inl (1, .ofNat 0)), (2, .inl (2, .ofNat 0)), (3, .inl (3, .ofNat 0)), (4, .inl (4, .ofNat 0)), (5, .inl (5, .ofNat 0)), (6, .inl (6, .ofNat 0))], (([], []), [(true, (0, .ofNat 113)), (true, (6, .ofNat 0))])))),
  (150, ([(.ofNat 0, .ofNat 0), (.ofNat 0, .ofNat 5), (.ofNat 0, .ofNat 58), (.ofNat 0, .ofNat 5), (.ofNat 0, .ofNat 58), (.ofNat 2, .ofNat 2), (.ofNat 0, .ofNat 2)], ([(0, .inr (.inr (.inr (.inl 50)))), (3, .inl (3, .ofNat 0)), (4, .inl (4, .ofNat 0)), (5, .inl (5, .ofNat 0)), (6, .inl (6, .ofNat 0))], (([], []), [(true, (0, .ofNat 150)), (true, (6, .ofNat 0))]))))] 2 = true := by decide +kernel
theorem wS_386_ok : aSumOk wG wS_386 := aMeth_ok zm0 wS_386_k
/-- MaidsMemoryModel shift -/
def wS_387 : aSum := (261, (2, ([(.ofNat 0, .ofNat 0), (.negSucc 2147483647, .ofNat 2147483647), (.negSucc 2147483647, .ofNat 2147483647), (.negSucc 2147483647, .ofNat 2147483647), (.negSucc 2147483647, .ofNat 2147483647), (.ofNat 3, .ofNat 3)], ([.inr (.inr (.inr (.inl 50))), .inl (1, .ofNat 0), .inl (2, .ofNat 0), .inl (3, .ofNat 0), .inl (4, .ofNat 0), .inl (5, .ofNat 0)], ([], ([(76, 999), (77, 999)], ([(.negSucc 12, .ofNat 3)], (some (.inl (6, .ofNat 0)), ([], [])))))))))
set_option maxRecDepth 100000 in
theorem wS_387_k : aMeth wG [] (zfun []) (fun _ _ => none) 4000 wS_387 [(113, ([(.ofNat 0, .ofNat 0), (.ofNat 0, .ofNat 5), (.ofNat 0, .ofNat 57), (.ofNat 0, .ofNat 5), (.ofNat 0, .ofNat 57), (.ofNat 3, .ofNat 3), (.ofNat 0, .ofNat 3)], ([(0, .inr (.inr (.inr (.inl 50)))), (1, .inl (1, .ofNat 0)), (2, .inl (2, .ofNat 0)), (3, .inl (3, .ofNat 0)), (4, .inl (4, .ofNat 0)), (5, .inl (5, .ofNat 0)), (6, .inl (6, .ofNat 0))], (([], []), [(true, (0, .ofNat 113)), (true, (6, .ofNat 0))])))),
  (150, ([(.ofNat 0, .ofNat 0), (.ofNat 0, .ofNat 5), (.ofNat 0, .ofNat 57), (.ofNat 0, .ofNat 5), (.ofNat 0, .ofNat 57), (.ofNat 3, .ofNat 3), (.ofNat 0, .ofNat 3)], ([(0, .inr (.inr (.inr (.inl 50)))), (3, .inl (3, .ofNat 0)), (4, .inl (4, .ofNat 0)), (5, .inl (5, .ofNat 0)), (6, .inl (6, .ofNat 0))], (([], []), [(true, (0, .ofNat 150)), (true, (6, .ofNat 0))]))))] 2 = true := by decide +kernel
theorem wS_387_ok : aSumOk wG wS_387 := aMeth_ok zm0 wS_387_k
/-- MaidsMemoryModel shift -/
def wS_388 : aSum := (261, (2, ([(.ofNat 0, .ofNat 0), (.negSucc 2147483647, .ofNat 2147483647), (.negSucc 2147483647, .ofNat 2147483647), (.negSucc 2147483647, .ofNat 2147483647), (.negSucc 2147483647, .ofNat 2147483647), (.ofNat 4, .ofNat 4)], ([.inr (.inr (.inr (.inl 50))), .inl (1, .ofNat 0), .inl (2, .ofNat 0), .inl (3, .ofNat 0), .inl (4, .ofNat 0), .inl (5, .ofNat 0)], ([], ([(76, 999), (77, 999)], ([(.negSucc 12, .ofNat 4)], (some (.inl (6, .ofNat 0)), ([], [])))))))))
set_option maxRecDepth 100000 in
theorem wS_388_k : aMeth wG [] (zfun []) (fun _ _ => none) 4000 wS_388 [(113, ([(.ofNat 0, .ofNat 0), (.ofNat 0, .ofNat 5), (.ofNat 0, .ofNat 56), (.ofNat 0, .ofNat 5), (.ofNat 0, .ofNat 56), (.ofNat 4, .ofNat 4), (.ofNat 0, .ofNat 4)], ([(0, .inr (.inr (.inr (.inl 50)))), (1, .inl (1, .ofNat 0)), (2, .inl (2, .ofNat 0)), (3, .inl (3, .ofNat 0)), (4, .inl (4, .ofNat 0)), (5, .inl (5, .ofNat 0)), (6, .inl (6, .ofNat 0))], (([], []), [(true, (0, .ofNat 113)), (true, (6, .ofNat 0))])))),
  (150, ([(.ofNat 0, .ofNat 0), (.ofNat 0, .ofNat 5), (.ofNat 0, .ofNat 56), (.ofNat 0, .ofNat 5), (.ofNat 0, .ofNat 56), (.ofNat 4, .ofNat 4), (.ofNat 0, .ofNat 4)], ([(0, .inr (.inr (.inr (.inl 50)))), (3, .inl (3, .ofNat 0)), (4, .inl (4, .ofNat 0)), (5, .inl (5, .ofNat 0)), (6, .inl (6, .ofNat 0))], (([], []), [(true, (0, .ofNat 150)), (true, (6, .ofNat 0))]))))] 2 = true := by decide +kernel
theorem wS_388_ok : aSumOk wG wS_388 := aMeth_ok zm0 wS_388_k
/-- MaidsMemoryModel shift -/
def wS_389 : aSum := (261, (2, ([(.ofNat 0, .ofNat 0), (.negSucc 2147483647, .ofNat 2147483647), (.negSucc 2147483647, .ofNat 2147483647), (.negSucc 2147483647, .ofNat 2147483647), (.negSucc 2147483647, .ofNat 2147483647), (.ofNat 5, .ofNat 5)], ([.inr (.inr (.inr (.inl 50))), .inl (1, .ofNat 0), .inl (2, .ofNat 0), .inl (3, .ofNat 0), .inl (4, .ofNat 0), .inl (5, .ofNat 0)], ([], ([(76, 999), (77, 999)], ([(.negSucc 12, .ofNat 5)], (some (.inl (6, .ofNat 0)), ([], [])))))))))
set_option maxRecDepth 100000 in
theorem wS_389_k : aMeth wG [] (zfun []) (fun _ _ => none) 4000 wS_389 [(113, ([(.ofNat 0, .ofNat 0), (.ofNat 0, .ofNat 5), (.ofNat 0, .ofNat 55), (.ofNat 0, .ofNat 5), (.ofNat 0, .ofNat 55), (.ofNat 5, .ofNat 5), (.ofNat 0, .ofNat 5)], ([(0, .inr (.inr (.inr (.inl 50)))), (1, .inl (1, .ofNat 0)), (2, .inl (2, .ofNat 0)), (3, .inl (3, .ofNat 0)), (4, .inl (4, .ofNat 0)), (5, .inl (5, .ofNat 0)), (6, .inl (6, .ofNat 0))], (([], []), [(true, (0, .ofNat 113)), (true, (6, .ofNat 0))])))),
  (150, ([(.ofNat 0, .ofNat 0), (.ofNat 0, .ofNat 5), (.ofNat 0, .ofNat 55), (.ofNat 0, .ofNat 5), (.ofNat 0, .ofNat 55), (.ofNat 5, .ofNat 5), (.ofNat 0, .ofNat 5)], ([(0, .inr (.inr (.inr (.inl 50)))), (3, .inl (3, .ofNat 0)), (4, .inl (4, .ofNat 0)), (5, .inl (5, .ofNat 0)), (6, .inl (6, .ofNat 0))], (([], []), [(true, (0, .ofNat 150)), (true, (6, .ofNat 0))]))))] 2 = true := by decide +kernel
theorem wS_389_ok : aSumOk wG wS_389 := aMeth_ok zm0 wS_389_k
/-- MaidsMemoryModel shift -/
def wS_390 : aSum := (261, (2, ([(.ofNat 0, .ofNat 0), (.negSucc 2147483647, .ofNat 2147483647), (.negSucc 2147483647, .ofNat 2147483647), (.negSucc 2147483647, .ofNat 2147483647), (.negSucc 2147483647, .ofNat 2147483647), (.ofNat 6, .ofNat 6)], ([.inr (.inr (.inr (.inl 50))), .inl (1, .ofNat 0), .inl (2, .ofNat 0), .inl (3, .ofNat 0), .inl (4, .ofNat 0), .inl (5, .ofNat 0)], ([], ([(76, 999), (77, 999)], ([(.negSucc 12, .ofNat 6)], (some (.inl (6, .ofNat 0)), ([], [])))))))))
set_option maxRecDepth 100000 in
theorem wS_390_k : aMeth wG [] (zfun []) (fun _ _ => none) 4000 wS_390 [(113, ([(.ofNat 0, .ofNat 0), (.ofNat 0, .ofNat 5), (.ofNat 0, .ofNat 54), (.ofNat 0, .ofNat 5), (.ofNat 0, .ofNat 54), (.ofNat 6, .ofNat 6), (.ofNat 0, .ofNat 6)], ([(0, .inr (.inr (.inr (.inl 50)))), (1, .inl (1, .ofNat 0)), (2, .inl (2, .ofNat 0)), (3, .inl (3, .ofNat 0)), (4, .inl (4, .ofNat 0)), (5, .inl (5, .ofNat 0)), (6, .inl (6, .ofNat 0))], (([], []), [(true, (0, .ofNat 113)), (true, (6, .ofNat 0))])))),
  (150, ([(.ofNat 0, .ofNat 0), (.ofNat 0, .ofNat 5), (.ofNat 0, .ofNat 54), (.ofNat 0, .ofNat 5), (.ofNat 0, .ofNat 54), (.ofNat 6, .ofNat 6), (.ofNat 0, .ofNat 6)], ([(0, .inr (.inr (.inr (.inl 50)))), (3, .inl (3, .ofNat 0)), (4, .inl (4, .ofNat 0)), (5, .inl (5, .ofNat 0)), (6, .inl (6, .ofNat 0))], (([], []), [(true, (0, .ofNat 150)), (true, (6, .ofNat 0))]))))] 2 = true := by decide +kernel
theorem wS_390_ok : aSumOk wG wS_390 := aMeth_ok zm0 wS_390_k
/-- MaidsMemoryModel shift -/
def wS_391 : aSum := (261, (2, ([(.ofNat 0, .ofNat 0), (.negSucc 2147483647, .ofNat 2147483647), (.negSucc 2147483647, .ofNat 2147483647), (.negSucc 2147483647, .ofNat 2147483647), (.negSucc 2147483647, .ofNat 2147483647), (.ofNat 7, .ofNat 7)], ([.inr (.inr (.inr (.inl 50))), .inl (1, .ofNat 0), .inl (2, .ofNat 0), .inl (3, .ofNat 0), .inl (4, .ofNat 0), .inl (5, .ofNat 0)], ([], ([(76, 999), (77, 999)], ([(.negSucc 12, .ofNat 7)], (some (.inl (6, .ofNat 0)), ([], [])))))))))
set_option maxRecDepth 100000 in
theorem wS_391_k : aMeth wG [] (zfun []) (fun _ _ => none) 4000 wS_391 [(113, ([(.ofNat 0, .ofNat 0), (.ofNat 0, .ofNat 5), (.ofNat 0, .ofNat 53), (.ofNat 0, .ofNat 5), (.ofNat 0, .ofNat 53), (.ofNat 7, .ofNat 7), (.ofNat 0, .ofNat 7)], ([(0, .inr (.inr (.inr (.inl 50)))), (1, .inl (1, .ofNat 0)), (2, .inl (2, .ofNat 0)), (3, .inl (3, .ofNat 0)), (4, .inl (4, .ofNat 0)), (5, .inl (5, .ofNat 0)), (6, .inl (6, .ofNat 0))], (([], []), [(true, (0, .ofNat 113)), (true, (6, .ofNat 0))])))),
  (150, ([(.ofNat 0, .ofNat 0), (.ofNat 0, .ofNat 5), (.ofNat 0, .ofNat 53), (.ofNat 0, .ofNat 5), (.ofNat 0, .ofNat 53), (.ofNat 7, .ofNat 7), (.ofNat 0, .ofNat 7)], ([(0, .inr (.inr (.inr (.inl 50)))), (3, .inl (3, .ofNat 0)), (4, .inl (4, .ofNat 0)), (5, .inl (5, .ofNat 0)), (6, .inl (6, .ofNat 0))], (([], []), [(true, (0, .ofNat 150)), (true, (6, .ofNat 0))]))))] 2 = true := by decide +kernel
theorem wS_391_ok : aSumOk wG wS_391 := aMeth_ok zm0 wS_391_k
/-- MaidsMemoryModel shift -/
def wS_392 : aSum := (261, (2, ([(.ofNat 0, .ofNat 0), (.negSucc 2147483647, .ofNat 2147483647), (.negSucc 2147483647, .ofNat 2147483647), (.negSucc 2147483647, .ofNat 2147483647), (.negSucc 2147483647, .ofNat 2147483647), (.ofNat 8, .ofNat 8)], ([.inr (.inr (.inr (.inl 50))), .inl (1, .ofNat 0), .inl (2, .ofNat 0), .inl (3, .ofNat 0), .inl (4, .ofNat 0), .inl (5, .ofNat 0)], ([], ([(76, 999), (77, 999)], ([(.negSucc 12, .ofNat 8)], (some (.inl (6, .ofNat 0)), ([], [])))))))))
set_option maxRecDepth 100000 in
theorem wS_392_k : aMeth wG [] (zfun []) (fun _ _ => none) 4000 wS_392 [(113, ([(.ofNat 0, .ofNat 0), (.ofNat 0, .ofNat 5), (.ofNat 0, .ofNat 52), (.ofNat 0, .ofNat 5), (.ofNat 0, .ofNat 52), (.ofNat 8, .ofNat 8), (.ofNat 0, .ofNat 8)], ([(0, .inr (.inr (.inr (.inl 50)))), (1, .inl (1, .ofNat 0)), (2, .inl (2, .ofNat 0)), (3, .inl (3, .ofNat 0)), (4, .inl (4, .ofNat 0)), (5, .inl (5, .ofNat 0)), (6, .inl (6, .ofNat 0))], (([], []), [(true, (0, .ofNat 113)), (true, (6, .ofNat 0))])))),
  (150, ([(.ofNat 0, .ofNat 0), (.ofNat 0, .ofNat 5), (.ofNat 0, .ofNat 52), (.ofNat 0, .ofNat 5), (.ofNat 0, .ofNat 52), (.ofNat 8, .ofNat 8), (.ofNat 0, .ofNat 8)], ([(0, .inr (.inr (.inr (.inl 50)))), (3, .inl (3, .ofNat 0)), (4, .inl (4, .ofNat 0)), (5, .inl (5, .ofNat 0)), (6, .inl (6, .ofNat 0))], (([], []), [(true, (0, .ofNat 150)), (true, (6, .ofNat 0))]))))] 2 = true := by decide +kernel
theorem wS_392_ok : aSumOk wG wS_392 := aMeth_ok zm0 wS_392_k
/-- MaidsMemoryModel shift -/
def wS_393 : aSum := (261, (2, ([(.ofNat 0, .ofNat 0), (.negSucc 2147483647, .ofNat 2147483647), (.negSucc 2147483647, .ofNat 2147483647), (.negSucc 2147483647, .ofNat 2147483647), (.negSucc 2147483647, .ofNat 2147483647), (.ofNat 9, .ofNat 9)], ([.inr (.inr (.inr (.inl 50))), .inl (1, .ofNat 0), .inl (2, .ofNat 0), .inl (3, .ofNat 0), .inl (4, .ofNat 0), .inl (5, .ofNat 0)], ([], ([(76, 999), (77, 999)], ([(.negSucc 12, .ofNat 9)], (some (.inl (6, .ofNat 0)), ([], [])))))))))
set_option maxRecDepth 100000 in
theorem wS_393_k : aMeth wG [] (zfun []) (fun _ _ => none) 4000 wS_393 [(113, ([(.ofNat 0, .ofNat 0), (.ofNat 0, .ofNat 5), (.ofNat 0, .ofNat 51), (.ofNat 0, .ofNat 5), (.ofNat 0, .ofNat 51), (.ofNat 9, .ofNat 9), (.ofNat 0, .ofNat 9)], ([(0, .inr (.inr (.inr (.inl 50)))), (1, .inl (1, .ofNat 0)), (2, .inl (2, .ofNat 0)), (3, .inl (3, .ofNat 0)), (4, .inl (4, .ofNat 0)), (5, .inl (5, .ofNat 0)), (6, .inl (6, .ofNat 0))], (([], []), [(true, (0, .ofNat 113)), (true, (6, .ofNat 0))])))),
  (150, ([(.ofNat 0, .ofNat 0), (.ofNat 0, .ofNat 5), (.ofNat 0, .ofNat 51), (.ofNat 0, .ofNat 5), (.ofNat 0, .ofNat 51), (.ofNat 9, .ofNat 9), (.ofNat 0, .ofNat 9)], ([(0, .inr (.inr (.inr (.inl 50)))), (3, .inl (3, .ofNat 0)), (4, .inl (4, .ofNat 0)), (5, .inl (5, .ofNat 0)), (6, .inl (6, .ofNat 0))], (([], []), [(true, (0, .ofNat 150)), (true, (6, .ofNat 0))]))))] 2 = true := by decide +kernel
theorem wS_393_ok : aSumOk wG wS_393 := aMeth_ok zm0 wS_393_k
/-- MaidsMemoryModel shift -/
def wS_394 : aSum := (261, (2, ([(.ofNat 0, .ofNat 0), (.negSucc 2147483647, .ofNat 2147483647), (.negSucc 2147483647, .ofNat 2147483647), (.negSucc 2147483647, .ofNat 2147483647), (.negSucc 2147483647, .ofNat 2147483647), (.ofNat 10, .ofNat 10)], ([.inr (.inr (.inr (.inl 50))), .inl (1, .ofNat 0), .inl (2, .ofNat 0), .inl (3, .ofNat 0), .inl (4, .ofNat 0), .inl (5, .ofNat 0)], ([], ([(76, 999), (77, 999)], ([(.negSucc 12, .ofNat 10)], (some (.inl (6, .ofNat 0)), ([], [])))))))))
set_option maxRecDepth 100000 in
theorem wS_394_k : aMeth wG [] (zfun []) (fun _ _ => none) 4000 wS_394 [(113, ([(.ofNat 0, .ofNat 0), (.ofNat 0, .ofNat 5), (.ofNat 0, .ofNat 50), (.ofNat 0, .ofNat 5), (.ofNat 0, .ofNat 50), (.ofNat 10, .ofNat 10), (.ofNat 0, .ofNat 10)], ([(0, .inr (.inr (.inr (.inl 50)))), (1, .inl (1, .ofNat 0)), (2, .inl (2, .ofNat 0)), (3, .inl (3, .ofNat 0)), (4, .inl (4, .ofNat 0)), (5, .inl (5, .ofNat 0)), (6, .inl (6, .ofNat 0))], (([], []), [(true, (0, .ofNat 113)), (true, (6, .ofNat 0))])))),
  (150, ([(.ofNat 0, .ofNat 0), (.ofNat 0, .ofNat 5), (.ofNat 0, .ofNat 50), (.ofNat 0, .ofNat 5), (.ofNat 0, .ofNat 50), (.ofNat 10, .ofNat 10), (.ofNat 0, .ofNat 10)], ([(0, .inr (.inr (.inr (.inl 50)))), (3, .inl (3, .ofNat 0)), (4, .inl (4, .ofNat 0)), (5, .inl (5, .ofNat 0)), (6, .inl (6, .ofNat 0))], (([], []), [(true, (0, .ofNat 150)), (true, (6, .ofNat 0))]))))] 2 = true := by decide +kernel
theorem wS_394_ok : aSumOk wG wS_394 := aMeth_ok zm0 wS_394_k
/-- MaidsMemoryModel shift -/
def wS_395 : aSum := (261, (2, ([(.ofNat 0, .ofNat 0), (.negSucc 2147483647, .ofNat 2147483647), (.negSucc 2147483647, .ofNat 2147483647), (.negSucc 2147483647, .ofNat 2147483647), (.negSucc 2147483647, .ofNat 2147483647), (.ofNat 11, .ofNat 11)], ([.inr (.inr (.inr (.inl 50))), .inl (1, .ofNat 0), .inl (2, .ofNat 0), .inl (3, .ofNat 0), .inl (4, .ofNat 0), .inl (5, .ofNat 0)], ([], ([(76, 999), (77, 999)], ([(.negSucc 12, .ofNat 11)], (some (.inl (6, .ofNat 0)), ([], [])))))))))
set_option maxRecDepth 100000 in
theorem wS_395_k : aMeth wG [] (zfun []) (fun _ _ => none) 4000 wS_395 [(113, ([(.ofNat 0, .ofNat 0), (.ofNat 0, .ofNat 5), (.ofNat 0, .ofNat 49), (.ofNat 0, .ofNat 5), (.ofNat 0, .ofNat 49), (.ofNat 11, .ofNat 11), (.ofNat 0, .ofNat 11)], ([(0, .inr (.inr (.inr (.inl 50)))), (1, .inl (1, .ofNat 0)), (2, .inl (2, .ofNat 0)), (3, .inl (3, .ofNat 0)), (4, .inl (4, .ofNat 0)), (5, .inl (5, .ofNat 0)), (6, .inl (6, .ofNat 0))], (([], []), [(true, (0, .ofNat 113)), (true, (6, .ofNat 0))])))),
  (150, ([(.ofNat 0, .ofNat 0), (.ofNat 0, .ofNat 5), (.ofNat 0, .ofNat 49), (.ofNat 0, .ofNat 5), (.ofNat 0, .ofNat 49), (.ofNat 11, .ofNat 11), (.ofNat 0, .ofNat 11)], ([(0, .inr (.inr (.inr (.inl 50)))), (3, .inl (3, .ofNat 0)), (4, .inl (4, .ofNat 0)), (5, .inl (5, .ofNat 0)), (6, .inl (6, .ofNat 0))], (([], []), [(true, (0, .ofNat 150)), (true, (6, .ofNat 0))]))))] 2 = true := by decide +kernel
theorem wS_395_ok : aSumOk wG wS_395 := aMeth_ok zm0 wS_395_k
/-- MaidsMemoryModel shift -/
def wS_396 : aSum := (261, (2, ([(.ofNat 0, .ofNat 0), (.negSucc 2147483647, .ofNat 2147483647), (.negSucc 2147483647, .ofNat 2147483647), (.negSucc 2147483647, .ofNat 2147483647), (.negSucc 2147483647, .ofNat 2147483647), (.ofNat 12, .ofNat 12)], ([.inr (.inr (.inr (.inl 50))), .inl (1, .ofNat 0), .inl (2, .ofNat 0), .inl (3, .ofNat 0), .inl (4, .ofNat 0), .inl (5, .ofNat 0)], ([], ([(76, 999), (77, 999)], ([(.negSucc 12, .ofNat 12)], (some (.inl (6, .ofNat 0)), ([], [])))))))))
set_option maxRecDepth 100000 in
theorem wS_396_k : aMeth wG [] (zfun []) (fun _ _ => none) 4000 wS_396 [(113, ([(.ofNat 0, .ofNat 0), (.ofNat 0, .ofNat 5), (.ofNat 0, .ofNat 48), (.ofNat 0, .ofNat 5), (.ofNat 0, .ofNat 48), (.ofNat 12, .ofNat 12), (.ofNat 0, .ofNat 12)], ([(0, .inr (.inr (.inr (.inl 50)))), (1, .inl (1, .ofNat 0)), (2, .inl (2, .ofNat 0)), (3, .inl (3, .ofNat 0)), (4, .inl (4, .ofNat 0)), (5, .inl (5, .ofNat 0)), (6, .inl (6, .ofNat 0))], (([], []), [(true, (0, .ofNat 113)), (true, (6, .ofNat 0))])))),
  (150, ([(.ofNat 0, .ofNat 0), (.ofNat 0, .ofNat 5), (.ofNat 0, .ofNat 48), (.ofNat 0, .ofNat 5), (.ofNat 0, .ofNat 48), (.ofNat 12, .ofNat 12), (.ofNat 0, .ofNat 12)], ([(0, .inr (.inr (.inr (.inl 50)))), (3, .inl (3, .ofNat 0)), (4, .inl (4, .ofNat 0)), (5, .inl (5, .ofNat 0)), (6, .inl (6, .ofNat 0))], (([], []), [(true, (0, .ofNat 150)), (true, (6, .ofNat 0))]))))] 2 = true := by decide +kernel
theorem wS_396_ok : aSumOk wG wS_396 := aMeth_ok zm0 wS_396_k
/-- MaidsMemoryModel shift -/
def wS_397 : aSum := (261, (2, ([(.ofNat 0, .ofNat 0), (.negSucc 2147483647, .ofNat 2147483647), (.negSucc 2147483647, .ofNat 2147483647), (.negSucc 2147483647, .ofNat 2147483647), (.negSucc 2147483647, .ofNat 2147483647), (.ofNat 13, .ofNat 13)], ([.inr (.inr (.inr (.inl 50))), .inl (1, .ofNat 0), .inl (2, .ofNat 0), .inl (3, .ofNat 0), .inl (4, .ofNat 0), .inl (5, .ofNat 0)], ([], ([(76, 999), (77, 999)], ([(.negSucc 12, .ofNat 13)], (some (.inl (6, .ofNat 0)), ([], [])))))))))
set_option maxRecDepth 100000 in
theorem wS_397_k : aMeth wG [] (zfun []) (fun _ _ => none) 4000 wS_397 [(113, ([(.ofNat 0, .ofNat 0), (.ofNat 0, .ofNat 5), (.ofNat 0, .ofNat 47), (.ofNat 0, .ofNat 5), (.ofNat 0, .ofNat 47), (.ofNat 13, .ofNat 13), (.ofNat 0, .ofNat 13)], ([(0, .inr (.inr (.inr (.inl 50)))), (1, .inl (1, .ofNat 0)), (2, .inl (2, .ofNat 0)), (3, .inl (3, .ofNat 0)), (4, .inl (4, .ofNat 0)), (5, .inl (5, .ofNat 0)), (6, .inl (6, .ofNat 0))], (([], []), [(true, (0, .ofNat 113)), (true, (6, .ofNat 0))])))),
  (150, ([(.ofNat 0, .ofNat 0), (.ofNat 0, .ofNat 5), (.ofNat 0, .ofNat 47), (.ofNat 0, .ofNat 5), (.ofNat 0, .ofNat 47), (.ofNat 13, .ofNat 13), (.ofNat 0, .ofNat 13)], ([(0, .inr (.inr (.inr (.inl 50)))), (3, .inl (3, .ofNat 0)), (4, .inl (4, .ofNat 0)), (5, .inl (5, .ofNat 0)), (6, .inl (6, .ofNat 0))], (([], []), [(true, (0, .ofNat 150)), (true, (6, .ofNat 0))]))))] 2 = true := by decide +kernel
theorem wS_397_ok : aSumOk wG wS_397 := aMeth_ok zm0 wS_397_k
/-- MaidsMemoryModel shift -/
def wS_398 : aSum := (261, (2, ([(.ofNat 0, .ofNat 0), (.negSucc 2147483647, .ofNat 2147483647), (.negSucc 2147483647, .ofNat 2147483647), (.negSucc 2147483647, .ofNat 2147483647), (.negSucc 2147483647, .ofNat 2147483647), (.ofNat 14, .ofNat 14)], ([.inr (.inr (.inr (.inl 50))), .inl (1, .ofNat 0), .inl (2, .ofNat 0), .inl (3, .ofNat 0), .inl (4, .ofNat 0), .inl (5, .ofNat 0)], ([], ([(76, 999), (77, 999)], ([(.negSucc 12, .ofNat 14)], (some (.inl (6, .ofNat 0)), ([], [])))))))))
set_option maxRecDepth 100000 in
theorem wS_398_k : aMeth wG [] (zfun []) (fun _ _ => none) 4000 wS_398 [(113, ([(.ofNat 0, .ofNat 0), (.ofNat 0, .ofNat 5), (.ofNat 0, .ofNat 46), (.ofNat 0, .ofNat 5), (.ofNat 0, .ofNat 46), (.ofNat 14, .ofNat 14), (.ofNat 0, .ofNat 14)], ([(0, .inr (.inr (.inr (.inl 50)))), (1, .inl (1, .ofNat 0)), (2, .inl (2, .ofNat 0)), (3, .inl (3, .ofNat 0)), (4, .inl (4, .ofNat 0)), (5, .inl (5, .ofNat 0)), (6, .inl (6, .ofNat 0))], (([], []), [(true, (0, .ofNat 113)), (true, (6, .ofNat 0))])))),
  (150, ([(.ofNat 0, .ofNat 0), (.ofNat 0, .ofNat 5), (.ofNat 0, .ofNat 46), (.ofNat 0, .ofNat 5), (.ofNat 0, .ofNat 46), (.ofNat 14, .ofNat 14), (.ofNat 0, .ofNat 14)], ([(0, .inr (.inr (.inr (.inl 50)))), (3, .inl (3, .ofNat 0)), (4, .inl (4, .ofNat 0)), (5, .inl (5, .ofNat 0)), (6, .inl (6, .ofNat 0))], (([], []), [(true, (0, .ofNat 150)), (true, (6, .ofNat 0))]))))] 2 = true := by decide +kernel
theorem wS_398_ok : aSumOk wG wS_398 := aMeth_ok zm0 wS_398_k
/-- MaidsMemoryModel shift -/
def wS_399 : aSum := (261, (2, ([(.ofNat 0, .ofNat 0), (.negSucc 2147483647, .ofNat 2147483647), (.negSucc 2147483647, .ofNat 2147483647), (.negSucc 2147483647, .ofNat 2147483647), (.negSucc 2147483647, .ofNat 2147483647), (.ofNat 15, .ofNat 15)], ([.inr (.inr (.inr (.inl 50))), .inl (1, .ofNat 0), .inl (2, .ofNat 0), .inl (3, .ofNat 0), .inl (4, .ofNat 0), .inl (5, .ofNat 0)], ([], ([(76, 999), (77, 999)], ([(.negSucc 12, .ofNat 15)], (some (.inl (6, .ofNat 0)), ([], [])))))))))
set_option maxRecDepth 100000 in
theorem wS_399_k : aMeth wG [] (zfun []) (fun _ _ => none) 4000 wS_399 [(113, ([(.ofNat 0, .ofNat 0), (.ofNat 0, .ofNat 5), (.ofNat 0, .ofNat 45), (.ofNat 0, .ofNat 5), (.ofNat 0, .ofNat 45), (.ofNat 15, .ofNat 15), (.ofNat 0, .ofNat 15)], ([(0, .inr (.inr (.inr (.inl 50)))), (1, .inl (1, .ofNat 0)), (2, .inl (2, .ofNat 0)), (3, .inl (3, .ofNat 0)), (4, .inl (4, .ofNat 0)), (5, .inl (5, .ofNat 0)), (6, .inl (6, .ofNat 0))], (([], []), [(true, (0, .ofNat 113)), (true, (6, .ofNat 0))])))),
  (150, ([(.ofNat 0, .ofNat 0), (.ofNat 0, .ofNat 5), (.ofNat 0, .ofNat 45), (.ofNat 0, .ofNat 5), (.ofNat 0, .ofNat 45), (.ofNat 15, .ofNat 15), (.ofNat 0, .ofNat 15)], ([(0, .inr (.inr (.inr (.inl 50)))), (3, .inl (3, .ofNat 0)), (4, .inl (4, .ofNat 0)), (5, .inl (5, .ofNat 0)), (6, .inl (6, .ofNat 0))], (([], []), [(true, (0, .ofNat 150)), (true, (6, .ofNat 0))]))))] 2 = true := by decide +kernel
theorem wS_399_ok : aSumOk wG wS_399 := aMeth_ok zm0 wS_399_k
/-- MaidsMemoryModel shift -/
def wS_400 : aSum := (261, (2, ([(.ofNat 0, .ofNat 0), (.negSucc 2147483647, .ofNat 2147483647), (.negSucc 2147483647, .ofNat 2147483647), (.negSucc 2147483647, .ofNat 2147483647), (.negSucc 2147483647, .ofNat 2147483647), (.ofNat 16, .ofNat 16)], ([.inr (.inr (.inr (.inl 50))), .inl (1, .ofNat 0), .inl (2, .ofNat 0), .inl (3, .ofNat 0), .inl (4, .ofNat 0), .inl (5, .ofNat 0)], ([], ([(76, 999), (77, 999)], ([(.negSucc 12, .ofNat 16)], (some (.inl (6, .ofNat 0)), ([], [])))))))))
set_option maxRecDepth 100000 in
theorem wS_400_k : aMeth wG [] (zfun []) (fun _ _ => none) 4000 wS_400 [(113, ([(.ofNat 0, .ofNat 0), (.ofNat 0, .ofNat 5), (.ofNat 0, .ofNat 44), (.ofNat 0, .ofNat 5), (.ofNat 0, .ofNat 44), (.ofNat 16, .ofNat 16), (.ofNat 0, .ofNat 16)], ([(0, .inr (.inr (.inr (.inl 50)))), (1, .inl (1, .ofNat 0)), (2, .inl (2, .ofNat 0)), (3, .inl (3, .ofNat 0)), (4, .inl (4, .ofNat 0)), (5, .inl (5, .ofNat 0)), (6, .inl (6, .ofNat 0))], (([], []), [(true, (0, .ofNat 113)), (true, (6, .ofNat 0))])))),
  (150, ([(.ofNat 0, .ofNat 0), (.ofNat 0, .ofNat 5), (.ofNat 0, .ofNat 44), (.ofNat 0, .ofNat 5), (.ofNat 0, .ofNat 44), (.ofNat 16, .ofNat 16), (.ofNat 0, .ofNat 16)], ([(0, .inr (.inr (.inr (.inl 50)))), (3, .inl (3, .ofNat 0)), (4, .inl (4, .ofNat 0)), (5, .inl (5, .ofNat 0)), (6, .inl (6, .ofNat 0))], (([], []), [(true, (0, .ofNat 150)), (true, (6, .ofNat 0))]))))] 2 = true := by decide +kernel
theorem wS_400_ok : aSumOk wG wS_400 := aMeth_ok zm0 wS_400_k
end
