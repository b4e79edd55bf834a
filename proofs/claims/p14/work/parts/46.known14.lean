noncomputable section
/-- MaidsMemoryModel shift -/
def wS_442 : aSum := (261, (2, ([(.ofNat 0, .ofNat 0), (.negSucc 2147483647, .ofNat 2147483647), (.negSucc 2147483647, .ofNat 2147483647), (.negSucc 2147483647, .ofNat 2147483647), (.negSucc 2147483647, .ofNat 2147483647), (.ofNat 58, .ofNat 58)], ([.inr (.inr (.inr (.inl 50))), .inl (1, .ofNat 0), .inl (2, .ofNat 0), .inl (3, .ofNat 0), .inl (4, .ofNat 0), .inl (5, .ofNat 0)], ([], ([(76, 999), (77, 999)], ([(.negSucc 12, .ofNat 58)], (some (.inl (6, .ofNat 0)), ([], [])))))))))
set_option maxRecDepth 100000 in
theorem wS_442_k : aMeth wG [] (zfun []) (fun _ _ => none) 4000 wS_442 [(113, ([(.ofNat 0, .ofNat 0), (.ofNat 0, .ofNat 5), (.ofNat 0, .ofNat 2), (.ofNat 0, .ofNat 5), (.ofNat 0, .ofNat 2), (.ofNat 58, .ofNat 58), (.ofNat 0, .ofNat 58)], ([(0, .inr (.inr (.inr (.inl 50)))), (1, .inl (1, .ofNat 0)), (2, .inl (2, .ofNat 0)), (3, .inl (3, .ofNat 0)), (4, .inl (4, .ofNat 0)), (5, .inl (5, .ofNat 0)), (6, .inl (6, .ofNat 0))], (([], []), [(true, (0, .ofNat 113)), (true, (6, .ofNat 0))])))),
  (150, ([(.ofNat 0, .ofNat 0), (.ofNat 0, .ofNat 5), (.ofNat 0, .ofNat 2), (.ofNat 0, .ofNat 5), (.ofNat 0, .ofNat 2), (.ofNat 58, .ofNat 58), (.ofNat 0, .ofNat 58)], ([(0, .inr (.inr (.inr (.inl 50)))), (3, .inl (3, .ofNat 0)), (4, .inl (4, .ofNat 0)), (5, .inl (5, .ofNat 0)), (6, .inl (6, .ofNat 0))], (([], []), [(true, (0, .ofNat 150)), (true, (6, .ofNat 0))]))))] 2 = true := by decide +kernel
theorem wS_442_ok : aSumOk wG wS_442 := aMeth_ok zm0 wS_442_k
/-- MaidsMemoryModel shift -/
def wS_443 : aSum := (261, (2, ([(.ofNat 0, .ofNat 0), (.negSucc 2147483647, .ofNat 2147483647), (.negSucc 2147483647, .ofNat 2147483647), (.negSucc 2147483647, .ofNat 2147483647), (.negSucc 2147483647, .ofNat 2147483647), (.ofNat 59, .ofNat 59)], ([.inr (.inr (.inr (.inl 50))), .inl (1, .ofNat 0), .inl (2, .ofNat 0), .inl (3, .ofNat 0), .inl (4, .ofNat 0), .inl (5, .ofNat 0)], ([], ([(76, 999), (77, 999)], ([(.negSucc 12, .ofNat 59)], (some (.inl (6, .ofNat 0)), ([], [])))))))))
set_option maxRecDepth 100000 in
theorem wS_443_k : aMeth wG [] (zfun []) (fun _ _ => none) 4000 wS_443 [(113, ([(.ofNat 0, .ofNat 0), (.ofNat 0, .ofNat 5), (.ofNat 0, .ofNat 1), (.ofNat 0, .ofNat 5), (.ofNat 0, .ofNat 1), (.ofNat 59, .ofNat 59), (.ofNat 0, .ofNat 59)], ([(0, .inr (.inr (.inr (.inl 50)))), (1, .inl (1, .ofNat 0)), (2, .inl (2, .ofNat 0)), (3, .inl (3, .ofNat 0)), (4, .inl (4, .ofNat 0)), (5, .inl (5, .ofNat 0)), (6, .inl (6, .ofNat 0))], (([], []), [(true, (0, .ofNat 113)), (true, (6, .ofNat 0))])))),
  (150, ([(.ofNat 0, .ofNat 0), (.ofNat 0, .ofNat 5), (.ofNat 0, .ofNat 1), (.ofNat 0, .ofNat 5), (.ofNat 0, .ofNat 1), (.ofNat 59, .ofNat 59), (.ofNat 0, .ofNat 59)], ([(0, .inr (.inr (.inr (.inl 50)))), (3, .inl (3, .ofNat 0)), (4, .inl (4, .ofNat 0)), (5, .inl (5, .ofNat 0)), (6, .inl (6, .ofNat 0))], (([], []), [(true, (0, .ofNat 150)), (true, (6, .ofNat 0))]))))] 2 = true := by decide +kernel
theorem wS_443_ok : aSumOk wG wS_443 := aMeth_ok zm0 wS_443_k
/-- MaidsMemoryModel shift -/
def wS_444 : aSum := (261, (2, ([(.ofNat 0, .ofNat 0), (.negSucc 2147483647, .ofNat 2147483647), (.negSucc 2147483647, .ofNat 2147483647), (.negSucc 2147483647, .ofNat 2147483647), (.negSucc 2147483647, .ofNat 2147483647), (.ofNat 60, .ofNat 60)], ([.inr (.inr (.inr (.inl 50))), .inl (1, .ofNat 0), .inl (2, .ofNat 0), .inl (3, .ofNat 0), .inl (4, .ofNat 0), .inl (5, .ofNat 0)], ([], ([(76, 999), (77, 999)], ([(.negSucc 12, .ofNat 60)], (some (.inl (6, .ofNat 0)), ([], [])))))))))
set_option maxRecDepth 100000 in
theorem wS_444_k : aMeth wG [] (zfun []) (fun _ _ => none) 4000 wS_444 [(113, ([(.ofNat 0, .ofNat 0), (.ofNat 0, .ofNat 5), (.ofNat 0, .ofNat 0), (.ofNat 0, .ofNat 5), (.ofNat 0, .ofNat 0), (.ofNat 60, .ofNat 60), (.ofNat 0, .ofNat 60)], ([(0, .inr (.inr (.inr (.inl 50)))), (1, .inl (1, .ofNat 0)), (2, .inl (2, .ofNat 0)), (3, .inl (3, .ofNat 0)), (4, .inl (4, .ofNat 0)), (5, .inl (5, .ofNat 0)), (6, .inl (6, .ofNat 0))], (([], []), [(true, (0, .ofNat 113)), (true, (6, .ofNat 0))])))),
  (150, ([(.ofNat 0, .ofNat 0), (.ofNat 0, .ofNat 5), (.ofNat 0, .ofNat 0), (.ofNat 0, .ofNat 5), (.ofNat 0, .ofNat 0), (.ofNat 60, .ofNat 60), (.ofNat 0, .ofNat 60)], ([(0, .inr (.inr (.inr (.inl 50)))), (3, .inl (3, .ofNat 0)), (4, .inl (4, .ofNat 0)), (5, .inl (5, .ofNat 0)), (6, .inl (6, .ofNat 0))], (([], []), [(true, (0, .ofNat 150)), (true, (6, .ofNat 0))]))))] 2 = true := by decide +kernel
theorem wS_444_ok : aSumOk wG wS_444 := aMeth_ok zm0 wS_444_k
/-- MaidsMemoryModel shift -/
def wS_445 : aSum := (261, (2, ([(.ofNat 0, .ofNat 0), (.negSucc 2147483647, .ofNat 2147483647), (.negSucc 2147483647, .ofNat 2147483647), (.negSucc 2147483647, .ofNat 2147483647), (.negSucc 2147483647, .ofNat 2147483647), (.ofNat 61, .ofNat 2147483647)], ([.inr (.inr (.inr (.inl 50))), .inl (1, .ofNat 0), .inl (2, .ofNat 0), .inl (3, .ofNat 0), .inl (4, .ofNat 0), .inl (5, .ofNat 0)], ([], ([], ([(.negSucc 12, .negSucc 0)], (some (.inl (6, .ofNat 0)), ([], [])))))))))
set_option maxRecDepth 100000 in
theorem wS_445_k : aMeth wG [] (zfun []) (fun _ _ => none) 4000 wS_445 [] 0 = true := by decide +kernel
theorem wS_445_ok : aSumOk wG wS_445 := aMeth_ok zm0 wS_445_k
/-- MaidsMemory$Grates isUnder -/
def wS_446 : aSum := (21, (1, ([(.ofNat 0, .ofNat 0), (.ofNat 0, .ofNat 7), (.ofNat 0, .ofNat 7)], ([.inr (.inr (.inr (.inl 42))), .inl (1, .ofNat 0), .inl (2, .ofNat 0)], ([], ([], ([(.ofNat 0, .ofNat 1)], (some (.inl (3, .ofNat 0)), ([], [])))))))))
set_option maxRecDepth 100000 in
theorem wS_446_k : aMeth wG [] (zfun []) (fun _ _ => none) 4000 wS_446 [(5, ([(.ofNat 0, .ofNat 0), (.ofNat 0, .ofNat 7), (.ofNat 0, .ofNat 7), (.negSucc 0, .ofNat 7), (.ofNat 0, .ofNat 8)], ([(0, .inr (.inr (.inr (.inl 42)))), (2, .inl (2, .ofNat 0)), (3, .inl (3, .ofNat 0)), (4, .inl (4, .ofNat 0))], (([], []), [(true, (0, .ofNat 5)), (true, (4, .ofNat 0))]))))] 2 = true := by decide +kernel
theorem wS_446_ok : aSumOk wG wS_446 := aMeth_ok zm0 wS_446_k
/-- MaidsMemory$Grates isUnder -/
def wS_447 : aSum := (21, (1, ([(.ofNat 0, .ofNat 0), (.ofNat 0, .ofNat 7)], ([.inr (.inr (.inr (.inl 42))), .inl (0, .negSucc 0), .inl (1, .ofNat 0)], ([], ([], ([], (some (.inl (0, .ofNat 0)), ([], [])))))))))
set_option maxRecDepth 100000 in
theorem wS_447_k : aMeth wG [] (zfun []) (fun _ _ => none) 4000 wS_447 [(5, ([(.ofNat 0, .ofNat 0), (.ofNat 0, .ofNat 7)], ([(0, .inr (.inr (.inr (.inl 42)))), (2, .inl (1, .ofNat 0)), (3, .inl (0, .negSucc 0)), (4, .inl (0, .ofNat 0))], (([], []), [(true, (0, .ofNat 5)), (true, (0, .ofNat 0))]))))] 2 = true := by decide +kernel
theorem wS_447_ok : aSumOk wG wS_447 := aMeth_ok zm0 wS_447_k
/-- MaidsMemory taken -/
def wS_448 : aSum := (160, (2, ([(.ofNat 0, .ofNat 0), (.negSucc 2147483647, .ofNat 2147483647), (.negSucc 2147483647, .ofNat 2147483647)], ([.inr (.inr (.inr (.inl 0))), .inl (1, .ofNat 0), .inl (2, .ofNat 0)], ([], ([], ([(.negSucc 11, .ofNat 7)], (some (.inl (3, .ofNat 0)), ([], [])))))))))
set_option maxRecDepth 100000 in
theorem wS_448_k : aMeth wG [wS_446, wS_447] (zfun [21]) (fun _ _ => none) 4000 wS_448 [] 0 = true := by decide +kernel
theorem wS_448_ok : aSumOk wG wS_448 := aMeth_ok (zmc wS_446_ok (zmc wS_447_ok zm0)) wS_448_k
/-- MaidsMemoryModel taken -/
def wS_449 : aSum := (262, (2, ([(.ofNat 0, .ofNat 0), (.negSucc 2147483647, .ofNat 2147483647), (.negSucc 2147483647, .ofNat 2147483647)], ([.inr (.inr (.inr (.inl 50))), .inl (1, .ofNat 0), .inl (2, .ofNat 0)], ([], ([], ([(.negSucc 11, .ofNat 7)], (some (.inl (3, .ofNat 0)), ([], [])))))))))
set_option maxRecDepth 100000 in
theorem wS_449_k : aMeth wG [] (zfun []) (fun _ _ => none) 4000 wS_449 [(58, ([(.ofNat 0, .ofNat 0), (.ofNat 0, .ofNat 5), (.ofNat 0, .ofNat 7), (.ofNat 0, .ofNat 7), (.ofNat 0, .ofNat 49)], ([(0, .inr (.inr (.inr (.inl 50)))), (1, .inl (1, .ofNat 0)), (2, .inl (2, .ofNat 0)), (3, .inl (3, .ofNat 0))], (([((74, (1, .ofNat 0)), (4, .ofNat 0))], []), [(true, (0, .ofNat 58)), (false, (3, .ofNat 0))]))))] 2 = true := by decide +kernel
theorem wS_449_ok : aSumOk wG wS_449 := aMeth_ok zm0 wS_449_k
/-- MaidsMemory count -/
def wS_450 : aSum := (161, (0, ([(.ofNat 0, .ofNat 0), (.negSucc 2147483647, .ofNat 2147483647)], ([.inr (.inr (.inr (.inl 0))), .inl (1, .ofNat 0)], ([], ([], ([(.negSucc 0, .ofNat 120)], (some (.inl (2, .ofNat 0)), ([], [])))))))))
set_option maxRecDepth 100000 in
theorem wS_450_k : aMeth wG [] (zfun []) (fun _ _ => none) 4000 wS_450 [] 0 = true := by decide +kernel
theorem wS_450_ok : aSumOk wG wS_450 := aMeth_ok zm0 wS_450_k
/-- MaidsMemoryModel count -/
def wS_451 : aSum := (263, (0, ([(.ofNat 0, .ofNat 0), (.negSucc 2147483647, .ofNat 2147483647)], ([.inr (.inr (.inr (.inl 50))), .inl (1, .ofNat 0)], ([], ([], ([(.negSucc 0, .ofNat 120)], (some (.inl (2, .ofNat 0)), ([], [])))))))))
set_option maxRecDepth 100000 in
theorem wS_451_k : aMeth wG [] (zfun []) (fun _ _ => none) 4000 wS_451 [] 0 = true := by decide +kernel
theorem wS_451_ok : aSumOk wG wS_451 := aMeth_ok zm0 wS_451_k
end
