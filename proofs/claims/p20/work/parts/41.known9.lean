noncomputable section
/-- MaidsMemory act -/
def wS_307 : aSum := (153, (8, ([(.ofNat 0, .ofNat 0), (.negSucc 2147483647, .ofNat 2147483647), (.negSucc 2147483647, .ofNat 2147483647), (.negSucc 2147483647, .ofNat 2147483647)], ([.inr (.inr (.inr (.inl 0))), .inl (1, .ofNat 0), .inl (2, .ofNat 0), .inl (3, .ofNat 0)], ([], ([(42, 3), (44, 999)], ([(.negSucc 2147483647, .ofNat 2147483647)], (some (.inl (4, .ofNat 0)), ([], [])))))))))
set_option maxRecDepth 100000 in
theorem wS_307_k : aMeth wG [] (zfun []) (zspl [((26, 0), (.inl 1, [.negSucc 0, .ofNat 0, .ofNat 1, .ofNat 2, .ofNat 3, .ofNat 4, .ofNat 5, .ofNat 6])), ((26, 1), (.inl 3, [.ofNat 0, .ofNat 1, .ofNat 2]))]) 4000 wS_307 [] 0 = true := by decide +kernel
theorem wS_307_ok : aSumOk wG wS_307 := aMeth_ok zm0 wS_307_k
end
