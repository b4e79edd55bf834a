def wAl (f : zF) : Prop := wI f ∧ wBt f ∧ wD f
theorem wI_0 : wI zF0 := by
  have o : ∀ {c c' : Nat}, zspec c = false → zspec c' = false → ∀ j, zF0 c j = zF0 c' j := fun h h' j => (zF0_o h j).trans (zF0_o h' j).symm
  refine ⟨⟨rfl, rfl, rfl, rfl⟩, ⟨o rfl rfl, o rfl rfl, o rfl rfl, o rfl rfl⟩, fun d hd => ?_⟩
  have h46 : zF0 46 d = -2 ∧ zF0 74 d = -1 := by
    match d, hd with
    | 0, _ => exact ⟨rfl, rfl⟩
    | 1, _ => exact ⟨rfl, rfl⟩
    | 2, _ => exact ⟨rfl, rfl⟩
    | 3, _ => exact ⟨rfl, rfl⟩
    | 4, _ => exact ⟨rfl, rfl⟩
    | 5, _ => exact ⟨rfl, rfl⟩
    | n + 6, h => omega
  exact ⟨⟨o rfl rfl d, Or.inl h46⟩, fun h => by omega⟩
set_option maxHeartbeats 4000000 in
theorem wc_0 {sc : zC} (hs : ∀ j, zIn (sc.2 j)) (hL : sc.1 ≤ 3072) {x3 : Int} (hx : 0 ≤ x3 ∧ x3 + 6 ≤ (sc.1 : Int)) {f0 : zF} (g0 : aGok wG (afx sc f0)) (k0 : wAl f0) {Q : zQ} (H : ∀ f, aGok wG (afx sc f) → wAl f → zR sc 200 0 1526 [] [(0, zS 5), (1, zP 0), (2, zP 50), (3, zI x3)] 78 5571 zSH f Q) : zR sc 200 0 224 [] [(0, zS 5), (1, zP 0), (2, zP 50), (3, zI x3)] 78 5571 zSH f0 Q := by
  obtain ⟨i0, b0, d0⟩ := id k0
  refine q0_224 (d := 0) ?_
  refine wcallX wS_11_ok (wr (0) (0) (0) (0) (0)) (by decide) rfl rfl (aNm_c ⟨Int.le_refl _, Int.le_refl _⟩ (aNm_n)) rfl (by
      show [(0, zP 0)] = _
      simp only [Int.add_zero]) g0 (jd_0 g0 d0) (fun z0 f1 g1 w0 h0 => ?_)
  refine wcallX wS_12_ok (wr (0) (0) (0) (0) (0)) (by decide) rfl rfl (aNm_c ⟨Int.le_refl _, Int.le_refl _⟩ (aNm_n)) rfl (by
      show [(0, zP 50)] = _
      simp only [Int.add_zero]) g1 h0 (fun z1 f2 g2 w1 h1 => ?_)
  exact H _ g2 ⟨wI_fr (by decide +kernel) w1 (wI_fr (by decide +kernel) w0 i0), wBt_fr (by decide +kernel) w1 (wBt_fr (by decide +kernel) w0 b0), h1.1⟩
set_option maxHeartbeats 4000000 in
theorem wc_1 {sc : zC} (hs : ∀ j, zIn (sc.2 j)) (hL : sc.1 ≤ 3072) {x3 : Int} (hx : 0 ≤ x3 ∧ x3 + 6 ≤ (sc.1 : Int)) {f0 : zF} (g0 : aGok wG (afx sc f0)) (k0 : wAl f0) {Q : zQ} (H : ∀ f, aGok wG (afx sc f) → wAl f → zR sc 200 0 1526 [] [(0, zS 5), (1, zP 0), (2, zP 50), (3, zI x3)] 78 5571 zSH f Q) : zR sc 200 0 237 [] [(0, zS 5), (1, zP 0), (2, zP 50), (3, zI x3)] 78 5571 zSH f0 Q := by
  obtain ⟨i0, b0, d0⟩ := id k0
  refine q0_237 (d := 0) ?_
  refine zov_p (by omega) (zix_p (by omega) (zov_p (by omega) (zix_p (by omega) (?_))))
  refine wcallX wS_13_ok (wr (sc.2 ((x3 + (1)).toNat)) (sc.2 ((x3 + (2)).toNat)) (0) (0) (0)) (by decide) rfl rfl (aNm_c ⟨Int.le_refl _, Int.le_refl _⟩ (aNm_c (aF32_ok.2 (hs _)) (aNm_c (aF32_ok.2 (hs _)) (aNm_n)))) rfl (by
      show [(0, zP 0), (1, zI (sc.2 ((x3 + (1)).toNat) + 0)), (2, zI (sc.2 ((x3 + (2)).toNat) + 0))] = _
      simp only [Int.add_zero]) g0 (zJ2_and (jk_1 g0 i0) (jd_1 g0 d0)) (fun z0 f1 g1 w0 h0 => ?_)
  refine zov_p (by omega) (zix_p (by omega) (zov_p (by omega) (zix_p (by omega) (?_))))
  refine wcallX wS_14_ok (wr (sc.2 ((x3 + (1)).toNat)) (sc.2 ((x3 + (2)).toNat)) (0) (0) (0)) (by decide) rfl rfl (aNm_c ⟨Int.le_refl _, Int.le_refl _⟩ (aNm_c (aF32_ok.2 (hs _)) (aNm_c (aF32_ok.2 (hs _)) (aNm_n)))) rfl (by
      show [(0, zP 50), (1, zI (sc.2 ((x3 + (1)).toNat) + 0)), (2, zI (sc.2 ((x3 + (2)).toNat) + 0))] = _
      simp only [Int.add_zero]) g1 h0 (fun z1 f2 g2 w1 h1 => ?_)
  exact H _ g2 ⟨h1.1.1, wBt_fr (by decide +kernel) w1 (wBt_fr (by decide +kernel) w0 b0), h1.2.1⟩
set_option maxHeartbeats 4000000 in
theorem wc_2 {sc : zC} (hs : ∀ j, zIn (sc.2 j)) (hL : sc.1 ≤ 3072) {x3 : Int} (hx : 0 ≤ x3 ∧ x3 + 6 ≤ (sc.1 : Int)) {f0 : zF} (g0 : aGok wG (afx sc f0)) (k0 : wAl f0) {Q : zQ} (H : ∀ f, aGok wG (afx sc f) → wAl f → zR sc 200 0 1526 [] [(0, zS 5), (1, zP 0), (2, zP 50), (3, zI x3)] 78 5571 zSH f Q) : zR sc 200 0 270 [] [(0, zS 5), (1, zP 0), (2, zP 50), (3, zI x3)] 78 5571 zSH f0 Q := by
  obtain ⟨i0, b0, d0⟩ := id k0
  refine q0_270 (d := 0) ?_
  refine zov_p (by omega) (zix_p (by omega) (zov_p (by omega) (zix_p (by omega) (zov_p (by omega) (zix_p (by omega) (?_))))))
  refine wcallX wS_15_ok (wr (sc.2 ((x3 + (1)).toNat)) (sc.2 ((x3 + (2)).toNat)) (sc.2 ((x3 + (3)).toNat)) (0) (0)) (by decide) rfl rfl (aNm_c ⟨Int.le_refl _, Int.le_refl _⟩ (aNm_c (aF32_ok.2 (hs _)) (aNm_c (aF32_ok.2 (hs _)) (aNm_c (aF32_ok.2 (hs _)) (aNm_n))))) rfl (by
      show [(0, zP 0), (1, zI (sc.2 ((x3 + (1)).toNat) + 0)), (2, zI (sc.2 ((x3 + (2)).toNat) + 0)), (3, zI (sc.2 ((x3 + (3)).toNat) + 0))] = _
      simp only [Int.add_zero]) g0 (zJ2_and (jk_2 g0 i0 (hs _)) (jd_2 g0 i0 d0 (hs _))) (fun z0 f1 g1 w0 h0 => ?_)
  refine zov_p (by omega) (zix_p (by omega) (zov_p (by omega) (zix_p (by omega) (zov_p (by omega) (zix_p (by omega) (?_))))))
  by_cases e1_0 : sc.2 ((x3 + (2)).toNat) ≤ (-1 : Int)
  · refine wcallX wS_16_ok (wr (sc.2 ((x3 + (1)).toNat)) (sc.2 ((x3 + (2)).toNat)) (sc.2 ((x3 + (3)).toNat)) (0) (0)) (by decide) rfl rfl (aNm_c ⟨Int.le_refl _, Int.le_refl _⟩ (aNm_c (aF32_ok.2 (hs _)) (aNm_c ⟨(hs _).1, (by show sc.2 ((x3 + (2)).toNat) ≤ (-1 : Int); omega)⟩ (aNm_c (aF32_ok.2 (hs _)) (aNm_n))))) rfl (by
      show [(0, zP 50), (1, zI (sc.2 ((x3 + (1)).toNat) + 0)), (2, zI (sc.2 ((x3 + (2)).toNat) + 0)), (3, zI (sc.2 ((x3 + (3)).toNat) + 0))] = _
      simp only [Int.add_zero]) g1 h0 (fun z1 f2 g2 w1 h1 => ?_)
    exact H _ g2 ⟨h1.1.1, wBt_fr (by decide +kernel) w1 (wBt_fr (by decide +kernel) w0 b0), h1.2.1⟩
  refine wcallX wS_17_ok (wr (sc.2 ((x3 + (1)).toNat)) (sc.2 ((x3 + (2)).toNat)) (sc.2 ((x3 + (3)).toNat)) (0) (0)) (by decide) rfl rfl (aNm_c ⟨Int.le_refl _, Int.le_refl _⟩ (aNm_c (aF32_ok.2 (hs _)) (aNm_c ⟨(by show (0 : Int) ≤ sc.2 ((x3 + (2)).toNat); omega), (hs _).2⟩ (aNm_c (aF32_ok.2 (hs _)) (aNm_n))))) rfl (by
      show [(0, zP 50), (1, zI (sc.2 ((x3 + (1)).toNat) + 0)), (2, zI (sc.2 ((x3 + (2)).toNat) + 0)), (3, zI (sc.2 ((x3 + (3)).toNat) + 0))] = _
      simp only [Int.add_zero]) g1 h0 (fun z1 f2 g2 w1 h1 => ?_)
  exact H _ g2 ⟨h1.1.1, wBt_fr (by decide +kernel) w1 (wBt_fr (by decide +kernel) w0 b0), h1.2.1⟩
set_option maxHeartbeats 4000000 in
theorem wc_3 {sc : zC} (hs : ∀ j, zIn (sc.2 j)) (hL : sc.1 ≤ 3072) {x3 : Int} (hx : 0 ≤ x3 ∧ x3 + 6 ≤ (sc.1 : Int)) {f0 : zF} (g0 : aGok wG (afx sc f0)) (k0 : wAl f0) {Q : zQ} (H : ∀ f, aGok wG (afx sc f) → wAl f → zR sc 200 0 1526 [] [(0, zS 5), (1, zP 0), (2, zP 50), (3, zI x3)] 78 5571 zSH f Q) : zR sc 200 0 313 [] [(0, zS 5), (1, zP 0), (2, zP 50), (3, zI x3)] 78 5571 zSH f0 Q := by
  obtain ⟨i0, b0, d0⟩ := id k0
  refine q0_313 (d := 0) ?_
  refine zov_p (by omega) (zix_p (by omega) (zov_p (by omega) (zix_p (by omega) (zov_p (by omega) (zix_p (by omega) (?_))))))
  refine wcallX wS_18_ok (wr (sc.2 ((x3 + (1)).toNat)) (sc.2 ((x3 + (2)).toNat)) (sc.2 ((x3 + (3)).toNat)) (0) (0)) (by decide) rfl rfl (aNm_c ⟨Int.le_refl _, Int.le_refl _⟩ (aNm_c (aF32_ok.2 (hs _)) (aNm_c (aF32_ok.2 (hs _)) (aNm_c (aF32_ok.2 (hs _)) (aNm_n))))) rfl (by
      show [(0, zP 0), (1, zI (sc.2 ((x3 + (1)).toNat) + 0)), (2, zI (sc.2 ((x3 + (2)).toNat) + 0)), (3, zI (sc.2 ((x3 + (3)).toNat) + 0))] = _
      simp only [Int.add_zero]) g0 (jd_3 g0 d0 (hs _)) (fun z0 f1 g1 w0 h0 => ?_)
  refine zov_p (by omega) (zix_p (by omega) (zov_p (by omega) (zix_p (by omega) (zov_p (by omega) (zix_p (by omega) (?_))))))
  refine wcallX wS_19_ok (wr (sc.2 ((x3 + (1)).toNat)) (sc.2 ((x3 + (2)).toNat)) (sc.2 ((x3 + (3)).toNat)) (0) (0)) (by decide) rfl rfl (aNm_c ⟨Int.le_refl _, Int.le_refl _⟩ (aNm_c (aF32_ok.2 (hs _)) (aNm_c (aF32_ok.2 (hs _)) (aNm_c (aF32_ok.2 (hs _)) (aNm_n))))) rfl (by
      show [(0, zP 50), (1, zI (sc.2 ((x3 + (1)).toNat) + 0)), (2, zI (sc.2 ((x3 + (2)).toNat) + 0)), (3, zI (sc.2 ((x3 + (3)).toNat) + 0))] = _
      simp only [Int.add_zero]) g1 h0 (fun z1 f2 g2 w1 h1 => ?_)
  exact H _ g2 ⟨wI_fr (by decide +kernel) w1 (wI_fr (by decide +kernel) w0 i0), wBt_fr (by decide +kernel) w1 (wBt_fr (by decide +kernel) w0 b0), h1.1⟩
set_option maxHeartbeats 4000000 in
theorem wc_4 {sc : zC} (hs : ∀ j, zIn (sc.2 j)) (hL : sc.1 ≤ 3072) {x3 : Int} (hx : 0 ≤ x3 ∧ x3 + 6 ≤ (sc.1 : Int)) {f0 : zF} (g0 : aGok wG (afx sc f0)) (k0 : wAl f0) {Q : zQ} (H : ∀ f, aGok wG (afx sc f) → wAl f → zR sc 200 0 1526 [] [(0, zS 5), (1, zP 0), (2, zP 50), (3, zI x3)] 78 5571 zSH f Q) : zR sc 200 0 356 [] [(0, zS 5), (1, zP 0), (2, zP 50), (3, zI x3)] 78 5571 zSH f0 Q := by
  obtain ⟨i0, b0, d0⟩ := id k0
  refine q0_356 (d := 0) ?_
  refine zov_p (by omega) (zix_p (by omega) (zov_p (by omega) (zix_p (by omega) (?_))))
  refine wcallI wS_20_ok (wr (sc.2 ((x3 + (1)).toNat)) (sc.2 ((x3 + (2)).toNat)) (0) (0) (0)) (by decide) rfl rfl (aNm_c ⟨Int.le_refl _, Int.le_refl _⟩ (aNm_c (aF32_ok.2 (hs _)) (aNm_c (aF32_ok.2 (hs _)) (aNm_n)))) rfl (by
      show [(0, zP 0), (1, zI (sc.2 ((x3 + (1)).toNat) + 0)), (2, zI (sc.2 ((x3 + (2)).toNat) + 0))] = _
      simp only [Int.add_zero]) g0 (fun z0 f1 g1 w0 => ?_)
  refine zov_p (by omega) (zix_p (by omega) (zov_p (by omega) (zix_p (by omega) (?_))))
  refine wcallI wS_23_ok (wr (sc.2 ((x3 + (1)).toNat)) (sc.2 ((x3 + (2)).toNat)) (0) (0) (0)) (by decide) rfl rfl (aNm_c ⟨Int.le_refl _, Int.le_refl _⟩ (aNm_c (aF32_ok.2 (hs _)) (aNm_c (aF32_ok.2 (hs _)) (aNm_n)))) rfl (by
      show [(0, zP 50), (1, zI (sc.2 ((x3 + (1)).toNat) + 0)), (2, zI (sc.2 ((x3 + (2)).toNat) + 0))] = _
      simp only [Int.add_zero]) g1 (fun z1 f2 g2 w1 => ?_)
  exact H _ g2 ⟨wI_fr (by decide +kernel) w1 (wI_fr (by decide +kernel) w0 i0), wBt_fr (by decide +kernel) w1 (wBt_fr (by decide +kernel) w0 b0), wD_fr (by decide +kernel) w1 (wD_fr (by decide +kernel) w0 d0)⟩
set_option maxHeartbeats 4000000 in
theorem wc_5 {sc : zC} (hs : ∀ j, zIn (sc.2 j)) (hL : sc.1 ≤ 3072) {x3 : Int} (hx : 0 ≤ x3 ∧ x3 + 6 ≤ (sc.1 : Int)) {f0 : zF} (g0 : aGok wG (afx sc f0)) (k0 : wAl f0) {Q : zQ} (H : ∀ f, aGok wG (afx sc f) → wAl f → zR sc 200 0 1526 [] [(0, zS 5), (1, zP 0), (2, zP 50), (3, zI x3)] 78 5571 zSH f Q) : zR sc 200 0 389 [] [(0, zS 5), (1, zP 0), (2, zP 50), (3, zI x3)] 78 5571 zSH f0 Q := by
  obtain ⟨i0, b0, d0⟩ := id k0
  refine q0_389 (d := 0) ?_
  refine zov_p (by omega) (zix_p (by omega) (zov_p (by omega) (zix_p (by omega) (?_))))
  refine wcallI wS_24_ok (wr (sc.2 ((x3 + (1)).toNat)) (sc.2 ((x3 + (2)).toNat)) (0) (0) (0)) (by decide) rfl rfl (aNm_c ⟨Int.le_refl _, Int.le_refl _⟩ (aNm_c (aF32_ok.2 (hs _)) (aNm_c (aF32_ok.2 (hs _)) (aNm_n)))) rfl (by
      show [(0, zP 0), (1, zI (sc.2 ((x3 + (1)).toNat) + 0)), (2, zI (sc.2 ((x3 + (2)).toNat) + 0))] = _
      simp only [Int.add_zero]) g0 (fun z0 f1 g1 w0 => ?_)
  refine zov_p (by omega) (zix_p (by omega) (zov_p (by omega) (zix_p (by omega) (?_))))
  refine wcallI wS_25_ok (wr (sc.2 ((x3 + (1)).toNat)) (sc.2 ((x3 + (2)).toNat)) (0) (0) (0)) (by decide) rfl rfl (aNm_c ⟨Int.le_refl _, Int.le_refl _⟩ (aNm_c (aF32_ok.2 (hs _)) (aNm_c (aF32_ok.2 (hs _)) (aNm_n)))) rfl (by
      show [(0, zP 50), (1, zI (sc.2 ((x3 + (1)).toNat) + 0)), (2, zI (sc.2 ((x3 + (2)).toNat) + 0))] = _
      simp only [Int.add_zero]) g1 (fun z1 f2 g2 w1 => ?_)
  exact H _ g2 ⟨wI_fr (by decide +kernel) w1 (wI_fr (by decide +kernel) w0 i0), wBt_fr (by decide +kernel) w1 (wBt_fr (by decide +kernel) w0 b0), wD_fr (by decide +kernel) w1 (wD_fr (by decide +kernel) w0 d0)⟩
set_option maxHeartbeats 4000000 in
theorem wc_6 {sc : zC} (hs : ∀ j, zIn (sc.2 j)) (hL : sc.1 ≤ 3072) {x3 : Int} (hx : 0 ≤ x3 ∧ x3 + 6 ≤ (sc.1 : Int)) {f0 : zF} (g0 : aGok wG (afx sc f0)) (k0 : wAl f0) {Q : zQ} (H : ∀ f, aGok wG (afx sc f) → wAl f → zR sc 200 0 1526 [] [(0, zS 5), (1, zP 0), (2, zP 50), (3, zI x3)] 78 5571 zSH f Q) : zR sc 200 0 422 [] [(0, zS 5), (1, zP 0), (2, zP 50), (3, zI x3)] 78 5571 zSH f0 Q := by
  obtain ⟨i0, b0, d0⟩ := id k0
  refine q0_422 (d := 0) ?_
  refine zov_p (by omega) (zix_p (by omega) (?_))
  refine wcallX wS_26_ok (wr (sc.2 ((x3 + (1)).toNat)) (0) (0) (0) (0)) (by decide) rfl rfl (aNm_c ⟨Int.le_refl _, Int.le_refl _⟩ (aNm_c (aF32_ok.2 (hs _)) (aNm_n))) rfl (by
      show [(0, zP 0), (1, zI (sc.2 ((x3 + (1)).toNat) + 0))] = _
      simp only [Int.add_zero]) g0 (jm_6 g0 i0 b0) (fun z0 f1 g1 w0 h0 => ?_)
  refine zov_p (by omega) (zix_p (by omega) (?_))
  refine wcallX wS_27_ok (wr (sc.2 ((x3 + (1)).toNat)) (0) (0) (0) (0)) (by decide) rfl rfl (aNm_c ⟨Int.le_refl _, Int.le_refl _⟩ (aNm_c (aF32_ok.2 (hs _)) (aNm_n))) rfl (by
      show [(0, zP 50), (1, zI (sc.2 ((x3 + (1)).toNat) + 0))] = _
      simp only [Int.add_zero]) g1 h0.2 (fun z1 f2 g2 w1 h1 => ?_)
  exact H _ g2 ⟨h1.1, wBt_fr (by decide +kernel) w1 h0.1, wD_fr (by decide +kernel) w1 (wD_fr (by decide +kernel) w0 d0)⟩
set_option maxHeartbeats 4000000 in
theorem wc_7 {sc : zC} (hs : ∀ j, zIn (sc.2 j)) (hL : sc.1 ≤ 3072) {x3 : Int} (hx : 0 ≤ x3 ∧ x3 + 6 ≤ (sc.1 : Int)) {f0 : zF} (g0 : aGok wG (afx sc f0)) (k0 : wAl f0) {Q : zQ} (H : ∀ f, aGok wG (afx sc f) → wAl f → zR sc 200 0 1526 [] [(0, zS 5), (1, zP 0), (2, zP 50), (3, zI x3)] 78 5571 zSH f Q) : zR sc 200 0 445 [] [(0, zS 5), (1, zP 0), (2, zP 50), (3, zI x3)] 78 5571 zSH f0 Q := by
  obtain ⟨i0, b0, d0⟩ := id k0
  refine q0_445 (d := 0) ?_
  refine wcallX wS_97_ok (wr (0) (0) (0) (0) (0)) (by decide) rfl rfl (aNm_c ⟨Int.le_refl _, Int.le_refl _⟩ (aNm_n)) rfl (by
      show [(0, zP 0)] = _
      simp only [Int.add_zero]) g0 (zJ2_and (jl_7 g0 i0 b0) (jd_7 g0 d0 i0 b0)) (fun z0 f1 g1 w0 h0 => ?_)
  refine wcallX wS_141_ok (wr (0) (0) (0) (0) (0)) (by decide) rfl rfl (aNm_c ⟨Int.le_refl _, Int.le_refl _⟩ (aNm_n)) rfl (by
      show [(0, zP 50)] = _
      simp only [Int.add_zero]) g1 h0 (fun z1 f2 g2 w1 h1 => ?_)
  exact H _ g2 ⟨h1.1.1, wBt_fr (by decide +kernel) w1 (wBt_fr (by decide +kernel) w0 b0), h1.2.1⟩
set_option maxHeartbeats 4000000 in
theorem wc_8 {sc : zC} (hs : ∀ j, zIn (sc.2 j)) (hL : sc.1 ≤ 3072) {x3 : Int} (hx : 0 ≤ x3 ∧ x3 + 6 ≤ (sc.1 : Int)) {f0 : zF} (g0 : aGok wG (afx sc f0)) (k0 : wAl f0) {Q : zQ} (H : ∀ f, aGok wG (afx sc f) → wAl f → zR sc 200 0 1526 [] [(0, zS 5), (1, zP 0), (2, zP 50), (3, zI x3)] 78 5571 zSH f Q) : zR sc 200 0 458 [] [(0, zS 5), (1, zP 0), (2, zP 50), (3, zI x3)] 78 5571 zSH f0 Q := by
  obtain ⟨i0, b0, d0⟩ := id k0
  refine q0_458 (d := 0) ?_
  refine zov_p (by omega) (zix_p (by omega) (zov_p (by omega) (zix_p (by omega) (zov_p (by omega) (zix_p (by omega) (?_))))))
  refine wcallI wS_147_ok (wr (sc.2 ((x3 + (1)).toNat)) (sc.2 ((x3 + (2)).toNat)) (sc.2 ((x3 + (3)).toNat)) (0) (0)) (by decide) rfl rfl (aNm_c ⟨Int.le_refl _, Int.le_refl _⟩ (aNm_c (aF32_ok.2 (hs _)) (aNm_c (aF32_ok.2 (hs _)) (aNm_c (aF32_ok.2 (hs _)) (aNm_n))))) rfl (by
      show [(0, zP 0), (1, zI (sc.2 ((x3 + (1)).toNat) + 0)), (2, zI (sc.2 ((x3 + (2)).toNat) + 0)), (3, zI (sc.2 ((x3 + (3)).toNat) + 0))] = _
      simp only [Int.add_zero]) g0 (fun z0 f1 g1 w0 => ?_)
  refine zov_p (by omega) (zix_p (by omega) (zov_p (by omega) (zix_p (by omega) (zov_p (by omega) (zix_p (by omega) (?_))))))
  refine wcallI wS_152_ok (wr (sc.2 ((x3 + (1)).toNat)) (sc.2 ((x3 + (2)).toNat)) (sc.2 ((x3 + (3)).toNat)) (0) (0)) (by decide) rfl rfl (aNm_c ⟨Int.le_refl _, Int.le_refl _⟩ (aNm_c (aF32_ok.2 (hs _)) (aNm_c (aF32_ok.2 (hs _)) (aNm_c (aF32_ok.2 (hs _)) (aNm_n))))) rfl (by
      show [(0, zP 50), (1, zI (sc.2 ((x3 + (1)).toNat) + 0)), (2, zI (sc.2 ((x3 + (2)).toNat) + 0)), (3, zI (sc.2 ((x3 + (3)).toNat) + 0))] = _
      simp only [Int.add_zero]) g1 (fun z1 f2 g2 w1 => ?_)
  exact H _ g2 ⟨wI_fr (by decide +kernel) w1 (wI_fr (by decide +kernel) w0 i0), wBt_fr (by decide +kernel) w1 (wBt_fr (by decide +kernel) w0 b0), wD_fr (by decide +kernel) w1 (wD_fr (by decide +kernel) w0 d0)⟩
set_option maxHeartbeats 4000000 in
theorem wc_9 {sc : zC} (hs : ∀ j, zIn (sc.2 j)) (hL : sc.1 ≤ 3072) {x3 : Int} (hx : 0 ≤ x3 ∧ x3 + 6 ≤ (sc.1 : Int)) {f0 : zF} (g0 : aGok wG (afx sc f0)) (k0 : wAl f0) {Q : zQ} (H : ∀ f, aGok wG (afx sc f) → wAl f → zR sc 200 0 1526 [] [(0, zS 5), (1, zP 0), (2, zP 50), (3, zI x3)] 78 5571 zSH f Q) : zR sc 200 0 501 [] [(0, zS 5), (1, zP 0), (2, zP 50), (3, zI x3)] 78 5571 zSH f0 Q := by
  obtain ⟨i0, b0, d0⟩ := id k0
  refine q0_501 (d := 0) ?_
  refine zov_p (by omega) (zix_p (by omega) (zov_p (by omega) (zix_p (by omega) (zov_p (by omega) (zix_p (by omega) (?_))))))
  refine wcallI wS_153_ok (wr (sc.2 ((x3 + (1)).toNat)) (sc.2 ((x3 + (2)).toNat)) (sc.2 ((x3 + (3)).toNat)) (0) (0)) (by decide) rfl rfl (aNm_c ⟨Int.le_refl _, Int.le_refl _⟩ (aNm_c (aF32_ok.2 (hs _)) (aNm_c (aF32_ok.2 (hs _)) (aNm_c (aF32_ok.2 (hs _)) (aNm_n))))) rfl (by
      show [(0, zP 0), (1, zI (sc.2 ((x3 + (1)).toNat) + 0)), (2, zI (sc.2 ((x3 + (2)).toNat) + 0)), (3, zI (sc.2 ((x3 + (3)).toNat) + 0))] = _
      simp only [Int.add_zero]) g0 (fun z0 f1 g1 w0 => ?_)
  refine zov_p (by omega) (zix_p (by omega) (zov_p (by omega) (zix_p (by omega) (zov_p (by omega) (zix_p (by omega) (?_))))))
  refine wcallI wS_154_ok (wr (sc.2 ((x3 + (1)).toNat)) (sc.2 ((x3 + (2)).toNat)) (sc.2 ((x3 + (3)).toNat)) (0) (0)) (by decide) rfl rfl (aNm_c ⟨Int.le_refl _, Int.le_refl _⟩ (aNm_c (aF32_ok.2 (hs _)) (aNm_c (aF32_ok.2 (hs _)) (aNm_c (aF32_ok.2 (hs _)) (aNm_n))))) rfl (by
      show [(0, zP 50), (1, zI (sc.2 ((x3 + (1)).toNat) + 0)), (2, zI (sc.2 ((x3 + (2)).toNat) + 0)), (3, zI (sc.2 ((x3 + (3)).toNat) + 0))] = _
      simp only [Int.add_zero]) g1 (fun z1 f2 g2 w1 => ?_)
  exact H _ g2 ⟨wI_fr (by decide +kernel) w1 (wI_fr (by decide +kernel) w0 i0), wBt_fr (by decide +kernel) w1 (wBt_fr (by decide +kernel) w0 b0), wD_fr (by decide +kernel) w1 (wD_fr (by decide +kernel) w0 d0)⟩
set_option maxHeartbeats 4000000 in
theorem wc_10 {sc : zC} (hs : ∀ j, zIn (sc.2 j)) (hL : sc.1 ≤ 3072) {x3 : Int} (hx : 0 ≤ x3 ∧ x3 + 6 ≤ (sc.1 : Int)) {f0 : zF} (g0 : aGok wG (afx sc f0)) (k0 : wAl f0) {Q : zQ} (H : ∀ f, aGok wG (afx sc f) → wAl f → zR sc 200 0 1526 [] [(0, zS 5), (1, zP 0), (2, zP 50), (3, zI x3)] 78 5571 zSH f Q) : zR sc 200 0 544 [] [(0, zS 5), (1, zP 0), (2, zP 50), (3, zI x3)] 78 5571 zSH f0 Q := by
  obtain ⟨i0, b0, d0⟩ := id k0
  refine q0_544 (d := 0) ?_
  refine zov_p (by omega) (zix_p (by omega) (zov_p (by omega) (zix_p (by omega) (?_))))
  by_cases e0_0 : sc.2 ((x3 + (2)).toNat) ≤ (-1 : Int)
  · refine wcallI wS_155_ok (wr (sc.2 ((x3 + (1)).toNat)) (sc.2 ((x3 + (2)).toNat)) (0) (0) (0)) (by decide) rfl rfl (aNm_c ⟨Int.le_refl _, Int.le_refl _⟩ (aNm_c (aF32_ok.2 (hs _)) (aNm_c ⟨(hs _).1, (by show sc.2 ((x3 + (2)).toNat) ≤ (-1 : Int); omega)⟩ (aNm_n)))) rfl (by
      show [(0, zP 0), (1, zI (sc.2 ((x3 + (1)).toNat) + 0)), (2, zI (sc.2 ((x3 + (2)).toNat) + 0))] = _
      simp only [Int.add_zero]) g0 (fun z0 f1 g1 w0 => ?_)
    refine zov_p (by omega) (zix_p (by omega) (zov_p (by omega) (zix_p (by omega) (?_))))
    refine wcallI wS_160_ok (wr (sc.2 ((x3 + (1)).toNat)) (sc.2 ((x3 + (2)).toNat)) (0) (0) (0)) (by decide) rfl rfl (aNm_c ⟨Int.le_refl _, Int.le_refl _⟩ (aNm_c (aF32_ok.2 (hs _)) (aNm_c ⟨(hs _).1, (by show sc.2 ((x3 + (2)).toNat) ≤ (-1 : Int); omega)⟩ (aNm_n)))) rfl (by
      show [(0, zP 50), (1, zI (sc.2 ((x3 + (1)).toNat) + 0)), (2, zI (sc.2 ((x3 + (2)).toNat) + 0))] = _
      simp only [Int.add_zero]) g1 (fun z1 f2 g2 w1 => ?_)
    exact H _ g2 ⟨wI_fr (by decide +kernel) w1 (wI_fr (by decide +kernel) w0 i0), wBt_fr (by decide +kernel) w1 (wBt_fr (by decide +kernel) w0 b0), wD_fr (by decide +kernel) w1 (wD_fr (by decide +kernel) w0 d0)⟩
  by_cases e0_1 : sc.2 ((x3 + (2)).toNat) ≤ (0 : Int)
  · refine wcallI wS_156_ok (wr (sc.2 ((x3 + (1)).toNat)) (sc.2 ((x3 + (2)).toNat)) (0) (0) (0)) (by decide) rfl rfl (aNm_c ⟨Int.le_refl _, Int.le_refl _⟩ (aNm_c (aF32_ok.2 (hs _)) (aNm_c ⟨(by show (0 : Int) ≤ sc.2 ((x3 + (2)).toNat); omega), (by show sc.2 ((x3 + (2)).toNat) ≤ (0 : Int); omega)⟩ (aNm_n)))) rfl (by
      show [(0, zP 0), (1, zI (sc.2 ((x3 + (1)).toNat) + 0)), (2, zI (sc.2 ((x3 + (2)).toNat) + 0))] = _
      simp only [Int.add_zero]) g0 (fun z0 f1 g1 w0 => ?_)
    refine zov_p (by omega) (zix_p (by omega) (zov_p (by omega) (zix_p (by omega) (?_))))
    refine wcallI wS_161_ok (wr (sc.2 ((x3 + (1)).toNat)) (sc.2 ((x3 + (2)).toNat)) (0) (0) (0)) (by decide) rfl rfl (aNm_c ⟨Int.le_refl _, Int.le_refl _⟩ (aNm_c (aF32_ok.2 (hs _)) (aNm_c ⟨(by show (0 : Int) ≤ sc.2 ((x3 + (2)).toNat); omega), (by show sc.2 ((x3 + (2)).toNat) ≤ (0 : Int); omega)⟩ (aNm_n)))) rfl (by
      show [(0, zP 50), (1, zI (sc.2 ((x3 + (1)).toNat) + 0)), (2, zI (sc.2 ((x3 + (2)).toNat) + 0))] = _
      simp only [Int.add_zero]) g1 (fun z1 f2 g2 w1 => ?_)
    exact H _ g2 ⟨wI_fr (by decide +kernel) w1 (wI_fr (by decide +kernel) w0 i0), wBt_fr (by decide +kernel) w1 (wBt_fr (by decide +kernel) w0 b0), wD_fr (by decide +kernel) w1 (wD_fr (by decide +kernel) w0 d0)⟩
  by_cases e0_2 : sc.2 ((x3 + (2)).toNat) ≤ (1 : Int)
  · refine wcallI wS_157_ok (wr (sc.2 ((x3 + (1)).toNat)) (sc.2 ((x3 + (2)).toNat)) (0) (0) (0)) (by decide) rfl rfl (aNm_c ⟨Int.le_refl _, Int.le_refl _⟩ (aNm_c (aF32_ok.2 (hs _)) (aNm_c ⟨(by show (1 : Int) ≤ sc.2 ((x3 + (2)).toNat); omega), (by show sc.2 ((x3 + (2)).toNat) ≤ (1 : Int); omega)⟩ (aNm_n)))) rfl (by
      show [(0, zP 0), (1, zI (sc.2 ((x3 + (1)).toNat) + 0)), (2, zI (sc.2 ((x3 + (2)).toNat) + 0))] = _
      simp only [Int.add_zero]) g0 (fun z0 f1 g1 w0 => ?_)
    refine zov_p (by omega) (zix_p (by omega) (zov_p (by omega) (zix_p (by omega) (?_))))
    refine wcallI wS_162_ok (wr (sc.2 ((x3 + (1)).toNat)) (sc.2 ((x3 + (2)).toNat)) (0) (0) (0)) (by decide) rfl rfl (aNm_c ⟨Int.le_refl _, Int.le_refl _⟩ (aNm_c (aF32_ok.2 (hs _)) (aNm_c ⟨(by show (1 : Int) ≤ sc.2 ((x3 + (2)).toNat); omega), (by show sc.2 ((x3 + (2)).toNat) ≤ (1 : Int); omega)⟩ (aNm_n)))) rfl (by
      show [(0, zP 50), (1, zI (sc.2 ((x3 + (1)).toNat) + 0)), (2, zI (sc.2 ((x3 + (2)).toNat) + 0))] = _
      simp only [Int.add_zero]) g1 (fun z1 f2 g2 w1 => ?_)
    exact H _ g2 ⟨wI_fr (by decide +kernel) w1 (wI_fr (by decide +kernel) w0 i0), wBt_fr (by decide +kernel) w1 (wBt_fr (by decide +kernel) w0 b0), wD_fr (by decide +kernel) w1 (wD_fr (by decide +kernel) w0 d0)⟩
  by_cases e0_3 : sc.2 ((x3 + (2)).toNat) ≤ (2 : Int)
  · refine wcallI wS_158_ok (wr (sc.2 ((x3 + (1)).toNat)) (sc.2 ((x3 + (2)).toNat)) (0) (0) (0)) (by decide) rfl rfl (aNm_c ⟨Int.le_refl _, Int.le_refl _⟩ (aNm_c (aF32_ok.2 (hs _)) (aNm_c ⟨(by show (2 : Int) ≤ sc.2 ((x3 + (2)).toNat); omega), (by show sc.2 ((x3 + (2)).toNat) ≤ (2 : Int); omega)⟩ (aNm_n)))) rfl (by
      show [(0, zP 0), (1, zI (sc.2 ((x3 + (1)).toNat) + 0)), (2, zI (sc.2 ((x3 + (2)).toNat) + 0))] = _
      simp only [Int.add_zero]) g0 (fun z0 f1 g1 w0 => ?_)
    refine zov_p (by omega) (zix_p (by omega) (zov_p (by omega) (zix_p (by omega) (?_))))
    refine wcallI wS_163_ok (wr (sc.2 ((x3 + (1)).toNat)) (sc.2 ((x3 + (2)).toNat)) (0) (0) (0)) (by decide) rfl rfl (aNm_c ⟨Int.le_refl _, Int.le_refl _⟩ (aNm_c (aF32_ok.2 (hs _)) (aNm_c ⟨(by show (2 : Int) ≤ sc.2 ((x3 + (2)).toNat); omega), (by show sc.2 ((x3 + (2)).toNat) ≤ (2 : Int); omega)⟩ (aNm_n)))) rfl (by
      show [(0, zP 50), (1, zI (sc.2 ((x3 + (1)).toNat) + 0)), (2, zI (sc.2 ((x3 + (2)).toNat) + 0))] = _
      simp only [Int.add_zero]) g1 (fun z1 f2 g2 w1 => ?_)
    exact H _ g2 ⟨wI_fr (by decide +kernel) w1 (wI_fr (by decide +kernel) w0 i0), wBt_fr (by decide +kernel) w1 (wBt_fr (by decide +kernel) w0 b0), wD_fr (by decide +kernel) w1 (wD_fr (by decide +kernel) w0 d0)⟩
  refine wcallI wS_159_ok (wr (sc.2 ((x3 + (1)).toNat)) (sc.2 ((x3 + (2)).toNat)) (0) (0) (0)) (by decide) rfl rfl (aNm_c ⟨Int.le_refl _, Int.le_refl _⟩ (aNm_c (aF32_ok.2 (hs _)) (aNm_c ⟨(by show (3 : Int) ≤ sc.2 ((x3 + (2)).toNat); omega), (hs _).2⟩ (aNm_n)))) rfl (by
      show [(0, zP 0), (1, zI (sc.2 ((x3 + (1)).toNat) + 0)), (2, zI (sc.2 ((x3 + (2)).toNat) + 0))] = _
      simp only [Int.add_zero]) g0 (fun z0 f1 g1 w0 => ?_)
  refine zov_p (by omega) (zix_p (by omega) (zov_p (by omega) (zix_p (by omega) (?_))))
  refine wcallI wS_164_ok (wr (sc.2 ((x3 + (1)).toNat)) (sc.2 ((x3 + (2)).toNat)) (0) (0) (0)) (by decide) rfl rfl (aNm_c ⟨Int.le_refl _, Int.le_refl _⟩ (aNm_c (aF32_ok.2 (hs _)) (aNm_c ⟨(by show (3 : Int) ≤ sc.2 ((x3 + (2)).toNat); omega), (hs _).2⟩ (aNm_n)))) rfl (by
      show [(0, zP 50), (1, zI (sc.2 ((x3 + (1)).toNat) + 0)), (2, zI (sc.2 ((x3 + (2)).toNat) + 0))] = _
      simp only [Int.add_zero]) g1 (fun z1 f2 g2 w1 => ?_)
  exact H _ g2 ⟨wI_fr (by decide +kernel) w1 (wI_fr (by decide +kernel) w0 i0), wBt_fr (by decide +kernel) w1 (wBt_fr (by decide +kernel) w0 b0), wD_fr (by decide +kernel) w1 (wD_fr (by decide +kernel) w0 d0)⟩
set_option maxHeartbeats 4000000 in
theorem wc_11 {sc : zC} (hs : ∀ j, zIn (sc.2 j)) (hL : sc.1 ≤ 3072) {x3 : Int} (hx : 0 ≤ x3 ∧ x3 + 6 ≤ (sc.1 : Int)) {f0 : zF} (g0 : aGok wG (afx sc f0)) (k0 : wAl f0) {Q : zQ} (H : ∀ f, aGok wG (afx sc f) → wAl f → zR sc 200 0 1526 [] [(0, zS 5), (1, zP 0), (2, zP 50), (3, zI x3)] 78 5571 zSH f Q) : zR sc 200 0 577 [] [(0, zS 5), (1, zP 0), (2, zP 50), (3, zI x3)] 78 5571 zSH f0 Q := by
  obtain ⟨i0, b0, d0⟩ := id k0
  refine q0_577 (d := 0) ?_
  refine zov_p (by omega) (zix_p (by omega) (?_))
  refine wcallI wS_166_ok (wr (sc.2 ((x3 + (1)).toNat)) (0) (0) (0) (0)) (by decide) rfl rfl (aNm_c ⟨Int.le_refl _, Int.le_refl _⟩ (aNm_c (aF32_ok.2 (hs _)) (aNm_n))) rfl (by
      show [(0, zP 0), (1, zI (sc.2 ((x3 + (1)).toNat) + 0))] = _
      simp only [Int.add_zero]) g0 (fun z0 f1 g1 w0 => ?_)
  refine zov_p (by omega) (zix_p (by omega) (?_))
  refine wcallI wS_168_ok (wr (sc.2 ((x3 + (1)).toNat)) (0) (0) (0) (0)) (by decide) rfl rfl (aNm_c ⟨Int.le_refl _, Int.le_refl _⟩ (aNm_c (aF32_ok.2 (hs _)) (aNm_n))) rfl (by
      show [(0, zP 50), (1, zI (sc.2 ((x3 + (1)).toNat) + 0))] = _
      simp only [Int.add_zero]) g1 (fun z1 f2 g2 w1 => ?_)
  exact H _ g2 ⟨wI_fr (by decide +kernel) w1 (wI_fr (by decide +kernel) w0 i0), wBt_fr (by decide +kernel) w1 (wBt_fr (by decide +kernel) w0 b0), wD_fr (by decide +kernel) w1 (wD_fr (by decide +kernel) w0 d0)⟩
set_option maxHeartbeats 4000000 in
theorem wc_12 {sc : zC} (hs : ∀ j, zIn (sc.2 j)) (hL : sc.1 ≤ 3072) {x3 : Int} (hx : 0 ≤ x3 ∧ x3 + 6 ≤ (sc.1 : Int)) {f0 : zF} (g0 : aGok wG (afx sc f0)) (k0 : wAl f0) {Q : zQ} (H : ∀ f, aGok wG (afx sc f) → wAl f → zR sc 200 0 1526 [] [(0, zS 5), (1, zP 0), (2, zP 50), (3, zI x3)] 78 5571 zSH f Q) : zR sc 200 0 600 [] [(0, zS 5), (1, zP 0), (2, zP 50), (3, zI x3)] 78 5571 zSH f0 Q := by
  obtain ⟨i0, b0, d0⟩ := id k0
  refine q0_600 (d := 0) ?_
  refine zov_p (by omega) (zix_p (by omega) (?_))
  refine wcallX wS_175_ok (wr (sc.2 ((x3 + (1)).toNat)) (0) (0) (0) (0)) (by decide) rfl rfl (aNm_c ⟨Int.le_refl _, Int.le_refl _⟩ (aNm_c (aF32_ok.2 (hs _)) (aNm_n))) rfl (by
      show [(0, zP 0), (1, zI (sc.2 ((x3 + (1)).toNat) + 0))] = _
      simp only [Int.add_zero]) g0 (jq_12 g0 d0) (fun z0 f1 g1 w0 h0 => ?_)
  refine zov_p (by omega) (zix_p (by omega) (?_))
  refine wcallX wH_pack_ok (wr (sc.2 ((x3 + (1)).toNat)) (0) (0) (0) (0)) (by decide) rfl rfl (aNm_c ⟨Int.le_refl _, Int.le_refl _⟩ (aNm_c (aF32_ok.2 (hs _)) (aNm_n))) rfl (by
      show [(0, zP 50), (1, zI (sc.2 ((x3 + (1)).toNat) + 0))] = _
      simp only [Int.add_zero]) g1 h0 (fun z1 f2 g2 w1 h1 => ?_)
  rw [if_pos h1]
  exact H _ g2 ⟨wI_fr (by decide +kernel) w1 (wI_fr (by decide +kernel) w0 i0), wBt_fr (by decide +kernel) w1 (wBt_fr (by decide +kernel) w0 b0), wD_fr (by decide +kernel) w1 (wD_fr (by decide +kernel) w0 d0)⟩
set_option maxHeartbeats 4000000 in
theorem wc_13 {sc : zC} (hs : ∀ j, zIn (sc.2 j)) (hL : sc.1 ≤ 3072) {x3 : Int} (hx : 0 ≤ x3 ∧ x3 + 6 ≤ (sc.1 : Int)) {f0 : zF} (g0 : aGok wG (afx sc f0)) (k0 : wAl f0) {Q : zQ} (H : ∀ f, aGok wG (afx sc f) → wAl f → zR sc 200 0 1526 [] [(0, zS 5), (1, zP 0), (2, zP 50), (3, zI x3)] 78 5571 zSH f Q) : zR sc 200 0 623 [] [(0, zS 5), (1, zP 0), (2, zP 50), (3, zI x3)] 78 5571 zSH f0 Q := by
  obtain ⟨i0, b0, d0⟩ := id k0
  refine q0_623 (d := 0) ?_
  refine wcallI wS_176_ok (wr (0) (0) (0) (0) (0)) (by decide) rfl rfl (aNm_c ⟨Int.le_refl _, Int.le_refl _⟩ (aNm_n)) rfl (by
      show [(0, zP 0)] = _
      simp only [Int.add_zero]) g0 (fun z0 f1 g1 w0 => ?_)
  refine wcallI wS_180_ok (wr (0) (0) (0) (0) (0)) (by decide) rfl rfl (aNm_c ⟨Int.le_refl _, Int.le_refl _⟩ (aNm_n)) rfl (by
      show [(0, zP 50)] = _
      simp only [Int.add_zero]) g1 (fun z1 f2 g2 w1 => ?_)
  exact H _ g2 ⟨wI_fr (by decide +kernel) w1 (wI_fr (by decide +kernel) w0 i0), wBt_fr (by decide +kernel) w1 (wBt_fr (by decide +kernel) w0 b0), wD_fr (by decide +kernel) w1 (wD_fr (by decide +kernel) w0 d0)⟩
set_option maxHeartbeats 4000000 in
theorem wc_14 {sc : zC} (hs : ∀ j, zIn (sc.2 j)) (hL : sc.1 ≤ 3072) {x3 : Int} (hx : 0 ≤ x3 ∧ x3 + 6 ≤ (sc.1 : Int)) {f0 : zF} (g0 : aGok wG (afx sc f0)) (k0 : wAl f0) {Q : zQ} (H : ∀ f, aGok wG (afx sc f) → wAl f → zR sc 200 0 1526 [] [(0, zS 5), (1, zP 0), (2, zP 50), (3, zI x3)] 78 5571 zSH f Q) : zR sc 200 0 636 [] [(0, zS 5), (1, zP 0), (2, zP 50), (3, zI x3)] 78 5571 zSH f0 Q := by
  obtain ⟨i0, b0, d0⟩ := id k0
  refine q0_636 (d := 0) ?_
  refine zov_p (by omega) (zix_p (by omega) (zov_p (by omega) (zix_p (by omega) (zov_p (by omega) (zix_p (by omega) (?_))))))
  refine wcallI wS_182_ok (wr (sc.2 ((x3 + (1)).toNat)) (sc.2 ((x3 + (2)).toNat)) (sc.2 ((x3 + (3)).toNat)) (0) (0)) (by decide) rfl rfl (aNm_c ⟨Int.le_refl _, Int.le_refl _⟩ (aNm_c (aF32_ok.2 (hs _)) (aNm_c (aF32_ok.2 (hs _)) (aNm_c (aF32_ok.2 (hs _)) (aNm_n))))) rfl (by
      show [(0, zP 0), (1, zI (sc.2 ((x3 + (1)).toNat) + 0)), (2, zI (sc.2 ((x3 + (2)).toNat) + 0)), (3, zI (sc.2 ((x3 + (3)).toNat) + 0))] = _
      simp only [Int.add_zero]) g0 (fun z0 f1 g1 w0 => ?_)
  refine zov_p (by omega) (zix_p (by omega) (zov_p (by omega) (zix_p (by omega) (zov_p (by omega) (zix_p (by omega) (?_))))))
  refine wcallI wS_184_ok (wr (sc.2 ((x3 + (1)).toNat)) (sc.2 ((x3 + (2)).toNat)) (sc.2 ((x3 + (3)).toNat)) (0) (0)) (by decide) rfl rfl (aNm_c ⟨Int.le_refl _, Int.le_refl _⟩ (aNm_c (aF32_ok.2 (hs _)) (aNm_c (aF32_ok.2 (hs _)) (aNm_c (aF32_ok.2 (hs _)) (aNm_n))))) rfl (by
      show [(0, zP 50), (1, zI (sc.2 ((x3 + (1)).toNat) + 0)), (2, zI (sc.2 ((x3 + (2)).toNat) + 0)), (3, zI (sc.2 ((x3 + (3)).toNat) + 0))] = _
      simp only [Int.add_zero]) g1 (fun z1 f2 g2 w1 => ?_)
  exact H _ g2 ⟨wI_fr (by decide +kernel) w1 (wI_fr (by decide +kernel) w0 i0), wBt_fr (by decide +kernel) w1 (wBt_fr (by decide +kernel) w0 b0), wD_fr (by decide +kernel) w1 (wD_fr (by decide +kernel) w0 d0)⟩
set_option maxHeartbeats 4000000 in
theorem wc_15 {sc : zC} (hs : ∀ j, zIn (sc.2 j)) (hL : sc.1 ≤ 3072) {x3 : Int} (hx : 0 ≤ x3 ∧ x3 + 6 ≤ (sc.1 : Int)) {f0 : zF} (g0 : aGok wG (afx sc f0)) (k0 : wAl f0) {Q : zQ} (H : ∀ f, aGok wG (afx sc f) → wAl f → zR sc 200 0 1526 [] [(0, zS 5), (1, zP 0), (2, zP 50), (3, zI x3)] 78 5571 zSH f Q) : zR sc 200 0 679 [] [(0, zS 5), (1, zP 0), (2, zP 50), (3, zI x3)] 78 5571 zSH f0 Q := by
  obtain ⟨i0, b0, d0⟩ := id k0
  refine q0_679 (d := 0) ?_
  refine zov_p (by omega) (zix_p (by omega) (?_))
  refine wcallI wS_185_ok (wr (sc.2 ((x3 + (1)).toNat)) (0) (0) (0) (0)) (by decide) rfl rfl (aNm_c ⟨Int.le_refl _, Int.le_refl _⟩ (aNm_c (aF32_ok.2 (hs _)) (aNm_n))) rfl (by
      show [(0, zP 0), (1, zI (sc.2 ((x3 + (1)).toNat) + 0))] = _
      simp only [Int.add_zero]) g0 (fun z0 f1 g1 w0 => ?_)
  refine zov_p (by omega) (zix_p (by omega) (?_))
  refine wcallI wS_186_ok (wr (sc.2 ((x3 + (1)).toNat)) (0) (0) (0) (0)) (by decide) rfl rfl (aNm_c ⟨Int.le_refl _, Int.le_refl _⟩ (aNm_c (aF32_ok.2 (hs _)) (aNm_n))) rfl (by
      show [(0, zP 50), (1, zI (sc.2 ((x3 + (1)).toNat) + 0))] = _
      simp only [Int.add_zero]) g1 (fun z1 f2 g2 w1 => ?_)
  exact H _ g2 ⟨wI_fr (by decide +kernel) w1 (wI_fr (by decide +kernel) w0 i0), wBt_fr (by decide +kernel) w1 (wBt_fr (by decide +kernel) w0 b0), wD_fr (by decide +kernel) w1 (wD_fr (by decide +kernel) w0 d0)⟩
set_option maxHeartbeats 4000000 in
theorem wc_16 {sc : zC} (hs : ∀ j, zIn (sc.2 j)) (hL : sc.1 ≤ 3072) {x3 : Int} (hx : 0 ≤ x3 ∧ x3 + 6 ≤ (sc.1 : Int)) {f0 : zF} (g0 : aGok wG (afx sc f0)) (k0 : wAl f0) {Q : zQ} (H : ∀ f, aGok wG (afx sc f) → wAl f → zR sc 200 0 1526 [] [(0, zS 5), (1, zP 0), (2, zP 50), (3, zI x3)] 78 5571 zSH f Q) : zR sc 200 0 702 [] [(0, zS 5), (1, zP 0), (2, zP 50), (3, zI x3)] 78 5571 zSH f0 Q := by
  obtain ⟨i0, b0, d0⟩ := id k0
  refine q0_702 (d := 0) ?_
  refine zov_p (by omega) (zix_p (by omega) (?_))
  refine wcallI wS_191_ok (wr (sc.2 ((x3 + (1)).toNat)) (0) (0) (0) (0)) (by decide) rfl rfl (aNm_c ⟨Int.le_refl _, Int.le_refl _⟩ (aNm_c (aF32_ok.2 (hs _)) (aNm_n))) rfl (by
      show [(0, zP 0), (1, zI (sc.2 ((x3 + (1)).toNat) + 0))] = _
      simp only [Int.add_zero]) g0 (fun z0 f1 g1 w0 => ?_)
  refine zov_p (by omega) (zix_p (by omega) (?_))
  refine wcallI wS_194_ok (wr (sc.2 ((x3 + (1)).toNat)) (0) (0) (0) (0)) (by decide) rfl rfl (aNm_c ⟨Int.le_refl _, Int.le_refl _⟩ (aNm_c (aF32_ok.2 (hs _)) (aNm_n))) rfl (by
      show [(0, zP 50), (1, zI (sc.2 ((x3 + (1)).toNat) + 0))] = _
      simp only [Int.add_zero]) g1 (fun z1 f2 g2 w1 => ?_)
  exact H _ g2 ⟨wI_fr (by decide +kernel) w1 (wI_fr (by decide +kernel) w0 i0), wBt_fr (by decide +kernel) w1 (wBt_fr (by decide +kernel) w0 b0), wD_fr (by decide +kernel) w1 (wD_fr (by decide +kernel) w0 d0)⟩
set_option maxHeartbeats 4000000 in
theorem wc_17 {sc : zC} (hs : ∀ j, zIn (sc.2 j)) (hL : sc.1 ≤ 3072) {x3 : Int} (hx : 0 ≤ x3 ∧ x3 + 6 ≤ (sc.1 : Int)) {f0 : zF} (g0 : aGok wG (afx sc f0)) (k0 : wAl f0) {Q : zQ} (H : ∀ f, aGok wG (afx sc f) → wAl f → zR sc 200 0 1526 [] [(0, zS 5), (1, zP 0), (2, zP 50), (3, zI x3)] 78 5571 zSH f Q) : zR sc 200 0 725 [] [(0, zS 5), (1, zP 0), (2, zP 50), (3, zI x3)] 78 5571 zSH f0 Q := by
  obtain ⟨i0, b0, d0⟩ := id k0
  refine q0_725 (d := 0) ?_
  refine zov_p (by omega) (zix_p (by omega) (?_))
  refine wcallI wS_196_ok (wr (sc.2 ((x3 + (1)).toNat)) (0) (0) (0) (0)) (by decide) rfl rfl (aNm_c ⟨Int.le_refl _, Int.le_refl _⟩ (aNm_c (aF32_ok.2 (hs _)) (aNm_n))) rfl (by
      show [(0, zP 0), (1, zI (sc.2 ((x3 + (1)).toNat) + 0))] = _
      simp only [Int.add_zero]) g0 (fun z0 f1 g1 w0 => ?_)
  refine zov_p (by omega) (zix_p (by omega) (?_))
  refine wcallI wS_197_ok (wr (sc.2 ((x3 + (1)).toNat)) (0) (0) (0) (0)) (by decide) rfl rfl (aNm_c ⟨Int.le_refl _, Int.le_refl _⟩ (aNm_c (aF32_ok.2 (hs _)) (aNm_n))) rfl (by
      show [(0, zP 50), (1, zI (sc.2 ((x3 + (1)).toNat) + 0))] = _
      simp only [Int.add_zero]) g1 (fun z1 f2 g2 w1 => ?_)
  exact H _ g2 ⟨wI_fr (by decide +kernel) w1 (wI_fr (by decide +kernel) w0 i0), wBt_fr (by decide +kernel) w1 (wBt_fr (by decide +kernel) w0 b0), wD_fr (by decide +kernel) w1 (wD_fr (by decide +kernel) w0 d0)⟩
set_option maxHeartbeats 4000000 in
theorem wc_18 {sc : zC} (hs : ∀ j, zIn (sc.2 j)) (hL : sc.1 ≤ 3072) {x3 : Int} (hx : 0 ≤ x3 ∧ x3 + 6 ≤ (sc.1 : Int)) {f0 : zF} (g0 : aGok wG (afx sc f0)) (k0 : wAl f0) {Q : zQ} (H : ∀ f, aGok wG (afx sc f) → wAl f → zR sc 200 0 1526 [] [(0, zS 5), (1, zP 0), (2, zP 50), (3, zI x3)] 78 5571 zSH f Q) : zR sc 200 0 748 [] [(0, zS 5), (1, zP 0), (2, zP 50), (3, zI x3)] 78 5571 zSH f0 Q := by
  obtain ⟨i0, b0, d0⟩ := id k0
  refine q0_748 (d := 0) ?_
  refine zov_p (by omega) (zix_p (by omega) (?_))
  refine wcallI wS_207_ok (wr (sc.2 ((x3 + (1)).toNat)) (0) (0) (0) (0)) (by decide) rfl rfl (aNm_c ⟨Int.le_refl _, Int.le_refl _⟩ (aNm_c (aF32_ok.2 (hs _)) (aNm_n))) rfl (by
      show [(0, zP 0), (1, zI (sc.2 ((x3 + (1)).toNat) + 0))] = _
      simp only [Int.add_zero]) g0 (fun z0 f1 g1 w0 => ?_)
  refine zov_p (by omega) (zix_p (by omega) (?_))
  refine wcallI wS_244_ok (wr (sc.2 ((x3 + (1)).toNat)) (0) (0) (0) (0)) (by decide) rfl rfl (aNm_c ⟨Int.le_refl _, Int.le_refl _⟩ (aNm_c (aF32_ok.2 (hs _)) (aNm_n))) rfl (by
      show [(0, zP 50), (1, zI (sc.2 ((x3 + (1)).toNat) + 0))] = _
      simp only [Int.add_zero]) g1 (fun z1 f2 g2 w1 => ?_)
  exact H _ g2 ⟨wI_fr (by decide +kernel) w1 (wI_fr (by decide +kernel) w0 i0), wBt_fr (by decide +kernel) w1 (wBt_fr (by decide +kernel) w0 b0), wD_fr (by decide +kernel) w1 (wD_fr (by decide +kernel) w0 d0)⟩
set_option maxHeartbeats 4000000 in
theorem wc_19 {sc : zC} (hs : ∀ j, zIn (sc.2 j)) (hL : sc.1 ≤ 3072) {x3 : Int} (hx : 0 ≤ x3 ∧ x3 + 6 ≤ (sc.1 : Int)) {f0 : zF} (g0 : aGok wG (afx sc f0)) (k0 : wAl f0) {Q : zQ} (H : ∀ f, aGok wG (afx sc f) → wAl f → zR sc 200 0 1526 [] [(0, zS 5), (1, zP 0), (2, zP 50), (3, zI x3)] 78 5571 zSH f Q) : zR sc 200 0 771 [] [(0, zS 5), (1, zP 0), (2, zP 50), (3, zI x3)] 78 5571 zSH f0 Q := by
  obtain ⟨i0, b0, d0⟩ := id k0
  refine q0_771 (d := 0) ?_
  refine zov_p (by omega) (zix_p (by omega) (zov_p (by omega) (zix_p (by omega) (?_))))
  refine wcallI wS_248_ok (wr (sc.2 ((x3 + (1)).toNat)) (sc.2 ((x3 + (2)).toNat)) (0) (0) (0)) (by decide) rfl rfl (aNm_c ⟨Int.le_refl _, Int.le_refl _⟩ (aNm_c (aF32_ok.2 (hs _)) (aNm_c (aF32_ok.2 (hs _)) (aNm_n)))) rfl (by
      show [(0, zP 0), (1, zI (sc.2 ((x3 + (1)).toNat) + 0)), (2, zI (sc.2 ((x3 + (2)).toNat) + 0))] = _
      simp only [Int.add_zero]) g0 (fun z0 f1 g1 w0 => ?_)
  refine zov_p (by omega) (zix_p (by omega) (zov_p (by omega) (zix_p (by omega) (?_))))
  refine wcallI wS_251_ok (wr (sc.2 ((x3 + (1)).toNat)) (sc.2 ((x3 + (2)).toNat)) (0) (0) (0)) (by decide) rfl rfl (aNm_c ⟨Int.le_refl _, Int.le_refl _⟩ (aNm_c (aF32_ok.2 (hs _)) (aNm_c (aF32_ok.2 (hs _)) (aNm_n)))) rfl (by
      show [(0, zP 50), (1, zI (sc.2 ((x3 + (1)).toNat) + 0)), (2, zI (sc.2 ((x3 + (2)).toNat) + 0))] = _
      simp only [Int.add_zero]) g1 (fun z1 f2 g2 w1 => ?_)
  exact H _ g2 ⟨wI_fr (by decide +kernel) w1 (wI_fr (by decide +kernel) w0 i0), wBt_fr (by decide +kernel) w1 (wBt_fr (by decide +kernel) w0 b0), wD_fr (by decide +kernel) w1 (wD_fr (by decide +kernel) w0 d0)⟩
set_option maxHeartbeats 4000000 in
theorem wc_20 {sc : zC} (hs : ∀ j, zIn (sc.2 j)) (hL : sc.1 ≤ 3072) {x3 : Int} (hx : 0 ≤ x3 ∧ x3 + 6 ≤ (sc.1 : Int)) {f0 : zF} (g0 : aGok wG (afx sc f0)) (k0 : wAl f0) {Q : zQ} (H : ∀ f, aGok wG (afx sc f) → wAl f → zR sc 200 0 1526 [] [(0, zS 5), (1, zP 0), (2, zP 50), (3, zI x3)] 78 5571 zSH f Q) : zR sc 200 0 804 [] [(0, zS 5), (1, zP 0), (2, zP 50), (3, zI x3)] 78 5571 zSH f0 Q := by
  obtain ⟨i0, b0, d0⟩ := id k0
  refine q0_804 (d := 0) ?_
  refine zov_p (by omega) (zix_p (by omega) (zov_p (by omega) (zix_p (by omega) (?_))))
  refine wcallI wS_252_ok (wr (sc.2 ((x3 + (1)).toNat)) (sc.2 ((x3 + (2)).toNat)) (0) (0) (0)) (by decide) rfl rfl (aNm_c ⟨Int.le_refl _, Int.le_refl _⟩ (aNm_c (aF32_ok.2 (hs _)) (aNm_c (aF32_ok.2 (hs _)) (aNm_n)))) rfl (by
      show [(0, zP 0), (1, zI (sc.2 ((x3 + (1)).toNat) + 0)), (2, zI (sc.2 ((x3 + (2)).toNat) + 0))] = _
      simp only [Int.add_zero]) g0 (fun z0 f1 g1 w0 => ?_)
  refine zov_p (by omega) (zix_p (by omega) (zov_p (by omega) (zix_p (by omega) (?_))))
  refine wcallI wS_253_ok (wr (sc.2 ((x3 + (1)).toNat)) (sc.2 ((x3 + (2)).toNat)) (0) (0) (0)) (by decide) rfl rfl (aNm_c ⟨Int.le_refl _, Int.le_refl _⟩ (aNm_c (aF32_ok.2 (hs _)) (aNm_c (aF32_ok.2 (hs _)) (aNm_n)))) rfl (by
      show [(0, zP 50), (1, zI (sc.2 ((x3 + (1)).toNat) + 0)), (2, zI (sc.2 ((x3 + (2)).toNat) + 0))] = _
      simp only [Int.add_zero]) g1 (fun z1 f2 g2 w1 => ?_)
  exact H _ g2 ⟨wI_fr (by decide +kernel) w1 (wI_fr (by decide +kernel) w0 i0), wBt_fr (by decide +kernel) w1 (wBt_fr (by decide +kernel) w0 b0), wD_fr (by decide +kernel) w1 (wD_fr (by decide +kernel) w0 d0)⟩
set_option maxHeartbeats 4000000 in
theorem wc_21 {sc : zC} (hs : ∀ j, zIn (sc.2 j)) (hL : sc.1 ≤ 3072) {x3 : Int} (hx : 0 ≤ x3 ∧ x3 + 6 ≤ (sc.1 : Int)) {f0 : zF} (g0 : aGok wG (afx sc f0)) (k0 : wAl f0) {Q : zQ} (H : ∀ f, aGok wG (afx sc f) → wAl f → zR sc 200 0 1526 [] [(0, zS 5), (1, zP 0), (2, zP 50), (3, zI x3)] 78 5571 zSH f Q) : zR sc 200 0 837 [] [(0, zS 5), (1, zP 0), (2, zP 50), (3, zI x3)] 78 5571 zSH f0 Q := by
  obtain ⟨i0, b0, d0⟩ := id k0
  refine q0_837 (d := 0) ?_
  refine zov_p (by omega) (zix_p (by omega) (zov_p (by omega) (zix_p (by omega) (?_))))
  refine wcallI wS_256_ok (wr (sc.2 ((x3 + (1)).toNat)) (sc.2 ((x3 + (2)).toNat)) (0) (0) (0)) (by decide) rfl rfl (aNm_c ⟨Int.le_refl _, Int.le_refl _⟩ (aNm_c (aF32_ok.2 (hs _)) (aNm_c (aF32_ok.2 (hs _)) (aNm_n)))) rfl (by
      show [(0, zP 0), (1, zI (sc.2 ((x3 + (1)).toNat) + 0)), (2, zI (sc.2 ((x3 + (2)).toNat) + 0))] = _
      simp only [Int.add_zero]) g0 (fun z0 f1 g1 w0 => ?_)
  refine zov_p (by omega) (zix_p (by omega) (zov_p (by omega) (zix_p (by omega) (?_))))
  refine wcallI wS_258_ok (wr (sc.2 ((x3 + (1)).toNat)) (sc.2 ((x3 + (2)).toNat)) (0) (0) (0)) (by decide) rfl rfl (aNm_c ⟨Int.le_refl _, Int.le_refl _⟩ (aNm_c (aF32_ok.2 (hs _)) (aNm_c (aF32_ok.2 (hs _)) (aNm_n)))) rfl (by
      show [(0, zP 50), (1, zI (sc.2 ((x3 + (1)).toNat) + 0)), (2, zI (sc.2 ((x3 + (2)).toNat) + 0))] = _
      simp only [Int.add_zero]) g1 (fun z1 f2 g2 w1 => ?_)
  exact H _ g2 ⟨wI_fr (by decide +kernel) w1 (wI_fr (by decide +kernel) w0 i0), wBt_fr (by decide +kernel) w1 (wBt_fr (by decide +kernel) w0 b0), wD_fr (by decide +kernel) w1 (wD_fr (by decide +kernel) w0 d0)⟩
set_option maxHeartbeats 4000000 in
theorem wc_22 {sc : zC} (hs : ∀ j, zIn (sc.2 j)) (hL : sc.1 ≤ 3072) {x3 : Int} (hx : 0 ≤ x3 ∧ x3 + 6 ≤ (sc.1 : Int)) {f0 : zF} (g0 : aGok wG (afx sc f0)) (k0 : wAl f0) {Q : zQ} (H : ∀ f, aGok wG (afx sc f) → wAl f → zR sc 200 0 1526 [] [(0, zS 5), (1, zP 0), (2, zP 50), (3, zI x3)] 78 5571 zSH f Q) : zR sc 200 0 870 [] [(0, zS 5), (1, zP 0), (2, zP 50), (3, zI x3)] 78 5571 zSH f0 Q := by
  obtain ⟨i0, b0, d0⟩ := id k0
  refine q0_870 (d := 0) ?_
  refine wcallI wS_259_ok (wr (0) (0) (0) (0) (0)) (by decide) rfl rfl (aNm_c ⟨Int.le_refl _, Int.le_refl _⟩ (aNm_n)) rfl (by
      show [(0, zP 0)] = _
      simp only [Int.add_zero]) g0 (fun z0 f1 g1 w0 => ?_)
  refine wcallI wS_260_ok (wr (0) (0) (0) (0) (0)) (by decide) rfl rfl (aNm_c ⟨Int.le_refl _, Int.le_refl _⟩ (aNm_n)) rfl (by
      show [(0, zP 50)] = _
      simp only [Int.add_zero]) g1 (fun z1 f2 g2 w1 => ?_)
  exact H _ g2 ⟨wI_fr (by decide +kernel) w1 (wI_fr (by decide +kernel) w0 i0), wBt_fr (by decide +kernel) w1 (wBt_fr (by decide +kernel) w0 b0), wD_fr (by decide +kernel) w1 (wD_fr (by decide +kernel) w0 d0)⟩
set_option maxHeartbeats 4000000 in
theorem wc_23 {sc : zC} (hs : ∀ j, zIn (sc.2 j)) (hL : sc.1 ≤ 3072) {x3 : Int} (hx : 0 ≤ x3 ∧ x3 + 6 ≤ (sc.1 : Int)) {f0 : zF} (g0 : aGok wG (afx sc f0)) (k0 : wAl f0) {Q : zQ} (H : ∀ f, aGok wG (afx sc f) → wAl f → zR sc 200 0 1526 [] [(0, zS 5), (1, zP 0), (2, zP 50), (3, zI x3)] 78 5571 zSH f Q) : zR sc 200 0 883 [] [(0, zS 5), (1, zP 0), (2, zP 50), (3, zI x3)] 78 5571 zSH f0 Q := by
  obtain ⟨i0, b0, d0⟩ := id k0
  refine q0_883 (d := 0) ?_
  refine zov_p (by omega) (zix_p (by omega) (zov_p (by omega) (zix_p (by omega) (zov_p (by omega) (zix_p (by omega) (?_))))))
  refine wcallI wS_272_ok (wr (sc.2 ((x3 + (1)).toNat)) (sc.2 ((x3 + (2)).toNat)) (sc.2 ((x3 + (3)).toNat)) (0) (0)) (by decide) rfl rfl (aNm_c ⟨Int.le_refl _, Int.le_refl _⟩ (aNm_c (aF32_ok.2 (hs _)) (aNm_c (aF32_ok.2 (hs _)) (aNm_c (aF32_ok.2 (hs _)) (aNm_n))))) rfl (by
      show [(0, zP 0), (1, zI (sc.2 ((x3 + (1)).toNat) + 0)), (2, zI (sc.2 ((x3 + (2)).toNat) + 0)), (3, zI (sc.2 ((x3 + (3)).toNat) + 0))] = _
      simp only [Int.add_zero]) g0 (fun z0 f1 g1 w0 => ?_)
  refine zov_p (by omega) (zix_p (by omega) (zov_p (by omega) (zix_p (by omega) (zov_p (by omega) (zix_p (by omega) (?_))))))
  refine wcallI wS_279_ok (wr (sc.2 ((x3 + (1)).toNat)) (sc.2 ((x3 + (2)).toNat)) (sc.2 ((x3 + (3)).toNat)) (0) (0)) (by decide) rfl rfl (aNm_c ⟨Int.le_refl _, Int.le_refl _⟩ (aNm_c (aF32_ok.2 (hs _)) (aNm_c (aF32_ok.2 (hs _)) (aNm_c (aF32_ok.2 (hs _)) (aNm_n))))) rfl (by
      show [(0, zP 50), (1, zI (sc.2 ((x3 + (1)).toNat) + 0)), (2, zI (sc.2 ((x3 + (2)).toNat) + 0)), (3, zI (sc.2 ((x3 + (3)).toNat) + 0))] = _
      simp only [Int.add_zero]) g1 (fun z1 f2 g2 w1 => ?_)
  exact H _ g2 ⟨wI_fr (by decide +kernel) w1 (wI_fr (by decide +kernel) w0 i0), wBt_fr (by decide +kernel) w1 (wBt_fr (by decide +kernel) w0 b0), wD_fr (by decide +kernel) w1 (wD_fr (by decide +kernel) w0 d0)⟩
set_option maxHeartbeats 4000000 in
theorem wc_24 {sc : zC} (hs : ∀ j, zIn (sc.2 j)) (hL : sc.1 ≤ 3072) {x3 : Int} (hx : 0 ≤ x3 ∧ x3 + 6 ≤ (sc.1 : Int)) {f0 : zF} (g0 : aGok wG (afx sc f0)) (k0 : wAl f0) {Q : zQ} (H : ∀ f, aGok wG (afx sc f) → wAl f → zR sc 200 0 1526 [] [(0, zS 5), (1, zP 0), (2, zP 50), (3, zI x3)] 78 5571 zSH f Q) : zR sc 200 0 926 [] [(0, zS 5), (1, zP 0), (2, zP 50), (3, zI x3)] 78 5571 zSH f0 Q := by
  obtain ⟨i0, b0, d0⟩ := id k0
  refine q0_926 (d := 0) ?_
  refine zov_p (by omega) (zix_p (by omega) (zov_p (by omega) (zix_p (by omega) (zov_p (by omega) (zix_p (by omega) (?_))))))
  refine wcallI wS_283_ok (wr (sc.2 ((x3 + (1)).toNat)) (sc.2 ((x3 + (2)).toNat)) (sc.2 ((x3 + (3)).toNat)) (0) (0)) (by decide) rfl rfl (aNm_c ⟨Int.le_refl _, Int.le_refl _⟩ (aNm_c (aF32_ok.2 (hs _)) (aNm_c (aF32_ok.2 (hs _)) (aNm_c (aF32_ok.2 (hs _)) (aNm_n))))) rfl (by
      show [(0, zP 0), (1, zI (sc.2 ((x3 + (1)).toNat) + 0)), (2, zI (sc.2 ((x3 + (2)).toNat) + 0)), (3, zI (sc.2 ((x3 + (3)).toNat) + 0))] = _
      simp only [Int.add_zero]) g0 (fun z0 f1 g1 w0 => ?_)
  refine zov_p (by omega) (zix_p (by omega) (zov_p (by omega) (zix_p (by omega) (zov_p (by omega) (zix_p (by omega) (?_))))))
  refine wcallI wS_284_ok (wr (sc.2 ((x3 + (1)).toNat)) (sc.2 ((x3 + (2)).toNat)) (sc.2 ((x3 + (3)).toNat)) (0) (0)) (by decide) rfl rfl (aNm_c ⟨Int.le_refl _, Int.le_refl _⟩ (aNm_c (aF32_ok.2 (hs _)) (aNm_c (aF32_ok.2 (hs _)) (aNm_c (aF32_ok.2 (hs _)) (aNm_n))))) rfl (by
      show [(0, zP 50), (1, zI (sc.2 ((x3 + (1)).toNat) + 0)), (2, zI (sc.2 ((x3 + (2)).toNat) + 0)), (3, zI (sc.2 ((x3 + (3)).toNat) + 0))] = _
      simp only [Int.add_zero]) g1 (fun z1 f2 g2 w1 => ?_)
  exact H _ g2 ⟨wI_fr (by decide +kernel) w1 (wI_fr (by decide +kernel) w0 i0), wBt_fr (by decide +kernel) w1 (wBt_fr (by decide +kernel) w0 b0), wD_fr (by decide +kernel) w1 (wD_fr (by decide +kernel) w0 d0)⟩
set_option maxHeartbeats 4000000 in
theorem wc_25 {sc : zC} (hs : ∀ j, zIn (sc.2 j)) (hL : sc.1 ≤ 3072) {x3 : Int} (hx : 0 ≤ x3 ∧ x3 + 6 ≤ (sc.1 : Int)) {f0 : zF} (g0 : aGok wG (afx sc f0)) (k0 : wAl f0) {Q : zQ} (H : ∀ f, aGok wG (afx sc f) → wAl f → zR sc 200 0 1526 [] [(0, zS 5), (1, zP 0), (2, zP 50), (3, zI x3)] 78 5571 zSH f Q) : zR sc 200 0 969 [] [(0, zS 5), (1, zP 0), (2, zP 50), (3, zI x3)] 78 5571 zSH f0 Q := by
  obtain ⟨i0, b0, d0⟩ := id k0
  refine q0_969 (d := 0) ?_
  refine wcallX wS_289_ok (wr (0) (0) (0) (0) (0)) (by decide) rfl rfl (aNm_c ⟨Int.le_refl _, Int.le_refl _⟩ (aNm_n)) rfl (by
      show [(0, zP 0)] = _
      simp only [Int.add_zero]) g0 (jd_25 g0 d0) (fun z0 f1 g1 w0 h0 => ?_)
  refine wcallX wS_290_ok (wr (0) (0) (0) (0) (0)) (by decide) rfl rfl (aNm_c ⟨Int.le_refl _, Int.le_refl _⟩ (aNm_n)) rfl (by
      show [(0, zP 50)] = _
      simp only [Int.add_zero]) g1 h0 (fun z1 f2 g2 w1 h1 => ?_)
  exact H _ g2 ⟨wI_fr (by decide +kernel) w1 (wI_fr (by decide +kernel) w0 i0), wBt_fr (by decide +kernel) w1 (wBt_fr (by decide +kernel) w0 b0), h1.1⟩
set_option maxHeartbeats 4000000 in
theorem wc_26 {sc : zC} (hs : ∀ j, zIn (sc.2 j)) (hL : sc.1 ≤ 3072) {x3 : Int} (hx : 0 ≤ x3 ∧ x3 + 6 ≤ (sc.1 : Int)) {f0 : zF} (g0 : aGok wG (afx sc f0)) (k0 : wAl f0) {Q : zQ} (H : ∀ f, aGok wG (afx sc f) → wAl f → zR sc 200 0 1526 [] [(0, zS 5), (1, zP 0), (2, zP 50), (3, zI x3)] 78 5571 zSH f Q) : zR sc 200 0 982 [] [(0, zS 5), (1, zP 0), (2, zP 50), (3, zI x3)] 78 5571 zSH f0 Q := by
  obtain ⟨i0, b0, d0⟩ := id k0
  refine q0_982 (d := 0) ?_
  refine zov_p (by omega) (zix_p (by omega) (zov_p (by omega) (zix_p (by omega) (?_))))
  refine wcallX wS_291_ok (wr (sc.2 ((x3 + (1)).toNat)) (sc.2 ((x3 + (2)).toNat)) (0) (0) (0)) (by decide) rfl rfl (aNm_c ⟨Int.le_refl _, Int.le_refl _⟩ (aNm_c (aF32_ok.2 (hs _)) (aNm_c (aF32_ok.2 (hs _)) (aNm_n)))) rfl (by
      show [(0, zP 0), (1, zI (sc.2 ((x3 + (1)).toNat) + 0)), (2, zI (sc.2 ((x3 + (2)).toNat) + 0))] = _
      simp only [Int.add_zero]) g0 (jd_26 g0 d0) (fun z0 f1 g1 w0 h0 => ?_)
  refine zov_p (by omega) (zix_p (by omega) (zov_p (by omega) (zix_p (by omega) (?_))))
  refine wcallX wS_292_ok (wr (sc.2 ((x3 + (1)).toNat)) (sc.2 ((x3 + (2)).toNat)) (0) (0) (0)) (by decide) rfl rfl (aNm_c ⟨Int.le_refl _, Int.le_refl _⟩ (aNm_c (aF32_ok.2 (hs _)) (aNm_c (aF32_ok.2 (hs _)) (aNm_n)))) rfl (by
      show [(0, zP 50), (1, zI (sc.2 ((x3 + (1)).toNat) + 0)), (2, zI (sc.2 ((x3 + (2)).toNat) + 0))] = _
      simp only [Int.add_zero]) g1 h0 (fun z1 f2 g2 w1 h1 => ?_)
  exact H _ g2 ⟨wI_fr (by decide +kernel) w1 (wI_fr (by decide +kernel) w0 i0), wBt_fr (by decide +kernel) w1 (wBt_fr (by decide +kernel) w0 b0), h1.1⟩
set_option maxHeartbeats 4000000 in
theorem wc_27 {sc : zC} (hs : ∀ j, zIn (sc.2 j)) (hL : sc.1 ≤ 3072) {x3 : Int} (hx : 0 ≤ x3 ∧ x3 + 6 ≤ (sc.1 : Int)) {f0 : zF} (g0 : aGok wG (afx sc f0)) (k0 : wAl f0) {Q : zQ} (H : ∀ f, aGok wG (afx sc f) → wAl f → zR sc 200 0 1526 [] [(0, zS 5), (1, zP 0), (2, zP 50), (3, zI x3)] 78 5571 zSH f Q) : zR sc 200 0 1015 [] [(0, zS 5), (1, zP 0), (2, zP 50), (3, zI x3)] 78 5571 zSH f0 Q := by
  obtain ⟨i0, b0, d0⟩ := id k0
  refine q0_1015 (d := 0) ?_
  refine zov_p (by omega) (zix_p (by omega) (?_))
  refine wcallX wS_293_ok (wr (sc.2 ((x3 + (1)).toNat)) (0) (0) (0) (0)) (by decide) rfl rfl (aNm_c ⟨Int.le_refl _, Int.le_refl _⟩ (aNm_c (aF32_ok.2 (hs _)) (aNm_n))) rfl (by
      show [(0, zP 0), (1, zI (sc.2 ((x3 + (1)).toNat) + 0))] = _
      simp only [Int.add_zero]) g0 (jd_27 g0 d0) (fun z0 f1 g1 w0 h0 => ?_)
  refine zov_p (by omega) (zix_p (by omega) (?_))
  refine wcallX wS_294_ok (wr (sc.2 ((x3 + (1)).toNat)) (0) (0) (0) (0)) (by decide) rfl rfl (aNm_c ⟨Int.le_refl _, Int.le_refl _⟩ (aNm_c (aF32_ok.2 (hs _)) (aNm_n))) rfl (by
      show [(0, zP 50), (1, zI (sc.2 ((x3 + (1)).toNat) + 0))] = _
      simp only [Int.add_zero]) g1 h0 (fun z1 f2 g2 w1 h1 => ?_)
  exact H _ g2 ⟨wI_fr (by decide +kernel) w1 (wI_fr (by decide +kernel) w0 i0), wBt_fr (by decide +kernel) w1 (wBt_fr (by decide +kernel) w0 b0), h1.1⟩
set_option maxHeartbeats 4000000 in
theorem wc_28 {sc : zC} (hs : ∀ j, zIn (sc.2 j)) (hL : sc.1 ≤ 3072) {x3 : Int} (hx : 0 ≤ x3 ∧ x3 + 6 ≤ (sc.1 : Int)) {f0 : zF} (g0 : aGok wG (afx sc f0)) (k0 : wAl f0) {Q : zQ} (H : ∀ f, aGok wG (afx sc f) → wAl f → zR sc 200 0 1526 [] [(0, zS 5), (1, zP 0), (2, zP 50), (3, zI x3)] 78 5571 zSH f Q) : zR sc 200 0 1038 [] [(0, zS 5), (1, zP 0), (2, zP 50), (3, zI x3)] 78 5571 zSH f0 Q := by
  obtain ⟨i0, b0, d0⟩ := id k0
  refine q0_1038 (d := 0) ?_
  refine zov_p (by omega) (zix_p (by omega) (?_))
  refine wcallX wS_295_ok (wr (sc.2 ((x3 + (1)).toNat)) (0) (0) (0) (0)) (by decide) rfl rfl (aNm_c ⟨Int.le_refl _, Int.le_refl _⟩ (aNm_c (aF32_ok.2 (hs _)) (aNm_n))) rfl (by
      show [(0, zP 0), (1, zI (sc.2 ((x3 + (1)).toNat) + 0))] = _
      simp only [Int.add_zero]) g0 (jd_28 g0 d0) (fun z0 f1 g1 w0 h0 => ?_)
  refine zov_p (by omega) (zix_p (by omega) (?_))
  refine wcallX wS_296_ok (wr (sc.2 ((x3 + (1)).toNat)) (0) (0) (0) (0)) (by decide) rfl rfl (aNm_c ⟨Int.le_refl _, Int.le_refl _⟩ (aNm_c (aF32_ok.2 (hs _)) (aNm_n))) rfl (by
      show [(0, zP 50), (1, zI (sc.2 ((x3 + (1)).toNat) + 0))] = _
      simp only [Int.add_zero]) g1 h0 (fun z1 f2 g2 w1 h1 => ?_)
  exact H _ g2 ⟨wI_fr (by decide +kernel) w1 (wI_fr (by decide +kernel) w0 i0), wBt_fr (by decide +kernel) w1 (wBt_fr (by decide +kernel) w0 b0), h1.1⟩
set_option maxHeartbeats 4000000 in
theorem wc_29 {sc : zC} (hs : ∀ j, zIn (sc.2 j)) (hL : sc.1 ≤ 3072) {x3 : Int} (hx : 0 ≤ x3 ∧ x3 + 6 ≤ (sc.1 : Int)) {f0 : zF} (g0 : aGok wG (afx sc f0)) (k0 : wAl f0) {Q : zQ} (H : ∀ f, aGok wG (afx sc f) → wAl f → zR sc 200 0 1526 [] [(0, zS 5), (1, zP 0), (2, zP 50), (3, zI x3)] 78 5571 zSH f Q) : zR sc 200 0 1061 [] [(0, zS 5), (1, zP 0), (2, zP 50), (3, zI x3)] 78 5571 zSH f0 Q := by
  obtain ⟨i0, b0, d0⟩ := id k0
  refine q0_1061 (d := 0) ?_
  refine zov_p (by omega) (zix_p (by omega) (?_))
  refine wcallI wS_297_ok (wr (sc.2 ((x3 + (1)).toNat)) (0) (0) (0) (0)) (by decide) rfl rfl (aNm_c ⟨Int.le_refl _, Int.le_refl _⟩ (aNm_c (aF32_ok.2 (hs _)) (aNm_n))) rfl (by
      show [(0, zP 0), (1, zI (sc.2 ((x3 + (1)).toNat) + 0))] = _
      simp only [Int.add_zero]) g0 (fun z0 f1 g1 w0 => ?_)
  refine zov_p (by omega) (zix_p (by omega) (?_))
  refine wcallI wS_298_ok (wr (sc.2 ((x3 + (1)).toNat)) (0) (0) (0) (0)) (by decide) rfl rfl (aNm_c ⟨Int.le_refl _, Int.le_refl _⟩ (aNm_c (aF32_ok.2 (hs _)) (aNm_n))) rfl (by
      show [(0, zP 50), (1, zI (sc.2 ((x3 + (1)).toNat) + 0))] = _
      simp only [Int.add_zero]) g1 (fun z1 f2 g2 w1 => ?_)
  exact H _ g2 ⟨wI_fr (by decide +kernel) w1 (wI_fr (by decide +kernel) w0 i0), wBt_fr (by decide +kernel) w1 (wBt_fr (by decide +kernel) w0 b0), wD_fr (by decide +kernel) w1 (wD_fr (by decide +kernel) w0 d0)⟩
set_option maxHeartbeats 4000000 in
theorem wc_30 {sc : zC} (hs : ∀ j, zIn (sc.2 j)) (hL : sc.1 ≤ 3072) {x3 : Int} (hx : 0 ≤ x3 ∧ x3 + 6 ≤ (sc.1 : Int)) {f0 : zF} (g0 : aGok wG (afx sc f0)) (k0 : wAl f0) {Q : zQ} (H : ∀ f, aGok wG (afx sc f) → wAl f → zR sc 200 0 1526 [] [(0, zS 5), (1, zP 0), (2, zP 50), (3, zI x3)] 78 5571 zSH f Q) : zR sc 200 0 1084 [] [(0, zS 5), (1, zP 0), (2, zP 50), (3, zI x3)] 78 5571 zSH f0 Q := by
  obtain ⟨i0, b0, d0⟩ := id k0
  refine q0_1084 (d := 0) ?_
  refine wcallX wS_299_ok (wr (0) (0) (0) (0) (0)) (by decide) rfl rfl (aNm_c ⟨Int.le_refl _, Int.le_refl _⟩ (aNm_n)) rfl (by
      show [(0, zP 0)] = _
      simp only [Int.add_zero]) g0 (jd_30 g0 d0) (fun z0 f1 g1 w0 h0 => ?_)
  refine wcallX wS_300_ok (wr (0) (0) (0) (0) (0)) (by decide) rfl rfl (aNm_c ⟨Int.le_refl _, Int.le_refl _⟩ (aNm_n)) rfl (by
      show [(0, zP 50)] = _
      simp only [Int.add_zero]) g1 h0 (fun z1 f2 g2 w1 h1 => ?_)
  exact H _ g2 ⟨wI_fr (by decide +kernel) w1 (wI_fr (by decide +kernel) w0 i0), wBt_fr (by decide +kernel) w1 (wBt_fr (by decide +kernel) w0 b0), h1.1⟩
set_option maxHeartbeats 4000000 in
theorem wc_31 {sc : zC} (hs : ∀ j, zIn (sc.2 j)) (hL : sc.1 ≤ 3072) {x3 : Int} (hx : 0 ≤ x3 ∧ x3 + 6 ≤ (sc.1 : Int)) {f0 : zF} (g0 : aGok wG (afx sc f0)) (k0 : wAl f0) {Q : zQ} (H : ∀ f, aGok wG (afx sc f) → wAl f → zR sc 200 0 1526 [] [(0, zS 5), (1, zP 0), (2, zP 50), (3, zI x3)] 78 5571 zSH f Q) : zR sc 200 0 1097 [] [(0, zS 5), (1, zP 0), (2, zP 50), (3, zI x3)] 78 5571 zSH f0 Q := by
  obtain ⟨i0, b0, d0⟩ := id k0
  refine q0_1097 (d := 0) ?_
  refine wcallX wS_301_ok (wr (0) (0) (0) (0) (0)) (by decide) rfl rfl (aNm_c ⟨Int.le_refl _, Int.le_refl _⟩ (aNm_n)) rfl (by
      show [(0, zP 0)] = _
      simp only [Int.add_zero]) g0 (jd_31 g0 d0) (fun z0 f1 g1 w0 h0 => ?_)
  refine wcallX wS_302_ok (wr (0) (0) (0) (0) (0)) (by decide) rfl rfl (aNm_c ⟨Int.le_refl _, Int.le_refl _⟩ (aNm_n)) rfl (by
      show [(0, zP 50)] = _
      simp only [Int.add_zero]) g1 h0 (fun z1 f2 g2 w1 h1 => ?_)
  exact H _ g2 ⟨wI_fr (by decide +kernel) w1 (wI_fr (by decide +kernel) w0 i0), wBt_fr (by decide +kernel) w1 (wBt_fr (by decide +kernel) w0 b0), h1.1⟩
set_option maxHeartbeats 4000000 in
theorem wc_32 {sc : zC} (hs : ∀ j, zIn (sc.2 j)) (hL : sc.1 ≤ 3072) {x3 : Int} (hx : 0 ≤ x3 ∧ x3 + 6 ≤ (sc.1 : Int)) {f0 : zF} (g0 : aGok wG (afx sc f0)) (k0 : wAl f0) {Q : zQ} (H : ∀ f, aGok wG (afx sc f) → wAl f → zR sc 200 0 1526 [] [(0, zS 5), (1, zP 0), (2, zP 50), (3, zI x3)] 78 5571 zSH f Q) : zR sc 200 0 1110 [] [(0, zS 5), (1, zP 0), (2, zP 50), (3, zI x3)] 78 5571 zSH f0 Q := by
  obtain ⟨i0, b0, d0⟩ := id k0
  refine q0_1110 (d := 0) ?_
  refine wcallX wS_303_ok (wr (0) (0) (0) (0) (0)) (by decide) rfl rfl (aNm_c ⟨Int.le_refl _, Int.le_refl _⟩ (aNm_n)) rfl (by
      show [(0, zP 0)] = _
      simp only [Int.add_zero]) g0 (jd_32 g0 d0) (fun z0 f1 g1 w0 h0 => ?_)
  refine wcallX wH_undo_ok (wr (0) (0) (0) (0) (0)) (by decide) rfl rfl (aNm_c ⟨Int.le_refl _, Int.le_refl _⟩ (aNm_n)) rfl (by
      show [(0, zP 50)] = _
      simp only [Int.add_zero]) g1 h0 (fun z1 f2 g2 w1 h1 => ?_)
  exact H _ g2 ⟨wI_fr (by decide +kernel) w1 (wI_fr (by decide +kernel) w0 i0), wBt_fr (by decide +kernel) w1 (wBt_fr (by decide +kernel) w0 b0), h1.1⟩
set_option maxHeartbeats 4000000 in
theorem wc_33 {sc : zC} (hs : ∀ j, zIn (sc.2 j)) (hL : sc.1 ≤ 3072) {x3 : Int} (hx : 0 ≤ x3 ∧ x3 + 6 ≤ (sc.1 : Int)) {f0 : zF} (g0 : aGok wG (afx sc f0)) (k0 : wAl f0) {Q : zQ} (H : ∀ f, aGok wG (afx sc f) → wAl f → zR sc 200 0 1526 [] [(0, zS 5), (1, zP 0), (2, zP 50), (3, zI x3)] 78 5571 zSH f Q) : zR sc 200 0 1123 [] [(0, zS 5), (1, zP 0), (2, zP 50), (3, zI x3)] 78 5571 zSH f0 Q := by
  obtain ⟨i0, b0, d0⟩ := id k0
  refine q0_1123 (d := 0) ?_
  refine wcallX wS_304_ok (wr (0) (0) (0) (0) (0)) (by decide) rfl rfl (aNm_c ⟨Int.le_refl _, Int.le_refl _⟩ (aNm_n)) rfl (by
      show [(0, zP 0)] = _
      simp only [Int.add_zero]) g0 (jd_33 g0 d0) (fun z0 f1 g1 w0 h0 => ?_)
  refine wcallX wH_redo_ok (wr (0) (0) (0) (0) (0)) (by decide) rfl rfl (aNm_c ⟨Int.le_refl _, Int.le_refl _⟩ (aNm_n)) rfl (by
      show [(0, zP 50)] = _
      simp only [Int.add_zero]) g1 h0 (fun z1 f2 g2 w1 h1 => ?_)
  exact H _ g2 ⟨wI_fr (by decide +kernel) w1 (wI_fr (by decide +kernel) w0 i0), wBt_fr (by decide +kernel) w1 (wBt_fr (by decide +kernel) w0 b0), h1.1⟩
set_option maxHeartbeats 4000000 in
theorem wc_34 {sc : zC} (hs : ∀ j, zIn (sc.2 j)) (hL : sc.1 ≤ 3072) {x3 : Int} (hx : 0 ≤ x3 ∧ x3 + 6 ≤ (sc.1 : Int)) {f0 : zF} (g0 : aGok wG (afx sc f0)) (k0 : wAl f0) {Q : zQ} (H : ∀ f, aGok wG (afx sc f) → wAl f → zR sc 200 0 1526 [] [(0, zS 5), (1, zP 0), (2, zP 50), (3, zI x3)] 78 5571 zSH f Q) : zR sc 200 0 1136 [] [(0, zS 5), (1, zP 0), (2, zP 50), (3, zI x3)] 78 5571 zSH f0 Q := by
  obtain ⟨i0, b0, d0⟩ := id k0
  refine q0_1136 (d := 0) ?_
  refine zov_p (by omega) (zix_p (by omega) (?_))
  refine wcallX wS_305_ok (wr (sc.2 ((x3 + (1)).toNat)) (0) (0) (0) (0)) (by decide) rfl rfl (aNm_c ⟨Int.le_refl _, Int.le_refl _⟩ (aNm_c (aF32_ok.2 (hs _)) (aNm_n))) rfl (by
      show [(0, zP 0), (1, zI (sc.2 ((x3 + (1)).toNat) + 0))] = _
      simp only [Int.add_zero]) g0 (jk_34 g0 i0) (fun z0 f1 g1 w0 h0 => ?_)
  refine zov_p (by omega) (zix_p (by omega) (?_))
  refine wcallX wS_306_ok (wr (sc.2 ((x3 + (1)).toNat)) (0) (0) (0) (0)) (by decide) rfl rfl (aNm_c ⟨Int.le_refl _, Int.le_refl _⟩ (aNm_c (aF32_ok.2 (hs _)) (aNm_n))) rfl (by
      show [(0, zP 50), (1, zI (sc.2 ((x3 + (1)).toNat) + 0))] = _
      simp only [Int.add_zero]) g1 h0 (fun z1 f2 g2 w1 h1 => ?_)
  exact H _ g2 ⟨h1.1, wBt_fr (by decide +kernel) w1 (wBt_fr (by decide +kernel) w0 b0), wD_fr (by decide +kernel) w1 (wD_fr (by decide +kernel) w0 d0)⟩
set_option maxHeartbeats 4000000 in
theorem wc_35 {sc : zC} (hs : ∀ j, zIn (sc.2 j)) (hL : sc.1 ≤ 3072) {x3 : Int} (hx : 0 ≤ x3 ∧ x3 + 6 ≤ (sc.1 : Int)) {f0 : zF} (g0 : aGok wG (afx sc f0)) (k0 : wAl f0) {Q : zQ} (H : ∀ f, aGok wG (afx sc f) → wAl f → zR sc 200 0 1526 [] [(0, zS 5), (1, zP 0), (2, zP 50), (3, zI x3)] 78 5571 zSH f Q) : zR sc 200 0 1159 [] [(0, zS 5), (1, zP 0), (2, zP 50), (3, zI x3)] 78 5571 zSH f0 Q := by
  obtain ⟨i0, b0, d0⟩ := id k0
  refine q0_1159 (d := 0) ?_
  refine zov_p (by omega) (zix_p (by omega) (zov_p (by omega) (zix_p (by omega) (zov_p (by omega) (zix_p (by omega) (?_))))))
  refine wcallX wS_307_ok (wr (sc.2 ((x3 + (1)).toNat)) (sc.2 ((x3 + (2)).toNat)) (sc.2 ((x3 + (3)).toNat)) (0) (0)) (by decide) rfl rfl (aNm_c ⟨Int.le_refl _, Int.le_refl _⟩ (aNm_c (aF32_ok.2 (hs _)) (aNm_c (aF32_ok.2 (hs _)) (aNm_c (aF32_ok.2 (hs _)) (aNm_n))))) rfl (by
      show [(0, zP 0), (1, zI (sc.2 ((x3 + (1)).toNat) + 0)), (2, zI (sc.2 ((x3 + (2)).toNat) + 0)), (3, zI (sc.2 ((x3 + (3)).toNat) + 0))] = _
      simp only [Int.add_zero]) g0 (jk_35 g0 i0) (fun z0 f1 g1 w0 h0 => ?_)
  refine zov_p (by omega) (zix_p (by omega) (zov_p (by omega) (zix_p (by omega) (zov_p (by omega) (zix_p (by omega) (?_))))))
  refine wcallX wS_308_ok (wr (sc.2 ((x3 + (1)).toNat)) (sc.2 ((x3 + (2)).toNat)) (sc.2 ((x3 + (3)).toNat)) (0) (0)) (by decide) rfl rfl (aNm_c ⟨Int.le_refl _, Int.le_refl _⟩ (aNm_c (aF32_ok.2 (hs _)) (aNm_c (aF32_ok.2 (hs _)) (aNm_c (aF32_ok.2 (hs _)) (aNm_n))))) rfl (by
      show [(0, zP 50), (1, zI (sc.2 ((x3 + (1)).toNat) + 0)), (2, zI (sc.2 ((x3 + (2)).toNat) + 0)), (3, zI (sc.2 ((x3 + (3)).toNat) + 0))] = _
      simp only [Int.add_zero]) g1 h0 (fun z1 f2 g2 w1 h1 => ?_)
  exact H _ g2 ⟨h1.1, wBt_fr (by decide +kernel) w1 (wBt_fr (by decide +kernel) w0 b0), wD_fr (by decide +kernel) w1 (wD_fr (by decide +kernel) w0 d0)⟩
set_option maxHeartbeats 4000000 in
theorem wc_36 {sc : zC} (hs : ∀ j, zIn (sc.2 j)) (hL : sc.1 ≤ 3072) {x3 : Int} (hx : 0 ≤ x3 ∧ x3 + 6 ≤ (sc.1 : Int)) {f0 : zF} (g0 : aGok wG (afx sc f0)) (k0 : wAl f0) {Q : zQ} (H : ∀ f, aGok wG (afx sc f) → wAl f → zR sc 200 0 1526 [] [(0, zS 5), (1, zP 0), (2, zP 50), (3, zI x3)] 78 5571 zSH f Q) : zR sc 200 0 1202 [] [(0, zS 5), (1, zP 0), (2, zP 50), (3, zI x3)] 78 5571 zSH f0 Q := by
  obtain ⟨i0, b0, d0⟩ := id k0
  refine q0_1202 (d := 0) ?_
  refine zov_p (by omega) (zix_p (by omega) (?_))
  refine wcallX wS_309_ok (wr (sc.2 ((x3 + (1)).toNat)) (0) (0) (0) (0)) (by decide) rfl rfl (aNm_c ⟨Int.le_refl _, Int.le_refl _⟩ (aNm_c (aF32_ok.2 (hs _)) (aNm_n))) rfl (by
      show [(0, zP 0), (1, zI (sc.2 ((x3 + (1)).toNat) + 0))] = _
      simp only [Int.add_zero]) g0 (jk_36 g0 i0) (fun z0 f1 g1 w0 h0 => ?_)
  refine zov_p (by omega) (zix_p (by omega) (?_))
  refine wcallX wS_310_ok (wr (sc.2 ((x3 + (1)).toNat)) (0) (0) (0) (0)) (by decide) rfl rfl (aNm_c ⟨Int.le_refl _, Int.le_refl _⟩ (aNm_c (aF32_ok.2 (hs _)) (aNm_n))) rfl (by
      show [(0, zP 50), (1, zI (sc.2 ((x3 + (1)).toNat) + 0))] = _
      simp only [Int.add_zero]) g1 h0 (fun z1 f2 g2 w1 h1 => ?_)
  exact H _ g2 ⟨h1.1, wBt_fr (by decide +kernel) w1 (wBt_fr (by decide +kernel) w0 b0), wD_fr (by decide +kernel) w1 (wD_fr (by decide +kernel) w0 d0)⟩
set_option maxHeartbeats 4000000 in
theorem wc_37 {sc : zC} (hs : ∀ j, zIn (sc.2 j)) (hL : sc.1 ≤ 3072) {x3 : Int} (hx : 0 ≤ x3 ∧ x3 + 6 ≤ (sc.1 : Int)) {f0 : zF} (g0 : aGok wG (afx sc f0)) (k0 : wAl f0) {Q : zQ} (H : ∀ f, aGok wG (afx sc f) → wAl f → zR sc 200 0 1526 [] [(0, zS 5), (1, zP 0), (2, zP 50), (3, zI x3)] 78 5571 zSH f Q) : zR sc 200 0 1225 [] [(0, zS 5), (1, zP 0), (2, zP 50), (3, zI x3)] 78 5571 zSH f0 Q := by
  obtain ⟨i0, b0, d0⟩ := id k0
  refine q0_1225 (d := 0) ?_
  refine zov_p (by omega) (zix_p (by omega) (zov_p (by omega) (zix_p (by omega) (?_))))
  refine wcallX wS_311_ok (wr (sc.2 ((x3 + (1)).toNat)) (sc.2 ((x3 + (2)).toNat)) (0) (0) (0)) (by decide) rfl rfl (aNm_c ⟨Int.le_refl _, Int.le_refl _⟩ (aNm_c (aF32_ok.2 (hs _)) (aNm_c (aF32_ok.2 (hs _)) (aNm_n)))) rfl (by
      show [(0, zP 0), (1, zI (sc.2 ((x3 + (1)).toNat) + 0)), (2, zI (sc.2 ((x3 + (2)).toNat) + 0))] = _
      simp only [Int.add_zero]) g0 (jk_37 g0 i0) (fun z0 f1 g1 w0 h0 => ?_)
  refine zov_p (by omega) (zix_p (by omega) (zov_p (by omega) (zix_p (by omega) (?_))))
  refine wcallX wS_312_ok (wr (sc.2 ((x3 + (1)).toNat)) (sc.2 ((x3 + (2)).toNat)) (0) (0) (0)) (by decide) rfl rfl (aNm_c ⟨Int.le_refl _, Int.le_refl _⟩ (aNm_c (aF32_ok.2 (hs _)) (aNm_c (aF32_ok.2 (hs _)) (aNm_n)))) rfl (by
      show [(0, zP 50), (1, zI (sc.2 ((x3 + (1)).toNat) + 0)), (2, zI (sc.2 ((x3 + (2)).toNat) + 0))] = _
      simp only [Int.add_zero]) g1 h0 (fun z1 f2 g2 w1 h1 => ?_)
  exact H _ g2 ⟨h1.1, wBt_fr (by decide +kernel) w1 (wBt_fr (by decide +kernel) w0 b0), wD_fr (by decide +kernel) w1 (wD_fr (by decide +kernel) w0 d0)⟩
set_option maxHeartbeats 4000000 in
theorem wc_38 {sc : zC} (hs : ∀ j, zIn (sc.2 j)) (hL : sc.1 ≤ 3072) {x3 : Int} (hx : 0 ≤ x3 ∧ x3 + 6 ≤ (sc.1 : Int)) {f0 : zF} (g0 : aGok wG (afx sc f0)) (k0 : wAl f0) {Q : zQ} (H : ∀ f, aGok wG (afx sc f) → wAl f → zR sc 200 0 1526 [] [(0, zS 5), (1, zP 0), (2, zP 50), (3, zI x3)] 78 5571 zSH f Q) : zR sc 200 0 1258 [] [(0, zS 5), (1, zP 0), (2, zP 50), (3, zI x3)] 78 5571 zSH f0 Q := by
  obtain ⟨i0, b0, d0⟩ := id k0
  refine q0_1258 (d := 0) ?_
  refine zov_p (by omega) (zix_p (by omega) (zov_p (by omega) (zix_p (by omega) (zov_p (by omega) (zix_p (by omega) (?_))))))
  refine wcallX wS_314_ok (wr (sc.2 ((x3 + (1)).toNat)) (sc.2 ((x3 + (2)).toNat)) (sc.2 ((x3 + (3)).toNat)) (0) (0)) (by decide) rfl rfl (aNm_c ⟨Int.le_refl _, Int.le_refl _⟩ (aNm_c (aF32_ok.2 (hs _)) (aNm_c (aF32_ok.2 (hs _)) (aNm_c (aF32_ok.2 (hs _)) (aNm_n))))) rfl (by
      show [(0, zP 0), (1, zI (sc.2 ((x3 + (1)).toNat) + 0)), (2, zI (sc.2 ((x3 + (2)).toNat) + 0)), (3, zI (sc.2 ((x3 + (3)).toNat) + 0))] = _
      simp only [Int.add_zero]) g0 (jk_38 g0 i0) (fun z0 f1 g1 w0 h0 => ?_)
  refine zov_p (by omega) (zix_p (by omega) (zov_p (by omega) (zix_p (by omega) (zov_p (by omega) (zix_p (by omega) (?_))))))
  refine wcallX wS_315_ok (wr (sc.2 ((x3 + (1)).toNat)) (sc.2 ((x3 + (2)).toNat)) (sc.2 ((x3 + (3)).toNat)) (0) (0)) (by decide) rfl rfl (aNm_c ⟨Int.le_refl _, Int.le_refl _⟩ (aNm_c (aF32_ok.2 (hs _)) (aNm_c (aF32_ok.2 (hs _)) (aNm_c (aF32_ok.2 (hs _)) (aNm_n))))) rfl (by
      show [(0, zP 50), (1, zI (sc.2 ((x3 + (1)).toNat) + 0)), (2, zI (sc.2 ((x3 + (2)).toNat) + 0)), (3, zI (sc.2 ((x3 + (3)).toNat) + 0))] = _
      simp only [Int.add_zero]) g1 h0 (fun z1 f2 g2 w1 h1 => ?_)
  exact H _ g2 ⟨h1.1, wBt_fr (by decide +kernel) w1 (wBt_fr (by decide +kernel) w0 b0), wD_fr (by decide +kernel) w1 (wD_fr (by decide +kernel) w0 d0)⟩
set_option maxHeartbeats 4000000 in
theorem wc_39 {sc : zC} (hs : ∀ j, zIn (sc.2 j)) (hL : sc.1 ≤ 3072) {x3 : Int} (hx : 0 ≤ x3 ∧ x3 + 6 ≤ (sc.1 : Int)) {f0 : zF} (g0 : aGok wG (afx sc f0)) (k0 : wAl f0) {Q : zQ} (H : ∀ f, aGok wG (afx sc f) → wAl f → zR sc 200 0 1526 [] [(0, zS 5), (1, zP 0), (2, zP 50), (3, zI x3)] 78 5571 zSH f Q) : zR sc 200 0 1301 [] [(0, zS 5), (1, zP 0), (2, zP 50), (3, zI x3)] 78 5571 zSH f0 Q := by
  obtain ⟨i0, b0, d0⟩ := id k0
  refine q0_1301 (d := 0) ?_
  refine zov_p (by omega) (zix_p (by omega) (zov_p (by omega) (zix_p (by omega) (zov_p (by omega) (zix_p (by omega) (zov_p (by omega) (zix_p (by omega) (?_))))))))
  refine wcallX wS_316_ok (wr (sc.2 ((x3 + (1)).toNat)) (sc.2 ((x3 + (2)).toNat)) (zlor (zlshl (sc.2 ((x3 + (3)).toNat)) (32)) (zland (sc.2 ((x3 + (4)).toNat)) (4294967295))) (0) (0)) (by decide) rfl rfl (aNm_c ⟨Int.le_refl _, Int.le_refl _⟩ (aNm_c (aF32_ok.2 (hs _)) (aNm_c (aF32_ok.2 (hs _)) (aNm_c (aF64_ok.2 (zin64_t _)) (aNm_n))))) rfl (by
      show [(0, zP 0), (1, zI (sc.2 ((x3 + (1)).toNat) + 0)), (2, zI (sc.2 ((x3 + (2)).toNat) + 0)), (3, zJ (zlor (zlshl (sc.2 ((x3 + (3)).toNat)) (32)) (zland (sc.2 ((x3 + (4)).toNat)) (4294967295)) + 0))] = _
      simp only [Int.add_zero]) g0 (jk_39 g0 i0) (fun z0 f1 g1 w0 h0 => ?_)
  refine zov_p (by omega) (zix_p (by omega) (zov_p (by omega) (zix_p (by omega) (zov_p (by omega) (zix_p (by omega) (zov_p (by omega) (zix_p (by omega) (?_))))))))
  refine wcallX wS_317_ok (wr (sc.2 ((x3 + (1)).toNat)) (sc.2 ((x3 + (2)).toNat)) (zlor (zlshl (sc.2 ((x3 + (3)).toNat)) (32)) (zland (sc.2 ((x3 + (4)).toNat)) (4294967295))) (0) (0)) (by decide) rfl rfl (aNm_c ⟨Int.le_refl _, Int.le_refl _⟩ (aNm_c (aF32_ok.2 (hs _)) (aNm_c (aF32_ok.2 (hs _)) (aNm_c (aF64_ok.2 (zin64_t _)) (aNm_n))))) rfl (by
      show [(0, zP 50), (1, zI (sc.2 ((x3 + (1)).toNat) + 0)), (2, zI (sc.2 ((x3 + (2)).toNat) + 0)), (3, zJ (zlor (zlshl (sc.2 ((x3 + (3)).toNat)) (32)) (zland (sc.2 ((x3 + (4)).toNat)) (4294967295)) + 0))] = _
      simp only [Int.add_zero]) g1 h0 (fun z1 f2 g2 w1 h1 => ?_)
  exact H _ g2 ⟨h1.1, wBt_fr (by decide +kernel) w1 (wBt_fr (by decide +kernel) w0 b0), wD_fr (by decide +kernel) w1 (wD_fr (by decide +kernel) w0 d0)⟩
set_option maxHeartbeats 4000000 in
theorem wc_40 {sc : zC} (hs : ∀ j, zIn (sc.2 j)) (hL : sc.1 ≤ 3072) {x3 : Int} (hx : 0 ≤ x3 ∧ x3 + 6 ≤ (sc.1 : Int)) {f0 : zF} (g0 : aGok wG (afx sc f0)) (k0 : wAl f0) {Q : zQ} (H : ∀ f, aGok wG (afx sc f) → wAl f → zR sc 200 0 1526 [] [(0, zS 5), (1, zP 0), (2, zP 50), (3, zI x3)] 78 5571 zSH f Q) : zR sc 200 0 1374 [] [(0, zS 5), (1, zP 0), (2, zP 50), (3, zI x3)] 78 5571 zSH f0 Q := by
  obtain ⟨i0, b0, d0⟩ := id k0
  refine q0_1374 (d := 0) ?_
  refine zov_p (by omega) (zix_p (by omega) (zov_p (by omega) (zix_p (by omega) (?_))))
  refine wcallXJ wS_318_ok (wr (sc.2 ((x3 + (1)).toNat)) (sc.2 ((x3 + (2)).toNat)) (0) (0) (0)) (by decide) rfl rfl (aNm_c ⟨Int.le_refl _, Int.le_refl _⟩ (aNm_c (aF32_ok.2 (hs _)) (aNm_c (aF32_ok.2 (hs _)) (aNm_n)))) rfl (by
      show [(0, zP 0), (1, zI (sc.2 ((x3 + (1)).toNat) + 0)), (2, zI (sc.2 ((x3 + (2)).toNat) + 0))] = _
      simp only [Int.add_zero]) g0 (jk_40 g0 i0) (fun z0 f1 g1 w0 h0 => ?_)
  refine zov_p (by omega) (zix_p (by omega) (zov_p (by omega) (zix_p (by omega) (?_))))
  refine wcallXJ wS_319_ok (wr (sc.2 ((x3 + (1)).toNat)) (sc.2 ((x3 + (2)).toNat)) (0) (0) (0)) (by decide) rfl rfl (aNm_c ⟨Int.le_refl _, Int.le_refl _⟩ (aNm_c (aF32_ok.2 (hs _)) (aNm_c (aF32_ok.2 (hs _)) (aNm_n)))) rfl (by
      show [(0, zP 50), (1, zI (sc.2 ((x3 + (1)).toNat) + 0)), (2, zI (sc.2 ((x3 + (2)).toNat) + 0))] = _
      simp only [Int.add_zero]) g1 h0 (fun z1 f2 g2 w1 h1 => ?_)
  exact H _ g2 ⟨h1.1, wBt_fr (by decide +kernel) w1 (wBt_fr (by decide +kernel) w0 b0), wD_fr (by decide +kernel) w1 (wD_fr (by decide +kernel) w0 d0)⟩
set_option maxHeartbeats 4000000 in
theorem wc_41 {sc : zC} (hs : ∀ j, zIn (sc.2 j)) (hL : sc.1 ≤ 3072) {x3 : Int} (hx : 0 ≤ x3 ∧ x3 + 6 ≤ (sc.1 : Int)) {f0 : zF} (g0 : aGok wG (afx sc f0)) (k0 : wAl f0) {Q : zQ} (H : ∀ f, aGok wG (afx sc f) → wAl f → zR sc 200 0 1526 [] [(0, zS 5), (1, zP 0), (2, zP 50), (3, zI x3)] 78 5571 zSH f Q) : zR sc 200 0 1407 [] [(0, zS 5), (1, zP 0), (2, zP 50), (3, zI x3)] 78 5571 zSH f0 Q := by
  obtain ⟨i0, b0, d0⟩ := id k0
  refine q0_1407 (d := 0) ?_
  refine zov_p (by omega) (zix_p (by omega) (zov_p (by omega) (zix_p (by omega) (zov_p (by omega) (zix_p (by omega) (zov_p (by omega) (zix_p (by omega) (zov_p (by omega) (zix_p (by omega) (?_))))))))))
  by_cases e0_0 : sc.2 ((x3 + (5)).toNat) ≤ (-1 : Int)
  · refine wcallX wS_320_ok (wr (sc.2 ((x3 + (1)).toNat)) (sc.2 ((x3 + (2)).toNat)) (sc.2 ((x3 + (3)).toNat)) (sc.2 ((x3 + (4)).toNat)) (sc.2 ((x3 + (5)).toNat))) (by decide) rfl rfl (aNm_c ⟨Int.le_refl _, Int.le_refl _⟩ (aNm_c (aF32_ok.2 (hs _)) (aNm_c (aF32_ok.2 (hs _)) (aNm_c (aF32_ok.2 (hs _)) (aNm_c (aF32_ok.2 (hs _)) (aNm_c ⟨(hs _).1, (by show sc.2 ((x3 + (5)).toNat) ≤ (-1 : Int); omega)⟩ (aNm_n))))))) rfl (by
      show [(0, zP 0), (1, zI (sc.2 ((x3 + (1)).toNat) + 0)), (2, zI (sc.2 ((x3 + (2)).toNat) + 0)), (3, zI (sc.2 ((x3 + (3)).toNat) + 0)), (4, zI (sc.2 ((x3 + (4)).toNat) + 0)), (5, zI (sc.2 ((x3 + (5)).toNat) + 0))] = _
      simp only [Int.add_zero]) g0 (jk_41 g0 i0 (hs _)) (fun z0 f1 g1 w0 h0 => ?_)
    refine zov_p (by omega) (zix_p (by omega) (zov_p (by omega) (zix_p (by omega) (zov_p (by omega) (zix_p (by omega) (zov_p (by omega) (zix_p (by omega) (zov_p (by omega) (zix_p (by omega) (?_))))))))))
    refine wcallX wS_383_ok (wr (sc.2 ((x3 + (1)).toNat)) (sc.2 ((x3 + (2)).toNat)) (sc.2 ((x3 + (3)).toNat)) (sc.2 ((x3 + (4)).toNat)) (sc.2 ((x3 + (5)).toNat))) (by decide) rfl rfl (aNm_c ⟨Int.le_refl _, Int.le_refl _⟩ (aNm_c (aF32_ok.2 (hs _)) (aNm_c (aF32_ok.2 (hs _)) (aNm_c (aF32_ok.2 (hs _)) (aNm_c (aF32_ok.2 (hs _)) (aNm_c ⟨(hs _).1, (by show sc.2 ((x3 + (5)).toNat) ≤ (-1 : Int); omega)⟩ (aNm_n))))))) rfl (by
      show [(0, zP 50), (1, zI (sc.2 ((x3 + (1)).toNat) + 0)), (2, zI (sc.2 ((x3 + (2)).toNat) + 0)), (3, zI (sc.2 ((x3 + (3)).toNat) + 0)), (4, zI (sc.2 ((x3 + (4)).toNat) + 0)), (5, zI (sc.2 ((x3 + (5)).toNat) + 0))] = _
      simp only [Int.add_zero]) g1 h0 (fun z1 f2 g2 w1 h1 => ?_)
    exact H _ g2 ⟨h1.1, wBt_fr (by decide +kernel) w1 (wBt_fr (by decide +kernel) w0 b0), wD_fr (by decide +kernel) w1 (wD_fr (by decide +kernel) w0 d0)⟩
  by_cases e0_1 : sc.2 ((x3 + (5)).toNat) ≤ (0 : Int)
  · refine wcallX wS_321_ok (wr (sc.2 ((x3 + (1)).toNat)) (sc.2 ((x3 + (2)).toNat)) (sc.2 ((x3 + (3)).toNat)) (sc.2 ((x3 + (4)).toNat)) (sc.2 ((x3 + (5)).toNat))) (by decide) rfl rfl (aNm_c ⟨Int.le_refl _, Int.le_refl _⟩ (aNm_c (aF32_ok.2 (hs _)) (aNm_c (aF32_ok.2 (hs _)) (aNm_c (aF32_ok.2 (hs _)) (aNm_c (aF32_ok.2 (hs _)) (aNm_c ⟨(by show (0 : Int) ≤ sc.2 ((x3 + (5)).toNat); omega), (by show sc.2 ((x3 + (5)).toNat) ≤ (0 : Int); omega)⟩ (aNm_n))))))) rfl (by
      show [(0, zP 0), (1, zI (sc.2 ((x3 + (1)).toNat) + 0)), (2, zI (sc.2 ((x3 + (2)).toNat) + 0)), (3, zI (sc.2 ((x3 + (3)).toNat) + 0)), (4, zI (sc.2 ((x3 + (4)).toNat) + 0)), (5, zI (sc.2 ((x3 + (5)).toNat) + 0))] = _
      simp only [Int.add_zero]) g0 (jk_41 g0 i0 (hs _)) (fun z0 f1 g1 w0 h0 => ?_)
    refine zov_p (by omega) (zix_p (by omega) (zov_p (by omega) (zix_p (by omega) (zov_p (by omega) (zix_p (by omega) (zov_p (by omega) (zix_p (by omega) (zov_p (by omega) (zix_p (by omega) (?_))))))))))
    refine wcallX wS_384_ok (wr (sc.2 ((x3 + (1)).toNat)) (sc.2 ((x3 + (2)).toNat)) (sc.2 ((x3 + (3)).toNat)) (sc.2 ((x3 + (4)).toNat)) (sc.2 ((x3 + (5)).toNat))) (by decide) rfl rfl (aNm_c ⟨Int.le_refl _, Int.le_refl _⟩ (aNm_c (aF32_ok.2 (hs _)) (aNm_c (aF32_ok.2 (hs _)) (aNm_c (aF32_ok.2 (hs _)) (aNm_c (aF32_ok.2 (hs _)) (aNm_c ⟨(by show (0 : Int) ≤ sc.2 ((x3 + (5)).toNat); omega), (by show sc.2 ((x3 + (5)).toNat) ≤ (0 : Int); omega)⟩ (aNm_n))))))) rfl (by
      show [(0, zP 50), (1, zI (sc.2 ((x3 + (1)).toNat) + 0)), (2, zI (sc.2 ((x3 + (2)).toNat) + 0)), (3, zI (sc.2 ((x3 + (3)).toNat) + 0)), (4, zI (sc.2 ((x3 + (4)).toNat) + 0)), (5, zI (sc.2 ((x3 + (5)).toNat) + 0))] = _
      simp only [Int.add_zero]) g1 h0 (fun z1 f2 g2 w1 h1 => ?_)
    exact H _ g2 ⟨h1.1, wBt_fr (by decide +kernel) w1 (wBt_fr (by decide +kernel) w0 b0), wD_fr (by decide +kernel) w1 (wD_fr (by decide +kernel) w0 d0)⟩
  by_cases e0_2 : sc.2 ((x3 + (5)).toNat) ≤ (1 : Int)
  · refine wcallX wS_322_ok (wr (sc.2 ((x3 + (1)).toNat)) (sc.2 ((x3 + (2)).toNat)) (sc.2 ((x3 + (3)).toNat)) (sc.2 ((x3 + (4)).toNat)) (sc.2 ((x3 + (5)).toNat))) (by decide) rfl rfl (aNm_c ⟨Int.le_refl _, Int.le_refl _⟩ (aNm_c (aF32_ok.2 (hs _)) (aNm_c (aF32_ok.2 (hs _)) (aNm_c (aF32_ok.2 (hs _)) (aNm_c (aF32_ok.2 (hs _)) (aNm_c ⟨(by show (1 : Int) ≤ sc.2 ((x3 + (5)).toNat); omega), (by show sc.2 ((x3 + (5)).toNat) ≤ (1 : Int); omega)⟩ (aNm_n))))))) rfl (by
      show [(0, zP 0), (1, zI (sc.2 ((x3 + (1)).toNat) + 0)), (2, zI (sc.2 ((x3 + (2)).toNat) + 0)), (3, zI (sc.2 ((x3 + (3)).toNat) + 0)), (4, zI (sc.2 ((x3 + (4)).toNat) + 0)), (5, zI (sc.2 ((x3 + (5)).toNat) + 0))] = _
      simp only [Int.add_zero]) g0 (jk_41 g0 i0 (hs _)) (fun z0 f1 g1 w0 h0 => ?_)
    refine zov_p (by omega) (zix_p (by omega) (zov_p (by omega) (zix_p (by omega) (zov_p (by omega) (zix_p (by omega) (zov_p (by omega) (zix_p (by omega) (zov_p (by omega) (zix_p (by omega) (?_))))))))))
    refine wcallX wS_385_ok (wr (sc.2 ((x3 + (1)).toNat)) (sc.2 ((x3 + (2)).toNat)) (sc.2 ((x3 + (3)).toNat)) (sc.2 ((x3 + (4)).toNat)) (sc.2 ((x3 + (5)).toNat))) (by decide) rfl rfl (aNm_c ⟨Int.le_refl _, Int.le_refl _⟩ (aNm_c (aF32_ok.2 (hs _)) (aNm_c (aF32_ok.2 (hs _)) (aNm_c (aF32_ok.2 (hs _)) (aNm_c (aF32_ok.2 (hs _)) (aNm_c ⟨(by show (1 : Int) ≤ sc.2 ((x3 + (5)).toNat); omega), (by show sc.2 ((x3 + (5)).toNat) ≤ (1 : Int); omega)⟩ (aNm_n))))))) rfl (by
      show [(0, zP 50), (1, zI (sc.2 ((x3 + (1)).toNat) + 0)), (2, zI (sc.2 ((x3 + (2)).toNat) + 0)), (3, zI (sc.2 ((x3 + (3)).toNat) + 0)), (4, zI (sc.2 ((x3 + (4)).toNat) + 0)), (5, zI (sc.2 ((x3 + (5)).toNat) + 0))] = _
      simp only [Int.add_zero]) g1 h0 (fun z1 f2 g2 w1 h1 => ?_)
    exact H _ g2 ⟨h1.1, wBt_fr (by decide +kernel) w1 (wBt_fr (by decide +kernel) w0 b0), wD_fr (by decide +kernel) w1 (wD_fr (by decide +kernel) w0 d0)⟩
  by_cases e0_3 : sc.2 ((x3 + (5)).toNat) ≤ (2 : Int)
  · refine wcallX wS_323_ok (wr (sc.2 ((x3 + (1)).toNat)) (sc.2 ((x3 + (2)).toNat)) (sc.2 ((x3 + (3)).toNat)) (sc.2 ((x3 + (4)).toNat)) (sc.2 ((x3 + (5)).toNat))) (by decide) rfl rfl (aNm_c ⟨Int.le_refl _, Int.le_refl _⟩ (aNm_c (aF32_ok.2 (hs _)) (aNm_c (aF32_ok.2 (hs _)) (aNm_c (aF32_ok.2 (hs _)) (aNm_c (aF32_ok.2 (hs _)) (aNm_c ⟨(by show (2 : Int) ≤ sc.2 ((x3 + (5)).toNat); omega), (by show sc.2 ((x3 + (5)).toNat) ≤ (2 : Int); omega)⟩ (aNm_n))))))) rfl (by
      show [(0, zP 0), (1, zI (sc.2 ((x3 + (1)).toNat) + 0)), (2, zI (sc.2 ((x3 + (2)).toNat) + 0)), (3, zI (sc.2 ((x3 + (3)).toNat) + 0)), (4, zI (sc.2 ((x3 + (4)).toNat) + 0)), (5, zI (sc.2 ((x3 + (5)).toNat) + 0))] = _
      simp only [Int.add_zero]) g0 (jk_41 g0 i0 (hs _)) (fun z0 f1 g1 w0 h0 => ?_)
    refine zov_p (by omega) (zix_p (by omega) (zov_p (by omega) (zix_p (by omega) (zov_p (by omega) (zix_p (by omega) (zov_p (by omega) (zix_p (by omega) (zov_p (by omega) (zix_p (by omega) (?_))))))))))
    refine wcallX wS_386_ok (wr (sc.2 ((x3 + (1)).toNat)) (sc.2 ((x3 + (2)).toNat)) (sc.2 ((x3 + (3)).toNat)) (sc.2 ((x3 + (4)).toNat)) (sc.2 ((x3 + (5)).toNat))) (by decide) rfl rfl (aNm_c ⟨Int.le_refl _, Int.le_refl _⟩ (aNm_c (aF32_ok.2 (hs _)) (aNm_c (aF32_ok.2 (hs _)) (aNm_c (aF32_ok.2 (hs _)) (aNm_c (aF32_ok.2 (hs _)) (aNm_c ⟨(by show (2 : Int) ≤ sc.2 ((x3 + (5)).toNat); omega), (by show sc.2 ((x3 + (5)).toNat) ≤ (2 : Int); omega)⟩ (aNm_n))))))) rfl (by
      show [(0, zP 50), (1, zI (sc.2 ((x3 + (1)).toNat) + 0)), (2, zI (sc.2 ((x3 + (2)).toNat) + 0)), (3, zI (sc.2 ((x3 + (3)).toNat) + 0)), (4, zI (sc.2 ((x3 + (4)).toNat) + 0)), (5, zI (sc.2 ((x3 + (5)).toNat) + 0))] = _
      simp only [Int.add_zero]) g1 h0 (fun z1 f2 g2 w1 h1 => ?_)
    exact H _ g2 ⟨h1.1, wBt_fr (by decide +kernel) w1 (wBt_fr (by decide +kernel) w0 b0), wD_fr (by decide +kernel) w1 (wD_fr (by decide +kernel) w0 d0)⟩
  by_cases e0_4 : sc.2 ((x3 + (5)).toNat) ≤ (3 : Int)
  · refine wcallX wS_324_ok (wr (sc.2 ((x3 + (1)).toNat)) (sc.2 ((x3 + (2)).toNat)) (sc.2 ((x3 + (3)).toNat)) (sc.2 ((x3 + (4)).toNat)) (sc.2 ((x3 + (5)).toNat))) (by decide) rfl rfl (aNm_c ⟨Int.le_refl _, Int.le_refl _⟩ (aNm_c (aF32_ok.2 (hs _)) (aNm_c (aF32_ok.2 (hs _)) (aNm_c (aF32_ok.2 (hs _)) (aNm_c (aF32_ok.2 (hs _)) (aNm_c ⟨(by show (3 : Int) ≤ sc.2 ((x3 + (5)).toNat); omega), (by show sc.2 ((x3 + (5)).toNat) ≤ (3 : Int); omega)⟩ (aNm_n))))))) rfl (by
      show [(0, zP 0), (1, zI (sc.2 ((x3 + (1)).toNat) + 0)), (2, zI (sc.2 ((x3 + (2)).toNat) + 0)), (3, zI (sc.2 ((x3 + (3)).toNat) + 0)), (4, zI (sc.2 ((x3 + (4)).toNat) + 0)), (5, zI (sc.2 ((x3 + (5)).toNat) + 0))] = _
      simp only [Int.add_zero]) g0 (jk_41 g0 i0 (hs _)) (fun z0 f1 g1 w0 h0 => ?_)
    refine zov_p (by omega) (zix_p (by omega) (zov_p (by omega) (zix_p (by omega) (zov_p (by omega) (zix_p (by omega) (zov_p (by omega) (zix_p (by omega) (zov_p (by omega) (zix_p (by omega) (?_))))))))))
    refine wcallX wS_387_ok (wr (sc.2 ((x3 + (1)).toNat)) (sc.2 ((x3 + (2)).toNat)) (sc.2 ((x3 + (3)).toNat)) (sc.2 ((x3 + (4)).toNat)) (sc.2 ((x3 + (5)).toNat))) (by decide) rfl rfl (aNm_c ⟨Int.le_refl _, Int.le_refl _⟩ (aNm_c (aF32_ok.2 (hs _)) (aNm_c (aF32_ok.2 (hs _)) (aNm_c (aF32_ok.2 (hs _)) (aNm_c (aF32_ok.2 (hs _)) (aNm_c ⟨(by show (3 : Int) ≤ sc.2 ((x3 + (5)).toNat); omega), (by show sc.2 ((x3 + (5)).toNat) ≤ (3 : Int); omega)⟩ (aNm_n))))))) rfl (by
      show [(0, zP 50), (1, zI (sc.2 ((x3 + (1)).toNat) + 0)), (2, zI (sc.2 ((x3 + (2)).toNat) + 0)), (3, zI (sc.2 ((x3 + (3)).toNat) + 0)), (4, zI (sc.2 ((x3 + (4)).toNat) + 0)), (5, zI (sc.2 ((x3 + (5)).toNat) + 0))] = _
      simp only [Int.add_zero]) g1 h0 (fun z1 f2 g2 w1 h1 => ?_)
    exact H _ g2 ⟨h1.1, wBt_fr (by decide +kernel) w1 (wBt_fr (by decide +kernel) w0 b0), wD_fr (by decide +kernel) w1 (wD_fr (by decide +kernel) w0 d0)⟩
  by_cases e0_5 : sc.2 ((x3 + (5)).toNat) ≤ (4 : Int)
  · refine wcallX wS_325_ok (wr (sc.2 ((x3 + (1)).toNat)) (sc.2 ((x3 + (2)).toNat)) (sc.2 ((x3 + (3)).toNat)) (sc.2 ((x3 + (4)).toNat)) (sc.2 ((x3 + (5)).toNat))) (by decide) rfl rfl (aNm_c ⟨Int.le_refl _, Int.le_refl _⟩ (aNm_c (aF32_ok.2 (hs _)) (aNm_c (aF32_ok.2 (hs _)) (aNm_c (aF32_ok.2 (hs _)) (aNm_c (aF32_ok.2 (hs _)) (aNm_c ⟨(by show (4 : Int) ≤ sc.2 ((x3 + (5)).toNat); omega), (by show sc.2 ((x3 + (5)).toNat) ≤ (4 : Int); omega)⟩ (aNm_n))))))) rfl (by
      show [(0, zP 0), (1, zI (sc.2 ((x3 + (1)).toNat) + 0)), (2, zI (sc.2 ((x3 + (2)).toNat) + 0)), (3, zI (sc.2 ((x3 + (3)).toNat) + 0)), (4, zI (sc.2 ((x3 + (4)).toNat) + 0)), (5, zI (sc.2 ((x3 + (5)).toNat) + 0))] = _
      simp only [Int.add_zero]) g0 (jk_41 g0 i0 (hs _)) (fun z0 f1 g1 w0 h0 => ?_)
    refine zov_p (by omega) (zix_p (by omega) (zov_p (by omega) (zix_p (by omega) (zov_p (by omega) (zix_p (by omega) (zov_p (by omega) (zix_p (by omega) (zov_p (by omega) (zix_p (by omega) (?_))))))))))
    refine wcallX wS_388_ok (wr (sc.2 ((x3 + (1)).toNat)) (sc.2 ((x3 + (2)).toNat)) (sc.2 ((x3 + (3)).toNat)) (sc.2 ((x3 + (4)).toNat)) (sc.2 ((x3 + (5)).toNat))) (by decide) rfl rfl (aNm_c ⟨Int.le_refl _, Int.le_refl _⟩ (aNm_c (aF32_ok.2 (hs _)) (aNm_c (aF32_ok.2 (hs _)) (aNm_c (aF32_ok.2 (hs _)) (aNm_c (aF32_ok.2 (hs _)) (aNm_c ⟨(by show (4 : Int) ≤ sc.2 ((x3 + (5)).toNat); omega), (by show sc.2 ((x3 + (5)).toNat) ≤ (4 : Int); omega)⟩ (aNm_n))))))) rfl (by
      show [(0, zP 50), (1, zI (sc.2 ((x3 + (1)).toNat) + 0)), (2, zI (sc.2 ((x3 + (2)).toNat) + 0)), (3, zI (sc.2 ((x3 + (3)).toNat) + 0)), (4, zI (sc.2 ((x3 + (4)).toNat) + 0)), (5, zI (sc.2 ((x3 + (5)).toNat) + 0))] = _
      simp only [Int.add_zero]) g1 h0 (fun z1 f2 g2 w1 h1 => ?_)
    exact H _ g2 ⟨h1.1, wBt_fr (by decide +kernel) w1 (wBt_fr (by decide +kernel) w0 b0), wD_fr (by decide +kernel) w1 (wD_fr (by decide +kernel) w0 d0)⟩
  by_cases e0_6 : sc.2 ((x3 + (5)).toNat) ≤ (5 : Int)
  · refine wcallX wS_326_ok (wr (sc.2 ((x3 + (1)).toNat)) (sc.2 ((x3 + (2)).toNat)) (sc.2 ((x3 + (3)).toNat)) (sc.2 ((x3 + (4)).toNat)) (sc.2 ((x3 + (5)).toNat))) (by decide) rfl rfl (aNm_c ⟨Int.le_refl _, Int.le_refl _⟩ (aNm_c (aF32_ok.2 (hs _)) (aNm_c (aF32_ok.2 (hs _)) (aNm_c (aF32_ok.2 (hs _)) (aNm_c (aF32_ok.2 (hs _)) (aNm_c ⟨(by show (5 : Int) ≤ sc.2 ((x3 + (5)).toNat); omega), (by show sc.2 ((x3 + (5)).toNat) ≤ (5 : Int); omega)⟩ (aNm_n))))))) rfl (by
      show [(0, zP 0), (1, zI (sc.2 ((x3 + (1)).toNat) + 0)), (2, zI (sc.2 ((x3 + (2)).toNat) + 0)), (3, zI (sc.2 ((x3 + (3)).toNat) + 0)), (4, zI (sc.2 ((x3 + (4)).toNat) + 0)), (5, zI (sc.2 ((x3 + (5)).toNat) + 0))] = _
      simp only [Int.add_zero]) g0 (jk_41 g0 i0 (hs _)) (fun z0 f1 g1 w0 h0 => ?_)
    refine zov_p (by omega) (zix_p (by omega) (zov_p (by omega) (zix_p (by omega) (zov_p (by omega) (zix_p (by omega) (zov_p (by omega) (zix_p (by omega) (zov_p (by omega) (zix_p (by omega) (?_))))))))))
    refine wcallX wS_389_ok (wr (sc.2 ((x3 + (1)).toNat)) (sc.2 ((x3 + (2)).toNat)) (sc.2 ((x3 + (3)).toNat)) (sc.2 ((x3 + (4)).toNat)) (sc.2 ((x3 + (5)).toNat))) (by decide) rfl rfl (aNm_c ⟨Int.le_refl _, Int.le_refl _⟩ (aNm_c (aF32_ok.2 (hs _)) (aNm_c (aF32_ok.2 (hs _)) (aNm_c (aF32_ok.2 (hs _)) (aNm_c (aF32_ok.2 (hs _)) (aNm_c ⟨(by show (5 : Int) ≤ sc.2 ((x3 + (5)).toNat); omega), (by show sc.2 ((x3 + (5)).toNat) ≤ (5 : Int); omega)⟩ (aNm_n))))))) rfl (by
      show [(0, zP 50), (1, zI (sc.2 ((x3 + (1)).toNat) + 0)), (2, zI (sc.2 ((x3 + (2)).toNat) + 0)), (3, zI (sc.2 ((x3 + (3)).toNat) + 0)), (4, zI (sc.2 ((x3 + (4)).toNat) + 0)), (5, zI (sc.2 ((x3 + (5)).toNat) + 0))] = _
      simp only [Int.add_zero]) g1 h0 (fun z1 f2 g2 w1 h1 => ?_)
    exact H _ g2 ⟨h1.1, wBt_fr (by decide +kernel) w1 (wBt_fr (by decide +kernel) w0 b0), wD_fr (by decide +kernel) w1 (wD_fr (by decide +kernel) w0 d0)⟩
  by_cases e0_7 : sc.2 ((x3 + (5)).toNat) ≤ (6 : Int)
  · refine wcallX wS_327_ok (wr (sc.2 ((x3 + (1)).toNat)) (sc.2 ((x3 + (2)).toNat)) (sc.2 ((x3 + (3)).toNat)) (sc.2 ((x3 + (4)).toNat)) (sc.2 ((x3 + (5)).toNat))) (by decide) rfl rfl (aNm_c ⟨Int.le_refl _, Int.le_refl _⟩ (aNm_c (aF32_ok.2 (hs _)) (aNm_c (aF32_ok.2 (hs _)) (aNm_c (aF32_ok.2 (hs _)) (aNm_c (aF32_ok.2 (hs _)) (aNm_c ⟨(by show (6 : Int) ≤ sc.2 ((x3 + (5)).toNat); omega), (by show sc.2 ((x3 + (5)).toNat) ≤ (6 : Int); omega)⟩ (aNm_n))))))) rfl (by
      show [(0, zP 0), (1, zI (sc.2 ((x3 + (1)).toNat) + 0)), (2, zI (sc.2 ((x3 + (2)).toNat) + 0)), (3, zI (sc.2 ((x3 + (3)).toNat) + 0)), (4, zI (sc.2 ((x3 + (4)).toNat) + 0)), (5, zI (sc.2 ((x3 + (5)).toNat) + 0))] = _
      simp only [Int.add_zero]) g0 (jk_41 g0 i0 (hs _)) (fun z0 f1 g1 w0 h0 => ?_)
    refine zov_p (by omega) (zix_p (by omega) (zov_p (by omega) (zix_p (by omega) (zov_p (by omega) (zix_p (by omega) (zov_p (by omega) (zix_p (by omega) (zov_p (by omega) (zix_p (by omega) (?_))))))))))
    refine wcallX wS_390_ok (wr (sc.2 ((x3 + (1)).toNat)) (sc.2 ((x3 + (2)).toNat)) (sc.2 ((x3 + (3)).toNat)) (sc.2 ((x3 + (4)).toNat)) (sc.2 ((x3 + (5)).toNat))) (by decide) rfl rfl (aNm_c ⟨Int.le_refl _, Int.le_refl _⟩ (aNm_c (aF32_ok.2 (hs _)) (aNm_c (aF32_ok.2 (hs _)) (aNm_c (aF32_ok.2 (hs _)) (aNm_c (aF32_ok.2 (hs _)) (aNm_c ⟨(by show (6 : Int) ≤ sc.2 ((x3 + (5)).toNat); omega), (by show sc.2 ((x3 + (5)).toNat) ≤ (6 : Int); omega)⟩ (aNm_n))))))) rfl (by
      show [(0, zP 50), (1, zI (sc.2 ((x3 + (1)).toNat) + 0)), (2, zI (sc.2 ((x3 + (2)).toNat) + 0)), (3, zI (sc.2 ((x3 + (3)).toNat) + 0)), (4, zI (sc.2 ((x3 + (4)).toNat) + 0)), (5, zI (sc.2 ((x3 + (5)).toNat) + 0))] = _
      simp only [Int.add_zero]) g1 h0 (fun z1 f2 g2 w1 h1 => ?_)
    exact H _ g2 ⟨h1.1, wBt_fr (by decide +kernel) w1 (wBt_fr (by decide +kernel) w0 b0), wD_fr (by decide +kernel) w1 (wD_fr (by decide +kernel) w0 d0)⟩
  by_cases e0_8 : sc.2 ((x3 + (5)).toNat) ≤ (7 : Int)
  · refine wcallX wS_328_ok (wr (sc.2 ((x3 + (1)).toNat)) (sc.2 ((x3 + (2)).toNat)) (sc.2 ((x3 + (3)).toNat)) (sc.2 ((x3 + (4)).toNat)) (sc.2 ((x3 + (5)).toNat))) (by decide) rfl rfl (aNm_c ⟨Int.le_refl _, Int.le_refl _⟩ (aNm_c (aF32_ok.2 (hs _)) (aNm_c (aF32_ok.2 (hs _)) (aNm_c (aF32_ok.2 (hs _)) (aNm_c (aF32_ok.2 (hs _)) (aNm_c ⟨(by show (7 : Int) ≤ sc.2 ((x3 + (5)).toNat); omega), (by show sc.2 ((x3 + (5)).toNat) ≤ (7 : Int); omega)⟩ (aNm_n))))))) rfl (by
      show [(0, zP 0), (1, zI (sc.2 ((x3 + (1)).toNat) + 0)), (2, zI (sc.2 ((x3 + (2)).toNat) + 0)), (3, zI (sc.2 ((x3 + (3)).toNat) + 0)), (4, zI (sc.2 ((x3 + (4)).toNat) + 0)), (5, zI (sc.2 ((x3 + (5)).toNat) + 0))] = _
      simp only [Int.add_zero]) g0 (jk_41 g0 i0 (hs _)) (fun z0 f1 g1 w0 h0 => ?_)
    refine zov_p (by omega) (zix_p (by omega) (zov_p (by omega) (zix_p (by omega) (zov_p (by omega) (zix_p (by omega) (zov_p (by omega) (zix_p (by omega) (zov_p (by omega) (zix_p (by omega) (?_))))))))))
    refine wcallX wS_391_ok (wr (sc.2 ((x3 + (1)).toNat)) (sc.2 ((x3 + (2)).toNat)) (sc.2 ((x3 + (3)).toNat)) (sc.2 ((x3 + (4)).toNat)) (sc.2 ((x3 + (5)).toNat))) (by decide) rfl rfl (aNm_c ⟨Int.le_refl _, Int.le_refl _⟩ (aNm_c (aF32_ok.2 (hs _)) (aNm_c (aF32_ok.2 (hs _)) (aNm_c (aF32_ok.2 (hs _)) (aNm_c (aF32_ok.2 (hs _)) (aNm_c ⟨(by show (7 : Int) ≤ sc.2 ((x3 + (5)).toNat); omega), (by show sc.2 ((x3 + (5)).toNat) ≤ (7 : Int); omega)⟩ (aNm_n))))))) rfl (by
      show [(0, zP 50), (1, zI (sc.2 ((x3 + (1)).toNat) + 0)), (2, zI (sc.2 ((x3 + (2)).toNat) + 0)), (3, zI (sc.2 ((x3 + (3)).toNat) + 0)), (4, zI (sc.2 ((x3 + (4)).toNat) + 0)), (5, zI (sc.2 ((x3 + (5)).toNat) + 0))] = _
      simp only [Int.add_zero]) g1 h0 (fun z1 f2 g2 w1 h1 => ?_)
    exact H _ g2 ⟨h1.1, wBt_fr (by decide +kernel) w1 (wBt_fr (by decide +kernel) w0 b0), wD_fr (by decide +kernel) w1 (wD_fr (by decide +kernel) w0 d0)⟩
  by_cases e0_9 : sc.2 ((x3 + (5)).toNat) ≤ (8 : Int)
  · refine wcallX wS_329_ok (wr (sc.2 ((x3 + (1)).toNat)) (sc.2 ((x3 + (2)).toNat)) (sc.2 ((x3 + (3)).toNat)) (sc.2 ((x3 + (4)).toNat)) (sc.2 ((x3 + (5)).toNat))) (by decide) rfl rfl (aNm_c ⟨Int.le_refl _, Int.le_refl _⟩ (aNm_c (aF32_ok.2 (hs _)) (aNm_c (aF32_ok.2 (hs _)) (aNm_c (aF32_ok.2 (hs _)) (aNm_c (aF32_ok.2 (hs _)) (aNm_c ⟨(by show (8 : Int) ≤ sc.2 ((x3 + (5)).toNat); omega), (by show sc.2 ((x3 + (5)).toNat) ≤ (8 : Int); omega)⟩ (aNm_n))))))) rfl (by
      show [(0, zP 0), (1, zI (sc.2 ((x3 + (1)).toNat) + 0)), (2, zI (sc.2 ((x3 + (2)).toNat) + 0)), (3, zI (sc.2 ((x3 + (3)).toNat) + 0)), (4, zI (sc.2 ((x3 + (4)).toNat) + 0)), (5, zI (sc.2 ((x3 + (5)).toNat) + 0))] = _
      simp only [Int.add_zero]) g0 (jk_41 g0 i0 (hs _)) (fun z0 f1 g1 w0 h0 => ?_)
    refine zov_p (by omega) (zix_p (by omega) (zov_p (by omega) (zix_p (by omega) (zov_p (by omega) (zix_p (by omega) (zov_p (by omega) (zix_p (by omega) (zov_p (by omega) (zix_p (by omega) (?_))))))))))
    refine wcallX wS_392_ok (wr (sc.2 ((x3 + (1)).toNat)) (sc.2 ((x3 + (2)).toNat)) (sc.2 ((x3 + (3)).toNat)) (sc.2 ((x3 + (4)).toNat)) (sc.2 ((x3 + (5)).toNat))) (by decide) rfl rfl (aNm_c ⟨Int.le_refl _, Int.le_refl _⟩ (aNm_c (aF32_ok.2 (hs _)) (aNm_c (aF32_ok.2 (hs _)) (aNm_c (aF32_ok.2 (hs _)) (aNm_c (aF32_ok.2 (hs _)) (aNm_c ⟨(by show (8 : Int) ≤ sc.2 ((x3 + (5)).toNat); omega), (by show sc.2 ((x3 + (5)).toNat) ≤ (8 : Int); omega)⟩ (aNm_n))))))) rfl (by
      show [(0, zP 50), (1, zI (sc.2 ((x3 + (1)).toNat) + 0)), (2, zI (sc.2 ((x3 + (2)).toNat) + 0)), (3, zI (sc.2 ((x3 + (3)).toNat) + 0)), (4, zI (sc.2 ((x3 + (4)).toNat) + 0)), (5, zI (sc.2 ((x3 + (5)).toNat) + 0))] = _
      simp only [Int.add_zero]) g1 h0 (fun z1 f2 g2 w1 h1 => ?_)
    exact H _ g2 ⟨h1.1, wBt_fr (by decide +kernel) w1 (wBt_fr (by decide +kernel) w0 b0), wD_fr (by decide +kernel) w1 (wD_fr (by decide +kernel) w0 d0)⟩
  by_cases e0_10 : sc.2 ((x3 + (5)).toNat) ≤ (9 : Int)
  · refine wcallX wS_330_ok (wr (sc.2 ((x3 + (1)).toNat)) (sc.2 ((x3 + (2)).toNat)) (sc.2 ((x3 + (3)).toNat)) (sc.2 ((x3 + (4)).toNat)) (sc.2 ((x3 + (5)).toNat))) (by decide) rfl rfl (aNm_c ⟨Int.le_refl _, Int.le_refl _⟩ (aNm_c (aF32_ok.2 (hs _)) (aNm_c (aF32_ok.2 (hs _)) (aNm_c (aF32_ok.2 (hs _)) (aNm_c (aF32_ok.2 (hs _)) (aNm_c ⟨(by show (9 : Int) ≤ sc.2 ((x3 + (5)).toNat); omega), (by show sc.2 ((x3 + (5)).toNat) ≤ (9 : Int); omega)⟩ (aNm_n))))))) rfl (by
      show [(0, zP 0), (1, zI (sc.2 ((x3 + (1)).toNat) + 0)), (2, zI (sc.2 ((x3 + (2)).toNat) + 0)), (3, zI (sc.2 ((x3 + (3)).toNat) + 0)), (4, zI (sc.2 ((x3 + (4)).toNat) + 0)), (5, zI (sc.2 ((x3 + (5)).toNat) + 0))] = _
      simp only [Int.add_zero]) g0 (jk_41 g0 i0 (hs _)) (fun z0 f1 g1 w0 h0 => ?_)
    refine zov_p (by omega) (zix_p (by omega) (zov_p (by omega) (zix_p (by omega) (zov_p (by omega) (zix_p (by omega) (zov_p (by omega) (zix_p (by omega) (zov_p (by omega) (zix_p (by omega) (?_))))))))))
    refine wcallX wS_393_ok (wr (sc.2 ((x3 + (1)).toNat)) (sc.2 ((x3 + (2)).toNat)) (sc.2 ((x3 + (3)).toNat)) (sc.2 ((x3 + (4)).toNat)) (sc.2 ((x3 + (5)).toNat))) (by decide) rfl rfl (aNm_c ⟨Int.le_refl _, Int.le_refl _⟩ (aNm_c (aF32_ok.2 (hs _)) (aNm_c (aF32_ok.2 (hs _)) (aNm_c (aF32_ok.2 (hs _)) (aNm_c (aF32_ok.2 (hs _)) (aNm_c ⟨(by show (9 : Int) ≤ sc.2 ((x3 + (5)).toNat); omega), (by show sc.2 ((x3 + (5)).toNat) ≤ (9 : Int); omega)⟩ (aNm_n))))))) rfl (by
      show [(0, zP 50), (1, zI (sc.2 ((x3 + (1)).toNat) + 0)), (2, zI (sc.2 ((x3 + (2)).toNat) + 0)), (3, zI (sc.2 ((x3 + (3)).toNat) + 0)), (4, zI (sc.2 ((x3 + (4)).toNat) + 0)), (5, zI (sc.2 ((x3 + (5)).toNat) + 0))] = _
      simp only [Int.add_zero]) g1 h0 (fun z1 f2 g2 w1 h1 => ?_)
    exact H _ g2 ⟨h1.1, wBt_fr (by decide +kernel) w1 (wBt_fr (by decide +kernel) w0 b0), wD_fr (by decide +kernel) w1 (wD_fr (by decide +kernel) w0 d0)⟩
  by_cases e0_11 : sc.2 ((x3 + (5)).toNat) ≤ (10 : Int)
  · refine wcallX wS_331_ok (wr (sc.2 ((x3 + (1)).toNat)) (sc.2 ((x3 + (2)).toNat)) (sc.2 ((x3 + (3)).toNat)) (sc.2 ((x3 + (4)).toNat)) (sc.2 ((x3 + (5)).toNat))) (by decide) rfl rfl (aNm_c ⟨Int.le_refl _, Int.le_refl _⟩ (aNm_c (aF32_ok.2 (hs _)) (aNm_c (aF32_ok.2 (hs _)) (aNm_c (aF32_ok.2 (hs _)) (aNm_c (aF32_ok.2 (hs _)) (aNm_c ⟨(by show (10 : Int) ≤ sc.2 ((x3 + (5)).toNat); omega), (by show sc.2 ((x3 + (5)).toNat) ≤ (10 : Int); omega)⟩ (aNm_n))))))) rfl (by
      show [(0, zP 0), (1, zI (sc.2 ((x3 + (1)).toNat) + 0)), (2, zI (sc.2 ((x3 + (2)).toNat) + 0)), (3, zI (sc.2 ((x3 + (3)).toNat) + 0)), (4, zI (sc.2 ((x3 + (4)).toNat) + 0)), (5, zI (sc.2 ((x3 + (5)).toNat) + 0))] = _
      simp only [Int.add_zero]) g0 (jk_41 g0 i0 (hs _)) (fun z0 f1 g1 w0 h0 => ?_)
    refine zov_p (by omega) (zix_p (by omega) (zov_p (by omega) (zix_p (by omega) (zov_p (by omega) (zix_p (by omega) (zov_p (by omega) (zix_p (by omega) (zov_p (by omega) (zix_p (by omega) (?_))))))))))
    refine wcallX wS_394_ok (wr (sc.2 ((x3 + (1)).toNat)) (sc.2 ((x3 + (2)).toNat)) (sc.2 ((x3 + (3)).toNat)) (sc.2 ((x3 + (4)).toNat)) (sc.2 ((x3 + (5)).toNat))) (by decide) rfl rfl (aNm_c ⟨Int.le_refl _, Int.le_refl _⟩ (aNm_c (aF32_ok.2 (hs _)) (aNm_c (aF32_ok.2 (hs _)) (aNm_c (aF32_ok.2 (hs _)) (aNm_c (aF32_ok.2 (hs _)) (aNm_c ⟨(by show (10 : Int) ≤ sc.2 ((x3 + (5)).toNat); omega), (by show sc.2 ((x3 + (5)).toNat) ≤ (10 : Int); omega)⟩ (aNm_n))))))) rfl (by
      show [(0, zP 50), (1, zI (sc.2 ((x3 + (1)).toNat) + 0)), (2, zI (sc.2 ((x3 + (2)).toNat) + 0)), (3, zI (sc.2 ((x3 + (3)).toNat) + 0)), (4, zI (sc.2 ((x3 + (4)).toNat) + 0)), (5, zI (sc.2 ((x3 + (5)).toNat) + 0))] = _
      simp only [Int.add_zero]) g1 h0 (fun z1 f2 g2 w1 h1 => ?_)
    exact H _ g2 ⟨h1.1, wBt_fr (by decide +kernel) w1 (wBt_fr (by decide +kernel) w0 b0), wD_fr (by decide +kernel) w1 (wD_fr (by decide +kernel) w0 d0)⟩
  by_cases e0_12 : sc.2 ((x3 + (5)).toNat) ≤ (11 : Int)
  · refine wcallX wS_332_ok (wr (sc.2 ((x3 + (1)).toNat)) (sc.2 ((x3 + (2)).toNat)) (sc.2 ((x3 + (3)).toNat)) (sc.2 ((x3 + (4)).toNat)) (sc.2 ((x3 + (5)).toNat))) (by decide) rfl rfl (aNm_c ⟨Int.le_refl _, Int.le_refl _⟩ (aNm_c (aF32_ok.2 (hs _)) (aNm_c (aF32_ok.2 (hs _)) (aNm_c (aF32_ok.2 (hs _)) (aNm_c (aF32_ok.2 (hs _)) (aNm_c ⟨(by show (11 : Int) ≤ sc.2 ((x3 + (5)).toNat); omega), (by show sc.2 ((x3 + (5)).toNat) ≤ (11 : Int); omega)⟩ (aNm_n))))))) rfl (by
      show [(0, zP 0), (1, zI (sc.2 ((x3 + (1)).toNat) + 0)), (2, zI (sc.2 ((x3 + (2)).toNat) + 0)), (3, zI (sc.2 ((x3 + (3)).toNat) + 0)), (4, zI (sc.2 ((x3 + (4)).toNat) + 0)), (5, zI (sc.2 ((x3 + (5)).toNat) + 0))] = _
      simp only [Int.add_zero]) g0 (jk_41 g0 i0 (hs _)) (fun z0 f1 g1 w0 h0 => ?_)
    refine zov_p (by omega) (zix_p (by omega) (zov_p (by omega) (zix_p (by omega) (zov_p (by omega) (zix_p (by omega) (zov_p (by omega) (zix_p (by omega) (zov_p (by omega) (zix_p (by omega) (?_))))))))))
    refine wcallX wS_395_ok (wr (sc.2 ((x3 + (1)).toNat)) (sc.2 ((x3 + (2)).toNat)) (sc.2 ((x3 + (3)).toNat)) (sc.2 ((x3 + (4)).toNat)) (sc.2 ((x3 + (5)).toNat))) (by decide) rfl rfl (aNm_c ⟨Int.le_refl _, Int.le_refl _⟩ (aNm_c (aF32_ok.2 (hs _)) (aNm_c (aF32_ok.2 (hs _)) (aNm_c (aF32_ok.2 (hs _)) (aNm_c (aF32_ok.2 (hs _)) (aNm_c ⟨(by show (11 : Int) ≤ sc.2 ((x3 + (5)).toNat); omega), (by show sc.2 ((x3 + (5)).toNat) ≤ (11 : Int); omega)⟩ (aNm_n))))))) rfl (by
      show [(0, zP 50), (1, zI (sc.2 ((x3 + (1)).toNat) + 0)), (2, zI (sc.2 ((x3 + (2)).toNat) + 0)), (3, zI (sc.2 ((x3 + (3)).toNat) + 0)), (4, zI (sc.2 ((x3 + (4)).toNat) + 0)), (5, zI (sc.2 ((x3 + (5)).toNat) + 0))] = _
      simp only [Int.add_zero]) g1 h0 (fun z1 f2 g2 w1 h1 => ?_)
    exact H _ g2 ⟨h1.1, wBt_fr (by decide +kernel) w1 (wBt_fr (by decide +kernel) w0 b0), wD_fr (by decide +kernel) w1 (wD_fr (by decide +kernel) w0 d0)⟩
  by_cases e0_13 : sc.2 ((x3 + (5)).toNat) ≤ (12 : Int)
  · refine wcallX wS_333_ok (wr (sc.2 ((x3 + (1)).toNat)) (sc.2 ((x3 + (2)).toNat)) (sc.2 ((x3 + (3)).toNat)) (sc.2 ((x3 + (4)).toNat)) (sc.2 ((x3 + (5)).toNat))) (by decide) rfl rfl (aNm_c ⟨Int.le_refl _, Int.le_refl _⟩ (aNm_c (aF32_ok.2 (hs _)) (aNm_c (aF32_ok.2 (hs _)) (aNm_c (aF32_ok.2 (hs _)) (aNm_c (aF32_ok.2 (hs _)) (aNm_c ⟨(by show (12 : Int) ≤ sc.2 ((x3 + (5)).toNat); omega), (by show sc.2 ((x3 + (5)).toNat) ≤ (12 : Int); omega)⟩ (aNm_n))))))) rfl (by
      show [(0, zP 0), (1, zI (sc.2 ((x3 + (1)).toNat) + 0)), (2, zI (sc.2 ((x3 + (2)).toNat) + 0)), (3, zI (sc.2 ((x3 + (3)).toNat) + 0)), (4, zI (sc.2 ((x3 + (4)).toNat) + 0)), (5, zI (sc.2 ((x3 + (5)).toNat) + 0))] = _
      simp only [Int.add_zero]) g0 (jk_41 g0 i0 (hs _)) (fun z0 f1 g1 w0 h0 => ?_)
    refine zov_p (by omega) (zix_p (by omega) (zov_p (by omega) (zix_p (by omega) (zov_p (by omega) (zix_p (by omega) (zov_p (by omega) (zix_p (by omega) (zov_p (by omega) (zix_p (by omega) (?_))))))))))
    refine wcallX wS_396_ok (wr (sc.2 ((x3 + (1)).toNat)) (sc.2 ((x3 + (2)).toNat)) (sc.2 ((x3 + (3)).toNat)) (sc.2 ((x3 + (4)).toNat)) (sc.2 ((x3 + (5)).toNat))) (by decide) rfl rfl (aNm_c ⟨Int.le_refl _, Int.le_refl _⟩ (aNm_c (aF32_ok.2 (hs _)) (aNm_c (aF32_ok.2 (hs _)) (aNm_c (aF32_ok.2 (hs _)) (aNm_c (aF32_ok.2 (hs _)) (aNm_c ⟨(by show (12 : Int) ≤ sc.2 ((x3 + (5)).toNat); omega), (by show sc.2 ((x3 + (5)).toNat) ≤ (12 : Int); omega)⟩ (aNm_n))))))) rfl (by
      show [(0, zP 50), (1, zI (sc.2 ((x3 + (1)).toNat) + 0)), (2, zI (sc.2 ((x3 + (2)).toNat) + 0)), (3, zI (sc.2 ((x3 + (3)).toNat) + 0)), (4, zI (sc.2 ((x3 + (4)).toNat) + 0)), (5, zI (sc.2 ((x3 + (5)).toNat) + 0))] = _
      simp only [Int.add_zero]) g1 h0 (fun z1 f2 g2 w1 h1 => ?_)
    exact H _ g2 ⟨h1.1, wBt_fr (by decide +kernel) w1 (wBt_fr (by decide +kernel) w0 b0), wD_fr (by decide +kernel) w1 (wD_fr (by decide +kernel) w0 d0)⟩
  by_cases e0_14 : sc.2 ((x3 + (5)).toNat) ≤ (13 : Int)
  · refine wcallX wS_334_ok (wr (sc.2 ((x3 + (1)).toNat)) (sc.2 ((x3 + (2)).toNat)) (sc.2 ((x3 + (3)).toNat)) (sc.2 ((x3 + (4)).toNat)) (sc.2 ((x3 + (5)).toNat))) (by decide) rfl rfl (aNm_c ⟨Int.le_refl _, Int.le_refl _⟩ (aNm_c (aF32_ok.2 (hs _)) (aNm_c (aF32_ok.2 (hs _)) (aNm_c (aF32_ok.2 (hs _)) (aNm_c (aF32_ok.2 (hs _)) (aNm_c ⟨(by show (13 : Int) ≤ sc.2 ((x3 + (5)).toNat); omega), (by show sc.2 ((x3 + (5)).toNat) ≤ (13 : Int); omega)⟩ (aNm_n))))))) rfl (by
      show [(0, zP 0), (1, zI (sc.2 ((x3 + (1)).toNat) + 0)), (2, zI (sc.2 ((x3 + (2)).toNat) + 0)), (3, zI (sc.2 ((x3 + (3)).toNat) + 0)), (4, zI (sc.2 ((x3 + (4)).toNat) + 0)), (5, zI (sc.2 ((x3 + (5)).toNat) + 0))] = _
      simp only [Int.add_zero]) g0 (jk_41 g0 i0 (hs _)) (fun z0 f1 g1 w0 h0 => ?_)
    refine zov_p (by omega) (zix_p (by omega) (zov_p (by omega) (zix_p (by omega) (zov_p (by omega) (zix_p (by omega) (zov_p (by omega) (zix_p (by omega) (zov_p (by omega) (zix_p (by omega) (?_))))))))))
    refine wcallX wS_397_ok (wr (sc.2 ((x3 + (1)).toNat)) (sc.2 ((x3 + (2)).toNat)) (sc.2 ((x3 + (3)).toNat)) (sc.2 ((x3 + (4)).toNat)) (sc.2 ((x3 + (5)).toNat))) (by decide) rfl rfl (aNm_c ⟨Int.le_refl _, Int.le_refl _⟩ (aNm_c (aF32_ok.2 (hs _)) (aNm_c (aF32_ok.2 (hs _)) (aNm_c (aF32_ok.2 (hs _)) (aNm_c (aF32_ok.2 (hs _)) (aNm_c ⟨(by show (13 : Int) ≤ sc.2 ((x3 + (5)).toNat); omega), (by show sc.2 ((x3 + (5)).toNat) ≤ (13 : Int); omega)⟩ (aNm_n))))))) rfl (by
      show [(0, zP 50), (1, zI (sc.2 ((x3 + (1)).toNat) + 0)), (2, zI (sc.2 ((x3 + (2)).toNat) + 0)), (3, zI (sc.2 ((x3 + (3)).toNat) + 0)), (4, zI (sc.2 ((x3 + (4)).toNat) + 0)), (5, zI (sc.2 ((x3 + (5)).toNat) + 0))] = _
      simp only [Int.add_zero]) g1 h0 (fun z1 f2 g2 w1 h1 => ?_)
    exact H _ g2 ⟨h1.1, wBt_fr (by decide +kernel) w1 (wBt_fr (by decide +kernel) w0 b0), wD_fr (by decide +kernel) w1 (wD_fr (by decide +kernel) w0 d0)⟩
  by_cases e0_15 : sc.2 ((x3 + (5)).toNat) ≤ (14 : Int)
  · refine wcallX wS_335_ok (wr (sc.2 ((x3 + (1)).toNat)) (sc.2 ((x3 + (2)).toNat)) (sc.2 ((x3 + (3)).toNat)) (sc.2 ((x3 + (4)).toNat)) (sc.2 ((x3 + (5)).toNat))) (by decide) rfl rfl (aNm_c ⟨Int.le_refl _, Int.le_refl _⟩ (aNm_c (aF32_ok.2 (hs _)) (aNm_c (aF32_ok.2 (hs _)) (aNm_c (aF32_ok.2 (hs _)) (aNm_c (aF32_ok.2 (hs _)) (aNm_c ⟨(by show (14 : Int) ≤ sc.2 ((x3 + (5)).toNat); omega), (by show sc.2 ((x3 + (5)).toNat) ≤ (14 : Int); omega)⟩ (aNm_n))))))) rfl (by
      show [(0, zP 0), (1, zI (sc.2 ((x3 + (1)).toNat) + 0)), (2, zI (sc.2 ((x3 + (2)).toNat) + 0)), (3, zI (sc.2 ((x3 + (3)).toNat) + 0)), (4, zI (sc.2 ((x3 + (4)).toNat) + 0)), (5, zI (sc.2 ((x3 + (5)).toNat) + 0))] = _
      simp only [Int.add_zero]) g0 (jk_41 g0 i0 (hs _)) (fun z0 f1 g1 w0 h0 => ?_)
    refine zov_p (by omega) (zix_p (by omega) (zov_p (by omega) (zix_p (by omega) (zov_p (by omega) (zix_p (by omega) (zov_p (by omega) (zix_p (by omega) (zov_p (by omega) (zix_p (by omega) (?_))))))))))
    refine wcallX wS_398_ok (wr (sc.2 ((x3 + (1)).toNat)) (sc.2 ((x3 + (2)).toNat)) (sc.2 ((x3 + (3)).toNat)) (sc.2 ((x3 + (4)).toNat)) (sc.2 ((x3 + (5)).toNat))) (by decide) rfl rfl (aNm_c ⟨Int.le_refl _, Int.le_refl _⟩ (aNm_c (aF32_ok.2 (hs _)) (aNm_c (aF32_ok.2 (hs _)) (aNm_c (aF32_ok.2 (hs _)) (aNm_c (aF32_ok.2 (hs _)) (aNm_c ⟨(by show (14 : Int) ≤ sc.2 ((x3 + (5)).toNat); omega), (by show sc.2 ((x3 + (5)).toNat) ≤ (14 : Int); omega)⟩ (aNm_n))))))) rfl (by
      show [(0, zP 50), (1, zI (sc.2 ((x3 + (1)).toNat) + 0)), (2, zI (sc.2 ((x3 + (2)).toNat) + 0)), (3, zI (sc.2 ((x3 + (3)).toNat) + 0)), (4, zI (sc.2 ((x3 + (4)).toNat) + 0)), (5, zI (sc.2 ((x3 + (5)).toNat) + 0))] = _
      simp only [Int.add_zero]) g1 h0 (fun z1 f2 g2 w1 h1 => ?_)
    exact H _ g2 ⟨h1.1, wBt_fr (by decide +kernel) w1 (wBt_fr (by decide +kernel) w0 b0), wD_fr (by decide +kernel) w1 (wD_fr (by decide +kernel) w0 d0)⟩
  by_cases e0_16 : sc.2 ((x3 + (5)).toNat) ≤ (15 : Int)
  · refine wcallX wS_336_ok (wr (sc.2 ((x3 + (1)).toNat)) (sc.2 ((x3 + (2)).toNat)) (sc.2 ((x3 + (3)).toNat)) (sc.2 ((x3 + (4)).toNat)) (sc.2 ((x3 + (5)).toNat))) (by decide) rfl rfl (aNm_c ⟨Int.le_refl _, Int.le_refl _⟩ (aNm_c (aF32_ok.2 (hs _)) (aNm_c (aF32_ok.2 (hs _)) (aNm_c (aF32_ok.2 (hs _)) (aNm_c (aF32_ok.2 (hs _)) (aNm_c ⟨(by show (15 : Int) ≤ sc.2 ((x3 + (5)).toNat); omega), (by show sc.2 ((x3 + (5)).toNat) ≤ (15 : Int); omega)⟩ (aNm_n))))))) rfl (by
      show [(0, zP 0), (1, zI (sc.2 ((x3 + (1)).toNat) + 0)), (2, zI (sc.2 ((x3 + (2)).toNat) + 0)), (3, zI (sc.2 ((x3 + (3)).toNat) + 0)), (4, zI (sc.2 ((x3 + (4)).toNat) + 0)), (5, zI (sc.2 ((x3 + (5)).toNat) + 0))] = _
      simp only [Int.add_zero]) g0 (jk_41 g0 i0 (hs _)) (fun z0 f1 g1 w0 h0 => ?_)
    refine zov_p (by omega) (zix_p (by omega) (zov_p (by omega) (zix_p (by omega) (zov_p (by omega) (zix_p (by omega) (zov_p (by omega) (zix_p (by omega) (zov_p (by omega) (zix_p (by omega) (?_))))))))))
    refine wcallX wS_399_ok (wr (sc.2 ((x3 + (1)).toNat)) (sc.2 ((x3 + (2)).toNat)) (sc.2 ((x3 + (3)).toNat)) (sc.2 ((x3 + (4)).toNat)) (sc.2 ((x3 + (5)).toNat))) (by decide) rfl rfl (aNm_c ⟨Int.le_refl _, Int.le_refl _⟩ (aNm_c (aF32_ok.2 (hs _)) (aNm_c (aF32_ok.2 (hs _)) (aNm_c (aF32_ok.2 (hs _)) (aNm_c (aF32_ok.2 (hs _)) (aNm_c ⟨(by show (15 : Int) ≤ sc.2 ((x3 + (5)).toNat); omega), (by show sc.2 ((x3 + (5)).toNat) ≤ (15 : Int); omega)⟩ (aNm_n))))))) rfl (by
      show [(0, zP 50), (1, zI (sc.2 ((x3 + (1)).toNat) + 0)), (2, zI (sc.2 ((x3 + (2)).toNat) + 0)), (3, zI (sc.2 ((x3 + (3)).toNat) + 0)), (4, zI (sc.2 ((x3 + (4)).toNat) + 0)), (5, zI (sc.2 ((x3 + (5)).toNat) + 0))] = _
      simp only [Int.add_zero]) g1 h0 (fun z1 f2 g2 w1 h1 => ?_)
    exact H _ g2 ⟨h1.1, wBt_fr (by decide +kernel) w1 (wBt_fr (by decide +kernel) w0 b0), wD_fr (by decide +kernel) w1 (wD_fr (by decide +kernel) w0 d0)⟩
  by_cases e0_17 : sc.2 ((x3 + (5)).toNat) ≤ (16 : Int)
  · refine wcallX wS_337_ok (wr (sc.2 ((x3 + (1)).toNat)) (sc.2 ((x3 + (2)).toNat)) (sc.2 ((x3 + (3)).toNat)) (sc.2 ((x3 + (4)).toNat)) (sc.2 ((x3 + (5)).toNat))) (by decide) rfl rfl (aNm_c ⟨Int.le_refl _, Int.le_refl _⟩ (aNm_c (aF32_ok.2 (hs _)) (aNm_c (aF32_ok.2 (hs _)) (aNm_c (aF32_ok.2 (hs _)) (aNm_c (aF32_ok.2 (hs _)) (aNm_c ⟨(by show (16 : Int) ≤ sc.2 ((x3 + (5)).toNat); omega), (by show sc.2 ((x3 + (5)).toNat) ≤ (16 : Int); omega)⟩ (aNm_n))))))) rfl (by
      show [(0, zP 0), (1, zI (sc.2 ((x3 + (1)).toNat) + 0)), (2, zI (sc.2 ((x3 + (2)).toNat) + 0)), (3, zI (sc.2 ((x3 + (3)).toNat) + 0)), (4, zI (sc.2 ((x3 + (4)).toNat) + 0)), (5, zI (sc.2 ((x3 + (5)).toNat) + 0))] = _
      simp only [Int.add_zero]) g0 (jk_41 g0 i0 (hs _)) (fun z0 f1 g1 w0 h0 => ?_)
    refine zov_p (by omega) (zix_p (by omega) (zov_p (by omega) (zix_p (by omega) (zov_p (by omega) (zix_p (by omega) (zov_p (by omega) (zix_p (by omega) (zov_p (by omega) (zix_p (by omega) (?_))))))))))
    refine wcallX wS_400_ok (wr (sc.2 ((x3 + (1)).toNat)) (sc.2 ((x3 + (2)).toNat)) (sc.2 ((x3 + (3)).toNat)) (sc.2 ((x3 + (4)).toNat)) (sc.2 ((x3 + (5)).toNat))) (by decide) rfl rfl (aNm_c ⟨Int.le_refl _, Int.le_refl _⟩ (aNm_c (aF32_ok.2 (hs _)) (aNm_c (aF32_ok.2 (hs _)) (aNm_c (aF32_ok.2 (hs _)) (aNm_c (aF32_ok.2 (hs _)) (aNm_c ⟨(by show (16 : Int) ≤ sc.2 ((x3 + (5)).toNat); omega), (by show sc.2 ((x3 + (5)).toNat) ≤ (16 : Int); omega)⟩ (aNm_n))))))) rfl (by
      show [(0, zP 50), (1, zI (sc.2 ((x3 + (1)).toNat) + 0)), (2, zI (sc.2 ((x3 + (2)).toNat) + 0)), (3, zI (sc.2 ((x3 + (3)).toNat) + 0)), (4, zI (sc.2 ((x3 + (4)).toNat) + 0)), (5, zI (sc.2 ((x3 + (5)).toNat) + 0))] = _
      simp only [Int.add_zero]) g1 h0 (fun z1 f2 g2 w1 h1 => ?_)
    exact H _ g2 ⟨h1.1, wBt_fr (by decide +kernel) w1 (wBt_fr (by decide +kernel) w0 b0), wD_fr (by decide +kernel) w1 (wD_fr (by decide +kernel) w0 d0)⟩
  by_cases e0_18 : sc.2 ((x3 + (5)).toNat) ≤ (17 : Int)
  · refine wcallX wS_338_ok (wr (sc.2 ((x3 + (1)).toNat)) (sc.2 ((x3 + (2)).toNat)) (sc.2 ((x3 + (3)).toNat)) (sc.2 ((x3 + (4)).toNat)) (sc.2 ((x3 + (5)).toNat))) (by decide) rfl rfl (aNm_c ⟨Int.le_refl _, Int.le_refl _⟩ (aNm_c (aF32_ok.2 (hs _)) (aNm_c (aF32_ok.2 (hs _)) (aNm_c (aF32_ok.2 (hs _)) (aNm_c (aF32_ok.2 (hs _)) (aNm_c ⟨(by show (17 : Int) ≤ sc.2 ((x3 + (5)).toNat); omega), (by show sc.2 ((x3 + (5)).toNat) ≤ (17 : Int); omega)⟩ (aNm_n))))))) rfl (by
      show [(0, zP 0), (1, zI (sc.2 ((x3 + (1)).toNat) + 0)), (2, zI (sc.2 ((x3 + (2)).toNat) + 0)), (3, zI (sc.2 ((x3 + (3)).toNat) + 0)), (4, zI (sc.2 ((x3 + (4)).toNat) + 0)), (5, zI (sc.2 ((x3 + (5)).toNat) + 0))] = _
      simp only [Int.add_zero]) g0 (jk_41 g0 i0 (hs _)) (fun z0 f1 g1 w0 h0 => ?_)
    refine zov_p (by omega) (zix_p (by omega) (zov_p (by omega) (zix_p (by omega) (zov_p (by omega) (zix_p (by omega) (zov_p (by omega) (zix_p (by omega) (zov_p (by omega) (zix_p (by omega) (?_))))))))))
    refine wcallX wS_401_ok (wr (sc.2 ((x3 + (1)).toNat)) (sc.2 ((x3 + (2)).toNat)) (sc.2 ((x3 + (3)).toNat)) (sc.2 ((x3 + (4)).toNat)) (sc.2 ((x3 + (5)).toNat))) (by decide) rfl rfl (aNm_c ⟨Int.le_refl _, Int.le_refl _⟩ (aNm_c (aF32_ok.2 (hs _)) (aNm_c (aF32_ok.2 (hs _)) (aNm_c (aF32_ok.2 (hs _)) (aNm_c (aF32_ok.2 (hs _)) (aNm_c ⟨(by show (17 : Int) ≤ sc.2 ((x3 + (5)).toNat); omega), (by show sc.2 ((x3 + (5)).toNat) ≤ (17 : Int); omega)⟩ (aNm_n))))))) rfl (by
      show [(0, zP 50), (1, zI (sc.2 ((x3 + (1)).toNat) + 0)), (2, zI (sc.2 ((x3 + (2)).toNat) + 0)), (3, zI (sc.2 ((x3 + (3)).toNat) + 0)), (4, zI (sc.2 ((x3 + (4)).toNat) + 0)), (5, zI (sc.2 ((x3 + (5)).toNat) + 0))] = _
      simp only [Int.add_zero]) g1 h0 (fun z1 f2 g2 w1 h1 => ?_)
    exact H _ g2 ⟨h1.1, wBt_fr (by decide +kernel) w1 (wBt_fr (by decide +kernel) w0 b0), wD_fr (by decide +kernel) w1 (wD_fr (by decide +kernel) w0 d0)⟩
  by_cases e0_19 : sc.2 ((x3 + (5)).toNat) ≤ (18 : Int)
  · refine wcallX wS_339_ok (wr (sc.2 ((x3 + (1)).toNat)) (sc.2 ((x3 + (2)).toNat)) (sc.2 ((x3 + (3)).toNat)) (sc.2 ((x3 + (4)).toNat)) (sc.2 ((x3 + (5)).toNat))) (by decide) rfl rfl (aNm_c ⟨Int.le_refl _, Int.le_refl _⟩ (aNm_c (aF32_ok.2 (hs _)) (aNm_c (aF32_ok.2 (hs _)) (aNm_c (aF32_ok.2 (hs _)) (aNm_c (aF32_ok.2 (hs _)) (aNm_c ⟨(by show (18 : Int) ≤ sc.2 ((x3 + (5)).toNat); omega), (by show sc.2 ((x3 + (5)).toNat) ≤ (18 : Int); omega)⟩ (aNm_n))))))) rfl (by
      show [(0, zP 0), (1, zI (sc.2 ((x3 + (1)).toNat) + 0)), (2, zI (sc.2 ((x3 + (2)).toNat) + 0)), (3, zI (sc.2 ((x3 + (3)).toNat) + 0)), (4, zI (sc.2 ((x3 + (4)).toNat) + 0)), (5, zI (sc.2 ((x3 + (5)).toNat) + 0))] = _
      simp only [Int.add_zero]) g0 (jk_41 g0 i0 (hs _)) (fun z0 f1 g1 w0 h0 => ?_)
    refine zov_p (by omega) (zix_p (by omega) (zov_p (by omega) (zix_p (by omega) (zov_p (by omega) (zix_p (by omega) (zov_p (by omega) (zix_p (by omega) (zov_p (by omega) (zix_p (by omega) (?_))))))))))
    refine wcallX wS_402_ok (wr (sc.2 ((x3 + (1)).toNat)) (sc.2 ((x3 + (2)).toNat)) (sc.2 ((x3 + (3)).toNat)) (sc.2 ((x3 + (4)).toNat)) (sc.2 ((x3 + (5)).toNat))) (by decide) rfl rfl (aNm_c ⟨Int.le_refl _, Int.le_refl _⟩ (aNm_c (aF32_ok.2 (hs _)) (aNm_c (aF32_ok.2 (hs _)) (aNm_c (aF32_ok.2 (hs _)) (aNm_c (aF32_ok.2 (hs _)) (aNm_c ⟨(by show (18 : Int) ≤ sc.2 ((x3 + (5)).toNat); omega), (by show sc.2 ((x3 + (5)).toNat) ≤ (18 : Int); omega)⟩ (aNm_n))))))) rfl (by
      show [(0, zP 50), (1, zI (sc.2 ((x3 + (1)).toNat) + 0)), (2, zI (sc.2 ((x3 + (2)).toNat) + 0)), (3, zI (sc.2 ((x3 + (3)).toNat) + 0)), (4, zI (sc.2 ((x3 + (4)).toNat) + 0)), (5, zI (sc.2 ((x3 + (5)).toNat) + 0))] = _
      simp only [Int.add_zero]) g1 h0 (fun z1 f2 g2 w1 h1 => ?_)
    exact H _ g2 ⟨h1.1, wBt_fr (by decide +kernel) w1 (wBt_fr (by decide +kernel) w0 b0), wD_fr (by decide +kernel) w1 (wD_fr (by decide +kernel) w0 d0)⟩
  by_cases e0_20 : sc.2 ((x3 + (5)).toNat) ≤ (19 : Int)
  · refine wcallX wS_340_ok (wr (sc.2 ((x3 + (1)).toNat)) (sc.2 ((x3 + (2)).toNat)) (sc.2 ((x3 + (3)).toNat)) (sc.2 ((x3 + (4)).toNat)) (sc.2 ((x3 + (5)).toNat))) (by decide) rfl rfl (aNm_c ⟨Int.le_refl _, Int.le_refl _⟩ (aNm_c (aF32_ok.2 (hs _)) (aNm_c (aF32_ok.2 (hs _)) (aNm_c (aF32_ok.2 (hs _)) (aNm_c (aF32_ok.2 (hs _)) (aNm_c ⟨(by show (19 : Int) ≤ sc.2 ((x3 + (5)).toNat); omega), (by show sc.2 ((x3 + (5)).toNat) ≤ (19 : Int); omega)⟩ (aNm_n))))))) rfl (by
      show [(0, zP 0), (1, zI (sc.2 ((x3 + (1)).toNat) + 0)), (2, zI (sc.2 ((x3 + (2)).toNat) + 0)), (3, zI (sc.2 ((x3 + (3)).toNat) + 0)), (4, zI (sc.2 ((x3 + (4)).toNat) + 0)), (5, zI (sc.2 ((x3 + (5)).toNat) + 0))] = _
      simp only [Int.add_zero]) g0 (jk_41 g0 i0 (hs _)) (fun z0 f1 g1 w0 h0 => ?_)
    refine zov_p (by omega) (zix_p (by omega) (zov_p (by omega) (zix_p (by omega) (zov_p (by omega) (zix_p (by omega) (zov_p (by omega) (zix_p (by omega) (zov_p (by omega) (zix_p (by omega) (?_))))))))))
    refine wcallX wS_403_ok (wr (sc.2 ((x3 + (1)).toNat)) (sc.2 ((x3 + (2)).toNat)) (sc.2 ((x3 + (3)).toNat)) (sc.2 ((x3 + (4)).toNat)) (sc.2 ((x3 + (5)).toNat))) (by decide) rfl rfl (aNm_c ⟨Int.le_refl _, Int.le_refl _⟩ (aNm_c (aF32_ok.2 (hs _)) (aNm_c (aF32_ok.2 (hs _)) (aNm_c (aF32_ok.2 (hs _)) (aNm_c (aF32_ok.2 (hs _)) (aNm_c ⟨(by show (19 : Int) ≤ sc.2 ((x3 + (5)).toNat); omega), (by show sc.2 ((x3 + (5)).toNat) ≤ (19 : Int); omega)⟩ (aNm_n))))))) rfl (by
      show [(0, zP 50), (1, zI (sc.2 ((x3 + (1)).toNat) + 0)), (2, zI (sc.2 ((x3 + (2)).toNat) + 0)), (3, zI (sc.2 ((x3 + (3)).toNat) + 0)), (4, zI (sc.2 ((x3 + (4)).toNat) + 0)), (5, zI (sc.2 ((x3 + (5)).toNat) + 0))] = _
      simp only [Int.add_zero]) g1 h0 (fun z1 f2 g2 w1 h1 => ?_)
    exact H _ g2 ⟨h1.1, wBt_fr (by decide +kernel) w1 (wBt_fr (by decide +kernel) w0 b0), wD_fr (by decide +kernel) w1 (wD_fr (by decide +kernel) w0 d0)⟩
  by_cases e0_21 : sc.2 ((x3 + (5)).toNat) ≤ (20 : Int)
  · refine wcallX wS_341_ok (wr (sc.2 ((x3 + (1)).toNat)) (sc.2 ((x3 + (2)).toNat)) (sc.2 ((x3 + (3)).toNat)) (sc.2 ((x3 + (4)).toNat)) (sc.2 ((x3 + (5)).toNat))) (by decide) rfl rfl (aNm_c ⟨Int.le_refl _, Int.le_refl _⟩ (aNm_c (aF32_ok.2 (hs _)) (aNm_c (aF32_ok.2 (hs _)) (aNm_c (aF32_ok.2 (hs _)) (aNm_c (aF32_ok.2 (hs _)) (aNm_c ⟨(by show (20 : Int) ≤ sc.2 ((x3 + (5)).toNat); omega), (by show sc.2 ((x3 + (5)).toNat) ≤ (20 : Int); omega)⟩ (aNm_n))))))) rfl (by
      show [(0, zP 0), (1, zI (sc.2 ((x3 + (1)).toNat) + 0)), (2, zI (sc.2 ((x3 + (2)).toNat) + 0)), (3, zI (sc.2 ((x3 + (3)).toNat) + 0)), (4, zI (sc.2 ((x3 + (4)).toNat) + 0)), (5, zI (sc.2 ((x3 + (5)).toNat) + 0))] = _
      simp only [Int.add_zero]) g0 (jk_41 g0 i0 (hs _)) (fun z0 f1 g1 w0 h0 => ?_)
    refine zov_p (by omega) (zix_p (by omega) (zov_p (by omega) (zix_p (by omega) (zov_p (by omega) (zix_p (by omega) (zov_p (by omega) (zix_p (by omega) (zov_p (by omega) (zix_p (by omega) (?_))))))))))
    refine wcallX wS_404_ok (wr (sc.2 ((x3 + (1)).toNat)) (sc.2 ((x3 + (2)).toNat)) (sc.2 ((x3 + (3)).toNat)) (sc.2 ((x3 + (4)).toNat)) (sc.2 ((x3 + (5)).toNat))) (by decide) rfl rfl (aNm_c ⟨Int.le_refl _, Int.le_refl _⟩ (aNm_c (aF32_ok.2 (hs _)) (aNm_c (aF32_ok.2 (hs _)) (aNm_c (aF32_ok.2 (hs _)) (aNm_c (aF32_ok.2 (hs _)) (aNm_c ⟨(by show (20 : Int) ≤ sc.2 ((x3 + (5)).toNat); omega), (by show sc.2 ((x3 + (5)).toNat) ≤ (20 : Int); omega)⟩ (aNm_n))))))) rfl (by
      show [(0, zP 50), (1, zI (sc.2 ((x3 + (1)).toNat) + 0)), (2, zI (sc.2 ((x3 + (2)).toNat) + 0)), (3, zI (sc.2 ((x3 + (3)).toNat) + 0)), (4, zI (sc.2 ((x3 + (4)).toNat) + 0)), (5, zI (sc.2 ((x3 + (5)).toNat) + 0))] = _
      simp only [Int.add_zero]) g1 h0 (fun z1 f2 g2 w1 h1 => ?_)
    exact H _ g2 ⟨h1.1, wBt_fr (by decide +kernel) w1 (wBt_fr (by decide +kernel) w0 b0), wD_fr (by decide +kernel) w1 (wD_fr (by decide +kernel) w0 d0)⟩
  by_cases e0_22 : sc.2 ((x3 + (5)).toNat) ≤ (21 : Int)
  · refine wcallX wS_342_ok (wr (sc.2 ((x3 + (1)).toNat)) (sc.2 ((x3 + (2)).toNat)) (sc.2 ((x3 + (3)).toNat)) (sc.2 ((x3 + (4)).toNat)) (sc.2 ((x3 + (5)).toNat))) (by decide) rfl rfl (aNm_c ⟨Int.le_refl _, Int.le_refl _⟩ (aNm_c (aF32_ok.2 (hs _)) (aNm_c (aF32_ok.2 (hs _)) (aNm_c (aF32_ok.2 (hs _)) (aNm_c (aF32_ok.2 (hs _)) (aNm_c ⟨(by show (21 : Int) ≤ sc.2 ((x3 + (5)).toNat); omega), (by show sc.2 ((x3 + (5)).toNat) ≤ (21 : Int); omega)⟩ (aNm_n))))))) rfl (by
      show [(0, zP 0), (1, zI (sc.2 ((x3 + (1)).toNat) + 0)), (2, zI (sc.2 ((x3 + (2)).toNat) + 0)), (3, zI (sc.2 ((x3 + (3)).toNat) + 0)), (4, zI (sc.2 ((x3 + (4)).toNat) + 0)), (5, zI (sc.2 ((x3 + (5)).toNat) + 0))] = _
      simp only [Int.add_zero]) g0 (jk_41 g0 i0 (hs _)) (fun z0 f1 g1 w0 h0 => ?_)
    refine zov_p (by omega) (zix_p (by omega) (zov_p (by omega) (zix_p (by omega) (zov_p (by omega) (zix_p (by omega) (zov_p (by omega) (zix_p (by omega) (zov_p (by omega) (zix_p (by omega) (?_))))))))))
    refine wcallX wS_405_ok (wr (sc.2 ((x3 + (1)).toNat)) (sc.2 ((x3 + (2)).toNat)) (sc.2 ((x3 + (3)).toNat)) (sc.2 ((x3 + (4)).toNat)) (sc.2 ((x3 + (5)).toNat))) (by decide) rfl rfl (aNm_c ⟨Int.le_refl _, Int.le_refl _⟩ (aNm_c (aF32_ok.2 (hs _)) (aNm_c (aF32_ok.2 (hs _)) (aNm_c (aF32_ok.2 (hs _)) (aNm_c (aF32_ok.2 (hs _)) (aNm_c ⟨(by show (21 : Int) ≤ sc.2 ((x3 + (5)).toNat); omega), (by show sc.2 ((x3 + (5)).toNat) ≤ (21 : Int); omega)⟩ (aNm_n))))))) rfl (by
      show [(0, zP 50), (1, zI (sc.2 ((x3 + (1)).toNat) + 0)), (2, zI (sc.2 ((x3 + (2)).toNat) + 0)), (3, zI (sc.2 ((x3 + (3)).toNat) + 0)), (4, zI (sc.2 ((x3 + (4)).toNat) + 0)), (5, zI (sc.2 ((x3 + (5)).toNat) + 0))] = _
      simp only [Int.add_zero]) g1 h0 (fun z1 f2 g2 w1 h1 => ?_)
    exact H _ g2 ⟨h1.1, wBt_fr (by decide +kernel) w1 (wBt_fr (by decide +kernel) w0 b0), wD_fr (by decide +kernel) w1 (wD_fr (by decide +kernel) w0 d0)⟩
  by_cases e0_23 : sc.2 ((x3 + (5)).toNat) ≤ (22 : Int)
  · refine wcallX wS_343_ok (wr (sc.2 ((x3 + (1)).toNat)) (sc.2 ((x3 + (2)).toNat)) (sc.2 ((x3 + (3)).toNat)) (sc.2 ((x3 + (4)).toNat)) (sc.2 ((x3 + (5)).toNat))) (by decide) rfl rfl (aNm_c ⟨Int.le_refl _, Int.le_refl _⟩ (aNm_c (aF32_ok.2 (hs _)) (aNm_c (aF32_ok.2 (hs _)) (aNm_c (aF32_ok.2 (hs _)) (aNm_c (aF32_ok.2 (hs _)) (aNm_c ⟨(by show (22 : Int) ≤ sc.2 ((x3 + (5)).toNat); omega), (by show sc.2 ((x3 + (5)).toNat) ≤ (22 : Int); omega)⟩ (aNm_n))))))) rfl (by
      show [(0, zP 0), (1, zI (sc.2 ((x3 + (1)).toNat) + 0)), (2, zI (sc.2 ((x3 + (2)).toNat) + 0)), (3, zI (sc.2 ((x3 + (3)).toNat) + 0)), (4, zI (sc.2 ((x3 + (4)).toNat) + 0)), (5, zI (sc.2 ((x3 + (5)).toNat) + 0))] = _
      simp only [Int.add_zero]) g0 (jk_41 g0 i0 (hs _)) (fun z0 f1 g1 w0 h0 => ?_)
    refine zov_p (by omega) (zix_p (by omega) (zov_p (by omega) (zix_p (by omega) (zov_p (by omega) (zix_p (by omega) (zov_p (by omega) (zix_p (by omega) (zov_p (by omega) (zix_p (by omega) (?_))))))))))
    refine wcallX wS_406_ok (wr (sc.2 ((x3 + (1)).toNat)) (sc.2 ((x3 + (2)).toNat)) (sc.2 ((x3 + (3)).toNat)) (sc.2 ((x3 + (4)).toNat)) (sc.2 ((x3 + (5)).toNat))) (by decide) rfl rfl (aNm_c ⟨Int.le_refl _, Int.le_refl _⟩ (aNm_c (aF32_ok.2 (hs _)) (aNm_c (aF32_ok.2 (hs _)) (aNm_c (aF32_ok.2 (hs _)) (aNm_c (aF32_ok.2 (hs _)) (aNm_c ⟨(by show (22 : Int) ≤ sc.2 ((x3 + (5)).toNat); omega), (by show sc.2 ((x3 + (5)).toNat) ≤ (22 : Int); omega)⟩ (aNm_n))))))) rfl (by
      show [(0, zP 50), (1, zI (sc.2 ((x3 + (1)).toNat) + 0)), (2, zI (sc.2 ((x3 + (2)).toNat) + 0)), (3, zI (sc.2 ((x3 + (3)).toNat) + 0)), (4, zI (sc.2 ((x3 + (4)).toNat) + 0)), (5, zI (sc.2 ((x3 + (5)).toNat) + 0))] = _
      simp only [Int.add_zero]) g1 h0 (fun z1 f2 g2 w1 h1 => ?_)
    exact H _ g2 ⟨h1.1, wBt_fr (by decide +kernel) w1 (wBt_fr (by decide +kernel) w0 b0), wD_fr (by decide +kernel) w1 (wD_fr (by decide +kernel) w0 d0)⟩
  by_cases e0_24 : sc.2 ((x3 + (5)).toNat) ≤ (23 : Int)
  · refine wcallX wS_344_ok (wr (sc.2 ((x3 + (1)).toNat)) (sc.2 ((x3 + (2)).toNat)) (sc.2 ((x3 + (3)).toNat)) (sc.2 ((x3 + (4)).toNat)) (sc.2 ((x3 + (5)).toNat))) (by decide) rfl rfl (aNm_c ⟨Int.le_refl _, Int.le_refl _⟩ (aNm_c (aF32_ok.2 (hs _)) (aNm_c (aF32_ok.2 (hs _)) (aNm_c (aF32_ok.2 (hs _)) (aNm_c (aF32_ok.2 (hs _)) (aNm_c ⟨(by show (23 : Int) ≤ sc.2 ((x3 + (5)).toNat); omega), (by show sc.2 ((x3 + (5)).toNat) ≤ (23 : Int); omega)⟩ (aNm_n))))))) rfl (by
      show [(0, zP 0), (1, zI (sc.2 ((x3 + (1)).toNat) + 0)), (2, zI (sc.2 ((x3 + (2)).toNat) + 0)), (3, zI (sc.2 ((x3 + (3)).toNat) + 0)), (4, zI (sc.2 ((x3 + (4)).toNat) + 0)), (5, zI (sc.2 ((x3 + (5)).toNat) + 0))] = _
      simp only [Int.add_zero]) g0 (jk_41 g0 i0 (hs _)) (fun z0 f1 g1 w0 h0 => ?_)
    refine zov_p (by omega) (zix_p (by omega) (zov_p (by omega) (zix_p (by omega) (zov_p (by omega) (zix_p (by omega) (zov_p (by omega) (zix_p (by omega) (zov_p (by omega) (zix_p (by omega) (?_))))))))))
    refine wcallX wS_407_ok (wr (sc.2 ((x3 + (1)).toNat)) (sc.2 ((x3 + (2)).toNat)) (sc.2 ((x3 + (3)).toNat)) (sc.2 ((x3 + (4)).toNat)) (sc.2 ((x3 + (5)).toNat))) (by decide) rfl rfl (aNm_c ⟨Int.le_refl _, Int.le_refl _⟩ (aNm_c (aF32_ok.2 (hs _)) (aNm_c (aF32_ok.2 (hs _)) (aNm_c (aF32_ok.2 (hs _)) (aNm_c (aF32_ok.2 (hs _)) (aNm_c ⟨(by show (23 : Int) ≤ sc.2 ((x3 + (5)).toNat); omega), (by show sc.2 ((x3 + (5)).toNat) ≤ (23 : Int); omega)⟩ (aNm_n))))))) rfl (by
      show [(0, zP 50), (1, zI (sc.2 ((x3 + (1)).toNat) + 0)), (2, zI (sc.2 ((x3 + (2)).toNat) + 0)), (3, zI (sc.2 ((x3 + (3)).toNat) + 0)), (4, zI (sc.2 ((x3 + (4)).toNat) + 0)), (5, zI (sc.2 ((x3 + (5)).toNat) + 0))] = _
      simp only [Int.add_zero]) g1 h0 (fun z1 f2 g2 w1 h1 => ?_)
    exact H _ g2 ⟨h1.1, wBt_fr (by decide +kernel) w1 (wBt_fr (by decide +kernel) w0 b0), wD_fr (by decide +kernel) w1 (wD_fr (by decide +kernel) w0 d0)⟩
  by_cases e0_25 : sc.2 ((x3 + (5)).toNat) ≤ (24 : Int)
  · refine wcallX wS_345_ok (wr (sc.2 ((x3 + (1)).toNat)) (sc.2 ((x3 + (2)).toNat)) (sc.2 ((x3 + (3)).toNat)) (sc.2 ((x3 + (4)).toNat)) (sc.2 ((x3 + (5)).toNat))) (by decide) rfl rfl (aNm_c ⟨Int.le_refl _, Int.le_refl _⟩ (aNm_c (aF32_ok.2 (hs _)) (aNm_c (aF32_ok.2 (hs _)) (aNm_c (aF32_ok.2 (hs _)) (aNm_c (aF32_ok.2 (hs _)) (aNm_c ⟨(by show (24 : Int) ≤ sc.2 ((x3 + (5)).toNat); omega), (by show sc.2 ((x3 + (5)).toNat) ≤ (24 : Int); omega)⟩ (aNm_n))))))) rfl (by
      show [(0, zP 0), (1, zI (sc.2 ((x3 + (1)).toNat) + 0)), (2, zI (sc.2 ((x3 + (2)).toNat) + 0)), (3, zI (sc.2 ((x3 + (3)).toNat) + 0)), (4, zI (sc.2 ((x3 + (4)).toNat) + 0)), (5, zI (sc.2 ((x3 + (5)).toNat) + 0))] = _
      simp only [Int.add_zero]) g0 (jk_41 g0 i0 (hs _)) (fun z0 f1 g1 w0 h0 => ?_)
    refine zov_p (by omega) (zix_p (by omega) (zov_p (by omega) (zix_p (by omega) (zov_p (by omega) (zix_p (by omega) (zov_p (by omega) (zix_p (by omega) (zov_p (by omega) (zix_p (by omega) (?_))))))))))
    refine wcallX wS_408_ok (wr (sc.2 ((x3 + (1)).toNat)) (sc.2 ((x3 + (2)).toNat)) (sc.2 ((x3 + (3)).toNat)) (sc.2 ((x3 + (4)).toNat)) (sc.2 ((x3 + (5)).toNat))) (by decide) rfl rfl (aNm_c ⟨Int.le_refl _, Int.le_refl _⟩ (aNm_c (aF32_ok.2 (hs _)) (aNm_c (aF32_ok.2 (hs _)) (aNm_c (aF32_ok.2 (hs _)) (aNm_c (aF32_ok.2 (hs _)) (aNm_c ⟨(by show (24 : Int) ≤ sc.2 ((x3 + (5)).toNat); omega), (by show sc.2 ((x3 + (5)).toNat) ≤ (24 : Int); omega)⟩ (aNm_n))))))) rfl (by
      show [(0, zP 50), (1, zI (sc.2 ((x3 + (1)).toNat) + 0)), (2, zI (sc.2 ((x3 + (2)).toNat) + 0)), (3, zI (sc.2 ((x3 + (3)).toNat) + 0)), (4, zI (sc.2 ((x3 + (4)).toNat) + 0)), (5, zI (sc.2 ((x3 + (5)).toNat) + 0))] = _
      simp only [Int.add_zero]) g1 h0 (fun z1 f2 g2 w1 h1 => ?_)
    exact H _ g2 ⟨h1.1, wBt_fr (by decide +kernel) w1 (wBt_fr (by decide +kernel) w0 b0), wD_fr (by decide +kernel) w1 (wD_fr (by decide +kernel) w0 d0)⟩
  by_cases e0_26 : sc.2 ((x3 + (5)).toNat) ≤ (25 : Int)
  · refine wcallX wS_346_ok (wr (sc.2 ((x3 + (1)).toNat)) (sc.2 ((x3 + (2)).toNat)) (sc.2 ((x3 + (3)).toNat)) (sc.2 ((x3 + (4)).toNat)) (sc.2 ((x3 + (5)).toNat))) (by decide) rfl rfl (aNm_c ⟨Int.le_refl _, Int.le_refl _⟩ (aNm_c (aF32_ok.2 (hs _)) (aNm_c (aF32_ok.2 (hs _)) (aNm_c (aF32_ok.2 (hs _)) (aNm_c (aF32_ok.2 (hs _)) (aNm_c ⟨(by show (25 : Int) ≤ sc.2 ((x3 + (5)).toNat); omega), (by show sc.2 ((x3 + (5)).toNat) ≤ (25 : Int); omega)⟩ (aNm_n))))))) rfl (by
      show [(0, zP 0), (1, zI (sc.2 ((x3 + (1)).toNat) + 0)), (2, zI (sc.2 ((x3 + (2)).toNat) + 0)), (3, zI (sc.2 ((x3 + (3)).toNat) + 0)), (4, zI (sc.2 ((x3 + (4)).toNat) + 0)), (5, zI (sc.2 ((x3 + (5)).toNat) + 0))] = _
      simp only [Int.add_zero]) g0 (jk_41 g0 i0 (hs _)) (fun z0 f1 g1 w0 h0 => ?_)
    refine zov_p (by omega) (zix_p (by omega) (zov_p (by omega) (zix_p (by omega) (zov_p (by omega) (zix_p (by omega) (zov_p (by omega) (zix_p (by omega) (zov_p (by omega) (zix_p (by omega) (?_))))))))))
    refine wcallX wS_409_ok (wr (sc.2 ((x3 + (1)).toNat)) (sc.2 ((x3 + (2)).toNat)) (sc.2 ((x3 + (3)).toNat)) (sc.2 ((x3 + (4)).toNat)) (sc.2 ((x3 + (5)).toNat))) (by decide) rfl rfl (aNm_c ⟨Int.le_refl _, Int.le_refl _⟩ (aNm_c (aF32_ok.2 (hs _)) (aNm_c (aF32_ok.2 (hs _)) (aNm_c (aF32_ok.2 (hs _)) (aNm_c (aF32_ok.2 (hs _)) (aNm_c ⟨(by show (25 : Int) ≤ sc.2 ((x3 + (5)).toNat); omega), (by show sc.2 ((x3 + (5)).toNat) ≤ (25 : Int); omega)⟩ (aNm_n))))))) rfl (by
      show [(0, zP 50), (1, zI (sc.2 ((x3 + (1)).toNat) + 0)), (2, zI (sc.2 ((x3 + (2)).toNat) + 0)), (3, zI (sc.2 ((x3 + (3)).toNat) + 0)), (4, zI (sc.2 ((x3 + (4)).toNat) + 0)), (5, zI (sc.2 ((x3 + (5)).toNat) + 0))] = _
      simp only [Int.add_zero]) g1 h0 (fun z1 f2 g2 w1 h1 => ?_)
    exact H _ g2 ⟨h1.1, wBt_fr (by decide +kernel) w1 (wBt_fr (by decide +kernel) w0 b0), wD_fr (by decide +kernel) w1 (wD_fr (by decide +kernel) w0 d0)⟩
  by_cases e0_27 : sc.2 ((x3 + (5)).toNat) ≤ (26 : Int)
  · refine wcallX wS_347_ok (wr (sc.2 ((x3 + (1)).toNat)) (sc.2 ((x3 + (2)).toNat)) (sc.2 ((x3 + (3)).toNat)) (sc.2 ((x3 + (4)).toNat)) (sc.2 ((x3 + (5)).toNat))) (by decide) rfl rfl (aNm_c ⟨Int.le_refl _, Int.le_refl _⟩ (aNm_c (aF32_ok.2 (hs _)) (aNm_c (aF32_ok.2 (hs _)) (aNm_c (aF32_ok.2 (hs _)) (aNm_c (aF32_ok.2 (hs _)) (aNm_c ⟨(by show (26 : Int) ≤ sc.2 ((x3 + (5)).toNat); omega), (by show sc.2 ((x3 + (5)).toNat) ≤ (26 : Int); omega)⟩ (aNm_n))))))) rfl (by
      show [(0, zP 0), (1, zI (sc.2 ((x3 + (1)).toNat) + 0)), (2, zI (sc.2 ((x3 + (2)).toNat) + 0)), (3, zI (sc.2 ((x3 + (3)).toNat) + 0)), (4, zI (sc.2 ((x3 + (4)).toNat) + 0)), (5, zI (sc.2 ((x3 + (5)).toNat) + 0))] = _
      simp only [Int.add_zero]) g0 (jk_41 g0 i0 (hs _)) (fun z0 f1 g1 w0 h0 => ?_)
    refine zov_p (by omega) (zix_p (by omega) (zov_p (by omega) (zix_p (by omega) (zov_p (by omega) (zix_p (by omega) (zov_p (by omega) (zix_p (by omega) (zov_p (by omega) (zix_p (by omega) (?_))))))))))
    refine wcallX wS_410_ok (wr (sc.2 ((x3 + (1)).toNat)) (sc.2 ((x3 + (2)).toNat)) (sc.2 ((x3 + (3)).toNat)) (sc.2 ((x3 + (4)).toNat)) (sc.2 ((x3 + (5)).toNat))) (by decide) rfl rfl (aNm_c ⟨Int.le_refl _, Int.le_refl _⟩ (aNm_c (aF32_ok.2 (hs _)) (aNm_c (aF32_ok.2 (hs _)) (aNm_c (aF32_ok.2 (hs _)) (aNm_c (aF32_ok.2 (hs _)) (aNm_c ⟨(by show (26 : Int) ≤ sc.2 ((x3 + (5)).toNat); omega), (by show sc.2 ((x3 + (5)).toNat) ≤ (26 : Int); omega)⟩ (aNm_n))))))) rfl (by
      show [(0, zP 50), (1, zI (sc.2 ((x3 + (1)).toNat) + 0)), (2, zI (sc.2 ((x3 + (2)).toNat) + 0)), (3, zI (sc.2 ((x3 + (3)).toNat) + 0)), (4, zI (sc.2 ((x3 + (4)).toNat) + 0)), (5, zI (sc.2 ((x3 + (5)).toNat) + 0))] = _
      simp only [Int.add_zero]) g1 h0 (fun z1 f2 g2 w1 h1 => ?_)
    exact H _ g2 ⟨h1.1, wBt_fr (by decide +kernel) w1 (wBt_fr (by decide +kernel) w0 b0), wD_fr (by decide +kernel) w1 (wD_fr (by decide +kernel) w0 d0)⟩
  by_cases e0_28 : sc.2 ((x3 + (5)).toNat) ≤ (27 : Int)
  · refine wcallX wS_348_ok (wr (sc.2 ((x3 + (1)).toNat)) (sc.2 ((x3 + (2)).toNat)) (sc.2 ((x3 + (3)).toNat)) (sc.2 ((x3 + (4)).toNat)) (sc.2 ((x3 + (5)).toNat))) (by decide) rfl rfl (aNm_c ⟨Int.le_refl _, Int.le_refl _⟩ (aNm_c (aF32_ok.2 (hs _)) (aNm_c (aF32_ok.2 (hs _)) (aNm_c (aF32_ok.2 (hs _)) (aNm_c (aF32_ok.2 (hs _)) (aNm_c ⟨(by show (27 : Int) ≤ sc.2 ((x3 + (5)).toNat); omega), (by show sc.2 ((x3 + (5)).toNat) ≤ (27 : Int); omega)⟩ (aNm_n))))))) rfl (by
      show [(0, zP 0), (1, zI (sc.2 ((x3 + (1)).toNat) + 0)), (2, zI (sc.2 ((x3 + (2)).toNat) + 0)), (3, zI (sc.2 ((x3 + (3)).toNat) + 0)), (4, zI (sc.2 ((x3 + (4)).toNat) + 0)), (5, zI (sc.2 ((x3 + (5)).toNat) + 0))] = _
      simp only [Int.add_zero]) g0 (jk_41 g0 i0 (hs _)) (fun z0 f1 g1 w0 h0 => ?_)
    refine zov_p (by omega) (zix_p (by omega) (zov_p (by omega) (zix_p (by omega) (zov_p (by omega) (zix_p (by omega) (zov_p (by omega) (zix_p (by omega) (zov_p (by omega) (zix_p (by omega) (?_))))))))))
    refine wcallX wS_411_ok (wr (sc.2 ((x3 + (1)).toNat)) (sc.2 ((x3 + (2)).toNat)) (sc.2 ((x3 + (3)).toNat)) (sc.2 ((x3 + (4)).toNat)) (sc.2 ((x3 + (5)).toNat))) (by decide) rfl rfl (aNm_c ⟨Int.le_refl _, Int.le_refl _⟩ (aNm_c (aF32_ok.2 (hs _)) (aNm_c (aF32_ok.2 (hs _)) (aNm_c (aF32_ok.2 (hs _)) (aNm_c (aF32_ok.2 (hs _)) (aNm_c ⟨(by show (27 : Int) ≤ sc.2 ((x3 + (5)).toNat); omega), (by show sc.2 ((x3 + (5)).toNat) ≤ (27 : Int); omega)⟩ (aNm_n))))))) rfl (by
      show [(0, zP 50), (1, zI (sc.2 ((x3 + (1)).toNat) + 0)), (2, zI (sc.2 ((x3 + (2)).toNat) + 0)), (3, zI (sc.2 ((x3 + (3)).toNat) + 0)), (4, zI (sc.2 ((x3 + (4)).toNat) + 0)), (5, zI (sc.2 ((x3 + (5)).toNat) + 0))] = _
      simp only [Int.add_zero]) g1 h0 (fun z1 f2 g2 w1 h1 => ?_)
    exact H _ g2 ⟨h1.1, wBt_fr (by decide +kernel) w1 (wBt_fr (by decide +kernel) w0 b0), wD_fr (by decide +kernel) w1 (wD_fr (by decide +kernel) w0 d0)⟩
  by_cases e0_29 : sc.2 ((x3 + (5)).toNat) ≤ (28 : Int)
  · refine wcallX wS_349_ok (wr (sc.2 ((x3 + (1)).toNat)) (sc.2 ((x3 + (2)).toNat)) (sc.2 ((x3 + (3)).toNat)) (sc.2 ((x3 + (4)).toNat)) (sc.2 ((x3 + (5)).toNat))) (by decide) rfl rfl (aNm_c ⟨Int.le_refl _, Int.le_refl _⟩ (aNm_c (aF32_ok.2 (hs _)) (aNm_c (aF32_ok.2 (hs _)) (aNm_c (aF32_ok.2 (hs _)) (aNm_c (aF32_ok.2 (hs _)) (aNm_c ⟨(by show (28 : Int) ≤ sc.2 ((x3 + (5)).toNat); omega), (by show sc.2 ((x3 + (5)).toNat) ≤ (28 : Int); omega)⟩ (aNm_n))))))) rfl (by
      show [(0, zP 0), (1, zI (sc.2 ((x3 + (1)).toNat) + 0)), (2, zI (sc.2 ((x3 + (2)).toNat) + 0)), (3, zI (sc.2 ((x3 + (3)).toNat) + 0)), (4, zI (sc.2 ((x3 + (4)).toNat) + 0)), (5, zI (sc.2 ((x3 + (5)).toNat) + 0))] = _
      simp only [Int.add_zero]) g0 (jk_41 g0 i0 (hs _)) (fun z0 f1 g1 w0 h0 => ?_)
    refine zov_p (by omega) (zix_p (by omega) (zov_p (by omega) (zix_p (by omega) (zov_p (by omega) (zix_p (by omega) (zov_p (by omega) (zix_p (by omega) (zov_p (by omega) (zix_p (by omega) (?_))))))))))
    refine wcallX wS_412_ok (wr (sc.2 ((x3 + (1)).toNat)) (sc.2 ((x3 + (2)).toNat)) (sc.2 ((x3 + (3)).toNat)) (sc.2 ((x3 + (4)).toNat)) (sc.2 ((x3 + (5)).toNat))) (by decide) rfl rfl (aNm_c ⟨Int.le_refl _, Int.le_refl _⟩ (aNm_c (aF32_ok.2 (hs _)) (aNm_c (aF32_ok.2 (hs _)) (aNm_c (aF32_ok.2 (hs _)) (aNm_c (aF32_ok.2 (hs _)) (aNm_c ⟨(by show (28 : Int) ≤ sc.2 ((x3 + (5)).toNat); omega), (by show sc.2 ((x3 + (5)).toNat) ≤ (28 : Int); omega)⟩ (aNm_n))))))) rfl (by
      show [(0, zP 50), (1, zI (sc.2 ((x3 + (1)).toNat) + 0)), (2, zI (sc.2 ((x3 + (2)).toNat) + 0)), (3, zI (sc.2 ((x3 + (3)).toNat) + 0)), (4, zI (sc.2 ((x3 + (4)).toNat) + 0)), (5, zI (sc.2 ((x3 + (5)).toNat) + 0))] = _
      simp only [Int.add_zero]) g1 h0 (fun z1 f2 g2 w1 h1 => ?_)
    exact H _ g2 ⟨h1.1, wBt_fr (by decide +kernel) w1 (wBt_fr (by decide +kernel) w0 b0), wD_fr (by decide +kernel) w1 (wD_fr (by decide +kernel) w0 d0)⟩
  by_cases e0_30 : sc.2 ((x3 + (5)).toNat) ≤ (29 : Int)
  · refine wcallX wS_350_ok (wr (sc.2 ((x3 + (1)).toNat)) (sc.2 ((x3 + (2)).toNat)) (sc.2 ((x3 + (3)).toNat)) (sc.2 ((x3 + (4)).toNat)) (sc.2 ((x3 + (5)).toNat))) (by decide) rfl rfl (aNm_c ⟨Int.le_refl _, Int.le_refl _⟩ (aNm_c (aF32_ok.2 (hs _)) (aNm_c (aF32_ok.2 (hs _)) (aNm_c (aF32_ok.2 (hs _)) (aNm_c (aF32_ok.2 (hs _)) (aNm_c ⟨(by show (29 : Int) ≤ sc.2 ((x3 + (5)).toNat); omega), (by show sc.2 ((x3 + (5)).toNat) ≤ (29 : Int); omega)⟩ (aNm_n))))))) rfl (by
      show [(0, zP 0), (1, zI (sc.2 ((x3 + (1)).toNat) + 0)), (2, zI (sc.2 ((x3 + (2)).toNat) + 0)), (3, zI (sc.2 ((x3 + (3)).toNat) + 0)), (4, zI (sc.2 ((x3 + (4)).toNat) + 0)), (5, zI (sc.2 ((x3 + (5)).toNat) + 0))] = _
      simp only [Int.add_zero]) g0 (jk_41 g0 i0 (hs _)) (fun z0 f1 g1 w0 h0 => ?_)
    refine zov_p (by omega) (zix_p (by omega) (zov_p (by omega) (zix_p (by omega) (zov_p (by omega) (zix_p (by omega) (zov_p (by omega) (zix_p (by omega) (zov_p (by omega) (zix_p (by omega) (?_))))))))))
    refine wcallX wS_413_ok (wr (sc.2 ((x3 + (1)).toNat)) (sc.2 ((x3 + (2)).toNat)) (sc.2 ((x3 + (3)).toNat)) (sc.2 ((x3 + (4)).toNat)) (sc.2 ((x3 + (5)).toNat))) (by decide) rfl rfl (aNm_c ⟨Int.le_refl _, Int.le_refl _⟩ (aNm_c (aF32_ok.2 (hs _)) (aNm_c (aF32_ok.2 (hs _)) (aNm_c (aF32_ok.2 (hs _)) (aNm_c (aF32_ok.2 (hs _)) (aNm_c ⟨(by show (29 : Int) ≤ sc.2 ((x3 + (5)).toNat); omega), (by show sc.2 ((x3 + (5)).toNat) ≤ (29 : Int); omega)⟩ (aNm_n))))))) rfl (by
      show [(0, zP 50), (1, zI (sc.2 ((x3 + (1)).toNat) + 0)), (2, zI (sc.2 ((x3 + (2)).toNat) + 0)), (3, zI (sc.2 ((x3 + (3)).toNat) + 0)), (4, zI (sc.2 ((x3 + (4)).toNat) + 0)), (5, zI (sc.2 ((x3 + (5)).toNat) + 0))] = _
      simp only [Int.add_zero]) g1 h0 (fun z1 f2 g2 w1 h1 => ?_)
    exact H _ g2 ⟨h1.1, wBt_fr (by decide +kernel) w1 (wBt_fr (by decide +kernel) w0 b0), wD_fr (by decide +kernel) w1 (wD_fr (by decide +kernel) w0 d0)⟩
  by_cases e0_31 : sc.2 ((x3 + (5)).toNat) ≤ (30 : Int)
  · refine wcallX wS_351_ok (wr (sc.2 ((x3 + (1)).toNat)) (sc.2 ((x3 + (2)).toNat)) (sc.2 ((x3 + (3)).toNat)) (sc.2 ((x3 + (4)).toNat)) (sc.2 ((x3 + (5)).toNat))) (by decide) rfl rfl (aNm_c ⟨Int.le_refl _, Int.le_refl _⟩ (aNm_c (aF32_ok.2 (hs _)) (aNm_c (aF32_ok.2 (hs _)) (aNm_c (aF32_ok.2 (hs _)) (aNm_c (aF32_ok.2 (hs _)) (aNm_c ⟨(by show (30 : Int) ≤ sc.2 ((x3 + (5)).toNat); omega), (by show sc.2 ((x3 + (5)).toNat) ≤ (30 : Int); omega)⟩ (aNm_n))))))) rfl (by
      show [(0, zP 0), (1, zI (sc.2 ((x3 + (1)).toNat) + 0)), (2, zI (sc.2 ((x3 + (2)).toNat) + 0)), (3, zI (sc.2 ((x3 + (3)).toNat) + 0)), (4, zI (sc.2 ((x3 + (4)).toNat) + 0)), (5, zI (sc.2 ((x3 + (5)).toNat) + 0))] = _
      simp only [Int.add_zero]) g0 (jk_41 g0 i0 (hs _)) (fun z0 f1 g1 w0 h0 => ?_)
    refine zov_p (by omega) (zix_p (by omega) (zov_p (by omega) (zix_p (by omega) (zov_p (by omega) (zix_p (by omega) (zov_p (by omega) (zix_p (by omega) (zov_p (by omega) (zix_p (by omega) (?_))))))))))
    refine wcallX wS_414_ok (wr (sc.2 ((x3 + (1)).toNat)) (sc.2 ((x3 + (2)).toNat)) (sc.2 ((x3 + (3)).toNat)) (sc.2 ((x3 + (4)).toNat)) (sc.2 ((x3 + (5)).toNat))) (by decide) rfl rfl (aNm_c ⟨Int.le_refl _, Int.le_refl _⟩ (aNm_c (aF32_ok.2 (hs _)) (aNm_c (aF32_ok.2 (hs _)) (aNm_c (aF32_ok.2 (hs _)) (aNm_c (aF32_ok.2 (hs _)) (aNm_c ⟨(by show (30 : Int) ≤ sc.2 ((x3 + (5)).toNat); omega), (by show sc.2 ((x3 + (5)).toNat) ≤ (30 : Int); omega)⟩ (aNm_n))))))) rfl (by
      show [(0, zP 50), (1, zI (sc.2 ((x3 + (1)).toNat) + 0)), (2, zI (sc.2 ((x3 + (2)).toNat) + 0)), (3, zI (sc.2 ((x3 + (3)).toNat) + 0)), (4, zI (sc.2 ((x3 + (4)).toNat) + 0)), (5, zI (sc.2 ((x3 + (5)).toNat) + 0))] = _
      simp only [Int.add_zero]) g1 h0 (fun z1 f2 g2 w1 h1 => ?_)
    exact H _ g2 ⟨h1.1, wBt_fr (by decide +kernel) w1 (wBt_fr (by decide +kernel) w0 b0), wD_fr (by decide +kernel) w1 (wD_fr (by decide +kernel) w0 d0)⟩
  by_cases e0_32 : sc.2 ((x3 + (5)).toNat) ≤ (31 : Int)
  · refine wcallX wS_352_ok (wr (sc.2 ((x3 + (1)).toNat)) (sc.2 ((x3 + (2)).toNat)) (sc.2 ((x3 + (3)).toNat)) (sc.2 ((x3 + (4)).toNat)) (sc.2 ((x3 + (5)).toNat))) (by decide) rfl rfl (aNm_c ⟨Int.le_refl _, Int.le_refl _⟩ (aNm_c (aF32_ok.2 (hs _)) (aNm_c (aF32_ok.2 (hs _)) (aNm_c (aF32_ok.2 (hs _)) (aNm_c (aF32_ok.2 (hs _)) (aNm_c ⟨(by show (31 : Int) ≤ sc.2 ((x3 + (5)).toNat); omega), (by show sc.2 ((x3 + (5)).toNat) ≤ (31 : Int); omega)⟩ (aNm_n))))))) rfl (by
      show [(0, zP 0), (1, zI (sc.2 ((x3 + (1)).toNat) + 0)), (2, zI (sc.2 ((x3 + (2)).toNat) + 0)), (3, zI (sc.2 ((x3 + (3)).toNat) + 0)), (4, zI (sc.2 ((x3 + (4)).toNat) + 0)), (5, zI (sc.2 ((x3 + (5)).toNat) + 0))] = _
      simp only [Int.add_zero]) g0 (jk_41 g0 i0 (hs _)) (fun z0 f1 g1 w0 h0 => ?_)
    refine zov_p (by omega) (zix_p (by omega) (zov_p (by omega) (zix_p (by omega) (zov_p (by omega) (zix_p (by omega) (zov_p (by omega) (zix_p (by omega) (zov_p (by omega) (zix_p (by omega) (?_))))))))))
    refine wcallX wS_415_ok (wr (sc.2 ((x3 + (1)).toNat)) (sc.2 ((x3 + (2)).toNat)) (sc.2 ((x3 + (3)).toNat)) (sc.2 ((x3 + (4)).toNat)) (sc.2 ((x3 + (5)).toNat))) (by decide) rfl rfl (aNm_c ⟨Int.le_refl _, Int.le_refl _⟩ (aNm_c (aF32_ok.2 (hs _)) (aNm_c (aF32_ok.2 (hs _)) (aNm_c (aF32_ok.2 (hs _)) (aNm_c (aF32_ok.2 (hs _)) (aNm_c ⟨(by show (31 : Int) ≤ sc.2 ((x3 + (5)).toNat); omega), (by show sc.2 ((x3 + (5)).toNat) ≤ (31 : Int); omega)⟩ (aNm_n))))))) rfl (by
      show [(0, zP 50), (1, zI (sc.2 ((x3 + (1)).toNat) + 0)), (2, zI (sc.2 ((x3 + (2)).toNat) + 0)), (3, zI (sc.2 ((x3 + (3)).toNat) + 0)), (4, zI (sc.2 ((x3 + (4)).toNat) + 0)), (5, zI (sc.2 ((x3 + (5)).toNat) + 0))] = _
      simp only [Int.add_zero]) g1 h0 (fun z1 f2 g2 w1 h1 => ?_)
    exact H _ g2 ⟨h1.1, wBt_fr (by decide +kernel) w1 (wBt_fr (by decide +kernel) w0 b0), wD_fr (by decide +kernel) w1 (wD_fr (by decide +kernel) w0 d0)⟩
  by_cases e0_33 : sc.2 ((x3 + (5)).toNat) ≤ (32 : Int)
  · refine wcallX wS_353_ok (wr (sc.2 ((x3 + (1)).toNat)) (sc.2 ((x3 + (2)).toNat)) (sc.2 ((x3 + (3)).toNat)) (sc.2 ((x3 + (4)).toNat)) (sc.2 ((x3 + (5)).toNat))) (by decide) rfl rfl (aNm_c ⟨Int.le_refl _, Int.le_refl _⟩ (aNm_c (aF32_ok.2 (hs _)) (aNm_c (aF32_ok.2 (hs _)) (aNm_c (aF32_ok.2 (hs _)) (aNm_c (aF32_ok.2 (hs _)) (aNm_c ⟨(by show (32 : Int) ≤ sc.2 ((x3 + (5)).toNat); omega), (by show sc.2 ((x3 + (5)).toNat) ≤ (32 : Int); omega)⟩ (aNm_n))))))) rfl (by
      show [(0, zP 0), (1, zI (sc.2 ((x3 + (1)).toNat) + 0)), (2, zI (sc.2 ((x3 + (2)).toNat) + 0)), (3, zI (sc.2 ((x3 + (3)).toNat) + 0)), (4, zI (sc.2 ((x3 + (4)).toNat) + 0)), (5, zI (sc.2 ((x3 + (5)).toNat) + 0))] = _
      simp only [Int.add_zero]) g0 (jk_41 g0 i0 (hs _)) (fun z0 f1 g1 w0 h0 => ?_)
    refine zov_p (by omega) (zix_p (by omega) (zov_p (by omega) (zix_p (by omega) (zov_p (by omega) (zix_p (by omega) (zov_p (by omega) (zix_p (by omega) (zov_p (by omega) (zix_p (by omega) (?_))))))))))
    refine wcallX wS_416_ok (wr (sc.2 ((x3 + (1)).toNat)) (sc.2 ((x3 + (2)).toNat)) (sc.2 ((x3 + (3)).toNat)) (sc.2 ((x3 + (4)).toNat)) (sc.2 ((x3 + (5)).toNat))) (by decide) rfl rfl (aNm_c ⟨Int.le_refl _, Int.le_refl _⟩ (aNm_c (aF32_ok.2 (hs _)) (aNm_c (aF32_ok.2 (hs _)) (aNm_c (aF32_ok.2 (hs _)) (aNm_c (aF32_ok.2 (hs _)) (aNm_c ⟨(by show (32 : Int) ≤ sc.2 ((x3 + (5)).toNat); omega), (by show sc.2 ((x3 + (5)).toNat) ≤ (32 : Int); omega)⟩ (aNm_n))))))) rfl (by
      show [(0, zP 50), (1, zI (sc.2 ((x3 + (1)).toNat) + 0)), (2, zI (sc.2 ((x3 + (2)).toNat) + 0)), (3, zI (sc.2 ((x3 + (3)).toNat) + 0)), (4, zI (sc.2 ((x3 + (4)).toNat) + 0)), (5, zI (sc.2 ((x3 + (5)).toNat) + 0))] = _
      simp only [Int.add_zero]) g1 h0 (fun z1 f2 g2 w1 h1 => ?_)
    exact H _ g2 ⟨h1.1, wBt_fr (by decide +kernel) w1 (wBt_fr (by decide +kernel) w0 b0), wD_fr (by decide +kernel) w1 (wD_fr (by decide +kernel) w0 d0)⟩
  by_cases e0_34 : sc.2 ((x3 + (5)).toNat) ≤ (33 : Int)
  · refine wcallX wS_354_ok (wr (sc.2 ((x3 + (1)).toNat)) (sc.2 ((x3 + (2)).toNat)) (sc.2 ((x3 + (3)).toNat)) (sc.2 ((x3 + (4)).toNat)) (sc.2 ((x3 + (5)).toNat))) (by decide) rfl rfl (aNm_c ⟨Int.le_refl _, Int.le_refl _⟩ (aNm_c (aF32_ok.2 (hs _)) (aNm_c (aF32_ok.2 (hs _)) (aNm_c (aF32_ok.2 (hs _)) (aNm_c (aF32_ok.2 (hs _)) (aNm_c ⟨(by show (33 : Int) ≤ sc.2 ((x3 + (5)).toNat); omega), (by show sc.2 ((x3 + (5)).toNat) ≤ (33 : Int); omega)⟩ (aNm_n))))))) rfl (by
      show [(0, zP 0), (1, zI (sc.2 ((x3 + (1)).toNat) + 0)), (2, zI (sc.2 ((x3 + (2)).toNat) + 0)), (3, zI (sc.2 ((x3 + (3)).toNat) + 0)), (4, zI (sc.2 ((x3 + (4)).toNat) + 0)), (5, zI (sc.2 ((x3 + (5)).toNat) + 0))] = _
      simp only [Int.add_zero]) g0 (jk_41 g0 i0 (hs _)) (fun z0 f1 g1 w0 h0 => ?_)
    refine zov_p (by omega) (zix_p (by omega) (zov_p (by omega) (zix_p (by omega) (zov_p (by omega) (zix_p (by omega) (zov_p (by omega) (zix_p (by omega) (zov_p (by omega) (zix_p (by omega) (?_))))))))))
    refine wcallX wS_417_ok (wr (sc.2 ((x3 + (1)).toNat)) (sc.2 ((x3 + (2)).toNat)) (sc.2 ((x3 + (3)).toNat)) (sc.2 ((x3 + (4)).toNat)) (sc.2 ((x3 + (5)).toNat))) (by decide) rfl rfl (aNm_c ⟨Int.le_refl _, Int.le_refl _⟩ (aNm_c (aF32_ok.2 (hs _)) (aNm_c (aF32_ok.2 (hs _)) (aNm_c (aF32_ok.2 (hs _)) (aNm_c (aF32_ok.2 (hs _)) (aNm_c ⟨(by show (33 : Int) ≤ sc.2 ((x3 + (5)).toNat); omega), (by show sc.2 ((x3 + (5)).toNat) ≤ (33 : Int); omega)⟩ (aNm_n))))))) rfl (by
      show [(0, zP 50), (1, zI (sc.2 ((x3 + (1)).toNat) + 0)), (2, zI (sc.2 ((x3 + (2)).toNat) + 0)), (3, zI (sc.2 ((x3 + (3)).toNat) + 0)), (4, zI (sc.2 ((x3 + (4)).toNat) + 0)), (5, zI (sc.2 ((x3 + (5)).toNat) + 0))] = _
      simp only [Int.add_zero]) g1 h0 (fun z1 f2 g2 w1 h1 => ?_)
    exact H _ g2 ⟨h1.1, wBt_fr (by decide +kernel) w1 (wBt_fr (by decide +kernel) w0 b0), wD_fr (by decide +kernel) w1 (wD_fr (by decide +kernel) w0 d0)⟩
  by_cases e0_35 : sc.2 ((x3 + (5)).toNat) ≤ (34 : Int)
  · refine wcallX wS_355_ok (wr (sc.2 ((x3 + (1)).toNat)) (sc.2 ((x3 + (2)).toNat)) (sc.2 ((x3 + (3)).toNat)) (sc.2 ((x3 + (4)).toNat)) (sc.2 ((x3 + (5)).toNat))) (by decide) rfl rfl (aNm_c ⟨Int.le_refl _, Int.le_refl _⟩ (aNm_c (aF32_ok.2 (hs _)) (aNm_c (aF32_ok.2 (hs _)) (aNm_c (aF32_ok.2 (hs _)) (aNm_c (aF32_ok.2 (hs _)) (aNm_c ⟨(by show (34 : Int) ≤ sc.2 ((x3 + (5)).toNat); omega), (by show sc.2 ((x3 + (5)).toNat) ≤ (34 : Int); omega)⟩ (aNm_n))))))) rfl (by
      show [(0, zP 0), (1, zI (sc.2 ((x3 + (1)).toNat) + 0)), (2, zI (sc.2 ((x3 + (2)).toNat) + 0)), (3, zI (sc.2 ((x3 + (3)).toNat) + 0)), (4, zI (sc.2 ((x3 + (4)).toNat) + 0)), (5, zI (sc.2 ((x3 + (5)).toNat) + 0))] = _
      simp only [Int.add_zero]) g0 (jk_41 g0 i0 (hs _)) (fun z0 f1 g1 w0 h0 => ?_)
    refine zov_p (by omega) (zix_p (by omega) (zov_p (by omega) (zix_p (by omega) (zov_p (by omega) (zix_p (by omega) (zov_p (by omega) (zix_p (by omega) (zov_p (by omega) (zix_p (by omega) (?_))))))))))
    refine wcallX wS_418_ok (wr (sc.2 ((x3 + (1)).toNat)) (sc.2 ((x3 + (2)).toNat)) (sc.2 ((x3 + (3)).toNat)) (sc.2 ((x3 + (4)).toNat)) (sc.2 ((x3 + (5)).toNat))) (by decide) rfl rfl (aNm_c ⟨Int.le_refl _, Int.le_refl _⟩ (aNm_c (aF32_ok.2 (hs _)) (aNm_c (aF32_ok.2 (hs _)) (aNm_c (aF32_ok.2 (hs _)) (aNm_c (aF32_ok.2 (hs _)) (aNm_c ⟨(by show (34 : Int) ≤ sc.2 ((x3 + (5)).toNat); omega), (by show sc.2 ((x3 + (5)).toNat) ≤ (34 : Int); omega)⟩ (aNm_n))))))) rfl (by
      show [(0, zP 50), (1, zI (sc.2 ((x3 + (1)).toNat) + 0)), (2, zI (sc.2 ((x3 + (2)).toNat) + 0)), (3, zI (sc.2 ((x3 + (3)).toNat) + 0)), (4, zI (sc.2 ((x3 + (4)).toNat) + 0)), (5, zI (sc.2 ((x3 + (5)).toNat) + 0))] = _
      simp only [Int.add_zero]) g1 h0 (fun z1 f2 g2 w1 h1 => ?_)
    exact H _ g2 ⟨h1.1, wBt_fr (by decide +kernel) w1 (wBt_fr (by decide +kernel) w0 b0), wD_fr (by decide +kernel) w1 (wD_fr (by decide +kernel) w0 d0)⟩
  by_cases e0_36 : sc.2 ((x3 + (5)).toNat) ≤ (35 : Int)
  · refine wcallX wS_356_ok (wr (sc.2 ((x3 + (1)).toNat)) (sc.2 ((x3 + (2)).toNat)) (sc.2 ((x3 + (3)).toNat)) (sc.2 ((x3 + (4)).toNat)) (sc.2 ((x3 + (5)).toNat))) (by decide) rfl rfl (aNm_c ⟨Int.le_refl _, Int.le_refl _⟩ (aNm_c (aF32_ok.2 (hs _)) (aNm_c (aF32_ok.2 (hs _)) (aNm_c (aF32_ok.2 (hs _)) (aNm_c (aF32_ok.2 (hs _)) (aNm_c ⟨(by show (35 : Int) ≤ sc.2 ((x3 + (5)).toNat); omega), (by show sc.2 ((x3 + (5)).toNat) ≤ (35 : Int); omega)⟩ (aNm_n))))))) rfl (by
      show [(0, zP 0), (1, zI (sc.2 ((x3 + (1)).toNat) + 0)), (2, zI (sc.2 ((x3 + (2)).toNat) + 0)), (3, zI (sc.2 ((x3 + (3)).toNat) + 0)), (4, zI (sc.2 ((x3 + (4)).toNat) + 0)), (5, zI (sc.2 ((x3 + (5)).toNat) + 0))] = _
      simp only [Int.add_zero]) g0 (jk_41 g0 i0 (hs _)) (fun z0 f1 g1 w0 h0 => ?_)
    refine zov_p (by omega) (zix_p (by omega) (zov_p (by omega) (zix_p (by omega) (zov_p (by omega) (zix_p (by omega) (zov_p (by omega) (zix_p (by omega) (zov_p (by omega) (zix_p (by omega) (?_))))))))))
    refine wcallX wS_419_ok (wr (sc.2 ((x3 + (1)).toNat)) (sc.2 ((x3 + (2)).toNat)) (sc.2 ((x3 + (3)).toNat)) (sc.2 ((x3 + (4)).toNat)) (sc.2 ((x3 + (5)).toNat))) (by decide) rfl rfl (aNm_c ⟨Int.le_refl _, Int.le_refl _⟩ (aNm_c (aF32_ok.2 (hs _)) (aNm_c (aF32_ok.2 (hs _)) (aNm_c (aF32_ok.2 (hs _)) (aNm_c (aF32_ok.2 (hs _)) (aNm_c ⟨(by show (35 : Int) ≤ sc.2 ((x3 + (5)).toNat); omega), (by show sc.2 ((x3 + (5)).toNat) ≤ (35 : Int); omega)⟩ (aNm_n))))))) rfl (by
      show [(0, zP 50), (1, zI (sc.2 ((x3 + (1)).toNat) + 0)), (2, zI (sc.2 ((x3 + (2)).toNat) + 0)), (3, zI (sc.2 ((x3 + (3)).toNat) + 0)), (4, zI (sc.2 ((x3 + (4)).toNat) + 0)), (5, zI (sc.2 ((x3 + (5)).toNat) + 0))] = _
      simp only [Int.add_zero]) g1 h0 (fun z1 f2 g2 w1 h1 => ?_)
    exact H _ g2 ⟨h1.1, wBt_fr (by decide +kernel) w1 (wBt_fr (by decide +kernel) w0 b0), wD_fr (by decide +kernel) w1 (wD_fr (by decide +kernel) w0 d0)⟩
  by_cases e0_37 : sc.2 ((x3 + (5)).toNat) ≤ (36 : Int)
  · refine wcallX wS_357_ok (wr (sc.2 ((x3 + (1)).toNat)) (sc.2 ((x3 + (2)).toNat)) (sc.2 ((x3 + (3)).toNat)) (sc.2 ((x3 + (4)).toNat)) (sc.2 ((x3 + (5)).toNat))) (by decide) rfl rfl (aNm_c ⟨Int.le_refl _, Int.le_refl _⟩ (aNm_c (aF32_ok.2 (hs _)) (aNm_c (aF32_ok.2 (hs _)) (aNm_c (aF32_ok.2 (hs _)) (aNm_c (aF32_ok.2 (hs _)) (aNm_c ⟨(by show (36 : Int) ≤ sc.2 ((x3 + (5)).toNat); omega), (by show sc.2 ((x3 + (5)).toNat) ≤ (36 : Int); omega)⟩ (aNm_n))))))) rfl (by
      show [(0, zP 0), (1, zI (sc.2 ((x3 + (1)).toNat) + 0)), (2, zI (sc.2 ((x3 + (2)).toNat) + 0)), (3, zI (sc.2 ((x3 + (3)).toNat) + 0)), (4, zI (sc.2 ((x3 + (4)).toNat) + 0)), (5, zI (sc.2 ((x3 + (5)).toNat) + 0))] = _
      simp only [Int.add_zero]) g0 (jk_41 g0 i0 (hs _)) (fun z0 f1 g1 w0 h0 => ?_)
    refine zov_p (by omega) (zix_p (by omega) (zov_p (by omega) (zix_p (by omega) (zov_p (by omega) (zix_p (by omega) (zov_p (by omega) (zix_p (by omega) (zov_p (by omega) (zix_p (by omega) (?_))))))))))
    refine wcallX wS_420_ok (wr (sc.2 ((x3 + (1)).toNat)) (sc.2 ((x3 + (2)).toNat)) (sc.2 ((x3 + (3)).toNat)) (sc.2 ((x3 + (4)).toNat)) (sc.2 ((x3 + (5)).toNat))) (by decide) rfl rfl (aNm_c ⟨Int.le_refl _, Int.le_refl _⟩ (aNm_c (aF32_ok.2 (hs _)) (aNm_c (aF32_ok.2 (hs _)) (aNm_c (aF32_ok.2 (hs _)) (aNm_c (aF32_ok.2 (hs _)) (aNm_c ⟨(by show (36 : Int) ≤ sc.2 ((x3 + (5)).toNat); omega), (by show sc.2 ((x3 + (5)).toNat) ≤ (36 : Int); omega)⟩ (aNm_n))))))) rfl (by
      show [(0, zP 50), (1, zI (sc.2 ((x3 + (1)).toNat) + 0)), (2, zI (sc.2 ((x3 + (2)).toNat) + 0)), (3, zI (sc.2 ((x3 + (3)).toNat) + 0)), (4, zI (sc.2 ((x3 + (4)).toNat) + 0)), (5, zI (sc.2 ((x3 + (5)).toNat) + 0))] = _
      simp only [Int.add_zero]) g1 h0 (fun z1 f2 g2 w1 h1 => ?_)
    exact H _ g2 ⟨h1.1, wBt_fr (by decide +kernel) w1 (wBt_fr (by decide +kernel) w0 b0), wD_fr (by decide +kernel) w1 (wD_fr (by decide +kernel) w0 d0)⟩
  by_cases e0_38 : sc.2 ((x3 + (5)).toNat) ≤ (37 : Int)
  · refine wcallX wS_358_ok (wr (sc.2 ((x3 + (1)).toNat)) (sc.2 ((x3 + (2)).toNat)) (sc.2 ((x3 + (3)).toNat)) (sc.2 ((x3 + (4)).toNat)) (sc.2 ((x3 + (5)).toNat))) (by decide) rfl rfl (aNm_c ⟨Int.le_refl _, Int.le_refl _⟩ (aNm_c (aF32_ok.2 (hs _)) (aNm_c (aF32_ok.2 (hs _)) (aNm_c (aF32_ok.2 (hs _)) (aNm_c (aF32_ok.2 (hs _)) (aNm_c ⟨(by show (37 : Int) ≤ sc.2 ((x3 + (5)).toNat); omega), (by show sc.2 ((x3 + (5)).toNat) ≤ (37 : Int); omega)⟩ (aNm_n))))))) rfl (by
      show [(0, zP 0), (1, zI (sc.2 ((x3 + (1)).toNat) + 0)), (2, zI (sc.2 ((x3 + (2)).toNat) + 0)), (3, zI (sc.2 ((x3 + (3)).toNat) + 0)), (4, zI (sc.2 ((x3 + (4)).toNat) + 0)), (5, zI (sc.2 ((x3 + (5)).toNat) + 0))] = _
      simp only [Int.add_zero]) g0 (jk_41 g0 i0 (hs _)) (fun z0 f1 g1 w0 h0 => ?_)
    refine zov_p (by omega) (zix_p (by omega) (zov_p (by omega) (zix_p (by omega) (zov_p (by omega) (zix_p (by omega) (zov_p (by omega) (zix_p (by omega) (zov_p (by omega) (zix_p (by omega) (?_))))))))))
    refine wcallX wS_421_ok (wr (sc.2 ((x3 + (1)).toNat)) (sc.2 ((x3 + (2)).toNat)) (sc.2 ((x3 + (3)).toNat)) (sc.2 ((x3 + (4)).toNat)) (sc.2 ((x3 + (5)).toNat))) (by decide) rfl rfl (aNm_c ⟨Int.le_refl _, Int.le_refl _⟩ (aNm_c (aF32_ok.2 (hs _)) (aNm_c (aF32_ok.2 (hs _)) (aNm_c (aF32_ok.2 (hs _)) (aNm_c (aF32_ok.2 (hs _)) (aNm_c ⟨(by show (37 : Int) ≤ sc.2 ((x3 + (5)).toNat); omega), (by show sc.2 ((x3 + (5)).toNat) ≤ (37 : Int); omega)⟩ (aNm_n))))))) rfl (by
      show [(0, zP 50), (1, zI (sc.2 ((x3 + (1)).toNat) + 0)), (2, zI (sc.2 ((x3 + (2)).toNat) + 0)), (3, zI (sc.2 ((x3 + (3)).toNat) + 0)), (4, zI (sc.2 ((x3 + (4)).toNat) + 0)), (5, zI (sc.2 ((x3 + (5)).toNat) + 0))] = _
      simp only [Int.add_zero]) g1 h0 (fun z1 f2 g2 w1 h1 => ?_)
    exact H _ g2 ⟨h1.1, wBt_fr (by decide +kernel) w1 (wBt_fr (by decide +kernel) w0 b0), wD_fr (by decide +kernel) w1 (wD_fr (by decide +kernel) w0 d0)⟩
  by_cases e0_39 : sc.2 ((x3 + (5)).toNat) ≤ (38 : Int)
  · refine wcallX wS_359_ok (wr (sc.2 ((x3 + (1)).toNat)) (sc.2 ((x3 + (2)).toNat)) (sc.2 ((x3 + (3)).toNat)) (sc.2 ((x3 + (4)).toNat)) (sc.2 ((x3 + (5)).toNat))) (by decide) rfl rfl (aNm_c ⟨Int.le_refl _, Int.le_refl _⟩ (aNm_c (aF32_ok.2 (hs _)) (aNm_c (aF32_ok.2 (hs _)) (aNm_c (aF32_ok.2 (hs _)) (aNm_c (aF32_ok.2 (hs _)) (aNm_c ⟨(by show (38 : Int) ≤ sc.2 ((x3 + (5)).toNat); omega), (by show sc.2 ((x3 + (5)).toNat) ≤ (38 : Int); omega)⟩ (aNm_n))))))) rfl (by
      show [(0, zP 0), (1, zI (sc.2 ((x3 + (1)).toNat) + 0)), (2, zI (sc.2 ((x3 + (2)).toNat) + 0)), (3, zI (sc.2 ((x3 + (3)).toNat) + 0)), (4, zI (sc.2 ((x3 + (4)).toNat) + 0)), (5, zI (sc.2 ((x3 + (5)).toNat) + 0))] = _
      simp only [Int.add_zero]) g0 (jk_41 g0 i0 (hs _)) (fun z0 f1 g1 w0 h0 => ?_)
    refine zov_p (by omega) (zix_p (by omega) (zov_p (by omega) (zix_p (by omega) (zov_p (by omega) (zix_p (by omega) (zov_p (by omega) (zix_p (by omega) (zov_p (by omega) (zix_p (by omega) (?_))))))))))
    refine wcallX wS_422_ok (wr (sc.2 ((x3 + (1)).toNat)) (sc.2 ((x3 + (2)).toNat)) (sc.2 ((x3 + (3)).toNat)) (sc.2 ((x3 + (4)).toNat)) (sc.2 ((x3 + (5)).toNat))) (by decide) rfl rfl (aNm_c ⟨Int.le_refl _, Int.le_refl _⟩ (aNm_c (aF32_ok.2 (hs _)) (aNm_c (aF32_ok.2 (hs _)) (aNm_c (aF32_ok.2 (hs _)) (aNm_c (aF32_ok.2 (hs _)) (aNm_c ⟨(by show (38 : Int) ≤ sc.2 ((x3 + (5)).toNat); omega), (by show sc.2 ((x3 + (5)).toNat) ≤ (38 : Int); omega)⟩ (aNm_n))))))) rfl (by
      show [(0, zP 50), (1, zI (sc.2 ((x3 + (1)).toNat) + 0)), (2, zI (sc.2 ((x3 + (2)).toNat) + 0)), (3, zI (sc.2 ((x3 + (3)).toNat) + 0)), (4, zI (sc.2 ((x3 + (4)).toNat) + 0)), (5, zI (sc.2 ((x3 + (5)).toNat) + 0))] = _
      simp only [Int.add_zero]) g1 h0 (fun z1 f2 g2 w1 h1 => ?_)
    exact H _ g2 ⟨h1.1, wBt_fr (by decide +kernel) w1 (wBt_fr (by decide +kernel) w0 b0), wD_fr (by decide +kernel) w1 (wD_fr (by decide +kernel) w0 d0)⟩
  by_cases e0_40 : sc.2 ((x3 + (5)).toNat) ≤ (39 : Int)
  · refine wcallX wS_360_ok (wr (sc.2 ((x3 + (1)).toNat)) (sc.2 ((x3 + (2)).toNat)) (sc.2 ((x3 + (3)).toNat)) (sc.2 ((x3 + (4)).toNat)) (sc.2 ((x3 + (5)).toNat))) (by decide) rfl rfl (aNm_c ⟨Int.le_refl _, Int.le_refl _⟩ (aNm_c (aF32_ok.2 (hs _)) (aNm_c (aF32_ok.2 (hs _)) (aNm_c (aF32_ok.2 (hs _)) (aNm_c (aF32_ok.2 (hs _)) (aNm_c ⟨(by show (39 : Int) ≤ sc.2 ((x3 + (5)).toNat); omega), (by show sc.2 ((x3 + (5)).toNat) ≤ (39 : Int); omega)⟩ (aNm_n))))))) rfl (by
      show [(0, zP 0), (1, zI (sc.2 ((x3 + (1)).toNat) + 0)), (2, zI (sc.2 ((x3 + (2)).toNat) + 0)), (3, zI (sc.2 ((x3 + (3)).toNat) + 0)), (4, zI (sc.2 ((x3 + (4)).toNat) + 0)), (5, zI (sc.2 ((x3 + (5)).toNat) + 0))] = _
      simp only [Int.add_zero]) g0 (jk_41 g0 i0 (hs _)) (fun z0 f1 g1 w0 h0 => ?_)
    refine zov_p (by omega) (zix_p (by omega) (zov_p (by omega) (zix_p (by omega) (zov_p (by omega) (zix_p (by omega) (zov_p (by omega) (zix_p (by omega) (zov_p (by omega) (zix_p (by omega) (?_))))))))))
    refine wcallX wS_423_ok (wr (sc.2 ((x3 + (1)).toNat)) (sc.2 ((x3 + (2)).toNat)) (sc.2 ((x3 + (3)).toNat)) (sc.2 ((x3 + (4)).toNat)) (sc.2 ((x3 + (5)).toNat))) (by decide) rfl rfl (aNm_c ⟨Int.le_refl _, Int.le_refl _⟩ (aNm_c (aF32_ok.2 (hs _)) (aNm_c (aF32_ok.2 (hs _)) (aNm_c (aF32_ok.2 (hs _)) (aNm_c (aF32_ok.2 (hs _)) (aNm_c ⟨(by show (39 : Int) ≤ sc.2 ((x3 + (5)).toNat); omega), (by show sc.2 ((x3 + (5)).toNat) ≤ (39 : Int); omega)⟩ (aNm_n))))))) rfl (by
      show [(0, zP 50), (1, zI (sc.2 ((x3 + (1)).toNat) + 0)), (2, zI (sc.2 ((x3 + (2)).toNat) + 0)), (3, zI (sc.2 ((x3 + (3)).toNat) + 0)), (4, zI (sc.2 ((x3 + (4)).toNat) + 0)), (5, zI (sc.2 ((x3 + (5)).toNat) + 0))] = _
      simp only [Int.add_zero]) g1 h0 (fun z1 f2 g2 w1 h1 => ?_)
    exact H _ g2 ⟨h1.1, wBt_fr (by decide +kernel) w1 (wBt_fr (by decide +kernel) w0 b0), wD_fr (by decide +kernel) w1 (wD_fr (by decide +kernel) w0 d0)⟩
  by_cases e0_41 : sc.2 ((x3 + (5)).toNat) ≤ (40 : Int)
  · refine wcallX wS_361_ok (wr (sc.2 ((x3 + (1)).toNat)) (sc.2 ((x3 + (2)).toNat)) (sc.2 ((x3 + (3)).toNat)) (sc.2 ((x3 + (4)).toNat)) (sc.2 ((x3 + (5)).toNat))) (by decide) rfl rfl (aNm_c ⟨Int.le_refl _, Int.le_refl _⟩ (aNm_c (aF32_ok.2 (hs _)) (aNm_c (aF32_ok.2 (hs _)) (aNm_c (aF32_ok.2 (hs _)) (aNm_c (aF32_ok.2 (hs _)) (aNm_c ⟨(by show (40 : Int) ≤ sc.2 ((x3 + (5)).toNat); omega), (by show sc.2 ((x3 + (5)).toNat) ≤ (40 : Int); omega)⟩ (aNm_n))))))) rfl (by
      show [(0, zP 0), (1, zI (sc.2 ((x3 + (1)).toNat) + 0)), (2, zI (sc.2 ((x3 + (2)).toNat) + 0)), (3, zI (sc.2 ((x3 + (3)).toNat) + 0)), (4, zI (sc.2 ((x3 + (4)).toNat) + 0)), (5, zI (sc.2 ((x3 + (5)).toNat) + 0))] = _
      simp only [Int.add_zero]) g0 (jk_41 g0 i0 (hs _)) (fun z0 f1 g1 w0 h0 => ?_)
    refine zov_p (by omega) (zix_p (by omega) (zov_p (by omega) (zix_p (by omega) (zov_p (by omega) (zix_p (by omega) (zov_p (by omega) (zix_p (by omega) (zov_p (by omega) (zix_p (by omega) (?_))))))))))
    refine wcallX wS_424_ok (wr (sc.2 ((x3 + (1)).toNat)) (sc.2 ((x3 + (2)).toNat)) (sc.2 ((x3 + (3)).toNat)) (sc.2 ((x3 + (4)).toNat)) (sc.2 ((x3 + (5)).toNat))) (by decide) rfl rfl (aNm_c ⟨Int.le_refl _, Int.le_refl _⟩ (aNm_c (aF32_ok.2 (hs _)) (aNm_c (aF32_ok.2 (hs _)) (aNm_c (aF32_ok.2 (hs _)) (aNm_c (aF32_ok.2 (hs _)) (aNm_c ⟨(by show (40 : Int) ≤ sc.2 ((x3 + (5)).toNat); omega), (by show sc.2 ((x3 + (5)).toNat) ≤ (40 : Int); omega)⟩ (aNm_n))))))) rfl (by
      show [(0, zP 50), (1, zI (sc.2 ((x3 + (1)).toNat) + 0)), (2, zI (sc.2 ((x3 + (2)).toNat) + 0)), (3, zI (sc.2 ((x3 + (3)).toNat) + 0)), (4, zI (sc.2 ((x3 + (4)).toNat) + 0)), (5, zI (sc.2 ((x3 + (5)).toNat) + 0))] = _
      simp only [Int.add_zero]) g1 h0 (fun z1 f2 g2 w1 h1 => ?_)
    exact H _ g2 ⟨h1.1, wBt_fr (by decide +kernel) w1 (wBt_fr (by decide +kernel) w0 b0), wD_fr (by decide +kernel) w1 (wD_fr (by decide +kernel) w0 d0)⟩
  by_cases e0_42 : sc.2 ((x3 + (5)).toNat) ≤ (41 : Int)
  · refine wcallX wS_362_ok (wr (sc.2 ((x3 + (1)).toNat)) (sc.2 ((x3 + (2)).toNat)) (sc.2 ((x3 + (3)).toNat)) (sc.2 ((x3 + (4)).toNat)) (sc.2 ((x3 + (5)).toNat))) (by decide) rfl rfl (aNm_c ⟨Int.le_refl _, Int.le_refl _⟩ (aNm_c (aF32_ok.2 (hs _)) (aNm_c (aF32_ok.2 (hs _)) (aNm_c (aF32_ok.2 (hs _)) (aNm_c (aF32_ok.2 (hs _)) (aNm_c ⟨(by show (41 : Int) ≤ sc.2 ((x3 + (5)).toNat); omega), (by show sc.2 ((x3 + (5)).toNat) ≤ (41 : Int); omega)⟩ (aNm_n))))))) rfl (by
      show [(0, zP 0), (1, zI (sc.2 ((x3 + (1)).toNat) + 0)), (2, zI (sc.2 ((x3 + (2)).toNat) + 0)), (3, zI (sc.2 ((x3 + (3)).toNat) + 0)), (4, zI (sc.2 ((x3 + (4)).toNat) + 0)), (5, zI (sc.2 ((x3 + (5)).toNat) + 0))] = _
      simp only [Int.add_zero]) g0 (jk_41 g0 i0 (hs _)) (fun z0 f1 g1 w0 h0 => ?_)
    refine zov_p (by omega) (zix_p (by omega) (zov_p (by omega) (zix_p (by omega) (zov_p (by omega) (zix_p (by omega) (zov_p (by omega) (zix_p (by omega) (zov_p (by omega) (zix_p (by omega) (?_))))))))))
    refine wcallX wS_425_ok (wr (sc.2 ((x3 + (1)).toNat)) (sc.2 ((x3 + (2)).toNat)) (sc.2 ((x3 + (3)).toNat)) (sc.2 ((x3 + (4)).toNat)) (sc.2 ((x3 + (5)).toNat))) (by decide) rfl rfl (aNm_c ⟨Int.le_refl _, Int.le_refl _⟩ (aNm_c (aF32_ok.2 (hs _)) (aNm_c (aF32_ok.2 (hs _)) (aNm_c (aF32_ok.2 (hs _)) (aNm_c (aF32_ok.2 (hs _)) (aNm_c ⟨(by show (41 : Int) ≤ sc.2 ((x3 + (5)).toNat); omega), (by show sc.2 ((x3 + (5)).toNat) ≤ (41 : Int); omega)⟩ (aNm_n))))))) rfl (by
      show [(0, zP 50), (1, zI (sc.2 ((x3 + (1)).toNat) + 0)), (2, zI (sc.2 ((x3 + (2)).toNat) + 0)), (3, zI (sc.2 ((x3 + (3)).toNat) + 0)), (4, zI (sc.2 ((x3 + (4)).toNat) + 0)), (5, zI (sc.2 ((x3 + (5)).toNat) + 0))] = _
      simp only [Int.add_zero]) g1 h0 (fun z1 f2 g2 w1 h1 => ?_)
    exact H _ g2 ⟨h1.1, wBt_fr (by decide +kernel) w1 (wBt_fr (by decide +kernel) w0 b0), wD_fr (by decide +kernel) w1 (wD_fr (by decide +kernel) w0 d0)⟩
  by_cases e0_43 : sc.2 ((x3 + (5)).toNat) ≤ (42 : Int)
  · refine wcallX wS_363_ok (wr (sc.2 ((x3 + (1)).toNat)) (sc.2 ((x3 + (2)).toNat)) (sc.2 ((x3 + (3)).toNat)) (sc.2 ((x3 + (4)).toNat)) (sc.2 ((x3 + (5)).toNat))) (by decide) rfl rfl (aNm_c ⟨Int.le_refl _, Int.le_refl _⟩ (aNm_c (aF32_ok.2 (hs _)) (aNm_c (aF32_ok.2 (hs _)) (aNm_c (aF32_ok.2 (hs _)) (aNm_c (aF32_ok.2 (hs _)) (aNm_c ⟨(by show (42 : Int) ≤ sc.2 ((x3 + (5)).toNat); omega), (by show sc.2 ((x3 + (5)).toNat) ≤ (42 : Int); omega)⟩ (aNm_n))))))) rfl (by
      show [(0, zP 0), (1, zI (sc.2 ((x3 + (1)).toNat) + 0)), (2, zI (sc.2 ((x3 + (2)).toNat) + 0)), (3, zI (sc.2 ((x3 + (3)).toNat) + 0)), (4, zI (sc.2 ((x3 + (4)).toNat) + 0)), (5, zI (sc.2 ((x3 + (5)).toNat) + 0))] = _
      simp only [Int.add_zero]) g0 (jk_41 g0 i0 (hs _)) (fun z0 f1 g1 w0 h0 => ?_)
    refine zov_p (by omega) (zix_p (by omega) (zov_p (by omega) (zix_p (by omega) (zov_p (by omega) (zix_p (by omega) (zov_p (by omega) (zix_p (by omega) (zov_p (by omega) (zix_p (by omega) (?_))))))))))
    refine wcallX wS_426_ok (wr (sc.2 ((x3 + (1)).toNat)) (sc.2 ((x3 + (2)).toNat)) (sc.2 ((x3 + (3)).toNat)) (sc.2 ((x3 + (4)).toNat)) (sc.2 ((x3 + (5)).toNat))) (by decide) rfl rfl (aNm_c ⟨Int.le_refl _, Int.le_refl _⟩ (aNm_c (aF32_ok.2 (hs _)) (aNm_c (aF32_ok.2 (hs _)) (aNm_c (aF32_ok.2 (hs _)) (aNm_c (aF32_ok.2 (hs _)) (aNm_c ⟨(by show (42 : Int) ≤ sc.2 ((x3 + (5)).toNat); omega), (by show sc.2 ((x3 + (5)).toNat) ≤ (42 : Int); omega)⟩ (aNm_n))))))) rfl (by
      show [(0, zP 50), (1, zI (sc.2 ((x3 + (1)).toNat) + 0)), (2, zI (sc.2 ((x3 + (2)).toNat) + 0)), (3, zI (sc.2 ((x3 + (3)).toNat) + 0)), (4, zI (sc.2 ((x3 + (4)).toNat) + 0)), (5, zI (sc.2 ((x3 + (5)).toNat) + 0))] = _
      simp only [Int.add_zero]) g1 h0 (fun z1 f2 g2 w1 h1 => ?_)
    exact H _ g2 ⟨h1.1, wBt_fr (by decide +kernel) w1 (wBt_fr (by decide +kernel) w0 b0), wD_fr (by decide +kernel) w1 (wD_fr (by decide +kernel) w0 d0)⟩
  by_cases e0_44 : sc.2 ((x3 + (5)).toNat) ≤ (43 : Int)
  · refine wcallX wS_364_ok (wr (sc.2 ((x3 + (1)).toNat)) (sc.2 ((x3 + (2)).toNat)) (sc.2 ((x3 + (3)).toNat)) (sc.2 ((x3 + (4)).toNat)) (sc.2 ((x3 + (5)).toNat))) (by decide) rfl rfl (aNm_c ⟨Int.le_refl _, Int.le_refl _⟩ (aNm_c (aF32_ok.2 (hs _)) (aNm_c (aF32_ok.2 (hs _)) (aNm_c (aF32_ok.2 (hs _)) (aNm_c (aF32_ok.2 (hs _)) (aNm_c ⟨(by show (43 : Int) ≤ sc.2 ((x3 + (5)).toNat); omega), (by show sc.2 ((x3 + (5)).toNat) ≤ (43 : Int); omega)⟩ (aNm_n))))))) rfl (by
      show [(0, zP 0), (1, zI (sc.2 ((x3 + (1)).toNat) + 0)), (2, zI (sc.2 ((x3 + (2)).toNat) + 0)), (3, zI (sc.2 ((x3 + (3)).toNat) + 0)), (4, zI (sc.2 ((x3 + (4)).toNat) + 0)), (5, zI (sc.2 ((x3 + (5)).toNat) + 0))] = _
      simp only [Int.add_zero]) g0 (jk_41 g0 i0 (hs _)) (fun z0 f1 g1 w0 h0 => ?_)
    refine zov_p (by omega) (zix_p (by omega) (zov_p (by omega) (zix_p (by omega) (zov_p (by omega) (zix_p (by omega) (zov_p (by omega) (zix_p (by omega) (zov_p (by omega) (zix_p (by omega) (?_))))))))))
    refine wcallX wS_427_ok (wr (sc.2 ((x3 + (1)).toNat)) (sc.2 ((x3 + (2)).toNat)) (sc.2 ((x3 + (3)).toNat)) (sc.2 ((x3 + (4)).toNat)) (sc.2 ((x3 + (5)).toNat))) (by decide) rfl rfl (aNm_c ⟨Int.le_refl _, Int.le_refl _⟩ (aNm_c (aF32_ok.2 (hs _)) (aNm_c (aF32_ok.2 (hs _)) (aNm_c (aF32_ok.2 (hs _)) (aNm_c (aF32_ok.2 (hs _)) (aNm_c ⟨(by show (43 : Int) ≤ sc.2 ((x3 + (5)).toNat); omega), (by show sc.2 ((x3 + (5)).toNat) ≤ (43 : Int); omega)⟩ (aNm_n))))))) rfl (by
      show [(0, zP 50), (1, zI (sc.2 ((x3 + (1)).toNat) + 0)), (2, zI (sc.2 ((x3 + (2)).toNat) + 0)), (3, zI (sc.2 ((x3 + (3)).toNat) + 0)), (4, zI (sc.2 ((x3 + (4)).toNat) + 0)), (5, zI (sc.2 ((x3 + (5)).toNat) + 0))] = _
      simp only [Int.add_zero]) g1 h0 (fun z1 f2 g2 w1 h1 => ?_)
    exact H _ g2 ⟨h1.1, wBt_fr (by decide +kernel) w1 (wBt_fr (by decide +kernel) w0 b0), wD_fr (by decide +kernel) w1 (wD_fr (by decide +kernel) w0 d0)⟩
  by_cases e0_45 : sc.2 ((x3 + (5)).toNat) ≤ (44 : Int)
  · refine wcallX wS_365_ok (wr (sc.2 ((x3 + (1)).toNat)) (sc.2 ((x3 + (2)).toNat)) (sc.2 ((x3 + (3)).toNat)) (sc.2 ((x3 + (4)).toNat)) (sc.2 ((x3 + (5)).toNat))) (by decide) rfl rfl (aNm_c ⟨Int.le_refl _, Int.le_refl _⟩ (aNm_c (aF32_ok.2 (hs _)) (aNm_c (aF32_ok.2 (hs _)) (aNm_c (aF32_ok.2 (hs _)) (aNm_c (aF32_ok.2 (hs _)) (aNm_c ⟨(by show (44 : Int) ≤ sc.2 ((x3 + (5)).toNat); omega), (by show sc.2 ((x3 + (5)).toNat) ≤ (44 : Int); omega)⟩ (aNm_n))))))) rfl (by
      show [(0, zP 0), (1, zI (sc.2 ((x3 + (1)).toNat) + 0)), (2, zI (sc.2 ((x3 + (2)).toNat) + 0)), (3, zI (sc.2 ((x3 + (3)).toNat) + 0)), (4, zI (sc.2 ((x3 + (4)).toNat) + 0)), (5, zI (sc.2 ((x3 + (5)).toNat) + 0))] = _
      simp only [Int.add_zero]) g0 (jk_41 g0 i0 (hs _)) (fun z0 f1 g1 w0 h0 => ?_)
    refine zov_p (by omega) (zix_p (by omega) (zov_p (by omega) (zix_p (by omega) (zov_p (by omega) (zix_p (by omega) (zov_p (by omega) (zix_p (by omega) (zov_p (by omega) (zix_p (by omega) (?_))))))))))
    refine wcallX wS_428_ok (wr (sc.2 ((x3 + (1)).toNat)) (sc.2 ((x3 + (2)).toNat)) (sc.2 ((x3 + (3)).toNat)) (sc.2 ((x3 + (4)).toNat)) (sc.2 ((x3 + (5)).toNat))) (by decide) rfl rfl (aNm_c ⟨Int.le_refl _, Int.le_refl _⟩ (aNm_c (aF32_ok.2 (hs _)) (aNm_c (aF32_ok.2 (hs _)) (aNm_c (aF32_ok.2 (hs _)) (aNm_c (aF32_ok.2 (hs _)) (aNm_c ⟨(by show (44 : Int) ≤ sc.2 ((x3 + (5)).toNat); omega), (by show sc.2 ((x3 + (5)).toNat) ≤ (44 : Int); omega)⟩ (aNm_n))))))) rfl (by
      show [(0, zP 50), (1, zI (sc.2 ((x3 + (1)).toNat) + 0)), (2, zI (sc.2 ((x3 + (2)).toNat) + 0)), (3, zI (sc.2 ((x3 + (3)).toNat) + 0)), (4, zI (sc.2 ((x3 + (4)).toNat) + 0)), (5, zI (sc.2 ((x3 + (5)).toNat) + 0))] = _
      simp only [Int.add_zero]) g1 h0 (fun z1 f2 g2 w1 h1 => ?_)
    exact H _ g2 ⟨h1.1, wBt_fr (by decide +kernel) w1 (wBt_fr (by decide +kernel) w0 b0), wD_fr (by decide +kernel) w1 (wD_fr (by decide +kernel) w0 d0)⟩
  by_cases e0_46 : sc.2 ((x3 + (5)).toNat) ≤ (45 : Int)
  · refine wcallX wS_366_ok (wr (sc.2 ((x3 + (1)).toNat)) (sc.2 ((x3 + (2)).toNat)) (sc.2 ((x3 + (3)).toNat)) (sc.2 ((x3 + (4)).toNat)) (sc.2 ((x3 + (5)).toNat))) (by decide) rfl rfl (aNm_c ⟨Int.le_refl _, Int.le_refl _⟩ (aNm_c (aF32_ok.2 (hs _)) (aNm_c (aF32_ok.2 (hs _)) (aNm_c (aF32_ok.2 (hs _)) (aNm_c (aF32_ok.2 (hs _)) (aNm_c ⟨(by show (45 : Int) ≤ sc.2 ((x3 + (5)).toNat); omega), (by show sc.2 ((x3 + (5)).toNat) ≤ (45 : Int); omega)⟩ (aNm_n))))))) rfl (by
      show [(0, zP 0), (1, zI (sc.2 ((x3 + (1)).toNat) + 0)), (2, zI (sc.2 ((x3 + (2)).toNat) + 0)), (3, zI (sc.2 ((x3 + (3)).toNat) + 0)), (4, zI (sc.2 ((x3 + (4)).toNat) + 0)), (5, zI (sc.2 ((x3 + (5)).toNat) + 0))] = _
      simp only [Int.add_zero]) g0 (jk_41 g0 i0 (hs _)) (fun z0 f1 g1 w0 h0 => ?_)
    refine zov_p (by omega) (zix_p (by omega) (zov_p (by omega) (zix_p (by omega) (zov_p (by omega) (zix_p (by omega) (zov_p (by omega) (zix_p (by omega) (zov_p (by omega) (zix_p (by omega) (?_))))))))))
    refine wcallX wS_429_ok (wr (sc.2 ((x3 + (1)).toNat)) (sc.2 ((x3 + (2)).toNat)) (sc.2 ((x3 + (3)).toNat)) (sc.2 ((x3 + (4)).toNat)) (sc.2 ((x3 + (5)).toNat))) (by decide) rfl rfl (aNm_c ⟨Int.le_refl _, Int.le_refl _⟩ (aNm_c (aF32_ok.2 (hs _)) (aNm_c (aF32_ok.2 (hs _)) (aNm_c (aF32_ok.2 (hs _)) (aNm_c (aF32_ok.2 (hs _)) (aNm_c ⟨(by show (45 : Int) ≤ sc.2 ((x3 + (5)).toNat); omega), (by show sc.2 ((x3 + (5)).toNat) ≤ (45 : Int); omega)⟩ (aNm_n))))))) rfl (by
      show [(0, zP 50), (1, zI (sc.2 ((x3 + (1)).toNat) + 0)), (2, zI (sc.2 ((x3 + (2)).toNat) + 0)), (3, zI (sc.2 ((x3 + (3)).toNat) + 0)), (4, zI (sc.2 ((x3 + (4)).toNat) + 0)), (5, zI (sc.2 ((x3 + (5)).toNat) + 0))] = _
      simp only [Int.add_zero]) g1 h0 (fun z1 f2 g2 w1 h1 => ?_)
    exact H _ g2 ⟨h1.1, wBt_fr (by decide +kernel) w1 (wBt_fr (by decide +kernel) w0 b0), wD_fr (by decide +kernel) w1 (wD_fr (by decide +kernel) w0 d0)⟩
  by_cases e0_47 : sc.2 ((x3 + (5)).toNat) ≤ (46 : Int)
  · refine wcallX wS_367_ok (wr (sc.2 ((x3 + (1)).toNat)) (sc.2 ((x3 + (2)).toNat)) (sc.2 ((x3 + (3)).toNat)) (sc.2 ((x3 + (4)).toNat)) (sc.2 ((x3 + (5)).toNat))) (by decide) rfl rfl (aNm_c ⟨Int.le_refl _, Int.le_refl _⟩ (aNm_c (aF32_ok.2 (hs _)) (aNm_c (aF32_ok.2 (hs _)) (aNm_c (aF32_ok.2 (hs _)) (aNm_c (aF32_ok.2 (hs _)) (aNm_c ⟨(by show (46 : Int) ≤ sc.2 ((x3 + (5)).toNat); omega), (by show sc.2 ((x3 + (5)).toNat) ≤ (46 : Int); omega)⟩ (aNm_n))))))) rfl (by
      show [(0, zP 0), (1, zI (sc.2 ((x3 + (1)).toNat) + 0)), (2, zI (sc.2 ((x3 + (2)).toNat) + 0)), (3, zI (sc.2 ((x3 + (3)).toNat) + 0)), (4, zI (sc.2 ((x3 + (4)).toNat) + 0)), (5, zI (sc.2 ((x3 + (5)).toNat) + 0))] = _
      simp only [Int.add_zero]) g0 (jk_41 g0 i0 (hs _)) (fun z0 f1 g1 w0 h0 => ?_)
    refine zov_p (by omega) (zix_p (by omega) (zov_p (by omega) (zix_p (by omega) (zov_p (by omega) (zix_p (by omega) (zov_p (by omega) (zix_p (by omega) (zov_p (by omega) (zix_p (by omega) (?_))))))))))
    refine wcallX wS_430_ok (wr (sc.2 ((x3 + (1)).toNat)) (sc.2 ((x3 + (2)).toNat)) (sc.2 ((x3 + (3)).toNat)) (sc.2 ((x3 + (4)).toNat)) (sc.2 ((x3 + (5)).toNat))) (by decide) rfl rfl (aNm_c ⟨Int.le_refl _, Int.le_refl _⟩ (aNm_c (aF32_ok.2 (hs _)) (aNm_c (aF32_ok.2 (hs _)) (aNm_c (aF32_ok.2 (hs _)) (aNm_c (aF32_ok.2 (hs _)) (aNm_c ⟨(by show (46 : Int) ≤ sc.2 ((x3 + (5)).toNat); omega), (by show sc.2 ((x3 + (5)).toNat) ≤ (46 : Int); omega)⟩ (aNm_n))))))) rfl (by
      show [(0, zP 50), (1, zI (sc.2 ((x3 + (1)).toNat) + 0)), (2, zI (sc.2 ((x3 + (2)).toNat) + 0)), (3, zI (sc.2 ((x3 + (3)).toNat) + 0)), (4, zI (sc.2 ((x3 + (4)).toNat) + 0)), (5, zI (sc.2 ((x3 + (5)).toNat) + 0))] = _
      simp only [Int.add_zero]) g1 h0 (fun z1 f2 g2 w1 h1 => ?_)
    exact H _ g2 ⟨h1.1, wBt_fr (by decide +kernel) w1 (wBt_fr (by decide +kernel) w0 b0), wD_fr (by decide +kernel) w1 (wD_fr (by decide +kernel) w0 d0)⟩
  by_cases e0_48 : sc.2 ((x3 + (5)).toNat) ≤ (47 : Int)
  · refine wcallX wS_368_ok (wr (sc.2 ((x3 + (1)).toNat)) (sc.2 ((x3 + (2)).toNat)) (sc.2 ((x3 + (3)).toNat)) (sc.2 ((x3 + (4)).toNat)) (sc.2 ((x3 + (5)).toNat))) (by decide) rfl rfl (aNm_c ⟨Int.le_refl _, Int.le_refl _⟩ (aNm_c (aF32_ok.2 (hs _)) (aNm_c (aF32_ok.2 (hs _)) (aNm_c (aF32_ok.2 (hs _)) (aNm_c (aF32_ok.2 (hs _)) (aNm_c ⟨(by show (47 : Int) ≤ sc.2 ((x3 + (5)).toNat); omega), (by show sc.2 ((x3 + (5)).toNat) ≤ (47 : Int); omega)⟩ (aNm_n))))))) rfl (by
      show [(0, zP 0), (1, zI (sc.2 ((x3 + (1)).toNat) + 0)), (2, zI (sc.2 ((x3 + (2)).toNat) + 0)), (3, zI (sc.2 ((x3 + (3)).toNat) + 0)), (4, zI (sc.2 ((x3 + (4)).toNat) + 0)), (5, zI (sc.2 ((x3 + (5)).toNat) + 0))] = _
      simp only [Int.add_zero]) g0 (jk_41 g0 i0 (hs _)) (fun z0 f1 g1 w0 h0 => ?_)
    refine zov_p (by omega) (zix_p (by omega) (zov_p (by omega) (zix_p (by omega) (zov_p (by omega) (zix_p (by omega) (zov_p (by omega) (zix_p (by omega) (zov_p (by omega) (zix_p (by omega) (?_))))))))))
    refine wcallX wS_431_ok (wr (sc.2 ((x3 + (1)).toNat)) (sc.2 ((x3 + (2)).toNat)) (sc.2 ((x3 + (3)).toNat)) (sc.2 ((x3 + (4)).toNat)) (sc.2 ((x3 + (5)).toNat))) (by decide) rfl rfl (aNm_c ⟨Int.le_refl _, Int.le_refl _⟩ (aNm_c (aF32_ok.2 (hs _)) (aNm_c (aF32_ok.2 (hs _)) (aNm_c (aF32_ok.2 (hs _)) (aNm_c (aF32_ok.2 (hs _)) (aNm_c ⟨(by show (47 : Int) ≤ sc.2 ((x3 + (5)).toNat); omega), (by show sc.2 ((x3 + (5)).toNat) ≤ (47 : Int); omega)⟩ (aNm_n))))))) rfl (by
      show [(0, zP 50), (1, zI (sc.2 ((x3 + (1)).toNat) + 0)), (2, zI (sc.2 ((x3 + (2)).toNat) + 0)), (3, zI (sc.2 ((x3 + (3)).toNat) + 0)), (4, zI (sc.2 ((x3 + (4)).toNat) + 0)), (5, zI (sc.2 ((x3 + (5)).toNat) + 0))] = _
      simp only [Int.add_zero]) g1 h0 (fun z1 f2 g2 w1 h1 => ?_)
    exact H _ g2 ⟨h1.1, wBt_fr (by decide +kernel) w1 (wBt_fr (by decide +kernel) w0 b0), wD_fr (by decide +kernel) w1 (wD_fr (by decide +kernel) w0 d0)⟩
  by_cases e0_49 : sc.2 ((x3 + (5)).toNat) ≤ (48 : Int)
  · refine wcallX wS_369_ok (wr (sc.2 ((x3 + (1)).toNat)) (sc.2 ((x3 + (2)).toNat)) (sc.2 ((x3 + (3)).toNat)) (sc.2 ((x3 + (4)).toNat)) (sc.2 ((x3 + (5)).toNat))) (by decide) rfl rfl (aNm_c ⟨Int.le_refl _, Int.le_refl _⟩ (aNm_c (aF32_ok.2 (hs _)) (aNm_c (aF32_ok.2 (hs _)) (aNm_c (aF32_ok.2 (hs _)) (aNm_c (aF32_ok.2 (hs _)) (aNm_c ⟨(by show (48 : Int) ≤ sc.2 ((x3 + (5)).toNat); omega), (by show sc.2 ((x3 + (5)).toNat) ≤ (48 : Int); omega)⟩ (aNm_n))))))) rfl (by
      show [(0, zP 0), (1, zI (sc.2 ((x3 + (1)).toNat) + 0)), (2, zI (sc.2 ((x3 + (2)).toNat) + 0)), (3, zI (sc.2 ((x3 + (3)).toNat) + 0)), (4, zI (sc.2 ((x3 + (4)).toNat) + 0)), (5, zI (sc.2 ((x3 + (5)).toNat) + 0))] = _
      simp only [Int.add_zero]) g0 (jk_41 g0 i0 (hs _)) (fun z0 f1 g1 w0 h0 => ?_)
    refine zov_p (by omega) (zix_p (by omega) (zov_p (by omega) (zix_p (by omega) (zov_p (by omega) (zix_p (by omega) (zov_p (by omega) (zix_p (by omega) (zov_p (by omega) (zix_p (by omega) (?_))))))))))
    refine wcallX wS_432_ok (wr (sc.2 ((x3 + (1)).toNat)) (sc.2 ((x3 + (2)).toNat)) (sc.2 ((x3 + (3)).toNat)) (sc.2 ((x3 + (4)).toNat)) (sc.2 ((x3 + (5)).toNat))) (by decide) rfl rfl (aNm_c ⟨Int.le_refl _, Int.le_refl _⟩ (aNm_c (aF32_ok.2 (hs _)) (aNm_c (aF32_ok.2 (hs _)) (aNm_c (aF32_ok.2 (hs _)) (aNm_c (aF32_ok.2 (hs _)) (aNm_c ⟨(by show (48 : Int) ≤ sc.2 ((x3 + (5)).toNat); omega), (by show sc.2 ((x3 + (5)).toNat) ≤ (48 : Int); omega)⟩ (aNm_n))))))) rfl (by
      show [(0, zP 50), (1, zI (sc.2 ((x3 + (1)).toNat) + 0)), (2, zI (sc.2 ((x3 + (2)).toNat) + 0)), (3, zI (sc.2 ((x3 + (3)).toNat) + 0)), (4, zI (sc.2 ((x3 + (4)).toNat) + 0)), (5, zI (sc.2 ((x3 + (5)).toNat) + 0))] = _
      simp only [Int.add_zero]) g1 h0 (fun z1 f2 g2 w1 h1 => ?_)
    exact H _ g2 ⟨h1.1, wBt_fr (by decide +kernel) w1 (wBt_fr (by decide +kernel) w0 b0), wD_fr (by decide +kernel) w1 (wD_fr (by decide +kernel) w0 d0)⟩
  by_cases e0_50 : sc.2 ((x3 + (5)).toNat) ≤ (49 : Int)
  · refine wcallX wS_370_ok (wr (sc.2 ((x3 + (1)).toNat)) (sc.2 ((x3 + (2)).toNat)) (sc.2 ((x3 + (3)).toNat)) (sc.2 ((x3 + (4)).toNat)) (sc.2 ((x3 + (5)).toNat))) (by decide) rfl rfl (aNm_c ⟨Int.le_refl _, Int.le_refl _⟩ (aNm_c (aF32_ok.2 (hs _)) (aNm_c (aF32_ok.2 (hs _)) (aNm_c (aF32_ok.2 (hs _)) (aNm_c (aF32_ok.2 (hs _)) (aNm_c ⟨(by show (49 : Int) ≤ sc.2 ((x3 + (5)).toNat); omega), (by show sc.2 ((x3 + (5)).toNat) ≤ (49 : Int); omega)⟩ (aNm_n))))))) rfl (by
      show [(0, zP 0), (1, zI (sc.2 ((x3 + (1)).toNat) + 0)), (2, zI (sc.2 ((x3 + (2)).toNat) + 0)), (3, zI (sc.2 ((x3 + (3)).toNat) + 0)), (4, zI (sc.2 ((x3 + (4)).toNat) + 0)), (5, zI (sc.2 ((x3 + (5)).toNat) + 0))] = _
      simp only [Int.add_zero]) g0 (jk_41 g0 i0 (hs _)) (fun z0 f1 g1 w0 h0 => ?_)
    refine zov_p (by omega) (zix_p (by omega) (zov_p (by omega) (zix_p (by omega) (zov_p (by omega) (zix_p (by omega) (zov_p (by omega) (zix_p (by omega) (zov_p (by omega) (zix_p (by omega) (?_))))))))))
    refine wcallX wS_433_ok (wr (sc.2 ((x3 + (1)).toNat)) (sc.2 ((x3 + (2)).toNat)) (sc.2 ((x3 + (3)).toNat)) (sc.2 ((x3 + (4)).toNat)) (sc.2 ((x3 + (5)).toNat))) (by decide) rfl rfl (aNm_c ⟨Int.le_refl _, Int.le_refl _⟩ (aNm_c (aF32_ok.2 (hs _)) (aNm_c (aF32_ok.2 (hs _)) (aNm_c (aF32_ok.2 (hs _)) (aNm_c (aF32_ok.2 (hs _)) (aNm_c ⟨(by show (49 : Int) ≤ sc.2 ((x3 + (5)).toNat); omega), (by show sc.2 ((x3 + (5)).toNat) ≤ (49 : Int); omega)⟩ (aNm_n))))))) rfl (by
      show [(0, zP 50), (1, zI (sc.2 ((x3 + (1)).toNat) + 0)), (2, zI (sc.2 ((x3 + (2)).toNat) + 0)), (3, zI (sc.2 ((x3 + (3)).toNat) + 0)), (4, zI (sc.2 ((x3 + (4)).toNat) + 0)), (5, zI (sc.2 ((x3 + (5)).toNat) + 0))] = _
      simp only [Int.add_zero]) g1 h0 (fun z1 f2 g2 w1 h1 => ?_)
    exact H _ g2 ⟨h1.1, wBt_fr (by decide +kernel) w1 (wBt_fr (by decide +kernel) w0 b0), wD_fr (by decide +kernel) w1 (wD_fr (by decide +kernel) w0 d0)⟩
  by_cases e0_51 : sc.2 ((x3 + (5)).toNat) ≤ (50 : Int)
  · refine wcallX wS_371_ok (wr (sc.2 ((x3 + (1)).toNat)) (sc.2 ((x3 + (2)).toNat)) (sc.2 ((x3 + (3)).toNat)) (sc.2 ((x3 + (4)).toNat)) (sc.2 ((x3 + (5)).toNat))) (by decide) rfl rfl (aNm_c ⟨Int.le_refl _, Int.le_refl _⟩ (aNm_c (aF32_ok.2 (hs _)) (aNm_c (aF32_ok.2 (hs _)) (aNm_c (aF32_ok.2 (hs _)) (aNm_c (aF32_ok.2 (hs _)) (aNm_c ⟨(by show (50 : Int) ≤ sc.2 ((x3 + (5)).toNat); omega), (by show sc.2 ((x3 + (5)).toNat) ≤ (50 : Int); omega)⟩ (aNm_n))))))) rfl (by
      show [(0, zP 0), (1, zI (sc.2 ((x3 + (1)).toNat) + 0)), (2, zI (sc.2 ((x3 + (2)).toNat) + 0)), (3, zI (sc.2 ((x3 + (3)).toNat) + 0)), (4, zI (sc.2 ((x3 + (4)).toNat) + 0)), (5, zI (sc.2 ((x3 + (5)).toNat) + 0))] = _
      simp only [Int.add_zero]) g0 (jk_41 g0 i0 (hs _)) (fun z0 f1 g1 w0 h0 => ?_)
    refine zov_p (by omega) (zix_p (by omega) (zov_p (by omega) (zix_p (by omega) (zov_p (by omega) (zix_p (by omega) (zov_p (by omega) (zix_p (by omega) (zov_p (by omega) (zix_p (by omega) (?_))))))))))
    refine wcallX wS_434_ok (wr (sc.2 ((x3 + (1)).toNat)) (sc.2 ((x3 + (2)).toNat)) (sc.2 ((x3 + (3)).toNat)) (sc.2 ((x3 + (4)).toNat)) (sc.2 ((x3 + (5)).toNat))) (by decide) rfl rfl (aNm_c ⟨Int.le_refl _, Int.le_refl _⟩ (aNm_c (aF32_ok.2 (hs _)) (aNm_c (aF32_ok.2 (hs _)) (aNm_c (aF32_ok.2 (hs _)) (aNm_c (aF32_ok.2 (hs _)) (aNm_c ⟨(by show (50 : Int) ≤ sc.2 ((x3 + (5)).toNat); omega), (by show sc.2 ((x3 + (5)).toNat) ≤ (50 : Int); omega)⟩ (aNm_n))))))) rfl (by
      show [(0, zP 50), (1, zI (sc.2 ((x3 + (1)).toNat) + 0)), (2, zI (sc.2 ((x3 + (2)).toNat) + 0)), (3, zI (sc.2 ((x3 + (3)).toNat) + 0)), (4, zI (sc.2 ((x3 + (4)).toNat) + 0)), (5, zI (sc.2 ((x3 + (5)).toNat) + 0))] = _
      simp only [Int.add_zero]) g1 h0 (fun z1 f2 g2 w1 h1 => ?_)
    exact H _ g2 ⟨h1.1, wBt_fr (by decide +kernel) w1 (wBt_fr (by decide +kernel) w0 b0), wD_fr (by decide +kernel) w1 (wD_fr (by decide +kernel) w0 d0)⟩
  by_cases e0_52 : sc.2 ((x3 + (5)).toNat) ≤ (51 : Int)
  · refine wcallX wS_372_ok (wr (sc.2 ((x3 + (1)).toNat)) (sc.2 ((x3 + (2)).toNat)) (sc.2 ((x3 + (3)).toNat)) (sc.2 ((x3 + (4)).toNat)) (sc.2 ((x3 + (5)).toNat))) (by decide) rfl rfl (aNm_c ⟨Int.le_refl _, Int.le_refl _⟩ (aNm_c (aF32_ok.2 (hs _)) (aNm_c (aF32_ok.2 (hs _)) (aNm_c (aF32_ok.2 (hs _)) (aNm_c (aF32_ok.2 (hs _)) (aNm_c ⟨(by show (51 : Int) ≤ sc.2 ((x3 + (5)).toNat); omega), (by show sc.2 ((x3 + (5)).toNat) ≤ (51 : Int); omega)⟩ (aNm_n))))))) rfl (by
      show [(0, zP 0), (1, zI (sc.2 ((x3 + (1)).toNat) + 0)), (2, zI (sc.2 ((x3 + (2)).toNat) + 0)), (3, zI (sc.2 ((x3 + (3)).toNat) + 0)), (4, zI (sc.2 ((x3 + (4)).toNat) + 0)), (5, zI (sc.2 ((x3 + (5)).toNat) + 0))] = _
      simp only [Int.add_zero]) g0 (jk_41 g0 i0 (hs _)) (fun z0 f1 g1 w0 h0 => ?_)
    refine zov_p (by omega) (zix_p (by omega) (zov_p (by omega) (zix_p (by omega) (zov_p (by omega) (zix_p (by omega) (zov_p (by omega) (zix_p (by omega) (zov_p (by omega) (zix_p (by omega) (?_))))))))))
    refine wcallX wS_435_ok (wr (sc.2 ((x3 + (1)).toNat)) (sc.2 ((x3 + (2)).toNat)) (sc.2 ((x3 + (3)).toNat)) (sc.2 ((x3 + (4)).toNat)) (sc.2 ((x3 + (5)).toNat))) (by decide) rfl rfl (aNm_c ⟨Int.le_refl _, Int.le_refl _⟩ (aNm_c (aF32_ok.2 (hs _)) (aNm_c (aF32_ok.2 (hs _)) (aNm_c (aF32_ok.2 (hs _)) (aNm_c (aF32_ok.2 (hs _)) (aNm_c ⟨(by show (51 : Int) ≤ sc.2 ((x3 + (5)).toNat); omega), (by show sc.2 ((x3 + (5)).toNat) ≤ (51 : Int); omega)⟩ (aNm_n))))))) rfl (by
      show [(0, zP 50), (1, zI (sc.2 ((x3 + (1)).toNat) + 0)), (2, zI (sc.2 ((x3 + (2)).toNat) + 0)), (3, zI (sc.2 ((x3 + (3)).toNat) + 0)), (4, zI (sc.2 ((x3 + (4)).toNat) + 0)), (5, zI (sc.2 ((x3 + (5)).toNat) + 0))] = _
      simp only [Int.add_zero]) g1 h0 (fun z1 f2 g2 w1 h1 => ?_)
    exact H _ g2 ⟨h1.1, wBt_fr (by decide +kernel) w1 (wBt_fr (by decide +kernel) w0 b0), wD_fr (by decide +kernel) w1 (wD_fr (by decide +kernel) w0 d0)⟩
  by_cases e0_53 : sc.2 ((x3 + (5)).toNat) ≤ (52 : Int)
  · refine wcallX wS_373_ok (wr (sc.2 ((x3 + (1)).toNat)) (sc.2 ((x3 + (2)).toNat)) (sc.2 ((x3 + (3)).toNat)) (sc.2 ((x3 + (4)).toNat)) (sc.2 ((x3 + (5)).toNat))) (by decide) rfl rfl (aNm_c ⟨Int.le_refl _, Int.le_refl _⟩ (aNm_c (aF32_ok.2 (hs _)) (aNm_c (aF32_ok.2 (hs _)) (aNm_c (aF32_ok.2 (hs _)) (aNm_c (aF32_ok.2 (hs _)) (aNm_c ⟨(by show (52 : Int) ≤ sc.2 ((x3 + (5)).toNat); omega), (by show sc.2 ((x3 + (5)).toNat) ≤ (52 : Int); omega)⟩ (aNm_n))))))) rfl (by
      show [(0, zP 0), (1, zI (sc.2 ((x3 + (1)).toNat) + 0)), (2, zI (sc.2 ((x3 + (2)).toNat) + 0)), (3, zI (sc.2 ((x3 + (3)).toNat) + 0)), (4, zI (sc.2 ((x3 + (4)).toNat) + 0)), (5, zI (sc.2 ((x3 + (5)).toNat) + 0))] = _
      simp only [Int.add_zero]) g0 (jk_41 g0 i0 (hs _)) (fun z0 f1 g1 w0 h0 => ?_)
    refine zov_p (by omega) (zix_p (by omega) (zov_p (by omega) (zix_p (by omega) (zov_p (by omega) (zix_p (by omega) (zov_p (by omega) (zix_p (by omega) (zov_p (by omega) (zix_p (by omega) (?_))))))))))
    refine wcallX wS_436_ok (wr (sc.2 ((x3 + (1)).toNat)) (sc.2 ((x3 + (2)).toNat)) (sc.2 ((x3 + (3)).toNat)) (sc.2 ((x3 + (4)).toNat)) (sc.2 ((x3 + (5)).toNat))) (by decide) rfl rfl (aNm_c ⟨Int.le_refl _, Int.le_refl _⟩ (aNm_c (aF32_ok.2 (hs _)) (aNm_c (aF32_ok.2 (hs _)) (aNm_c (aF32_ok.2 (hs _)) (aNm_c (aF32_ok.2 (hs _)) (aNm_c ⟨(by show (52 : Int) ≤ sc.2 ((x3 + (5)).toNat); omega), (by show sc.2 ((x3 + (5)).toNat) ≤ (52 : Int); omega)⟩ (aNm_n))))))) rfl (by
      show [(0, zP 50), (1, zI (sc.2 ((x3 + (1)).toNat) + 0)), (2, zI (sc.2 ((x3 + (2)).toNat) + 0)), (3, zI (sc.2 ((x3 + (3)).toNat) + 0)), (4, zI (sc.2 ((x3 + (4)).toNat) + 0)), (5, zI (sc.2 ((x3 + (5)).toNat) + 0))] = _
      simp only [Int.add_zero]) g1 h0 (fun z1 f2 g2 w1 h1 => ?_)
    exact H _ g2 ⟨h1.1, wBt_fr (by decide +kernel) w1 (wBt_fr (by decide +kernel) w0 b0), wD_fr (by decide +kernel) w1 (wD_fr (by decide +kernel) w0 d0)⟩
  by_cases e0_54 : sc.2 ((x3 + (5)).toNat) ≤ (53 : Int)
  · refine wcallX wS_374_ok (wr (sc.2 ((x3 + (1)).toNat)) (sc.2 ((x3 + (2)).toNat)) (sc.2 ((x3 + (3)).toNat)) (sc.2 ((x3 + (4)).toNat)) (sc.2 ((x3 + (5)).toNat))) (by decide) rfl rfl (aNm_c ⟨Int.le_refl _, Int.le_refl _⟩ (aNm_c (aF32_ok.2 (hs _)) (aNm_c (aF32_ok.2 (hs _)) (aNm_c (aF32_ok.2 (hs _)) (aNm_c (aF32_ok.2 (hs _)) (aNm_c ⟨(by show (53 : Int) ≤ sc.2 ((x3 + (5)).toNat); omega), (by show sc.2 ((x3 + (5)).toNat) ≤ (53 : Int); omega)⟩ (aNm_n))))))) rfl (by
      show [(0, zP 0), (1, zI (sc.2 ((x3 + (1)).toNat) + 0)), (2, zI (sc.2 ((x3 + (2)).toNat) + 0)), (3, zI (sc.2 ((x3 + (3)).toNat) + 0)), (4, zI (sc.2 ((x3 + (4)).toNat) + 0)), (5, zI (sc.2 ((x3 + (5)).toNat) + 0))] = _
      simp only [Int.add_zero]) g0 (jk_41 g0 i0 (hs _)) (fun z0 f1 g1 w0 h0 => ?_)
    refine zov_p (by omega) (zix_p (by omega) (zov_p (by omega) (zix_p (by omega) (zov_p (by omega) (zix_p (by omega) (zov_p (by omega) (zix_p (by omega) (zov_p (by omega) (zix_p (by omega) (?_))))))))))
    refine wcallX wS_437_ok (wr (sc.2 ((x3 + (1)).toNat)) (sc.2 ((x3 + (2)).toNat)) (sc.2 ((x3 + (3)).toNat)) (sc.2 ((x3 + (4)).toNat)) (sc.2 ((x3 + (5)).toNat))) (by decide) rfl rfl (aNm_c ⟨Int.le_refl _, Int.le_refl _⟩ (aNm_c (aF32_ok.2 (hs _)) (aNm_c (aF32_ok.2 (hs _)) (aNm_c (aF32_ok.2 (hs _)) (aNm_c (aF32_ok.2 (hs _)) (aNm_c ⟨(by show (53 : Int) ≤ sc.2 ((x3 + (5)).toNat); omega), (by show sc.2 ((x3 + (5)).toNat) ≤ (53 : Int); omega)⟩ (aNm_n))))))) rfl (by
      show [(0, zP 50), (1, zI (sc.2 ((x3 + (1)).toNat) + 0)), (2, zI (sc.2 ((x3 + (2)).toNat) + 0)), (3, zI (sc.2 ((x3 + (3)).toNat) + 0)), (4, zI (sc.2 ((x3 + (4)).toNat) + 0)), (5, zI (sc.2 ((x3 + (5)).toNat) + 0))] = _
      simp only [Int.add_zero]) g1 h0 (fun z1 f2 g2 w1 h1 => ?_)
    exact H _ g2 ⟨h1.1, wBt_fr (by decide +kernel) w1 (wBt_fr (by decide +kernel) w0 b0), wD_fr (by decide +kernel) w1 (wD_fr (by decide +kernel) w0 d0)⟩
  by_cases e0_55 : sc.2 ((x3 + (5)).toNat) ≤ (54 : Int)
  · refine wcallX wS_375_ok (wr (sc.2 ((x3 + (1)).toNat)) (sc.2 ((x3 + (2)).toNat)) (sc.2 ((x3 + (3)).toNat)) (sc.2 ((x3 + (4)).toNat)) (sc.2 ((x3 + (5)).toNat))) (by decide) rfl rfl (aNm_c ⟨Int.le_refl _, Int.le_refl _⟩ (aNm_c (aF32_ok.2 (hs _)) (aNm_c (aF32_ok.2 (hs _)) (aNm_c (aF32_ok.2 (hs _)) (aNm_c (aF32_ok.2 (hs _)) (aNm_c ⟨(by show (54 : Int) ≤ sc.2 ((x3 + (5)).toNat); omega), (by show sc.2 ((x3 + (5)).toNat) ≤ (54 : Int); omega)⟩ (aNm_n))))))) rfl (by
      show [(0, zP 0), (1, zI (sc.2 ((x3 + (1)).toNat) + 0)), (2, zI (sc.2 ((x3 + (2)).toNat) + 0)), (3, zI (sc.2 ((x3 + (3)).toNat) + 0)), (4, zI (sc.2 ((x3 + (4)).toNat) + 0)), (5, zI (sc.2 ((x3 + (5)).toNat) + 0))] = _
      simp only [Int.add_zero]) g0 (jk_41 g0 i0 (hs _)) (fun z0 f1 g1 w0 h0 => ?_)
    refine zov_p (by omega) (zix_p (by omega) (zov_p (by omega) (zix_p (by omega) (zov_p (by omega) (zix_p (by omega) (zov_p (by omega) (zix_p (by omega) (zov_p (by omega) (zix_p (by omega) (?_))))))))))
    refine wcallX wS_438_ok (wr (sc.2 ((x3 + (1)).toNat)) (sc.2 ((x3 + (2)).toNat)) (sc.2 ((x3 + (3)).toNat)) (sc.2 ((x3 + (4)).toNat)) (sc.2 ((x3 + (5)).toNat))) (by decide) rfl rfl (aNm_c ⟨Int.le_refl _, Int.le_refl _⟩ (aNm_c (aF32_ok.2 (hs _)) (aNm_c (aF32_ok.2 (hs _)) (aNm_c (aF32_ok.2 (hs _)) (aNm_c (aF32_ok.2 (hs _)) (aNm_c ⟨(by show (54 : Int) ≤ sc.2 ((x3 + (5)).toNat); omega), (by show sc.2 ((x3 + (5)).toNat) ≤ (54 : Int); omega)⟩ (aNm_n))))))) rfl (by
      show [(0, zP 50), (1, zI (sc.2 ((x3 + (1)).toNat) + 0)), (2, zI (sc.2 ((x3 + (2)).toNat) + 0)), (3, zI (sc.2 ((x3 + (3)).toNat) + 0)), (4, zI (sc.2 ((x3 + (4)).toNat) + 0)), (5, zI (sc.2 ((x3 + (5)).toNat) + 0))] = _
      simp only [Int.add_zero]) g1 h0 (fun z1 f2 g2 w1 h1 => ?_)
    exact H _ g2 ⟨h1.1, wBt_fr (by decide +kernel) w1 (wBt_fr (by decide +kernel) w0 b0), wD_fr (by decide +kernel) w1 (wD_fr (by decide +kernel) w0 d0)⟩
  by_cases e0_56 : sc.2 ((x3 + (5)).toNat) ≤ (55 : Int)
  · refine wcallX wS_376_ok (wr (sc.2 ((x3 + (1)).toNat)) (sc.2 ((x3 + (2)).toNat)) (sc.2 ((x3 + (3)).toNat)) (sc.2 ((x3 + (4)).toNat)) (sc.2 ((x3 + (5)).toNat))) (by decide) rfl rfl (aNm_c ⟨Int.le_refl _, Int.le_refl _⟩ (aNm_c (aF32_ok.2 (hs _)) (aNm_c (aF32_ok.2 (hs _)) (aNm_c (aF32_ok.2 (hs _)) (aNm_c (aF32_ok.2 (hs _)) (aNm_c ⟨(by show (55 : Int) ≤ sc.2 ((x3 + (5)).toNat); omega), (by show sc.2 ((x3 + (5)).toNat) ≤ (55 : Int); omega)⟩ (aNm_n))))))) rfl (by
      show [(0, zP 0), (1, zI (sc.2 ((x3 + (1)).toNat) + 0)), (2, zI (sc.2 ((x3 + (2)).toNat) + 0)), (3, zI (sc.2 ((x3 + (3)).toNat) + 0)), (4, zI (sc.2 ((x3 + (4)).toNat) + 0)), (5, zI (sc.2 ((x3 + (5)).toNat) + 0))] = _
      simp only [Int.add_zero]) g0 (jk_41 g0 i0 (hs _)) (fun z0 f1 g1 w0 h0 => ?_)
    refine zov_p (by omega) (zix_p (by omega) (zov_p (by omega) (zix_p (by omega) (zov_p (by omega) (zix_p (by omega) (zov_p (by omega) (zix_p (by omega) (zov_p (by omega) (zix_p (by omega) (?_))))))))))
    refine wcallX wS_439_ok (wr (sc.2 ((x3 + (1)).toNat)) (sc.2 ((x3 + (2)).toNat)) (sc.2 ((x3 + (3)).toNat)) (sc.2 ((x3 + (4)).toNat)) (sc.2 ((x3 + (5)).toNat))) (by decide) rfl rfl (aNm_c ⟨Int.le_refl _, Int.le_refl _⟩ (aNm_c (aF32_ok.2 (hs _)) (aNm_c (aF32_ok.2 (hs _)) (aNm_c (aF32_ok.2 (hs _)) (aNm_c (aF32_ok.2 (hs _)) (aNm_c ⟨(by show (55 : Int) ≤ sc.2 ((x3 + (5)).toNat); omega), (by show sc.2 ((x3 + (5)).toNat) ≤ (55 : Int); omega)⟩ (aNm_n))))))) rfl (by
      show [(0, zP 50), (1, zI (sc.2 ((x3 + (1)).toNat) + 0)), (2, zI (sc.2 ((x3 + (2)).toNat) + 0)), (3, zI (sc.2 ((x3 + (3)).toNat) + 0)), (4, zI (sc.2 ((x3 + (4)).toNat) + 0)), (5, zI (sc.2 ((x3 + (5)).toNat) + 0))] = _
      simp only [Int.add_zero]) g1 h0 (fun z1 f2 g2 w1 h1 => ?_)
    exact H _ g2 ⟨h1.1, wBt_fr (by decide +kernel) w1 (wBt_fr (by decide +kernel) w0 b0), wD_fr (by decide +kernel) w1 (wD_fr (by decide +kernel) w0 d0)⟩
  by_cases e0_57 : sc.2 ((x3 + (5)).toNat) ≤ (56 : Int)
  · refine wcallX wS_377_ok (wr (sc.2 ((x3 + (1)).toNat)) (sc.2 ((x3 + (2)).toNat)) (sc.2 ((x3 + (3)).toNat)) (sc.2 ((x3 + (4)).toNat)) (sc.2 ((x3 + (5)).toNat))) (by decide) rfl rfl (aNm_c ⟨Int.le_refl _, Int.le_refl _⟩ (aNm_c (aF32_ok.2 (hs _)) (aNm_c (aF32_ok.2 (hs _)) (aNm_c (aF32_ok.2 (hs _)) (aNm_c (aF32_ok.2 (hs _)) (aNm_c ⟨(by show (56 : Int) ≤ sc.2 ((x3 + (5)).toNat); omega), (by show sc.2 ((x3 + (5)).toNat) ≤ (56 : Int); omega)⟩ (aNm_n))))))) rfl (by
      show [(0, zP 0), (1, zI (sc.2 ((x3 + (1)).toNat) + 0)), (2, zI (sc.2 ((x3 + (2)).toNat) + 0)), (3, zI (sc.2 ((x3 + (3)).toNat) + 0)), (4, zI (sc.2 ((x3 + (4)).toNat) + 0)), (5, zI (sc.2 ((x3 + (5)).toNat) + 0))] = _
      simp only [Int.add_zero]) g0 (jk_41 g0 i0 (hs _)) (fun z0 f1 g1 w0 h0 => ?_)
    refine zov_p (by omega) (zix_p (by omega) (zov_p (by omega) (zix_p (by omega) (zov_p (by omega) (zix_p (by omega) (zov_p (by omega) (zix_p (by omega) (zov_p (by omega) (zix_p (by omega) (?_))))))))))
    refine wcallX wS_440_ok (wr (sc.2 ((x3 + (1)).toNat)) (sc.2 ((x3 + (2)).toNat)) (sc.2 ((x3 + (3)).toNat)) (sc.2 ((x3 + (4)).toNat)) (sc.2 ((x3 + (5)).toNat))) (by decide) rfl rfl (aNm_c ⟨Int.le_refl _, Int.le_refl _⟩ (aNm_c (aF32_ok.2 (hs _)) (aNm_c (aF32_ok.2 (hs _)) (aNm_c (aF32_ok.2 (hs _)) (aNm_c (aF32_ok.2 (hs _)) (aNm_c ⟨(by show (56 : Int) ≤ sc.2 ((x3 + (5)).toNat); omega), (by show sc.2 ((x3 + (5)).toNat) ≤ (56 : Int); omega)⟩ (aNm_n))))))) rfl (by
      show [(0, zP 50), (1, zI (sc.2 ((x3 + (1)).toNat) + 0)), (2, zI (sc.2 ((x3 + (2)).toNat) + 0)), (3, zI (sc.2 ((x3 + (3)).toNat) + 0)), (4, zI (sc.2 ((x3 + (4)).toNat) + 0)), (5, zI (sc.2 ((x3 + (5)).toNat) + 0))] = _
      simp only [Int.add_zero]) g1 h0 (fun z1 f2 g2 w1 h1 => ?_)
    exact H _ g2 ⟨h1.1, wBt_fr (by decide +kernel) w1 (wBt_fr (by decide +kernel) w0 b0), wD_fr (by decide +kernel) w1 (wD_fr (by decide +kernel) w0 d0)⟩
  by_cases e0_58 : sc.2 ((x3 + (5)).toNat) ≤ (57 : Int)
  · refine wcallX wS_378_ok (wr (sc.2 ((x3 + (1)).toNat)) (sc.2 ((x3 + (2)).toNat)) (sc.2 ((x3 + (3)).toNat)) (sc.2 ((x3 + (4)).toNat)) (sc.2 ((x3 + (5)).toNat))) (by decide) rfl rfl (aNm_c ⟨Int.le_refl _, Int.le_refl _⟩ (aNm_c (aF32_ok.2 (hs _)) (aNm_c (aF32_ok.2 (hs _)) (aNm_c (aF32_ok.2 (hs _)) (aNm_c (aF32_ok.2 (hs _)) (aNm_c ⟨(by show (57 : Int) ≤ sc.2 ((x3 + (5)).toNat); omega), (by show sc.2 ((x3 + (5)).toNat) ≤ (57 : Int); omega)⟩ (aNm_n))))))) rfl (by
      show [(0, zP 0), (1, zI (sc.2 ((x3 + (1)).toNat) + 0)), (2, zI (sc.2 ((x3 + (2)).toNat) + 0)), (3, zI (sc.2 ((x3 + (3)).toNat) + 0)), (4, zI (sc.2 ((x3 + (4)).toNat) + 0)), (5, zI (sc.2 ((x3 + (5)).toNat) + 0))] = _
      simp only [Int.add_zero]) g0 (jk_41 g0 i0 (hs _)) (fun z0 f1 g1 w0 h0 => ?_)
    refine zov_p (by omega) (zix_p (by omega) (zov_p (by omega) (zix_p (by omega) (zov_p (by omega) (zix_p (by omega) (zov_p (by omega) (zix_p (by omega) (zov_p (by omega) (zix_p (by omega) (?_))))))))))
    refine wcallX wS_441_ok (wr (sc.2 ((x3 + (1)).toNat)) (sc.2 ((x3 + (2)).toNat)) (sc.2 ((x3 + (3)).toNat)) (sc.2 ((x3 + (4)).toNat)) (sc.2 ((x3 + (5)).toNat))) (by decide) rfl rfl (aNm_c ⟨Int.le_refl _, Int.le_refl _⟩ (aNm_c (aF32_ok.2 (hs _)) (aNm_c (aF32_ok.2 (hs _)) (aNm_c (aF32_ok.2 (hs _)) (aNm_c (aF32_ok.2 (hs _)) (aNm_c ⟨(by show (57 : Int) ≤ sc.2 ((x3 + (5)).toNat); omega), (by show sc.2 ((x3 + (5)).toNat) ≤ (57 : Int); omega)⟩ (aNm_n))))))) rfl (by
      show [(0, zP 50), (1, zI (sc.2 ((x3 + (1)).toNat) + 0)), (2, zI (sc.2 ((x3 + (2)).toNat) + 0)), (3, zI (sc.2 ((x3 + (3)).toNat) + 0)), (4, zI (sc.2 ((x3 + (4)).toNat) + 0)), (5, zI (sc.2 ((x3 + (5)).toNat) + 0))] = _
      simp only [Int.add_zero]) g1 h0 (fun z1 f2 g2 w1 h1 => ?_)
    exact H _ g2 ⟨h1.1, wBt_fr (by decide +kernel) w1 (wBt_fr (by decide +kernel) w0 b0), wD_fr (by decide +kernel) w1 (wD_fr (by decide +kernel) w0 d0)⟩
  by_cases e0_59 : sc.2 ((x3 + (5)).toNat) ≤ (58 : Int)
  · refine wcallX wS_379_ok (wr (sc.2 ((x3 + (1)).toNat)) (sc.2 ((x3 + (2)).toNat)) (sc.2 ((x3 + (3)).toNat)) (sc.2 ((x3 + (4)).toNat)) (sc.2 ((x3 + (5)).toNat))) (by decide) rfl rfl (aNm_c ⟨Int.le_refl _, Int.le_refl _⟩ (aNm_c (aF32_ok.2 (hs _)) (aNm_c (aF32_ok.2 (hs _)) (aNm_c (aF32_ok.2 (hs _)) (aNm_c (aF32_ok.2 (hs _)) (aNm_c ⟨(by show (58 : Int) ≤ sc.2 ((x3 + (5)).toNat); omega), (by show sc.2 ((x3 + (5)).toNat) ≤ (58 : Int); omega)⟩ (aNm_n))))))) rfl (by
      show [(0, zP 0), (1, zI (sc.2 ((x3 + (1)).toNat) + 0)), (2, zI (sc.2 ((x3 + (2)).toNat) + 0)), (3, zI (sc.2 ((x3 + (3)).toNat) + 0)), (4, zI (sc.2 ((x3 + (4)).toNat) + 0)), (5, zI (sc.2 ((x3 + (5)).toNat) + 0))] = _
      simp only [Int.add_zero]) g0 (jk_41 g0 i0 (hs _)) (fun z0 f1 g1 w0 h0 => ?_)
    refine zov_p (by omega) (zix_p (by omega) (zov_p (by omega) (zix_p (by omega) (zov_p (by omega) (zix_p (by omega) (zov_p (by omega) (zix_p (by omega) (zov_p (by omega) (zix_p (by omega) (?_))))))))))
    refine wcallX wS_442_ok (wr (sc.2 ((x3 + (1)).toNat)) (sc.2 ((x3 + (2)).toNat)) (sc.2 ((x3 + (3)).toNat)) (sc.2 ((x3 + (4)).toNat)) (sc.2 ((x3 + (5)).toNat))) (by decide) rfl rfl (aNm_c ⟨Int.le_refl _, Int.le_refl _⟩ (aNm_c (aF32_ok.2 (hs _)) (aNm_c (aF32_ok.2 (hs _)) (aNm_c (aF32_ok.2 (hs _)) (aNm_c (aF32_ok.2 (hs _)) (aNm_c ⟨(by show (58 : Int) ≤ sc.2 ((x3 + (5)).toNat); omega), (by show sc.2 ((x3 + (5)).toNat) ≤ (58 : Int); omega)⟩ (aNm_n))))))) rfl (by
      show [(0, zP 50), (1, zI (sc.2 ((x3 + (1)).toNat) + 0)), (2, zI (sc.2 ((x3 + (2)).toNat) + 0)), (3, zI (sc.2 ((x3 + (3)).toNat) + 0)), (4, zI (sc.2 ((x3 + (4)).toNat) + 0)), (5, zI (sc.2 ((x3 + (5)).toNat) + 0))] = _
      simp only [Int.add_zero]) g1 h0 (fun z1 f2 g2 w1 h1 => ?_)
    exact H _ g2 ⟨h1.1, wBt_fr (by decide +kernel) w1 (wBt_fr (by decide +kernel) w0 b0), wD_fr (by decide +kernel) w1 (wD_fr (by decide +kernel) w0 d0)⟩
  by_cases e0_60 : sc.2 ((x3 + (5)).toNat) ≤ (59 : Int)
  · refine wcallX wS_380_ok (wr (sc.2 ((x3 + (1)).toNat)) (sc.2 ((x3 + (2)).toNat)) (sc.2 ((x3 + (3)).toNat)) (sc.2 ((x3 + (4)).toNat)) (sc.2 ((x3 + (5)).toNat))) (by decide) rfl rfl (aNm_c ⟨Int.le_refl _, Int.le_refl _⟩ (aNm_c (aF32_ok.2 (hs _)) (aNm_c (aF32_ok.2 (hs _)) (aNm_c (aF32_ok.2 (hs _)) (aNm_c (aF32_ok.2 (hs _)) (aNm_c ⟨(by show (59 : Int) ≤ sc.2 ((x3 + (5)).toNat); omega), (by show sc.2 ((x3 + (5)).toNat) ≤ (59 : Int); omega)⟩ (aNm_n))))))) rfl (by
      show [(0, zP 0), (1, zI (sc.2 ((x3 + (1)).toNat) + 0)), (2, zI (sc.2 ((x3 + (2)).toNat) + 0)), (3, zI (sc.2 ((x3 + (3)).toNat) + 0)), (4, zI (sc.2 ((x3 + (4)).toNat) + 0)), (5, zI (sc.2 ((x3 + (5)).toNat) + 0))] = _
      simp only [Int.add_zero]) g0 (jk_41 g0 i0 (hs _)) (fun z0 f1 g1 w0 h0 => ?_)
    refine zov_p (by omega) (zix_p (by omega) (zov_p (by omega) (zix_p (by omega) (zov_p (by omega) (zix_p (by omega) (zov_p (by omega) (zix_p (by omega) (zov_p (by omega) (zix_p (by omega) (?_))))))))))
    refine wcallX wS_443_ok (wr (sc.2 ((x3 + (1)).toNat)) (sc.2 ((x3 + (2)).toNat)) (sc.2 ((x3 + (3)).toNat)) (sc.2 ((x3 + (4)).toNat)) (sc.2 ((x3 + (5)).toNat))) (by decide) rfl rfl (aNm_c ⟨Int.le_refl _, Int.le_refl _⟩ (aNm_c (aF32_ok.2 (hs _)) (aNm_c (aF32_ok.2 (hs _)) (aNm_c (aF32_ok.2 (hs _)) (aNm_c (aF32_ok.2 (hs _)) (aNm_c ⟨(by show (59 : Int) ≤ sc.2 ((x3 + (5)).toNat); omega), (by show sc.2 ((x3 + (5)).toNat) ≤ (59 : Int); omega)⟩ (aNm_n))))))) rfl (by
      show [(0, zP 50), (1, zI (sc.2 ((x3 + (1)).toNat) + 0)), (2, zI (sc.2 ((x3 + (2)).toNat) + 0)), (3, zI (sc.2 ((x3 + (3)).toNat) + 0)), (4, zI (sc.2 ((x3 + (4)).toNat) + 0)), (5, zI (sc.2 ((x3 + (5)).toNat) + 0))] = _
      simp only [Int.add_zero]) g1 h0 (fun z1 f2 g2 w1 h1 => ?_)
    exact H _ g2 ⟨h1.1, wBt_fr (by decide +kernel) w1 (wBt_fr (by decide +kernel) w0 b0), wD_fr (by decide +kernel) w1 (wD_fr (by decide +kernel) w0 d0)⟩
  by_cases e0_61 : sc.2 ((x3 + (5)).toNat) ≤ (60 : Int)
  · refine wcallX wS_381_ok (wr (sc.2 ((x3 + (1)).toNat)) (sc.2 ((x3 + (2)).toNat)) (sc.2 ((x3 + (3)).toNat)) (sc.2 ((x3 + (4)).toNat)) (sc.2 ((x3 + (5)).toNat))) (by decide) rfl rfl (aNm_c ⟨Int.le_refl _, Int.le_refl _⟩ (aNm_c (aF32_ok.2 (hs _)) (aNm_c (aF32_ok.2 (hs _)) (aNm_c (aF32_ok.2 (hs _)) (aNm_c (aF32_ok.2 (hs _)) (aNm_c ⟨(by show (60 : Int) ≤ sc.2 ((x3 + (5)).toNat); omega), (by show sc.2 ((x3 + (5)).toNat) ≤ (60 : Int); omega)⟩ (aNm_n))))))) rfl (by
      show [(0, zP 0), (1, zI (sc.2 ((x3 + (1)).toNat) + 0)), (2, zI (sc.2 ((x3 + (2)).toNat) + 0)), (3, zI (sc.2 ((x3 + (3)).toNat) + 0)), (4, zI (sc.2 ((x3 + (4)).toNat) + 0)), (5, zI (sc.2 ((x3 + (5)).toNat) + 0))] = _
      simp only [Int.add_zero]) g0 (jk_41 g0 i0 (hs _)) (fun z0 f1 g1 w0 h0 => ?_)
    refine zov_p (by omega) (zix_p (by omega) (zov_p (by omega) (zix_p (by omega) (zov_p (by omega) (zix_p (by omega) (zov_p (by omega) (zix_p (by omega) (zov_p (by omega) (zix_p (by omega) (?_))))))))))
    refine wcallX wS_444_ok (wr (sc.2 ((x3 + (1)).toNat)) (sc.2 ((x3 + (2)).toNat)) (sc.2 ((x3 + (3)).toNat)) (sc.2 ((x3 + (4)).toNat)) (sc.2 ((x3 + (5)).toNat))) (by decide) rfl rfl (aNm_c ⟨Int.le_refl _, Int.le_refl _⟩ (aNm_c (aF32_ok.2 (hs _)) (aNm_c (aF32_ok.2 (hs _)) (aNm_c (aF32_ok.2 (hs _)) (aNm_c (aF32_ok.2 (hs _)) (aNm_c ⟨(by show (60 : Int) ≤ sc.2 ((x3 + (5)).toNat); omega), (by show sc.2 ((x3 + (5)).toNat) ≤ (60 : Int); omega)⟩ (aNm_n))))))) rfl (by
      show [(0, zP 50), (1, zI (sc.2 ((x3 + (1)).toNat) + 0)), (2, zI (sc.2 ((x3 + (2)).toNat) + 0)), (3, zI (sc.2 ((x3 + (3)).toNat) + 0)), (4, zI (sc.2 ((x3 + (4)).toNat) + 0)), (5, zI (sc.2 ((x3 + (5)).toNat) + 0))] = _
      simp only [Int.add_zero]) g1 h0 (fun z1 f2 g2 w1 h1 => ?_)
    exact H _ g2 ⟨h1.1, wBt_fr (by decide +kernel) w1 (wBt_fr (by decide +kernel) w0 b0), wD_fr (by decide +kernel) w1 (wD_fr (by decide +kernel) w0 d0)⟩
  refine wcallX wS_382_ok (wr (sc.2 ((x3 + (1)).toNat)) (sc.2 ((x3 + (2)).toNat)) (sc.2 ((x3 + (3)).toNat)) (sc.2 ((x3 + (4)).toNat)) (sc.2 ((x3 + (5)).toNat))) (by decide) rfl rfl (aNm_c ⟨Int.le_refl _, Int.le_refl _⟩ (aNm_c (aF32_ok.2 (hs _)) (aNm_c (aF32_ok.2 (hs _)) (aNm_c (aF32_ok.2 (hs _)) (aNm_c (aF32_ok.2 (hs _)) (aNm_c ⟨(by show (61 : Int) ≤ sc.2 ((x3 + (5)).toNat); omega), (hs _).2⟩ (aNm_n))))))) rfl (by
      show [(0, zP 0), (1, zI (sc.2 ((x3 + (1)).toNat) + 0)), (2, zI (sc.2 ((x3 + (2)).toNat) + 0)), (3, zI (sc.2 ((x3 + (3)).toNat) + 0)), (4, zI (sc.2 ((x3 + (4)).toNat) + 0)), (5, zI (sc.2 ((x3 + (5)).toNat) + 0))] = _
      simp only [Int.add_zero]) g0 (jk_41 g0 i0 (hs _)) (fun z0 f1 g1 w0 h0 => ?_)
  refine zov_p (by omega) (zix_p (by omega) (zov_p (by omega) (zix_p (by omega) (zov_p (by omega) (zix_p (by omega) (zov_p (by omega) (zix_p (by omega) (zov_p (by omega) (zix_p (by omega) (?_))))))))))
  refine wcallX wS_445_ok (wr (sc.2 ((x3 + (1)).toNat)) (sc.2 ((x3 + (2)).toNat)) (sc.2 ((x3 + (3)).toNat)) (sc.2 ((x3 + (4)).toNat)) (sc.2 ((x3 + (5)).toNat))) (by decide) rfl rfl (aNm_c ⟨Int.le_refl _, Int.le_refl _⟩ (aNm_c (aF32_ok.2 (hs _)) (aNm_c (aF32_ok.2 (hs _)) (aNm_c (aF32_ok.2 (hs _)) (aNm_c (aF32_ok.2 (hs _)) (aNm_c ⟨(by show (61 : Int) ≤ sc.2 ((x3 + (5)).toNat); omega), (hs _).2⟩ (aNm_n))))))) rfl (by
      show [(0, zP 50), (1, zI (sc.2 ((x3 + (1)).toNat) + 0)), (2, zI (sc.2 ((x3 + (2)).toNat) + 0)), (3, zI (sc.2 ((x3 + (3)).toNat) + 0)), (4, zI (sc.2 ((x3 + (4)).toNat) + 0)), (5, zI (sc.2 ((x3 + (5)).toNat) + 0))] = _
      simp only [Int.add_zero]) g1 h0 (fun z1 f2 g2 w1 h1 => ?_)
  exact H _ g2 ⟨h1.1, wBt_fr (by decide +kernel) w1 (wBt_fr (by decide +kernel) w0 b0), wD_fr (by decide +kernel) w1 (wD_fr (by decide +kernel) w0 d0)⟩
set_option maxHeartbeats 4000000 in
theorem wc_42 {sc : zC} (hs : ∀ j, zIn (sc.2 j)) (hL : sc.1 ≤ 3072) {x3 : Int} (hx : 0 ≤ x3 ∧ x3 + 6 ≤ (sc.1 : Int)) {f0 : zF} (g0 : aGok wG (afx sc f0)) (k0 : wAl f0) {Q : zQ} (H : ∀ f, aGok wG (afx sc f) → wAl f → zR sc 200 0 1526 [] [(0, zS 5), (1, zP 0), (2, zP 50), (3, zI x3)] 78 5571 zSH f Q) : zR sc 200 0 1470 [] [(0, zS 5), (1, zP 0), (2, zP 50), (3, zI x3)] 78 5571 zSH f0 Q := by
  obtain ⟨i0, b0, d0⟩ := id k0
  refine q0_1470 (d := 0) ?_
  refine zov_p (by omega) (zix_p (by omega) (zov_p (by omega) (zix_p (by omega) (?_))))
  refine wcallX wS_448_ok (wr (sc.2 ((x3 + (1)).toNat)) (sc.2 ((x3 + (2)).toNat)) (0) (0) (0)) (by decide) rfl rfl (aNm_c ⟨Int.le_refl _, Int.le_refl _⟩ (aNm_c (aF32_ok.2 (hs _)) (aNm_c (aF32_ok.2 (hs _)) (aNm_n)))) rfl (by
      show [(0, zP 0), (1, zI (sc.2 ((x3 + (1)).toNat) + 0)), (2, zI (sc.2 ((x3 + (2)).toNat) + 0))] = _
      simp only [Int.add_zero]) g0 (jk_42 g0 i0) (fun z0 f1 g1 w0 h0 => ?_)
  refine zov_p (by omega) (zix_p (by omega) (zov_p (by omega) (zix_p (by omega) (?_))))
  refine wcallX wS_449_ok (wr (sc.2 ((x3 + (1)).toNat)) (sc.2 ((x3 + (2)).toNat)) (0) (0) (0)) (by decide) rfl rfl (aNm_c ⟨Int.le_refl _, Int.le_refl _⟩ (aNm_c (aF32_ok.2 (hs _)) (aNm_c (aF32_ok.2 (hs _)) (aNm_n)))) rfl (by
      show [(0, zP 50), (1, zI (sc.2 ((x3 + (1)).toNat) + 0)), (2, zI (sc.2 ((x3 + (2)).toNat) + 0))] = _
      simp only [Int.add_zero]) g1 h0 (fun z1 f2 g2 w1 h1 => ?_)
  exact H _ g2 ⟨h1.1, wBt_fr (by decide +kernel) w1 (wBt_fr (by decide +kernel) w0 b0), wD_fr (by decide +kernel) w1 (wD_fr (by decide +kernel) w0 d0)⟩
set_option maxHeartbeats 4000000 in
theorem wc_43 {sc : zC} (hs : ∀ j, zIn (sc.2 j)) (hL : sc.1 ≤ 3072) {x3 : Int} (hx : 0 ≤ x3 ∧ x3 + 6 ≤ (sc.1 : Int)) {f0 : zF} (g0 : aGok wG (afx sc f0)) (k0 : wAl f0) {Q : zQ} (H : ∀ f, aGok wG (afx sc f) → wAl f → zR sc 200 0 1526 [] [(0, zS 5), (1, zP 0), (2, zP 50), (3, zI x3)] 78 5571 zSH f Q) : zR sc 200 0 1503 [] [(0, zS 5), (1, zP 0), (2, zP 50), (3, zI x3)] 78 5571 zSH f0 Q := by
  obtain ⟨i0, b0, d0⟩ := id k0
  refine q0_1503 (d := 0) ?_
  refine zov_p (by omega) (zix_p (by omega) (?_))
  refine wcallI wS_450_ok (wr (sc.2 ((x3 + (1)).toNat)) (0) (0) (0) (0)) (by decide) rfl rfl (aNm_c ⟨Int.le_refl _, Int.le_refl _⟩ (aNm_c (aF32_ok.2 (hs _)) (aNm_n))) rfl (by
      show [(0, zP 0), (1, zI (sc.2 ((x3 + (1)).toNat) + 0))] = _
      simp only [Int.add_zero]) g0 (fun z0 f1 g1 w0 => ?_)
  refine zov_p (by omega) (zix_p (by omega) (?_))
  refine wcallI wS_451_ok (wr (sc.2 ((x3 + (1)).toNat)) (0) (0) (0) (0)) (by decide) rfl rfl (aNm_c ⟨Int.le_refl _, Int.le_refl _⟩ (aNm_c (aF32_ok.2 (hs _)) (aNm_n))) rfl (by
      show [(0, zP 50), (1, zI (sc.2 ((x3 + (1)).toNat) + 0))] = _
      simp only [Int.add_zero]) g1 (fun z1 f2 g2 w1 => ?_)
  exact H _ g2 ⟨wI_fr (by decide +kernel) w1 (wI_fr (by decide +kernel) w0 i0), wBt_fr (by decide +kernel) w1 (wBt_fr (by decide +kernel) w0 b0), wD_fr (by decide +kernel) w1 (wD_fr (by decide +kernel) w0 d0)⟩
def zQ1 : zQ := fun r _ _ => r = some (zI 1)
theorem wmain {sc : zC} (hs : ∀ j, zIn (sc.2 j)) (hL : sc.1 ≤ 3072) : ∀ (n : Nat) (x3 : Int) (f0 : zF), 0 ≤ x3 → (sc.1 : Int) - x3 ≤ (n : Int) → aGok wG (afx sc f0) → wAl f0 → zR sc 200 0 18 [] [(0, zS 5), (1, zP 0), (2, zP 50), (3, zI x3)] 78 5571 zSH f0 zQ1 := by
  intro n
  induction n with
  | zero =>
    intro x3 f0 h0 hn g0 i0
    refine q0_18 (d := 0) (zov_p (by omega) ?_)
    rw [if_pos (by omega)]
    rfl
  | succ n ih =>
    intro x3 f0 h0 hn g0 i0
    refine q0_18 (d := 0) (zov_p (by omega) ?_)
    by_cases hc : (sc.1 : Int) - 6 < x3
    · rw [if_pos hc]; rfl
    · rw [if_neg hc]
      refine zix_p (by omega) ?_
      have H : ∀ f, aGok wG (afx sc f) → wAl f → zR sc 200 0 1526 [] [(0, zS 5), (1, zP 0), (2, zP 50), (3, zI x3)] 78 5571 zSH f zQ1 := by
        intro f g i
        refine q0_1526 (d := 0) (zov_p (by omega) ?_)
        exact ih (x3 + 6) f (by omega) (by omega) g i
      · skip
        by_cases e0 : zand (sc.2 (x3.toNat)) (63) = 0
        · rw [if_pos e0]; exact wc_0 hs hL ⟨h0, by omega⟩ g0 i0 H
        rw [if_neg e0]
        by_cases e1 : zand (sc.2 (x3.toNat)) (63) = 1
        · rw [if_pos e1]; exact wc_1 hs hL ⟨h0, by omega⟩ g0 i0 H
        rw [if_neg e1]
        by_cases e2 : zand (sc.2 (x3.toNat)) (63) = 2
        · rw [if_pos e2]; exact wc_2 hs hL ⟨h0, by omega⟩ g0 i0 H
        rw [if_neg e2]
        by_cases e3 : zand (sc.2 (x3.toNat)) (63) = 3
        · rw [if_pos e3]; exact wc_3 hs hL ⟨h0, by omega⟩ g0 i0 H
        rw [if_neg e3]
        by_cases e4 : zand (sc.2 (x3.toNat)) (63) = 4
        · rw [if_pos e4]; exact wc_4 hs hL ⟨h0, by omega⟩ g0 i0 H
        rw [if_neg e4]
        by_cases e5 : zand (sc.2 (x3.toNat)) (63) = 5
        · rw [if_pos e5]; exact wc_5 hs hL ⟨h0, by omega⟩ g0 i0 H
        rw [if_neg e5]
        by_cases e6 : zand (sc.2 (x3.toNat)) (63) = 6
        · rw [if_pos e6]; exact wc_6 hs hL ⟨h0, by omega⟩ g0 i0 H
        rw [if_neg e6]
        by_cases e7 : zand (sc.2 (x3.toNat)) (63) = 7
        · rw [if_pos e7]; exact wc_7 hs hL ⟨h0, by omega⟩ g0 i0 H
        rw [if_neg e7]
        by_cases e8 : zand (sc.2 (x3.toNat)) (63) = 8
        · rw [if_pos e8]; exact wc_8 hs hL ⟨h0, by omega⟩ g0 i0 H
        rw [if_neg e8]
        by_cases e9 : zand (sc.2 (x3.toNat)) (63) = 9
        · rw [if_pos e9]; exact wc_9 hs hL ⟨h0, by omega⟩ g0 i0 H
        rw [if_neg e9]
        by_cases e10 : zand (sc.2 (x3.toNat)) (63) = 10
        · rw [if_pos e10]; exact wc_10 hs hL ⟨h0, by omega⟩ g0 i0 H
        rw [if_neg e10]
        by_cases e11 : zand (sc.2 (x3.toNat)) (63) = 11
        · rw [if_pos e11]; exact wc_11 hs hL ⟨h0, by omega⟩ g0 i0 H
        rw [if_neg e11]
        by_cases e12 : zand (sc.2 (x3.toNat)) (63) = 12
        · rw [if_pos e12]; exact wc_12 hs hL ⟨h0, by omega⟩ g0 i0 H
        rw [if_neg e12]
        by_cases e13 : zand (sc.2 (x3.toNat)) (63) = 13
        · rw [if_pos e13]; exact wc_13 hs hL ⟨h0, by omega⟩ g0 i0 H
        rw [if_neg e13]
        by_cases e14 : zand (sc.2 (x3.toNat)) (63) = 14
        · rw [if_pos e14]; exact wc_14 hs hL ⟨h0, by omega⟩ g0 i0 H
        rw [if_neg e14]
        by_cases e15 : zand (sc.2 (x3.toNat)) (63) = 15
        · rw [if_pos e15]; exact wc_15 hs hL ⟨h0, by omega⟩ g0 i0 H
        rw [if_neg e15]
        by_cases e16 : zand (sc.2 (x3.toNat)) (63) = 16
        · rw [if_pos e16]; exact wc_16 hs hL ⟨h0, by omega⟩ g0 i0 H
        rw [if_neg e16]
        by_cases e17 : zand (sc.2 (x3.toNat)) (63) = 17
        · rw [if_pos e17]; exact wc_17 hs hL ⟨h0, by omega⟩ g0 i0 H
        rw [if_neg e17]
        by_cases e18 : zand (sc.2 (x3.toNat)) (63) = 18
        · rw [if_pos e18]; exact wc_18 hs hL ⟨h0, by omega⟩ g0 i0 H
        rw [if_neg e18]
        by_cases e19 : zand (sc.2 (x3.toNat)) (63) = 19
        · rw [if_pos e19]; exact wc_19 hs hL ⟨h0, by omega⟩ g0 i0 H
        rw [if_neg e19]
        by_cases e20 : zand (sc.2 (x3.toNat)) (63) = 20
        · rw [if_pos e20]; exact wc_20 hs hL ⟨h0, by omega⟩ g0 i0 H
        rw [if_neg e20]
        by_cases e21 : zand (sc.2 (x3.toNat)) (63) = 21
        · rw [if_pos e21]; exact wc_21 hs hL ⟨h0, by omega⟩ g0 i0 H
        rw [if_neg e21]
        by_cases e22 : zand (sc.2 (x3.toNat)) (63) = 22
        · rw [if_pos e22]; exact wc_22 hs hL ⟨h0, by omega⟩ g0 i0 H
        rw [if_neg e22]
        by_cases e23 : zand (sc.2 (x3.toNat)) (63) = 23
        · rw [if_pos e23]; exact wc_23 hs hL ⟨h0, by omega⟩ g0 i0 H
        rw [if_neg e23]
        by_cases e24 : zand (sc.2 (x3.toNat)) (63) = 24
        · rw [if_pos e24]; exact wc_24 hs hL ⟨h0, by omega⟩ g0 i0 H
        rw [if_neg e24]
        by_cases e25 : zand (sc.2 (x3.toNat)) (63) = 25
        · rw [if_pos e25]; exact wc_25 hs hL ⟨h0, by omega⟩ g0 i0 H
        rw [if_neg e25]
        by_cases e26 : zand (sc.2 (x3.toNat)) (63) = 26
        · rw [if_pos e26]; exact wc_26 hs hL ⟨h0, by omega⟩ g0 i0 H
        rw [if_neg e26]
        by_cases e27 : zand (sc.2 (x3.toNat)) (63) = 27
        · rw [if_pos e27]; exact wc_27 hs hL ⟨h0, by omega⟩ g0 i0 H
        rw [if_neg e27]
        by_cases e28 : zand (sc.2 (x3.toNat)) (63) = 28
        · rw [if_pos e28]; exact wc_28 hs hL ⟨h0, by omega⟩ g0 i0 H
        rw [if_neg e28]
        by_cases e29 : zand (sc.2 (x3.toNat)) (63) = 29
        · rw [if_pos e29]; exact wc_29 hs hL ⟨h0, by omega⟩ g0 i0 H
        rw [if_neg e29]
        by_cases e30 : zand (sc.2 (x3.toNat)) (63) = 30
        · rw [if_pos e30]; exact wc_30 hs hL ⟨h0, by omega⟩ g0 i0 H
        rw [if_neg e30]
        by_cases e31 : zand (sc.2 (x3.toNat)) (63) = 31
        · rw [if_pos e31]; exact wc_31 hs hL ⟨h0, by omega⟩ g0 i0 H
        rw [if_neg e31]
        by_cases e32 : zand (sc.2 (x3.toNat)) (63) = 32
        · rw [if_pos e32]; exact wc_32 hs hL ⟨h0, by omega⟩ g0 i0 H
        rw [if_neg e32]
        by_cases e33 : zand (sc.2 (x3.toNat)) (63) = 33
        · rw [if_pos e33]; exact wc_33 hs hL ⟨h0, by omega⟩ g0 i0 H
        rw [if_neg e33]
        by_cases e34 : zand (sc.2 (x3.toNat)) (63) = 34
        · rw [if_pos e34]; exact wc_34 hs hL ⟨h0, by omega⟩ g0 i0 H
        rw [if_neg e34]
        by_cases e35 : zand (sc.2 (x3.toNat)) (63) = 35
        · rw [if_pos e35]; exact wc_35 hs hL ⟨h0, by omega⟩ g0 i0 H
        rw [if_neg e35]
        by_cases e36 : zand (sc.2 (x3.toNat)) (63) = 36
        · rw [if_pos e36]; exact wc_36 hs hL ⟨h0, by omega⟩ g0 i0 H
        rw [if_neg e36]
        by_cases e37 : zand (sc.2 (x3.toNat)) (63) = 37
        · rw [if_pos e37]; exact wc_37 hs hL ⟨h0, by omega⟩ g0 i0 H
        rw [if_neg e37]
        by_cases e38 : zand (sc.2 (x3.toNat)) (63) = 38
        · rw [if_pos e38]; exact wc_38 hs hL ⟨h0, by omega⟩ g0 i0 H
        rw [if_neg e38]
        by_cases e39 : zand (sc.2 (x3.toNat)) (63) = 39
        · rw [if_pos e39]; exact wc_39 hs hL ⟨h0, by omega⟩ g0 i0 H
        rw [if_neg e39]
        by_cases e40 : zand (sc.2 (x3.toNat)) (63) = 40
        · rw [if_pos e40]; exact wc_40 hs hL ⟨h0, by omega⟩ g0 i0 H
        rw [if_neg e40]
        by_cases e41 : zand (sc.2 (x3.toNat)) (63) = 41
        · rw [if_pos e41]; exact wc_41 hs hL ⟨h0, by omega⟩ g0 i0 H
        rw [if_neg e41]
        by_cases e42 : zand (sc.2 (x3.toNat)) (63) = 42
        · rw [if_pos e42]; exact wc_42 hs hL ⟨h0, by omega⟩ g0 i0 H
        rw [if_neg e42]
        by_cases e43 : zand (sc.2 (x3.toNat)) (63) = 43
        · rw [if_pos e43]; exact wc_43 hs hL ⟨h0, by omega⟩ g0 i0 H
        rw [if_neg e43]
        exact H f0 g0 i0
theorem zlaw_R {L : Nat} {xs : Nat → Int32} (hL : L ≤ 3072) (hsc : zSc (L, fun j => (xs j).toInt)) : zR (L, fun j => (xs j).toInt) 200 0 0 [] [(0, zS 5)] 0 0 [] (fun _ _ => 0) (fun r _ _ => r = some (zI 1)) :=
  zlaw_0 (d := 191) (wmain (fun j => zin_t _) hL 3072 0 zF0 (Int.le_refl 0) (by show (L : Int) - 0 ≤ 3072; omega) (wG_0 hL (fun j => zin_t _)) ⟨wI_0, wBt_0, wD_0⟩)

