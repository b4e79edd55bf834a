noncomputable section
/-! the law told, both: what is kept of it -/
section NX
variable {T T' : Nat → Int} {n : Int}
set_option maxRecDepth 4000 in
set_option maxHeartbeats 400000 in
theorem pdg_nx (h : ∀ p, nxt T n p = nxt T' n p) : ∀ (j : Nat) (v p : Int), pdg T n j v p = pdg T' n j v p
  | 0, _, _ => rfl
  | j + 1, v, p => by
    show (if 48 ≤ nxt T n p ∧ nxt T n p ≤ 57 then pdg T n j (v * 10 + (nxt T n p - 48)) (p + 1) else (v, p)) = (if 48 ≤ nxt T' n p ∧ nxt T' n p ≤ 57 then pdg T' n j (v * 10 + (nxt T' n p - 48)) (p + 1) else (v, p))
    rw [h p, pdg_nx h j]
set_option maxRecDepth 4000 in
set_option maxHeartbeats 400000 in
theorem pps_nx (h : ∀ p, nxt T n p = nxt T' n p) : ∀ k : Nat, pps T n k = pps T' n k
  | 0 => rfl
  | k + 1 => by
    funext m o p
    show (if m = 5 then pO T n (pps T n k) o p else if m < 5 then pV (pps T n k) m o p else pW T n (pps T n k) (m - 10) o p) = (if m = 5 then pO T' n (pps T' n k) o p else if m < 5 then pV (pps T' n k) m o p else pW T' n (pps T' n k) (m - 10) o p)
    rw [pps_nx h k]
    unfold pO pW pP
    simp only [h, pdg_nx h]
set_option maxRecDepth 4000 in
set_option maxHeartbeats 400000 in
theorem ptx_nx (h : ∀ p, nxt T n p = nxt T' n p) {g : Int → Int → Int → pR} : ∀ (j : Nat) (p : Int), ptx T n g j p = ptx T' n g j p
  | 0, _ => rfl
  | j + 1, p => by
    have e : pln T n g p = pln T' n g p := by
      unfold pln
      simp only [h]
    show (if (pln T n g p).1 = true then (if nxt T n (pln T n g p).2.1 = 59 then pcat (pln T n g p) (ptx T n g j ((pln T n g p).2.1 + 1)) else pln T n g p) else pfl (pln T n g p)) = (if (pln T' n g p).1 = true then (if nxt T' n (pln T' n g p).2.1 = 59 then pcat (pln T' n g p) (ptx T' n g j ((pln T' n g p).2.1 + 1)) else pln T' n g p) else pfl (pln T' n g p))
    rw [e, h, ptx_nx h j]
set_option maxRecDepth 4000 in
set_option maxHeartbeats 400000 in
theorem prd_nx (h : ∀ p, nxt T n p = nxt T' n p) : prd T n = prd T' n := by
  unfold prd
  rw [pps_nx h, ptx_nx h]
end NX
set_option maxRecDepth 4000 in
set_option maxHeartbeats 400000 in
theorem cdl_of {f g : zF} : ∀ {L : List Int} {e : Nat}, wrt f e L → (∀ j, e ≤ j → j < e + L.length → g 23 j = f 21 j) → cdl g e L
  | [], _, _, _ => True.intro
  | c :: L, e, h, k => ⟨(k e (Nat.le_refl _) (by rw [List.length_cons]; omega)).trans h.1, cdl_of h.2 (fun j h1 h2 => k j (by omega) (by rw [List.length_cons]; omega))⟩
set_option maxRecDepth 4000 in
set_option maxHeartbeats 400000 in
theorem wD_lw {f f' : zF} (i : wD f) (hF : ∀ c j, c ≠ 19 → c ≠ 21 → c ≠ 22 → c ≠ 23 → c ≠ 57 → (c ≠ 50 ∨ (j ≠ 10 ∧ j ≠ 12 ∧ j ≠ 13 ∧ j ≠ 14 ∧ j ≠ 15 ∧ j ≠ 16 ∧ j ≠ 17)) → f' c j = f c j) (la : wLa f') : wD f' := by
  have E : ∀ c, c ≠ 19 → c ≠ 21 → c ≠ 22 → c ≠ 23 → c ≠ 57 → c ≠ 50 → f' c = f c := fun c a1 a2 a3 a4 a5 a6 => funext fun j => hF c j a1 a2 a3 a4 a5 (Or.inl a6)
  have x : ∀ j, (j ≠ 10 ∧ j ≠ 12 ∧ j ≠ 13 ∧ j ≠ 14 ∧ j ≠ 15 ∧ j ≠ 16 ∧ j ≠ 17) → f' 50 j = f 50 j := fun j h => hF 50 j (by decide) (by decide) (by decide) (by decide) (by decide) (Or.inr h)
  have y : ∀ c, c < 19 → f' c = f c := fun c h => E c (by omega) (by omega) (by omega) (by omega) (by omega) (by omega)
  have z : ∀ c, (26 ≤ c ∧ c < 50) ∨ (51 ≤ c ∧ c < 57) ∨ 58 ≤ c → f' c = f c := fun c h => E c (by omega) (by omega) (by omega) (by omega) (by omega) (by omega)
  obtain ⟨i1, i2, i3, i5, ic, im, -⟩ := i
  refine ⟨?_, ?_, ?_, ?_, ?_, wIm_mo im (fun c hc => by rcases hc with rfl | rfl | rfl | rfl | rfl | rfl | rfl <;> first | exact y _ (by decide) | exact z _ (by decide)) (congrFun (y 0 (by decide)) 3) (x 34 (by decide)) ⟨congrFun (y 13 (by decide)) 0, congrFun (y 13 (by decide)) 1⟩ ⟨x 35 (by decide), x 36 (by decide)⟩ (Int.le_of_eq (congrFun (y 1 (by decide)) 0).symm) (Int.le_of_eq (congrFun (y 1 (by decide)) 1).symm), la⟩
  · unfold wS1
    rw [y 1 (by decide), x 6 (by decide), x 7 (by decide)]
    exact i1
  · unfold wS2
    rw [y 2 (by decide), z 51 (by decide)]
    exact i2
  · unfold wS3
    rw [y 3 (by decide), z 55 (by decide), y 4 (by decide), y 1 (by decide)]
    exact i3
  · unfold wS5
    rw [y 5 (by decide), z 68 (by decide)]
    exact i5
  · unfold wCh
    rw [z 26 (by decide), x 5 (by decide), x 4 (by decide), z 27 (by decide), z 28 (by decide), z 29 (by decide), z 52 (by decide), z 53 (by decide), z 54 (by decide)]
    exact ic
set_option maxRecDepth 10000 in
set_option maxHeartbeats 4000000 in
theorem jd_7 {sc : zC} {f0 : zF} (g0 : aGok wG (afx sc f0)) (i0 : wD f0) (j0 : wI f0) (b0 : wBt f0) : zR sc 199 125 0 [] [(0, zP 0)] 0 0 zSH f0 (fun r _ f1 => ∃ v, r = some (zI v) ∧ zR sc 199 197 0 [] [(0, zP 50)] 0 0 zSH f1 (fun r _ f2 => ∃ w, r = some (zI w) ∧ wD f2 ∧ v = w)) := by
  obtain ⟨⟨i1, i2, i3, i4⟩, ⟨k1, k2, k3, k4⟩, s⟩ := id j0
  have la : wLa f0 := i0.2.2.2.2.2.2
  have hn : (0 : Int) ≤ f0 19 1 ∧ f0 19 1 ≤ 120 := wG_at (F := afx sc f0) (c := 19) (j := 1) (I := (.ofNat 0, .ofNat 120)) g0.1 rfl
  have hT : ∀ p, -1 ≤ nxt (f0 20) (f0 19 1) p ∧ nxt (f0 20) (f0 19 1) p ≤ 255 := by
    intro p
    by_cases h : 0 ≤ p ∧ p < f0 19 1
    · rw [nxt_is h]
      have := b0 p.toNat
      omega
    · rw [nxt_no h]
      omega
  have e56 : f0 56 = f0 20 := funext fun j => (k4 j).symm
  have vb := pfa_b (T := f0 20) (n := f0 19 1) hn.1
  refine b125_0 ?_
  refine zcall1 (fun v f1 => v = pfa (f0 19 1) (prd (f0 20) (f0 19 1)) ∧ cPo (zup (zup (zup f0 19 4 0) 19 3 0) 19 5 0) (prd (f0 20) (f0 19 1)) f1) (c_rd (d := 107) hn hT (k := (20 * f0 19 1 + 7).toNat) (by omega) (fun f1 h => ⟨_, rfl, rfl, h⟩)) (fun v f1 _ h => ?_)
  obtain ⟨hv, h1, h2, h3, h4⟩ := h
  rw [← hv] at vb
  have fr : ∀ c j, c ≠ 19 → c ≠ 21 → f1 c j = f0 c j := fun c j h19 h21 => (h1 c j h21 (Or.inl h19)).trans (by simp only [zup_at, if_neg h19])
  have R : ∀ fz : zF, (∀ c j, c ≠ 19 → c ≠ 21 → c ≠ 22 → c ≠ 23 → fz c j = f0 c j) → (v < 0 → cLw (true, (prd (f0 20) (f0 19 1)).2.2) fz) → (¬ v < 0 → (∀ j, fz 23 j = f0 23 j) ∧ fz 22 1 = f0 22 1) → ∀ w0 : Int, w0 = (if v < 0 then 1 else -100 - v) → zR sc 199 197 0 [] [(0, zP 50)] 0 0 zSH fz (fun r _ f2 => ∃ w, r = some (zI w) ∧ wD f2 ∧ w0 = w) := by
    intro fz hf hc hc' w0 hw0
    have e10 : fz 50 10 = f0 19 1 := (hf 50 10 (by decide) (by decide) (by decide) (by decide)).trans i4.symm
    refine b197_0 ?_
    rw [e10]
    refine zcall1 (fun w f2 => (∀ c j, (c ≠ 50 ∨ (j ≠ 13 ∧ j ≠ 14 ∧ j ≠ 15 ∧ j ≠ 16 ∧ j ≠ 17)) → f2 c j = fz c j) ∧ f2 50 16 = pfa (f0 19 1) (prd (f0 20) (f0 19 1))) (r_wo (T := f0 20) (d := 107) hn hT (Or.inl ⟨rfl, (funext fun j => hf 56 j (by decide) (by decide) (by decide) (by decide)).trans e56⟩) (fun w f2 q1 q2 _ => ⟨_, rfl, q1, q2⟩)) (fun w f2 _ h => ?_)
    obtain ⟨q1, q2⟩ := h
    rw [← hv] at q2
    have e2 : f2 50 10 = f0 19 1 := (q1 50 10 (Or.inr (by decide))).trans e10
    have qf : ∀ c j, c ≠ 19 → c ≠ 21 → c ≠ 22 → c ≠ 23 → (c ≠ 50 ∨ (j ≠ 13 ∧ j ≠ 14 ∧ j ≠ 15 ∧ j ≠ 16 ∧ j ≠ 17)) → f2 c j = f0 c j := fun c j a1 a2 a3 a4 a5 => (q1 c j a5).trans (hf c j a1 a2 a3 a4)
    by_cases hv0 : v < 0
    · rw [if_pos hv0] at hw0
      rw [if_pos (by omega), e2]
      have L : ∀ k, k ≤ (f0 19 1).toNat → zR sc 199 197 37 [] [(0, zP 50), (2, zI (f0 19 1)), (3, zI ((k : Nat) : Int))] 0 0 zSH (zfl (zup f2 50 10 0) 57 0 k (fun j => f2 56 j)) (fun r _ f2 => ∃ w, r = some (zI w) ∧ wD f2 ∧ w0 = w) := by
        refine zloop (f0 19 1).toNat (fun k hk h => b197_37 ?_) (b197_37 ?_)
        · rw [if_pos (by omega)]
          refine zix_p (by omega) (zix_p (by omega) (zov_p (by omega) ?_))
          rw [zfl_s (by omega) (by rfl)]
          exact h
        · rw [if_neg (by omega)]
          refine ⟨_, rfl, wD_lw i0 (fun c j a1 a2 a3 a4 a5 a6 => ?_) ⟨(true, (prd (f0 20) (f0 19 1)).2.2), cLw_l (f := fz) (fun j => q1 23 j (Or.inl (by decide))) (q1 22 1 (Or.inl (by decide))) (hc hv0), fun _ => ?_, fun h => absurd rfl h⟩, hw0⟩
          · refine Eq.trans ?_ (qf c j a1 a2 a3 a4 (by omega))
            rw [zup_at, zfl_o a5, zup_at]
            by_cases e : c = 50
            · rw [if_pos e, if_pos e, if_neg (by omega), if_neg (by omega)]
            · rw [if_neg e, if_neg e]
          · have x12 : (zup (zfl (zup f2 50 10 0) 57 0 (f0 19 1).toNat (fun j => f2 56 j)) 50 12 (f0 19 1)) 50 12 = f0 19 1 := rfl
            rw [x12]
            have nx : ∀ p, nxt ((zup (zfl (zup f2 50 10 0) 57 0 (f0 19 1).toNat (fun j => f2 56 j)) 50 12 (f0 19 1)) 57) (f0 19 1) p = nxt (f0 20) (f0 19 1) p := by
              intro p
              by_cases hp : 0 ≤ p ∧ p < f0 19 1
              · rw [nxt_is hp, nxt_is hp]
                show (if 0 ≤ p.toNat ∧ p.toNat < 0 + (f0 19 1).toNat then f2 56 p.toNat else f2 57 p.toNat) = f0 20 p.toNat
                rw [if_pos (by omega), qf 56 _ (by decide) (by decide) (by decide) (by decide) (Or.inl (by decide)), e56]
              · rw [nxt_no hp, nxt_no hp]
            rw [prd_nx nx]
            exact ⟨hn, fun p => by rw [nx p]; exact hT p, by rw [← hv]; omega, rfl⟩
      have := L 0 (by omega)
      rw [zfl_0] at this
      exact this
    · rw [if_neg hv0] at hw0
      rw [if_neg (by omega)]
      obtain ⟨y1, y2⟩ := hc' hv0
      refine zov_p (by omega) ⟨_, rfl, wD_lw i0 (fun c j a1 a2 a3 a4 a5 a6 => ?_) (wLa_l (fun j => (q1 23 j (Or.inl (by decide))).trans (y1 j)) ((q1 22 1 (Or.inl (by decide))).trans y2) (fun j => qf 57 j (by decide) (by decide) (by decide) (by decide) (Or.inl (by decide))) (qf 50 12 (by decide) (by decide) (by decide) (by decide) (Or.inr (by decide))) la), by omega⟩
      refine Eq.trans ?_ (qf c j a1 a2 a3 a4 (by omega))
      rw [zup_at]
      by_cases e : c = 50
      · rw [if_pos e, if_neg (by omega)]
      · rw [if_neg e]
  have e3 : (if 121 < f1 19 3 then 121 else f1 19 3) = f1 19 3 := if_neg (by omega)
  simp only [e3]
  by_cases hv0 : v < 0
  · have hb : (prd (f0 20) (f0 19 1)).1 = true := by
      cases hz : (prd (f0 20) (f0 19 1)).1 with
      | true => rfl
      | false =>
        exfalso
        have ha := ptx_at (T := f0 20) (n := f0 19 1) (k := (20 * f0 19 1 + 7).toNat) (by omega) 121 0 (by omega)
        have ha : 0 ≤ (prd (f0 20) (f0 19 1)).2.1 ∧ (prd (f0 20) (f0 19 1)).2.1 ≤ f0 19 1 := ha
        unfold pfa at hv
        rw [hz, if_neg (by decide)] at hv
        omega
    obtain ⟨x1, x2, x3⟩ := h4 hb
    have x1 : f1 19 3 = 0 + ((prd (f0 20) (f0 19 1)).2.2.length : Int) := x1
    rw [if_pos hv0, if_pos (by omega), if_pos hv0]
    refine ⟨_, rfl, R _ (fun c j a1 a2 a3 a4 => ?_) (fun _ => ⟨fun _ => ⟨?_, cdl_of (f := f1) x3 (fun j _ hj => ?_), prd_ok hn (by omega)⟩, fun h => absurd rfl h⟩) (fun h => absurd hv0 h) _ (by rw [if_pos hv0])⟩
    · refine Eq.trans ?_ (fr c j a1 a2)
      rw [zup_at, if_neg a1, zup_at, if_neg a3, zcp_at, if_neg a4]
    · show f1 19 3 = _
      rw [x1, Int.zero_add]
    · have hj : j < 0 + (prd (f0 20) (f0 19 1)).2.2.length := hj
      show (if 0 ≤ j ∧ j < 0 + (f1 19 3).toNat then f1 21 (0 + (j - 0)) else f1 23 j) = f1 21 j
      rw [if_pos (by omega), Nat.zero_add, Nat.sub_zero]
  · rw [if_neg hv0, if_neg hv0]
    refine ⟨_, rfl, R (zup f1 19 1 0) (fun c j a1 a2 a3 a4 => ?_) (fun h => absurd h hv0) (fun _ => ⟨fun j => fr 23 j (by decide) (by decide), fr 22 1 (by decide) (by decide)⟩) _ (by rw [if_neg hv0, w32_in (by omega)])⟩
    refine Eq.trans ?_ (fr c j a1 a2)
    rw [zup_at, if_neg a1]
end
