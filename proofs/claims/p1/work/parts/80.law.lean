def zG18 : aG := gOv [(1000, [(100000, aF32)]), (1001, [(1, (.ofNat 0, .ofNat 6))])] (fun _ => [])
theorem zG18_ok {sc : zC} (hL : sc.1 ≤ 6) (hs : ∀ j, zIn (sc.2 j)) : aGok zG18 (afx sc zF0) := by
  intro c j I hI
  unfold zG18 gOv at hI
  simp only [glk] at hI
  cases h1 : Nat.beq 1000 c with
  | true =>
    have := Nat.eq_of_beq_eq_true h1
    subst this
    rw [h1, cond_true] at hI
    have hI : (bif Nat.blt j 100000 then some aF32 else none) = some I := hI
    cases hb : Nat.blt j 100000 with
    | true =>
      rw [hb, cond_true] at hI
      cases hI
      exact aF32_ok.2 (hs j)
    | false => rw [hb] at hI; cases hI
  | false =>
    rw [h1, cond_false] at hI
    cases h2 : Nat.beq 1001 c with
    | true =>
      have := Nat.eq_of_beq_eq_true h2
      subst this
      rw [h2, cond_true] at hI
      have hI : (bif Nat.blt j 1 then some ((.ofNat 0, .ofNat 6) : aI) else none) = some I := hI
      cases hb : Nat.blt j 1 with
      | true =>
        rw [hb, cond_true] at hI
        cases hI
        show (0 : Int) ≤ (sc.1 : Int) ∧ (sc.1 : Int) ≤ 6
        omega
      | false => rw [hb] at hI; cases hI
    | false => rw [h2] at hI; cases hI
/-- the law's cases begin so -/
def zck (st : List aV) (lv : aL) (S : aS) : Bool := (ane st && (aLc S.1 [(0, 0)] lv zLV && ieq 0 0)) && (match afind 1001 (0, 0) S.2.2.2 with
  | some v => (match aiv S.1 v with
    | some I => ieq I.1 6 && ieq I.2 6
    | none => false)
  | none => false)
def zcut18 : aU := fun pc st lv S => bif [224, 237, 270, 313, 356, 389, 422, 445, 458, 501, 544, 577, 600, 623, 636, 679, 702, 725, 748, 771, 804, 837, 870, 883, 926, 969, 982, 1015, 1038, 1061, 1084, 1097, 1110, 1123, 1136, 1159, 1202, 1225, 1258, 1301, 1374, 1408, 1471, 1504].any (Nat.beq pc) then some (zck st lv S) else none
set_option maxRecDepth 100000 in
theorem zlaw_18k : aRun zG18 [] [] (fun _ => false) (fun _ _ => none) 400 zcut18 40 0 true 18 [] zLV ([(.ofNat 0, .ofNat 0), (.ofNat 0, .ofNat 6)], ([], ([], [((1001, (0, .ofNat 0)), (1, .ofNat 0))]))) zR1 = true := by decide +kernel
theorem zlaw_18 {sc : zC} (hL : sc.1 ≤ 6) (hs : ∀ j, zIn (sc.2 j)) : zR sc 40 0 18 [] [(0, zS 5), (1, zP 0), (2, zP 50), (3, zI 0)] 78 5571 zSH zF0 zQ1 := by
  have := aRun_ok (f0 := zF0) (W := []) (ρ := fun i => if i = 1 then (sc.1 : Int) else 0) (kc := 78) (ks := 5571) (Q := zQ1) (sc := sc) (f := zF0) (sums := []) zm0 400 zlaw_18k ⟨rfl, ?_, (fun i hi => by cases hi), (fun t ht => by cases ht), ?_, zG18_ok hL hs, (fun c j _ => rfl)⟩ ?_ zR1_ok
  · have e : aML (fun i => if i = 1 then (sc.1 : Int) else 0) zLV = [(0, zS 5), (1, zP 0), (2, zP 50), (3, zI 0)] := by
      show [(0, zS 5), (1, zP 0), (2, zP 50), (3, zI (aev _ (0, 0)))] = _
      rw [aev_c (ρ := fun i => if i = 1 then (sc.1 : Int) else 0) rfl]
    rw [e] at this
    exact this
  · exact aNm_c ⟨Int.le_refl _, Int.le_refl _⟩ (aNm_c (by show (0 : Int) ≤ (sc.1 : Int) ∧ (sc.1 : Int) ≤ 6; omega) aNm_n)
  · refine aFa_c ?_ aFa_n
    refine ⟨?_, ?_⟩
    · show (0 : Int) ≤ 0 + 0
      omega
    · show (sc.1 : Int) = (sc.1 : Int) + 0
      omega
  · intro pc st lv S ρ' f hc ok _ _
    have hf : f = zF0 := by
      funext c j
      exact ok.2.2.2.2.2.2 c j rfl
    subst hf
    unfold zcut18 at hc
    cases hm : [224, 237, 270, 313, 356, 389, 422, 445, 458, 501, 544, 577, 600, 623, 636, 679, 702, 725, 748, 771, 804, 837, 870, 883, 926, 969, 982, 1015, 1038, 1061, 1084, 1097, 1110, 1123, 1136, 1159, 1202, 1225, 1258, 1301, 1374, 1408, 1471, 1504].any (Nat.beq pc) with
    | false => rw [hm] at hc; cases hc
    | true =>
      rw [hm, cond_true, Option.some.injEq] at hc
      unfold zck at hc
      simp only [Bool.and_eq_true] at hc
      obtain ⟨⟨c1, c2, -⟩, c3⟩ := hc
      cases st with
      | cons a b => cases c1
      | nil =>
        have h6 : sc.1 = 6 := by
          split at c3
          next v hv =>
            split at c3
            next I hI =>
              rw [Bool.and_eq_true, ieq_iff, ieq_iff] at c3
              have y1 := (ok.2.2.2.2.1 _ (afind_ok hv)).2
              have y2 := aiv_ok ok.2.1 hI
              have y3 : afx sc zF0 1001 (aev ρ' (0, 0)).toNat = (sc.1 : Int) := rfl
              have y4 : (sc.1 : Int) = aev ρ' v := y3.symm.trans y1
              unfold aIn at y2
              omega
            next => cases c3
          next => cases c3
        have g : zR sc 40 0 pc [] [(0, zS 5), (1, zP 0), (2, zP 50), (3, zI 0)] 78 5571 zSH zF0 zQ1 := by
          simp only [List.any_cons, List.any_nil, Bool.or_eq_true, Bool.or_false] at hm
          rcases hm with hm | hm | hm | hm | hm | hm | hm | hm | hm | hm | hm | hm | hm | hm | hm | hm | hm | hm | hm | hm | hm | hm | hm | hm | hm | hm | hm | hm | hm | hm | hm | hm | hm | hm | hm | hm | hm | hm | hm | hm | hm | hm | hm | hm
          · rw [Nat.eq_of_beq_eq_true hm]; exact p1c_0_ok h6 hs
          · rw [Nat.eq_of_beq_eq_true hm]; exact p1c_1_ok h6 hs
          · rw [Nat.eq_of_beq_eq_true hm]; exact p1c_2_ok h6 hs
          · rw [Nat.eq_of_beq_eq_true hm]; exact p1c_3_ok h6 hs
          · rw [Nat.eq_of_beq_eq_true hm]; exact p1c_4_ok h6 hs
          · rw [Nat.eq_of_beq_eq_true hm]; exact p1c_5_ok h6 hs
          · rw [Nat.eq_of_beq_eq_true hm]; exact p1c_6_ok h6 hs
          · rw [Nat.eq_of_beq_eq_true hm]; exact p1c_7_ok h6 hs
          · rw [Nat.eq_of_beq_eq_true hm]; exact p1c_8_ok h6 hs
          · rw [Nat.eq_of_beq_eq_true hm]; exact p1c_9_ok h6 hs
          · rw [Nat.eq_of_beq_eq_true hm]; exact p1c_10_ok h6 hs
          · rw [Nat.eq_of_beq_eq_true hm]; exact p1c_11_ok h6 hs
          · rw [Nat.eq_of_beq_eq_true hm]; exact p1c_12_ok h6 hs
          · rw [Nat.eq_of_beq_eq_true hm]; exact p1c_13_ok h6 hs
          · rw [Nat.eq_of_beq_eq_true hm]; exact p1c_14_ok h6 hs
          · rw [Nat.eq_of_beq_eq_true hm]; exact p1c_15_ok h6 hs
          · rw [Nat.eq_of_beq_eq_true hm]; exact p1c_16_ok h6 hs
          · rw [Nat.eq_of_beq_eq_true hm]; exact p1c_17_ok h6 hs
          · rw [Nat.eq_of_beq_eq_true hm]; exact p1c_18_ok h6 hs
          · rw [Nat.eq_of_beq_eq_true hm]; exact p1c_19_ok h6 hs
          · rw [Nat.eq_of_beq_eq_true hm]; exact p1c_20_ok h6 hs
          · rw [Nat.eq_of_beq_eq_true hm]; exact p1c_21_ok h6 hs
          · rw [Nat.eq_of_beq_eq_true hm]; exact p1c_22_ok h6 hs
          · rw [Nat.eq_of_beq_eq_true hm]; exact p1c_23_ok h6 hs
          · rw [Nat.eq_of_beq_eq_true hm]; exact p1c_24_ok h6 hs
          · rw [Nat.eq_of_beq_eq_true hm]; exact p1c_25_ok h6 hs
          · rw [Nat.eq_of_beq_eq_true hm]; exact p1c_26_ok h6 hs
          · rw [Nat.eq_of_beq_eq_true hm]; exact p1c_27_ok h6 hs
          · rw [Nat.eq_of_beq_eq_true hm]; exact p1c_28_ok h6 hs
          · rw [Nat.eq_of_beq_eq_true hm]; exact p1c_29_ok h6 hs
          · rw [Nat.eq_of_beq_eq_true hm]; exact p1c_30_ok h6 hs
          · rw [Nat.eq_of_beq_eq_true hm]; exact p1c_31_ok h6 hs
          · rw [Nat.eq_of_beq_eq_true hm]; exact p1c_32_ok h6 hs
          · rw [Nat.eq_of_beq_eq_true hm]; exact p1c_33_ok h6 hs
          · rw [Nat.eq_of_beq_eq_true hm]; exact p1c_34_ok h6 hs
          · rw [Nat.eq_of_beq_eq_true hm]; exact p1c_35_ok h6 hs
          · rw [Nat.eq_of_beq_eq_true hm]; exact p1c_36_ok h6 hs
          · rw [Nat.eq_of_beq_eq_true hm]; exact p1c_37_ok h6 hs
          · rw [Nat.eq_of_beq_eq_true hm]; exact p1c_38_ok h6 hs
          · rw [Nat.eq_of_beq_eq_true hm]; exact p1c_39_ok h6 hs
          · rw [Nat.eq_of_beq_eq_true hm]; exact p1c_40_ok h6 hs
          · rw [Nat.eq_of_beq_eq_true hm]; exact p1c_41_ok h6 hs
          · rw [Nat.eq_of_beq_eq_true hm]; exact p1c_42_ok h6 hs
          · rw [Nat.eq_of_beq_eq_true hm]; exact p1c_43_ok h6 hs
        have e : aML (asm ρ' [(0, 0)]) zLV = [(0, zS 5), (1, zP 0), (2, zP 50), (3, zI 0)] := by
          show [(0, zS 5), (1, zP 0), (2, zP 50), (3, zI (aev (asm ρ' [(0, 0)]) (0, 0)))] = _
          rw [aev_c]
          show ρ' 0 + 0 = 0
          rw [ok.1]; rfl
        rw [← e] at g
        exact zR_lv g (znk_map (by decide +kernel)) (aLc_ok ok.2.1 c2)
theorem zlaw_R {L : Nat} {xs : Nat → Int32} (hL : L ≤ 6) (hsc : zSc (L, fun j => (xs j).toInt)) : zR (L, fun j => (xs j).toInt) 40 0 0 [] [(0, zS 5)] 0 0 [] (fun _ _ => 0) (fun r _ _ => r = some (zI 1)) :=
  zlaw_0 (d := 31) (zlaw_18 hL (fun j => zin_t _))
