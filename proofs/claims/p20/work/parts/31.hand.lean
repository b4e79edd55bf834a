noncomputable section
/-! by hand: the changes, of both -/
theorem aPQ_i {G : aG} {sc : zC} {N0 : List aI} {W : List (Nat × Nat)} {ρ0 : Nat → Int} {f f' : zF} {z : Int} (h0 : ρ0 0 = 0) (hN : aNm ρ0 N0) (hn : 0 < N0.length) (hz : zIn z) (hG : aGok G (afx sc f')) (hW : aFr W f f') : aPQ G sc N0 [aF32] (some (.inl (N0.length, .ofNat 0))) ([], []) W ρ0 f (some (zI z)) zSH f' := by
  refine ⟨rfl, aup ρ0 N0.length z, (aup_lt hn).trans h0, fun i hi => aup_lt hi, ?_, ?_, (fun q hq => by cases hq), (fun q hq => by cases hq), hG, hW⟩
  · intro i I hI
    rw [List.getElem?_append] at hI
    by_cases hi : i < N0.length
    · rw [if_pos hi] at hI
      rw [aup_lt hi]
      exact hN i I hI
    · rw [if_neg hi] at hI
      have : i = N0.length := by
        rcases Nat.lt_or_ge (i - N0.length) 1 with h | h
        · omega
        · rw [List.getElem?_eq_none (by simpa using h)] at hI
          cases hI
      subst this
      simp only [Nat.sub_self, List.getElem?_cons_zero, Option.some.injEq] at hI
      subst hI
      rw [aup_eq]
      exact aF32_ok.2 hz
  · show some (zI z) = some (zI (aup ρ0 N0.length z N0.length + 0))
    rw [aup_eq, Int.add_zero]
theorem aPQ_v {G : aG} {sc : zC} {N0 : List aI} {W : List (Nat × Nat)} {ρ0 : Nat → Int} {f f' : zF} (h0 : ρ0 0 = 0) (hN : aNm ρ0 N0) (hG : aGok G (afx sc f')) (hW : aFr W f f') : aPQ G sc N0 [] none ([], []) W ρ0 f none zSH f' := by
  refine ⟨rfl, ρ0, h0, fun i hi => rfl, ?_, rfl, (fun q hq => by cases hq), (fun q hq => by cases hq), hG, hW⟩
  rw [List.append_nil]
  exact hN
theorem aGk_up {G : aG} {F : zF} {c j : Nat} {v : Int} (h : aGk G F) (g : ∀ I, gAt (G c) j = some I → aIn I v) : aGk G (zup F c j v) := by
  intro a b I hI
  unfold zup
  by_cases e : a = c
  · rw [if_pos e]
    by_cases e2 : b = j
    · rw [if_pos e2]
      rw [e, e2] at hI
      exact g I hI
    · rw [if_neg e2]; exact h a b I hI
  · rw [if_neg e]; exact h a b I hI
theorem aFr_up {W : List (Nat × Nat)} {f f1 : zF} {c j : Nat} {v : Int} (h : aFr W f f1) (g : wcov W c j = true) : aFr W f (zup f1 c j v) := by
  intro a b hab
  unfold zup
  by_cases e : a = c
  · rw [if_pos e]
    by_cases e2 : b = j
    · rw [e, e2, g] at hab; cases hab
    · rw [if_neg e2]; exact h a b hab
  · rw [if_neg e]; exact h a b hab
theorem aFr_cp {W : List (Nat × Nat)} {f f1 : zF} {s t sp dp n : Nat} (h : aFr W f f1) (g : ∀ j, wcov W t j = true) : aFr W f (zcp f1 s t sp dp n) := by
  intro a b hab
  unfold zcp
  by_cases e : a = t
  · rw [e, g b] at hab; cases hab
  · rw [if_neg e]; exact h a b hab
theorem gAt1 {b j : Nat} {I J : aI} (h : gAt [(b, I)] j = some J) : J = I := by
  unfold gAt at h
  cases hb : Nat.blt j b with
  | true => rw [hb, cond_true] at h; cases h; rfl
  | false => rw [hb] at h; cases h
theorem wG_27 {j : Nat} {I : aI} {v : Int} (h : gAt (wG 27) j = some I) (hv : 0 ≤ v ∧ v ≤ 59) : aIn I v := by
  have h : gAt [(40, ((.ofNat 0, .ofNat 59) : aI))] j = some I := h
  rw [gAt1 h]; exact hv
theorem wG_52 {j : Nat} {I : aI} {v : Int} (h : gAt (wG 52) j = some I) (hv : 0 ≤ v ∧ v ≤ 59) : aIn I v := by
  have h : gAt [(40, ((.ofNat 0, .ofNat 59) : aI))] j = some I := h
  rw [gAt1 h]; exact hv
theorem wG_f {c b j : Nat} {I : aI} {v : Int} (e : wG c = [(b, aF32)]) (h : gAt (wG c) j = some I) (hv : zIn v) : aIn I v := by
  rw [e] at h
  rw [gAt1 h]; exact aF32_ok.2 hv
theorem wG_at {F : zF} {c j : Nat} {I : aI} (h : aGk wG F) (e : gAt (wG c) j = some I) : aIn I (F c j) := h c j I e
theorem wG_in {F : zF} {c b j : Nat} (h : aGk wG F) (e : wG c = [(b, aF32)]) (hj : j < b) : zIn (F c j) := by
  refine aF32_ok.1 (h c j aF32 ?_)
  rw [e]
  unfold gAt
  rw [show Nat.blt j b = true from Nat.ble_eq_true_of_le hj]; rfl
theorem wG_rd {F : zF} {c b j : Nat} {I : aI} (h : aGk wG F) (e : wG c = [(b, I)]) (hj : j < b) : aIn I (F c j) := by
  refine h c j I ?_
  rw [e]
  unfold gAt
  rw [show Nat.blt j b = true from Nat.ble_eq_true_of_le hj]; rfl
/-- the numbers: a hill is one of four, the rest whatever -/
theorem wG_num {c j : Nat} {I : aI} {v : Int} (e : wG c = [(37, aF32), (44, (.ofNat 0, .ofNat 3)), (60, aF32)]) (h : gAt (wG c) j = some I) (hv : zIn v) (g : zcm (j : Int) v) : aIn I v := by
  rw [e] at h
  unfold gAt at h
  cases h1 : Nat.blt j 37 with
  | true => rw [h1, cond_true] at h; cases h; exact aF32_ok.2 hv
  | false =>
    rw [h1, cond_false] at h
    have n1 : 37 ≤ j := by
      rcases Nat.lt_or_ge j 37 with k | k
      · have : Nat.blt j 37 = true := Nat.ble_eq_true_of_le k
        rw [this] at h1; cases h1
      · exact k
    unfold gAt at h
    cases h2 : Nat.blt j 44 with
    | true =>
      rw [h2, cond_true] at h
      have n2 : j + 1 ≤ 44 := Nat.le_of_ble_eq_true h2
      cases h
      exact g (by omega) (by omega)
    | false =>
      rw [h2, cond_false] at h
      rw [gAt1 h]
      exact aF32_ok.2 hv
theorem wG_nin {F : zF} {c j : Nat} (h : aGk wG F) (e : wG c = [(37, aF32), (44, (.ofNat 0, .ofNat 3)), (60, aF32)]) (hj : j < 60) : zIn (F c j) ∧ zcm (j : Int) (F c j) := by
  have hb : ∀ {n : Nat}, j < n → Nat.blt j n = true := fun h => Nat.ble_eq_true_of_le h
  have hc : ∀ {n : Nat}, ¬ j < n → Nat.blt j n = false := fun {n} h => by
    cases k : Nat.blt j n with
    | false => rfl
    | true => have : j + 1 ≤ n := Nat.le_of_ble_eq_true k; omega
  by_cases h1 : j < 37
  · refine ⟨aF32_ok.1 (h c j aF32 ?_), ?_⟩
    · rw [e]; unfold gAt; rw [hb h1]; rfl
    · intro k; omega
  · by_cases h2 : j < 44
    · have := h c j (.ofNat 0, .ofNat 3) (by rw [e]; unfold gAt; rw [hc h1, cond_false]; unfold gAt; rw [hb h2]; rfl)
      have h3 : (0 : Int) ≤ F c j ∧ F c j ≤ 3 := this
      exact ⟨by unfold zIn; omega, fun _ _ => h3⟩
    · refine ⟨aF32_ok.1 (h c j aF32 ?_), ?_⟩
      · rw [e]; unfold gAt; rw [hc h1, cond_false]; unfold gAt; rw [hc h2, cond_false]; unfold gAt; rw [hb hj]; rfl
      · intro _ k; omega
theorem zRel_n {F : zF} {n : Nat} {a b v : Int} (h : zRel F) (h1 : zcm a b) (h2 : zcm a v) : zRel (zup (zup (zup F 27 n a) 28 n b) 29 n v) := by
  obtain ⟨k1, k2, k3⟩ := h
  refine ⟨fun j hj => ?_, k2, k3⟩
  have := k1 j hj
  show zcm (if j = n then a else F 27 j) (if j = n then b else F 28 j) ∧ zcm (if j = n then a else F 27 j) (if j = n then v else F 29 j)
  by_cases e : j = n
  · rw [if_pos e, if_pos e, if_pos e]; exact ⟨h1, h2⟩
  · rw [if_neg e, if_neg e, if_neg e]; exact this
theorem zRel_m {F : zF} {n : Nat} {a b v : Int} (h : zRel F) (h1 : zcm a b) (h2 : zcm a v) : zRel (zup (zup (zup F 52 n a) 53 n b) 54 n v) := by
  obtain ⟨k1, k2, k3⟩ := h
  refine ⟨k1, fun j hj => ?_, k3⟩
  have := k2 j hj
  show zcm (if j = n then a else F 52 j) (if j = n then b else F 53 j) ∧ zcm (if j = n then a else F 52 j) (if j = n then v else F 54 j)
  by_cases e : j = n
  · rw [if_pos e, if_pos e, if_pos e]; exact ⟨h1, h2⟩
  · rw [if_neg e, if_neg e, if_neg e]; exact this
theorem zRel_s {F : zF} (h : zRel F) : zRel (zcp (zcp (zcp F 27 27 1 0 39) 28 28 1 0 39) 29 29 1 0 39) := by
  obtain ⟨k1, k2, k3⟩ := h
  refine ⟨fun j hj => ?_, k2, k3⟩
  show zcm (if 0 ≤ j ∧ j < 0 + 39 then F 27 (1 + (j - 0)) else F 27 j) (if 0 ≤ j ∧ j < 0 + 39 then F 28 (1 + (j - 0)) else F 28 j) ∧ zcm (if 0 ≤ j ∧ j < 0 + 39 then F 27 (1 + (j - 0)) else F 27 j) (if 0 ≤ j ∧ j < 0 + 39 then F 29 (1 + (j - 0)) else F 29 j)
  by_cases e : 0 ≤ j ∧ j < 0 + 39
  · rw [if_pos e, if_pos e, if_pos e]; exact k1 _ (by omega)
  · rw [if_neg e, if_neg e, if_neg e]; exact k1 _ hj
theorem zRel_f {F : zF} {c j : Nat} {v : Int} (h : zRel F) (g : zsp c j = false) : zRel (zup F c j v) := zRel_fr h (fun a b hab => by
  unfold zup
  by_cases e : a = c
  · by_cases e2 : b = j
    · rw [e, e2, g] at hab; cases hab
    · rw [if_pos e, if_neg e2]
  · rw [if_neg e])
theorem gJ_cp {F : zF} {c : Nat} {b : Nat} {I : aI} {sp dp n : Nat} (h : aGk wG F) (e : wG c = [(b, I)]) (hs : sp + n ≤ b) : aGk wG (zcp F c c sp dp n) := by
  intro a j J hJ
  unfold zcp
  by_cases ea : a = c
  · rw [if_pos ea]
    by_cases e2 : dp ≤ j ∧ j < dp + n
    · rw [if_pos e2]
      rw [ea, e] at hJ
      rw [gAt1 hJ]
      exact wG_rd h e (by omega)
    · rw [if_neg e2]; exact h a j J hJ
  · rw [if_neg ea]; exact h a j J hJ
set_option maxRecDepth 100000 in
theorem b13_0 {sc : zC} {a b v : Int} {f : zF} {Q : zQ} (h : if f (26) (3) < 40 then (zix (f (26) (3)) (40) (zix (f (26) (3)) (40) (zix (f (26) (3)) (40) (zov ((f (26) (3)) + (1)) (Q none zSH (zup (zup (zup (zup (zup f (27) ((f (26) (3)).toNat) a) (28) ((f (26) (3)).toNat) b) (29) ((f (26) (3)).toNat) v) (26) (3) ((f (26) (3)) + (1))) (26) (4) ((f (26) (3)) + (1)))))))) else (zov 40 (Q none zSH (zup (zup (zup (zup (zup (zup (zcp (zcp (zcp f (27) (27) (1) (0) (39)) (28) (28) (1) (0) (39)) (29) (29) (1) (0) (39)) (26) (3) (39)) (27) (39) a) (28) (39) b) (29) (39) v) (26) (3) (40)) (26) (4) (40))))) : zR sc (3) 13 0 [] [(0, zP (26)), (1, zI a), (2, zI b), (3, zI v)] 0 0 zSH f Q := zwn_R (stp := fun _ _ => none) (inl := fun j => bif Nat.beq j 14 then true else false) (nov := fun _ => true) 94 h
set_option maxRecDepth 100000 in
theorem b15_0 {sc : zC} {f : zF} {Q : zQ} (h : if 0 < f (26) (3) then (zov ((f (26) (3)) - (1)) (zix ((f (26) (3)) - (1)) (40) (zix ((f (26) (3)) - (1)) (40) (zix (f (27) (((f (26) (3)) - (1)).toNat)) (60) (Q (some (zI ((f (26) (3)) - (1)))) zSH (zup (zup f (26) (3) ((f (26) (3)) - (1))) (2) ((f (27) (((f (26) (3)) - (1)).toNat)).toNat) (f (28) (((f (26) (3)) - (1)).toNat)))))))) else (Q (some (zI (-5))) zSH f)) : zR sc (1) 15 0 [] [(0, zP (26)), (1, zP (1))] 0 0 zSH f Q := zwn_R (stp := fun _ _ => none) (inl := fun _ => false) (nov := fun _ => true) 29 h
set_option maxRecDepth 100000 in
theorem b16_0 {sc : zC} {f : zF} {Q : zQ} (h : if f (26) (3) < f (26) (4) then (zix (f (26) (3)) (40) (zix (f (26) (3)) (40) (zix (f (27) ((f (26) (3)).toNat)) (60) (zov ((f (26) (3)) + (1)) (zov ((f (26) (4)) - ((f (26) (3)) + (1))) (Q (some (zI ((f (26) (4)) - ((f (26) (3)) + (1))))) zSH (zup (zup f (2) ((f (27) ((f (26) (3)).toNat)).toNat) (f (29) ((f (26) (3)).toNat))) (26) (3) ((f (26) (3)) + (1))))))))) else (Q (some (zI (-5))) zSH f)) : zR sc (1) 16 0 [] [(0, zP (26)), (1, zP (1))] 0 0 zSH f Q := zwn_R (stp := fun _ _ => none) (inl := fun _ => false) (nov := fun _ => true) 34 h
set_option maxRecDepth 100000 in
theorem b169_0 {sc : zC} {a v : Int} {f : zF} {Q : zQ} (h : zix a (60) (if f (51) (a.toNat) = v then (Q (some (zI (f (51) (a.toNat)))) zSH f) else (if f (50) (5) = 40 then (zR sc (1) 169 26 [] [(0, zP (50)), (1, zI a), (2, zI v), (3, zI (f (51) (a.toNat))), (4, zI (1))] 0 0 zSH f Q) else (zix (f (50) (5)) (40) (zix (f (50) (5)) (40) (zix (f (50) (5)) (40) (zov ((f (50) (5)) + (1)) (zix a (60) (Q (some (zI (f (51) (a.toNat)))) zSH (zup (zup (zup (zup (zup (zup f (52) ((f (50) (5)).toNat) a) (53) ((f (50) (5)).toNat) (f (51) (a.toNat))) (54) ((f (50) (5)).toNat) v) (50) (5) ((f (50) (5)) + (1))) (50) (4) ((f (50) (5)) + (1))) (51) (a.toNat) v)))))))))) : zR sc (1) 169 0 [] [(0, zP (50)), (1, zI a), (2, zI v)] 0 0 zSH f Q := zwn_R (stp := fun mi pc => bif Nat.beq mi 169 && Nat.beq pc 26 then some [0, 1, 2, 3, 4] else none) (inl := fun _ => false) (nov := fun _ => true) 53 h
set_option maxRecDepth 100000 in
theorem b169_26 {sc : zC} {x1 x2 x3 x4 : Int} {f : zF} {Q : zQ} (h : if x4 < 40 then (zov (x4 - (1)) (zix x4 (40) (zix (x4 - (1)) (40) (zov (x4 - (1)) (zix x4 (40) (zix (x4 - (1)) (40) (zov (x4 - (1)) (zix x4 (40) (zix (x4 - (1)) (40) (zov (x4 + 1) (zR sc (1) 169 26 [] [(0, zP (50)), (1, zI x1), (2, zI x2), (3, zI x3), (4, zI (x4 + 1))] 0 0 zSH (zup (zup (zup f (52) ((x4 - (1)).toNat) (f (52) (x4.toNat))) (53) ((x4 - (1)).toNat) (f (53) (x4.toNat))) (54) ((x4 - (1)).toNat) (f (54) (x4.toNat))) Q))))))))))) else (zov ((f (50) (5)) - (1)) (zix ((f (50) (5)) - (1)) (40) (zix ((f (50) (5)) - (1)) (40) (zix ((f (50) (5)) - (1)) (40) (zov (((f (50) (5)) - (1)) + (1)) (zix x1 (60) (Q (some (zI x3)) zSH (zup (zup (zup (zup (zup (zup (zup f (50) (5) ((f (50) (5)) - (1))) (52) (((f (50) (5)) - (1)).toNat) x1) (53) (((f (50) (5)) - (1)).toNat) x3) (54) (((f (50) (5)) - (1)).toNat) x2) (50) (5) (((f (50) (5)) - (1)) + (1))) (50) (4) (((f (50) (5)) - (1)) + (1))) (51) (x1.toNat) x2))))))))) : zR sc (1) 169 26 [] [(0, zP (50)), (1, zI x1), (2, zI x2), (3, zI x3), (4, zI x4)] 0 0 zSH f Q := zwn_R (stp := fun mi pc => bif Nat.beq mi 169 && Nat.beq pc 26 then some [0, 1, 2, 3, 4] else none) (inl := fun _ => false) (nov := fun _ => true) 78 h
set_option maxRecDepth 100000 in
theorem b170_0 {sc : zC} {f : zF} {Q : zQ} (h : if f (50) (5) = 0 then (Q (some (zI (-5))) zSH f) else (zov ((f (50) (5)) - (1)) (zix ((f (50) (5)) - (1)) (40) (zix ((f (50) (5)) - (1)) (40) (zix (f (52) (((f (50) (5)) - (1)).toNat)) (60) (Q (some (zI ((f (50) (5)) - (1)))) zSH (zup (zup f (50) (5) ((f (50) (5)) - (1))) (51) ((f (52) (((f (50) (5)) - (1)).toNat)).toNat) (f (53) (((f (50) (5)) - (1)).toNat))))))))) : zR sc (1) 170 0 [] [(0, zP (50))] 0 0 zSH f Q := zwn_R (stp := fun _ _ => none) (inl := fun _ => false) (nov := fun _ => true) 29 h
set_option maxRecDepth 100000 in
theorem b171_0 {sc : zC} {f : zF} {Q : zQ} (h : if f (50) (5) = f (50) (4) then (Q (some (zI (-5))) zSH f) else (zix (f (50) (5)) (40) (zix (f (50) (5)) (40) (zix (f (52) ((f (50) (5)).toNat)) (60) (zov ((f (50) (5)) + (1)) (zov ((f (50) (4)) - ((f (50) (5)) + (1))) (Q (some (zI ((f (50) (4)) - ((f (50) (5)) + (1))))) zSH (zup (zup f (51) ((f (52) ((f (50) (5)).toNat)).toNat) (f (54) ((f (50) (5)).toNat))) (50) (5) ((f (50) (5)) + (1)))))))))) : zR sc (1) 171 0 [] [(0, zP (50))] 0 0 zSH f Q := zwn_R (stp := fun _ _ => none) (inl := fun _ => false) (nov := fun _ => true) 34 h
theorem wnote {sc : zC} {f : zF} {a b v : Int} {W : List (Nat × Nat)} {Q : zQ} (hG : aGok wG (afx sc f)) (ha : 0 ≤ a ∧ a ≤ 59) (hb : zIn b) (hv : zIn v) (h1 : zcm a b) (h2 : zcm a v) (hW : ∀ c j, (c = 26 ∧ (j = 3 ∨ j = 4)) ∨ c = 27 ∨ c = 28 ∨ c = 29 → wcov W c j = true) (hQ : ∀ f', aGok wG (afx sc f') → aFr W f f' → Q none zSH f') : zR sc 3 13 0 [] [(0, zP 26), (1, zI a), (2, zI b), (3, zI v)] 0 0 zSH f Q := by
  obtain ⟨hk, hr⟩ := hG
  have e3 : (0 : Int) ≤ f 26 3 ∧ f 26 3 ≤ 40 := wG_at (F := afx sc f) (c := 26) (j := 3) (I := (.ofNat 0, .ofNat 40)) hk rfl
  have key : ∀ (F : zF) (n : Nat) (x : Int), aGk wG F → zRel F → 0 ≤ x ∧ x ≤ 40 → aGk wG (zup (zup (zup (zup (zup F 27 n a) 28 n b) 29 n v) 26 3 x) 26 4 x) ∧ zRel (zup (zup (zup (zup (zup F 27 n a) 28 n b) 29 n v) 26 3 x) 26 4 x) := by
    intro F n x hF hR hx
    refine ⟨aGk_up (aGk_up (aGk_up (aGk_up (aGk_up hF ?_) ?_) ?_) ?_) ?_, zRel_f (zRel_f (zRel_n hR h1 h2) rfl) rfl⟩
    · exact fun I hI => wG_27 hI ha
    · exact fun I hI => wG_f (c := 28) (b := 40) rfl hI hb
    · exact fun I hI => wG_f (c := 29) (b := 40) rfl hI hv
    · intro I hI
      have hI : some ((.ofNat 0, .ofNat 40) : aI) = some I := hI
      cases hI
      exact hx
    · intro I hI
      have hI : some ((.ofNat 0, .ofNat 40) : aI) = some I := hI
      cases hI
      exact hx
  have r0 : aFr W f f := fun _ _ _ => rfl
  refine b13_0 ?_
  by_cases hc : f 26 3 < 40
  · rw [if_pos hc]
    refine zix_p (by omega) (zix_p (by omega) (zix_p (by omega) (zov_p (by omega) (hQ _ ?_ ?_))))
    · rw [afx_up (by decide), afx_up (by decide), afx_up (by decide), afx_up (by decide), afx_up (by decide)]
      exact key _ _ _ hk hr (by omega)
    · exact aFr_up (aFr_up (aFr_up (aFr_up (aFr_up r0 (hW _ _ (by omega))) (hW _ _ (by omega))) (hW _ _ (by omega))) (hW _ _ (by omega))) (hW _ _ (by omega))
  · rw [if_neg hc]
    refine zov_p (by omega) (hQ _ ?_ ?_)
    · have hk2 : aGk wG (zcp (zcp (zcp (afx sc f) 27 27 1 0 39) 28 28 1 0 39) 29 29 1 0 39) := gJ_cp (c := 29) (b := 40) (gJ_cp (c := 28) (b := 40) (gJ_cp (c := 27) (b := 40) hk rfl (by decide)) rfl (by decide)) rfl (by decide)
      have hk3 : aGk wG (zup (zcp (zcp (zcp (afx sc f) 27 27 1 0 39) 28 28 1 0 39) 29 29 1 0 39) 26 3 39) := aGk_up hk2 (fun I hI => by
        have hI : some ((.ofNat 0, .ofNat 40) : aI) = some I := hI
        cases hI
        exact (by decide : (0 : Int) ≤ 39 ∧ (39 : Int) ≤ 40))
      rw [afx_up (by decide), afx_up (by decide), afx_up (by decide), afx_up (by decide), afx_up (by decide), afx_up (by decide), afx_cp (by decide) (by decide), afx_cp (by decide) (by decide), afx_cp (by decide) (by decide)]
      exact key _ 39 40 hk3 (zRel_f (zRel_s hr) rfl) (by decide)
    · refine aFr_up (aFr_up (aFr_up (aFr_up (aFr_up (aFr_up (aFr_cp (aFr_cp (aFr_cp r0 ?_) ?_) ?_) (hW _ _ (by omega))) (hW _ _ (by omega))) (hW _ _ (by omega))) (hW _ _ (by omega))) (hW _ _ (by omega))) (hW _ _ (by omega))
      · exact fun j => hW _ _ (by omega)
      · exact fun j => hW _ _ (by omega)
      · exact fun j => hW _ _ (by omega)
theorem wcov_n {c j : Nat} (h : (c = 26 ∧ (j = 3 ∨ j = 4)) ∨ c = 27 ∨ c = 28 ∨ c = 29) : wcov [(26, 3), (26, 4), (27, 999), (28, 999), (29, 999)] c j = true := by
  rcases h with ⟨rfl, rfl | rfl⟩ | rfl | rfl | rfl <;> simp [wcov]
theorem aNm_1 {ρ : Nat → Int} {I J : aI} {L : List aI} (h : aNm ρ (I :: J :: L)) : aIn J (ρ 1) := h 1 J rfl
theorem aNm_2 {ρ : Nat → Int} {I J K : aI} {L : List aI} (h : aNm ρ (I :: J :: K :: L)) : aIn K (ρ 2) := h 2 K rfl
theorem aNm_3 {ρ : Nat → Int} {I J K M : aI} {L : List aI} (h : aNm ρ (I :: J :: K :: M :: L)) : aIn M (ρ 3) := h 3 M rfl
theorem wH_note0_ok : aSumOk wG wH_note0 := by
  intro sc f ρ0 d hD h0 hN hF hG
  refine zR_le hD ?_
  have i1 : (0 : Int) ≤ ρ0 1 ∧ ρ0 1 ≤ 36 := aNm_1 hN
  have i2 : aIn aF32 (ρ0 2) := aNm_2 hN
  have i3 : aIn aF32 (ρ0 3) := aNm_3 hN
  show zR sc 3 13 0 [] [(0, zP 26), (1, zI (ρ0 1 + 0)), (2, zI (ρ0 2 + 0)), (3, zI (ρ0 3 + 0))] 0 0 zSH f _
  rw [Int.add_zero, Int.add_zero, Int.add_zero]
  exact wnote hG (by omega) (aF32_ok.1 i2) (aF32_ok.1 i3) (fun h => by omega) (fun h => by omega) (fun c j h => wcov_n h) (fun f' h1 h2 => aPQ_v h0 hN h1 h2)
theorem wH_note1_ok : aSumOk wG wH_note1 := by
  intro sc f ρ0 d hD h0 hN hF hG
  refine zR_le hD ?_
  have i1 : (37 : Int) ≤ ρ0 1 ∧ ρ0 1 ≤ 43 := aNm_1 hN
  have i2 : (0 : Int) ≤ ρ0 2 ∧ ρ0 2 ≤ 3 := aNm_2 hN
  have i3 : (0 : Int) ≤ ρ0 3 ∧ ρ0 3 ≤ 3 := aNm_3 hN
  show zR sc 3 13 0 [] [(0, zP 26), (1, zI (ρ0 1 + 0)), (2, zI (ρ0 2 + 0)), (3, zI (ρ0 3 + 0))] 0 0 zSH f _
  rw [Int.add_zero, Int.add_zero, Int.add_zero]
  exact wnote hG (by omega) (by unfold zIn; omega) (by unfold zIn; omega) (fun _ _ => i2) (fun _ _ => i3) (fun c j h => wcov_n h) (fun f' h1 h2 => aPQ_v h0 hN h1 h2)
theorem wH_note2_ok : aSumOk wG wH_note2 := by
  intro sc f ρ0 d hD h0 hN hF hG
  refine zR_le hD ?_
  have i1 : (44 : Int) ≤ ρ0 1 ∧ ρ0 1 ≤ 59 := aNm_1 hN
  have i2 : aIn aF32 (ρ0 2) := aNm_2 hN
  have i3 : aIn aF32 (ρ0 3) := aNm_3 hN
  show zR sc 3 13 0 [] [(0, zP 26), (1, zI (ρ0 1 + 0)), (2, zI (ρ0 2 + 0)), (3, zI (ρ0 3 + 0))] 0 0 zSH f _
  rw [Int.add_zero, Int.add_zero, Int.add_zero]
  exact wnote hG (by omega) (aF32_ok.1 i2) (aF32_ok.1 i3) (fun _ h => by omega) (fun _ h => by omega) (fun c j h => wcov_n h) (fun f' h1 h2 => aPQ_v h0 hN h1 h2)
theorem zRel_x {F : zF} {x : Int} (h : zRel F) : zRel (zup (zup F 50 5 x) 50 4 x) := by
  obtain ⟨h1, h2, h3⟩ := h
  exact ⟨h1, h2, Int.le_refl x⟩
theorem zRel_y {F : zF} {x : Int} (h : zRel F) (g : x ≤ F 50 4) : zRel (zup F 50 5 x) := by
  obtain ⟨h1, h2, h3⟩ := h
  exact ⟨h1, h2, g⟩
theorem wG_50 {F : zF} {j : Nat} {x : Int} (h : aGk wG F) (hj : j = 4 ∨ j = 5) (hx : 0 ≤ x ∧ x ≤ 40) : aGk wG (zup F 50 j x) := aGk_up h (fun I hI => by
  rcases hj with rfl | rfl
  · have hI : some ((.ofNat 0, .ofNat 40) : aI) = some I := hI
    cases hI
    exact hx
  · have hI : some ((.ofNat 0, .ofNat 40) : aI) = some I := hI
    cases hI
    exact hx)
theorem wG_26 {F : zF} {j : Nat} {x : Int} (h : aGk wG F) (hj : j = 3 ∨ j = 4) (hx : 0 ≤ x ∧ x ≤ 40) : aGk wG (zup F 26 j x) := aGk_up h (fun I hI => by
  rcases hj with rfl | rfl
  · have hI : some ((.ofNat 0, .ofNat 40) : aI) = some I := hI
    cases hI
    exact hx
  · have hI : some ((.ofNat 0, .ofNat 40) : aI) = some I := hI
    cases hI
    exact hx)
abbrev wWb : List (Nat × Nat) := [(50, 4), (50, 5), (51, 999), (52, 999), (53, 999), (54, 999)]
/-- a change is kept, the number is told -/
theorem wkeep {sc : zC} {f f0 : zF} {n : Nat} {a w v x : Int} (hG : aGok wG (afx sc f)) (hW : aFr wWb f0 f) (ha : 0 ≤ a ∧ a ≤ 59) (hw : zIn w) (hv : zIn v) (h1 : zcm a w) (h2 : zcm a v) (hx : 0 ≤ x ∧ x ≤ 40) : aGok wG (afx sc (zup (zup (zup (zup (zup (zup f 52 n a) 53 n w) 54 n v) 50 5 x) 50 4 x) 51 a.toNat v)) ∧ aFr wWb f0 (zup (zup (zup (zup (zup (zup f 52 n a) 53 n w) 54 n v) 50 5 x) 50 4 x) 51 a.toNat v) := by
  obtain ⟨hk, hr⟩ := hG
  refine ⟨?_, aFr_up (aFr_up (aFr_up (aFr_up (aFr_up (aFr_up hW rfl) rfl) rfl) rfl) rfl) rfl⟩
  rw [afx_up (by decide), afx_up (by decide), afx_up (by decide), afx_up (by decide), afx_up (by decide), afx_up (by decide)]
  refine ⟨aGk_up (wG_50 (wG_50 (aGk_up (aGk_up (aGk_up hk ?_) ?_) ?_) (Or.inr rfl) hx) (Or.inl rfl) hx) ?_, zRel_f (zRel_x (zRel_m hr h1 h2)) rfl⟩
  · exact fun I hI => wG_52 hI ha
  · exact fun I hI => wG_f (c := 53) (b := 40) rfl hI hw
  · exact fun I hI => wG_f (c := 54) (b := 40) rfl hI hv
  · exact fun I hI => wG_num (c := 51) rfl hI hv (by rw [Int.toNat_of_nonneg ha.1]; exact h2)
theorem wbec {sc : zC} {f : zF} {a v : Int} {Q : zQ} (hG : aGok wG (afx sc f)) (ha : 0 ≤ a ∧ a ≤ 59) (hv : zIn v) (h2 : zcm a v) (hQ : ∀ z f', zIn z → aGok wG (afx sc f') → aFr wWb f f' → Q (some (zI z)) zSH f') : zR sc 1 169 0 [] [(0, zP 50), (1, zI a), (2, zI v)] 0 0 zSH f Q := by
  have r0 : aFr wWb f f := fun _ _ _ => rfl
  have hw0 : zIn (f 51 a.toNat) ∧ zcm ((a.toNat : Nat) : Int) (f 51 a.toNat) := wG_nin (F := afx sc f) (c := 51) hG.1 rfl (by omega)
  rw [Int.toNat_of_nonneg ha.1] at hw0
  have e5 : (0 : Int) ≤ f 50 5 ∧ f 50 5 ≤ 40 := wG_at (F := afx sc f) (c := 50) (j := 5) (I := (.ofNat 0, .ofNat 40)) hG.1 rfl
  generalize hwe : f 51 a.toNat = w at hw0
  have loop : ∀ k, k ≤ 39 → ∀ g : zF, aGok wG (afx sc g) → g 50 5 = 40 → aFr wWb f g → zR sc 1 169 26 [] [(0, zP 50), (1, zI a), (2, zI v), (3, zI w), (4, zI ((k + 1 : Nat) : Int))] 0 0 zSH g Q := by
    refine zloop 39 (fun k hk ih g hg g5 gW => b169_26 ?_) (fun g hg g5 gW => b169_26 ?_)
    · have t1 : (((k + 1 : Nat) : Int) - 1).toNat = k := by omega
      have t2 : (((k + 1 : Nat) : Int)).toNat = k + 1 := by omega
      have t3 : ((k + 1 : Nat) : Int) + 1 = ((k + 1 + 1 : Nat) : Int) := by omega
      rw [if_pos (by omega), t1, t2, t3]
      refine zov_p (by omega) (zix_p (by omega) (zix_p (by omega) (zov_p (by omega) (zix_p (by omega) (zix_p (by omega) (zov_p (by omega) (zix_p (by omega) (zix_p (by omega) (zov_p (by omega) (ih _ ?_ g5 ?_))))))))))
      · obtain ⟨gk, gr⟩ := hg
        have c1 := gr.2.1 (k + 1) (by omega)
        rw [afx_up (by decide), afx_up (by decide), afx_up (by decide)]
        refine ⟨aGk_up (aGk_up (aGk_up gk ?_) ?_) ?_, zRel_m gr c1.1 c1.2⟩
        · have := wG_rd (c := 52) (b := 40) gk rfl (show k + 1 < 40 by omega)
          exact fun I hI => wG_52 hI this
        · have := wG_in (c := 53) (b := 40) gk rfl (show k + 1 < 40 by omega)
          exact fun I hI => wG_f (c := 53) (b := 40) rfl hI this
        · have := wG_in (c := 54) (b := 40) gk rfl (show k + 1 < 40 by omega)
          exact fun I hI => wG_f (c := 54) (b := 40) rfl hI this
      · exact aFr_up (aFr_up (aFr_up gW rfl) rfl) rfl
    · rw [if_neg (by omega), g5]
      have hg2 : aGok wG (afx sc (zup g 50 5 (40 - 1))) := by
        rw [afx_up (by decide)]
        have e4 : g 50 5 ≤ g 50 4 := hg.2.2.2
        exact ⟨wG_50 hg.1 (Or.inr rfl) (by decide), zRel_y hg.2 (by show (40 - 1 : Int) ≤ g 50 4; omega)⟩
      have := wkeep (n := ((40 : Int) - 1).toNat) (x := 40 - 1 + 1) hg2 (aFr_up gW rfl) ha hw0.1 hv hw0.2 h2 (by decide)
      exact zov_p (by omega) (zix_p (by omega) (zix_p (by omega) (zix_p (by omega) (zov_p (by omega) (zix_p (by omega) (hQ _ _ hw0.1 this.1 this.2))))))
  refine b169_0 (zix_p (by omega) ?_)
  rw [hwe]
  by_cases c1 : w = v
  · rw [if_pos c1]
    exact hQ _ _ hw0.1 hG r0
  · rw [if_neg c1]
    by_cases c2 : f 50 5 = 40
    · rw [if_pos c2]
      exact loop 0 (by omega) f hG c2 r0
    · rw [if_neg c2]
      have := wkeep (n := (f 50 5).toNat) (x := f 50 5 + 1) hG r0 ha hw0.1 hv hw0.2 h2 (by omega)
      exact zix_p (by omega) (zix_p (by omega) (zix_p (by omega) (zov_p (by omega) (zix_p (by omega) (hQ _ _ hw0.1 this.1 this.2)))))
theorem wH_becomes0_ok : aSumOk wG wH_becomes0 := by
  intro sc f ρ0 d hD h0 hN hF hG
  refine zR_le (Nat.le_trans (by decide) hD) (d := 1) ?_
  have i1 : (0 : Int) ≤ ρ0 1 ∧ ρ0 1 ≤ 36 := aNm_1 hN
  have i2 : aIn aF32 (ρ0 2) := aNm_2 hN
  show zR sc 1 169 0 [] [(0, zP 50), (1, zI (ρ0 1 + 0)), (2, zI (ρ0 2 + 0))] 0 0 zSH f _
  rw [Int.add_zero, Int.add_zero]
  exact wbec hG (by omega) (aF32_ok.1 i2) (fun h => by omega) (fun z f' hz h1 h2 => aPQ_i h0 hN (by decide) hz h1 h2)
theorem wH_becomes1_ok : aSumOk wG wH_becomes1 := by
  intro sc f ρ0 d hD h0 hN hF hG
  refine zR_le (Nat.le_trans (by decide) hD) (d := 1) ?_
  have i1 : (37 : Int) ≤ ρ0 1 ∧ ρ0 1 ≤ 43 := aNm_1 hN
  have i2 : (0 : Int) ≤ ρ0 2 ∧ ρ0 2 ≤ 3 := aNm_2 hN
  show zR sc 1 169 0 [] [(0, zP 50), (1, zI (ρ0 1 + 0)), (2, zI (ρ0 2 + 0))] 0 0 zSH f _
  rw [Int.add_zero, Int.add_zero]
  exact wbec hG (by omega) (by unfold zIn; omega) (fun _ _ => i2) (fun z f' hz h1 h2 => aPQ_i h0 hN (by decide) hz h1 h2)
theorem wH_becomes2_ok : aSumOk wG wH_becomes2 := by
  intro sc f ρ0 d hD h0 hN hF hG
  refine zR_le (Nat.le_trans (by decide) hD) (d := 1) ?_
  have i1 : (44 : Int) ≤ ρ0 1 ∧ ρ0 1 ≤ 59 := aNm_1 hN
  have i2 : aIn aF32 (ρ0 2) := aNm_2 hN
  show zR sc 1 169 0 [] [(0, zP 50), (1, zI (ρ0 1 + 0)), (2, zI (ρ0 2 + 0))] 0 0 zSH f _
  rw [Int.add_zero, Int.add_zero]
  exact wbec hG (by omega) (aF32_ok.1 i2) (fun _ h => by omega) (fun z f' hz h1 h2 => aPQ_i h0 hN (by decide) hz h1 h2)
theorem wH_undo_ok : aSumOk wG wH_undo := by
  intro sc f ρ0 d hD h0 hN hF hG
  refine zR_le (Nat.le_trans (by decide) hD) (d := 1) ?_
  show zR sc 1 170 0 [] [(0, zP 50)] 0 0 zSH f _
  obtain ⟨hk, hr⟩ := hG
  have e5 : (0 : Int) ≤ f 50 5 ∧ f 50 5 ≤ 40 := wG_at (F := afx sc f) (c := 50) (j := 5) (I := (.ofNat 0, .ofNat 40)) hk rfl
  have e4 : f 50 5 ≤ f 50 4 := hr.2.2
  have r0 : aFr [(50, 5), (51, 999)] f f := fun _ _ _ => rfl
  refine b170_0 ?_
  by_cases c : f 50 5 = 0
  · rw [if_pos c]
    exact aPQ_i h0 hN (by decide) (by unfold zIn; decide) ⟨hk, hr⟩ r0
  · rw [if_neg c]
    have hn : (f 50 5 - 1).toNat < 40 := by omega
    have hs : (0 : Int) ≤ f 52 (f 50 5 - 1).toNat ∧ f 52 (f 50 5 - 1).toNat ≤ 59 := wG_rd (F := afx sc f) (c := 52) (b := 40) (I := (.ofNat 0, .ofNat 59)) hk rfl hn
    have hv : zIn (f 53 (f 50 5 - 1).toNat) := wG_in (F := afx sc f) (c := 53) (b := 40) hk rfl hn
    have hc : zcm (f 52 (f 50 5 - 1).toNat) (f 53 (f 50 5 - 1).toNat) := (hr.2.1 _ hn).1
    refine zov_p (by omega) (zix_p (by omega) (zix_p (by omega) (zix_p (by omega) (aPQ_i h0 hN (by decide) (by unfold zIn; omega) ?_ (aFr_up (aFr_up r0 rfl) rfl)))))
    rw [afx_up (by decide), afx_up (by decide)]
    refine ⟨aGk_up (wG_50 hk (Or.inr rfl) (by omega)) ?_, zRel_f (zRel_y hr (by show f 50 5 - 1 ≤ f 50 4; omega)) rfl⟩
    exact fun I hI => wG_num (c := 51) rfl hI hv (by rw [Int.toNat_of_nonneg hs.1]; exact hc)
theorem wH_redo_ok : aSumOk wG wH_redo := by
  intro sc f ρ0 d hD h0 hN hF hG
  refine zR_le (Nat.le_trans (by decide) hD) (d := 1) ?_
  show zR sc 1 171 0 [] [(0, zP 50)] 0 0 zSH f _
  obtain ⟨hk, hr⟩ := hG
  have e5 : (0 : Int) ≤ f 50 5 ∧ f 50 5 ≤ 40 := wG_at (F := afx sc f) (c := 50) (j := 5) (I := (.ofNat 0, .ofNat 40)) hk rfl
  have e6 : (0 : Int) ≤ f 50 4 ∧ f 50 4 ≤ 40 := wG_at (F := afx sc f) (c := 50) (j := 4) (I := (.ofNat 0, .ofNat 40)) hk rfl
  have e4 : f 50 5 ≤ f 50 4 := hr.2.2
  have r0 : aFr [(50, 5), (51, 999)] f f := fun _ _ _ => rfl
  refine b171_0 ?_
  by_cases c : f 50 5 = f 50 4
  · rw [if_pos c]
    exact aPQ_i h0 hN (by decide) (by unfold zIn; decide) ⟨hk, hr⟩ r0
  · rw [if_neg c]
    have hn : (f 50 5).toNat < 40 := by omega
    have hs : (0 : Int) ≤ f 52 (f 50 5).toNat ∧ f 52 (f 50 5).toNat ≤ 59 := wG_rd (F := afx sc f) (c := 52) (b := 40) (I := (.ofNat 0, .ofNat 59)) hk rfl hn
    have hv : zIn (f 54 (f 50 5).toNat) := wG_in (F := afx sc f) (c := 54) (b := 40) hk rfl hn
    have hc : zcm (f 52 (f 50 5).toNat) (f 54 (f 50 5).toNat) := (hr.2.1 _ hn).2
    refine zix_p (by omega) (zix_p (by omega) (zix_p (by omega) (zov_p (by omega) (zov_p (by omega) (aPQ_i h0 hN (by decide) (by unfold zIn; omega) ?_ (aFr_up (aFr_up r0 rfl) rfl))))))
    rw [afx_up (by decide), afx_up (by decide)]
    refine ⟨wG_50 (aGk_up hk ?_) (Or.inr rfl) (by omega), zRel_y (zRel_f hr rfl) (by show f 50 5 + 1 ≤ f 50 4; omega)⟩
    exact fun I hI => wG_num (c := 51) rfl hI hv (by rw [Int.toNat_of_nonneg hs.1]; exact hc)
theorem wH_takeBack_ok : aSumOk wG wH_takeBack := by
  intro sc f ρ0 d hD h0 hN hF hG
  refine zR_le (Nat.le_trans (by decide) hD) (d := 1) ?_
  show zR sc 1 15 0 [] [(0, zP 26), (1, zP 1)] 0 0 zSH f _
  obtain ⟨hk, hr⟩ := hG
  have e5 : (0 : Int) ≤ f 26 3 ∧ f 26 3 ≤ 40 := wG_at (F := afx sc f) (c := 26) (j := 3) (I := (.ofNat 0, .ofNat 40)) hk rfl
  have r0 : aFr [(2, 999), (26, 3)] f f := fun _ _ _ => rfl
  refine b15_0 ?_
  by_cases c : 0 < f 26 3
  · rw [if_pos c]
    have hn : (f 26 3 - 1).toNat < 40 := by omega
    have hs : (0 : Int) ≤ f 27 (f 26 3 - 1).toNat ∧ f 27 (f 26 3 - 1).toNat ≤ 59 := wG_rd (F := afx sc f) (c := 27) (b := 40) (I := (.ofNat 0, .ofNat 59)) hk rfl hn
    have hv : zIn (f 28 (f 26 3 - 1).toNat) := wG_in (F := afx sc f) (c := 28) (b := 40) hk rfl hn
    have hc : zcm (f 27 (f 26 3 - 1).toNat) (f 28 (f 26 3 - 1).toNat) := (hr.1 _ hn).1
    refine zov_p (by omega) (zix_p (by omega) (zix_p (by omega) (zix_p (by omega) (aPQ_i h0 hN (by decide) (by unfold zIn; omega) ?_ (aFr_up (aFr_up r0 rfl) rfl)))))
    rw [afx_up (by decide), afx_up (by decide)]
    refine ⟨aGk_up (wG_26 hk (Or.inl rfl) (by omega)) ?_, zRel_f (zRel_f hr rfl) rfl⟩
    exact fun I hI => wG_num (c := 2) rfl hI hv (by rw [Int.toNat_of_nonneg hs.1]; exact hc)
  · rw [if_neg c]
    exact aPQ_i h0 hN (by decide) (by unfold zIn; decide) ⟨hk, hr⟩ r0
theorem wH_doAgain_ok : aSumOk wG wH_doAgain := by
  intro sc f ρ0 d hD h0 hN hF hG
  refine zR_le (Nat.le_trans (by decide) hD) (d := 1) ?_
  show zR sc 1 16 0 [] [(0, zP 26), (1, zP 1)] 0 0 zSH f _
  obtain ⟨hk, hr⟩ := hG
  have e5 : (0 : Int) ≤ f 26 3 ∧ f 26 3 ≤ 40 := wG_at (F := afx sc f) (c := 26) (j := 3) (I := (.ofNat 0, .ofNat 40)) hk rfl
  have e6 : (0 : Int) ≤ f 26 4 ∧ f 26 4 ≤ 40 := wG_at (F := afx sc f) (c := 26) (j := 4) (I := (.ofNat 0, .ofNat 40)) hk rfl
  have r0 : aFr [(2, 999), (26, 3)] f f := fun _ _ _ => rfl
  refine b16_0 ?_
  by_cases c : f 26 3 < f 26 4
  · rw [if_pos c]
    have hn : (f 26 3).toNat < 40 := by omega
    have hs : (0 : Int) ≤ f 27 (f 26 3).toNat ∧ f 27 (f 26 3).toNat ≤ 59 := wG_rd (F := afx sc f) (c := 27) (b := 40) (I := (.ofNat 0, .ofNat 59)) hk rfl hn
    have hv : zIn (f 29 (f 26 3).toNat) := wG_in (F := afx sc f) (c := 29) (b := 40) hk rfl hn
    have hc : zcm (f 27 (f 26 3).toNat) (f 29 (f 26 3).toNat) := (hr.1 _ hn).2
    refine zix_p (by omega) (zix_p (by omega) (zix_p (by omega) (zov_p (by omega) (zov_p (by omega) (aPQ_i h0 hN (by decide) (by unfold zIn; omega) ?_ (aFr_up (aFr_up r0 rfl) rfl))))))
    rw [afx_up (by decide), afx_up (by decide)]
    refine ⟨wG_26 (aGk_up hk ?_) (Or.inl rfl) (by omega), zRel_f (zRel_f hr rfl) rfl⟩
    exact fun I hI => wG_num (c := 2) rfl hI hv (by rw [Int.toNat_of_nonneg hs.1]; exact hc)
  · rw [if_neg c]
    exact aPQ_i h0 hN (by decide) (by unfold zIn; decide) ⟨hk, hr⟩ r0
end
