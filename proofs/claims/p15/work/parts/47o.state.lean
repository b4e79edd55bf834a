noncomputable section
/-! the street's state, both: what every run of calls keeps alike -/
/-- bounds of the numbers of mend() by their place -/
def nB (j : Nat) (v : Int) : Prop := (j < 24 → 0 ≤ v ∧ v ≤ 9) ∧ (24 ≤ j → j < 30 → 0 ≤ v ∧ v ≤ 9999) ∧ (30 ≤ j → j < 37 → 0 ≤ v ∧ v ≤ 99) ∧ (37 ≤ j → j < 44 → 0 ≤ v ∧ v ≤ 3) ∧ (44 ≤ j → j < 51 → -1 ≤ v ∧ v ≤ 5) ∧ (51 ≤ j → j < 59 → 0 ≤ v ∧ v ≤ 999) ∧ (59 ≤ j → 0 ≤ v ∧ v ≤ 6)
def lM (M : Nat → Int) (g : Nat) : Int := sN (fun k => M (24 * g + k)) 24
def hM (M : Nat → Int) (n : Int) : Prop := (∀ j, j < 168 → 0 ≤ M j) ∧ (∀ g, g < 7 → lM M g ≤ 99) ∧ (∀ g k : Nat, g < 7 → 4 * n ≤ (k : Int) → k < 24 → M (24 * g + k) = 0)
set_option maxRecDepth 4000 in
set_option maxHeartbeats 400000 in
theorem hM_mo {M : Nat → Int} {n m : Int} (h : hM M n) (g : n ≤ m) : hM M m := ⟨h.1, h.2.1, fun a k h1 h2 h3 => h.2.2 a k h1 (by omega) h3⟩
set_option maxRecDepth 4000 in
set_option maxHeartbeats 400000 in
theorem lM_eq {M N : Nat → Int} (h : ∀ j, j < 168 → M j = N j) {g : Nat} (hg : g < 7) : lM M g = lM N g := sN_eq 24 (fun k hk => h _ (by omega))
set_option maxRecDepth 4000 in
set_option maxHeartbeats 400000 in
theorem hM_eq {M N : Nat → Int} {n : Int} (h : ∀ j, j < 168 → M j = N j) (k : hM M n) : hM N n := ⟨fun j hj => by rw [← h j hj]; exact k.1 j hj, fun g hg => by rw [← lM_eq h hg]; exact k.2.1 g hg, fun g q h1 h2 h3 => by rw [← h _ (by omega)]; exact k.2.2 g q h1 h2 h3⟩
def wS1 (f : zF) : Prop := f 1 0 = f 50 6 ∧ f 1 1 = f 50 7
def wS2 (f : zF) : Prop := ∀ j, j < 60 → f 2 j = f 51 j ∧ nB j (f 2 j)
def wS3 (f : zF) : Prop := (∀ j, j < 168 → f 3 j = f 55 j) ∧ (∀ g, g < 7 → f 4 g = lM (f 3) g) ∧ hM (f 3) (f 1 0)
def wS5 (f : zF) : Prop := ∀ j, j < 6 → f 5 j = f 68 j
def wCh (f : zF) : Prop := (f 26 3 = f 50 5 ∧ f 26 4 = f 50 4) ∧ ∀ j, j < 40 → (f 27 j = f 52 j ∧ f 28 j = f 53 j ∧ f 29 j = f 54 j) ∧ ((0 ≤ f 27 j ∧ f 27 j < 60) ∧ nB (f 27 j).toNat (f 28 j) ∧ nB (f 27 j).toNat (f 29 j))
def wIm (f : zF) : Prop := f 0 3 = f 50 34 ∧ (f 0 3 = 1 → ((f 13 0 = f 50 35 ∧ f 13 1 = f 50 36) ∧ (0 ≤ f 13 0 ∧ f 13 0 ≤ f 1 0) ∧ (0 ≤ f 13 1 ∧ f 13 1 ≤ f 1 1)) ∧ (∀ j, j < 60 → f 14 j = f 69 j ∧ nB j (f 14 j)) ∧ (∀ j, j < 168 → f 15 j = f 70 j) ∧ (∀ g, g < 7 → f 16 g = lM (f 15) g) ∧ (∀ j, j < 6 → f 17 j = f 71 j) ∧ hM (f 15) (f 13 0))
def wLa (f : zF) : Prop := ∃ w, cLw w f ∧ rLw w f
def wD (f : zF) : Prop := wS1 f ∧ wS2 f ∧ wS3 f ∧ wS5 f ∧ wCh f ∧ wIm f ∧ wLa f
set_option maxRecDepth 4000 in
set_option maxHeartbeats 400000 in
theorem wLa_l {f f1 : zF} (h1 : ∀ j, f1 23 j = f 23 j) (h2 : f1 22 1 = f 22 1) (h3 : ∀ j, f1 57 j = f 57 j) (h4 : f1 50 12 = f 50 12) (h : wLa f) : wLa f1 := by
  obtain ⟨w, c, r⟩ := h
  exact ⟨w, cLw_l h1 h2 c, rLw_l h3 h4 r⟩
set_option maxRecDepth 4000 in
set_option maxHeartbeats 400000 in
theorem wIm_mo {f f1 : zF} (h : wIm f) (e : ∀ c, (c = 14 ∨ c = 15 ∨ c = 16 ∨ c = 17 ∨ c = 69 ∨ c = 70 ∨ c = 71) → f1 c = f c) (e0 : f1 0 3 = f 0 3) (e34 : f1 50 34 = f 50 34) (e13 : f1 13 0 = f 13 0 ∧ f1 13 1 = f 13 1) (e35 : f1 50 35 = f 50 35 ∧ f1 50 36 = f 50 36) (m0 : f 1 0 ≤ f1 1 0) (m1 : f 1 1 ≤ f1 1 1) : wIm f1 := by
  unfold wIm
  rw [e 14 (by omega), e 15 (by omega), e 16 (by omega), e 17 (by omega), e 69 (by omega), e 70 (by omega), e 71 (by omega), e0, e34, e13.1, e13.2, e35.1, e35.2]
  refine ⟨h.1, fun k => ?_⟩
  obtain ⟨⟨k1, k2, k3⟩, k4⟩ := h.2 k
  exact ⟨⟨k1, ⟨k2.1, by omega⟩, ⟨k3.1, by omega⟩⟩, k4⟩
set_option maxRecDepth 4000 in
set_option maxHeartbeats 400000 in
theorem wLa_k {f f1 : zF} (h : wLa f) (h1 : ∀ j, f1 23 j = f 23 j) (h2 : f1 22 1 = f 22 1) (h3 : ∀ j, f1 57 j = f 57 j) (h4 : f1 50 12 = f 50 12) : wLa f1 := wLa_l h1 h2 h3 h4 h
/-- cells that the relation speaks of -/
def wDc : List (Nat × Nat) := [(0, 3), (1, 0), (1, 1), (2, 999), (3, 999), (4, 999), (5, 999), (13, 0), (13, 1), (14, 999), (15, 999), (16, 999), (17, 999), (22, 1), (23, 999), (26, 3), (26, 4), (27, 999), (28, 999), (29, 999), (50, 4), (50, 5), (50, 6), (50, 7), (50, 12), (50, 34), (50, 35), (50, 36), (51, 999), (52, 999), (53, 999), (54, 999), (55, 999), (57, 999), (68, 999), (69, 999), (70, 999), (71, 999)]
set_option maxRecDepth 4000 in
set_option maxHeartbeats 400000 in
theorem wD_fr {W : List (Nat × Nat)} {f f' : zF} (h : wav wDc W = true) (g : aFr W f f') (i : wD f) : wD f' := by
  have e : ∀ {a b : Nat}, (a, b) ∈ wDc → ∀ j, (b = 999 ∨ b = j) → f' a j = f a j := fun hp j hj => g _ _ (wav_ok h hp hj)
  have E : ∀ {a : Nat}, (a, 999) ∈ wDc → f' a = f a := fun hp => funext fun j => e hp j (Or.inl rfl)
  have x : ∀ {a b : Nat}, (a, b) ∈ wDc → f' a b = f a b := fun hp => e hp _ (Or.inr rfl)
  obtain ⟨i1, i2, i3, i5, ic, im, la⟩ := i
  refine ⟨?_, ?_, ?_, ?_, ?_, wIm_mo im ?_ (x (by decide)) (x (by decide)) ⟨x (by decide), x (by decide)⟩ ⟨x (by decide), x (by decide)⟩ (Int.le_of_eq (x (by decide)).symm) (Int.le_of_eq (x (by decide)).symm), wLa_l (fun j => e (a := 23) (b := 999) (by decide) j (Or.inl rfl)) (x (by decide)) (fun j => e (a := 57) (b := 999) (by decide) j (Or.inl rfl)) (x (by decide)) la⟩
  · unfold wS1
    rw [x (a := 1) (b := 0) (by decide), x (a := 1) (b := 1) (by decide), x (a := 50) (b := 6) (by decide), x (a := 50) (b := 7) (by decide)]
    exact i1
  · unfold wS2
    rw [E (a := 2) (by decide), E (a := 51) (by decide)]
    exact i2
  · unfold wS3
    rw [E (a := 3) (by decide), E (a := 55) (by decide), E (a := 4) (by decide), x (a := 1) (b := 0) (by decide)]
    exact i3
  · unfold wS5
    rw [E (a := 5) (by decide), E (a := 68) (by decide)]
    exact i5
  · unfold wCh
    rw [x (a := 26) (b := 3) (by decide), x (a := 50) (b := 5) (by decide), x (a := 26) (b := 4) (by decide), x (a := 50) (b := 4) (by decide), E (a := 27) (by decide), E (a := 28) (by decide), E (a := 29) (by decide), E (a := 52) (by decide), E (a := 53) (by decide), E (a := 54) (by decide)]
    exact ic
  · intro c hc
    rcases hc with rfl | rfl | rfl | rfl | rfl | rfl | rfl <;> exact E (by decide)
/-- what days need of it -/
def sP (f : zF) : zF := fun a b => match a with
  | 0 => f 2 (30 + b)
  | 1 => f 2 (37 + b)
  | 2 => f 2 (51 + b)
  | 3 => f 2 (44 + b)
  | 4 => f 2 b
  | _ => f 1 b
def sA (f : zF) : zF := fun a b => match a with
  | 0 => f 3 b
  | 1 => f 2 (24 + b)
  | 2 => f 2 (55 + b)
  | _ => f 2 59
section WD
variable {sc : zC} {f f1 : zF} {w : zLw} {d : Nat} {Q : zQ}
set_option maxRecDepth 4000 in
set_option maxHeartbeats 400000 in
theorem g_10 (g : aGok wG (afx sc f)) : (0 : Int) ≤ f 1 0 ∧ f 1 0 ≤ 6 := wG_at (F := afx sc f) (c := 1) (j := 0) (I := (.ofNat 0, .ofNat 6)) g.1 rfl
set_option maxRecDepth 4000 in
set_option maxHeartbeats 400000 in
theorem g_11 (g : aGok wG (afx sc f)) : (0 : Int) ≤ f 1 1 ∧ f 1 1 ≤ 7 := wG_at (F := afx sc f) (c := 1) (j := 1) (I := (.ofNat 0, .ofNat 7)) g.1 rfl
set_option maxRecDepth 4000 in
set_option maxHeartbeats 400000 in
theorem g_51 (g : aGok wG (afx sc f)) : zIn (f 5 1) := wG_rd (F := afx sc f) (c := 5) (b := 6) (I := (.negSucc 2147483647, .ofNat 2147483647)) g.1 rfl (by decide)
set_option maxRecDepth 4000 in
set_option maxHeartbeats 400000 in
theorem g_53 (g : aGok wG (afx sc f)) : zIn (f 5 3) := wG_rd (F := afx sc f) (c := 5) (b := 6) (I := (.negSucc 2147483647, .ofNat 2147483647)) g.1 rfl (by decide)
set_option maxRecDepth 4000 in
set_option maxHeartbeats 400000 in
theorem wD_p (g : aGok wG (afx sc f)) (i : wD f) : pIn (sP f) := by
  obtain ⟨i1, i2, i3, i5, ic, im, la⟩ := i
  refine ⟨g_10 g, g_11 g, fun q hq => ⟨?_, ?_⟩, fun q hq => ?_, fun q hq => ?_⟩
  · have := (i2 (30 + q) (by omega)).2.2.2.1 (by omega) (by omega)
    exact this
  · have := (i2 (37 + q) (by omega)).2.2.2.2.1 (by omega) (by omega)
    exact this
  · have := (i2 (51 + q) (by omega)).2.2.2.2.2.2.1 (by omega) (by omega)
    exact this
  · have := (i2 q (by omega)).2.1 (by omega)
    exact this
set_option maxRecDepth 4000 in
set_option maxHeartbeats 400000 in
theorem wD_a (i : wD f) : dIn (sP f) (sA f) := by
  obtain ⟨i1, i2, i3, i5, ic, im, la⟩ := i
  refine ⟨i3.2.2.1, i3.2.2.2.1, fun q hq => ?_, fun q hq => ?_, ?_, i3.2.2.2.2⟩
  · have := (i2 (24 + q) (by omega)).2.2.1 (by omega) (by omega)
    exact this
  · have := (i2 (55 + q) (by omega)).2.2.2.2.2.2.1 (by omega) (by omega)
    exact this
  · have := (i2 59 (by omega)).2.2.2.2.2.2.2 (by omega)
    exact this
set_option maxRecDepth 4000 in
set_option maxHeartbeats 400000 in
theorem wD_c1 (i : wD f) (c : cLw w f) : cN1 w (sP f) (sA f) f := by
  obtain ⟨i1, i2, i3, i5, ic, im, la⟩ := i
  exact ⟨⟨rfl, rfl⟩, fun q _ => ⟨rfl, rfl, rfl⟩, fun q _ => ⟨rfl, rfl⟩, fun q _ => rfl, rfl, fun q _ => rfl, i3.2.1, fun q _ => rfl, c⟩
set_option maxRecDepth 4000 in
set_option maxHeartbeats 400000 in
/-- the reference's days begin -/
theorem wD_rb {F : zF} (i : wD f) (e : ∀ c j, 50 ≤ c → F c j = f c j) (r : rLw w f) : rB w (sP f) (sA f) (zbeg F) := by
  obtain ⟨i1, i2, i3, i5, ic, im, la⟩ := i
  refine ⟨⟨(e 50 6 (by decide)).trans i1.1.symm, (e 50 7 (by decide)).trans i1.2.symm⟩, fun q hq => ⟨(e 51 _ (by decide)).trans (i2 (30 + q) (by omega)).1.symm, (e 51 _ (by decide)).trans (i2 (37 + q) (by omega)).1.symm, fun h => ?_⟩, fun q hq => ⟨(e 51 _ (by decide)).trans (i2 (51 + q) (by omega)).1.symm, ?_⟩, fun q hq => ?_, (e 51 _ (by decide)).trans (i2 59 (by omega)).1.symm, fun q hq => ?_, fun q hq => ?_, rLw_l (fun j => e 57 j (by decide)) (e 50 12 (by decide)) r⟩
  · show (if 0 ≤ q ∧ q < 0 + 7 then (if (q : Int) < F 50 7 then F 51 (44 + q) else -1) else F 63 q) = f 2 (44 + q)
    have h : (q : Int) < f 1 1 := h
    rw [if_pos (by omega), if_pos (by rw [e 50 7 (by decide), ← i1.2]; exact h), e 51 _ (by decide)]
    exact (i2 (44 + q) (by omega)).1.symm
  · show (if 0 ≤ q ∧ q < 0 + 4 then F 51 (55 + q) else F 61 q) = f 2 (55 + q)
    rw [if_pos (by omega), e 51 _ (by decide)]
    exact (i2 (55 + q) (by omega)).1.symm
  · show (if 0 ≤ q ∧ q < 0 + 6 then F 51 (24 + q) else F 60 q) = f 2 (24 + q)
    rw [if_pos (by omega), e 51 _ (by decide)]
    exact (i2 (24 + q) (by omega)).1.symm
  · show (if 0 ≤ q ∧ q < 0 + 168 then F 55 q else F 59 q) = f 3 q
    rw [if_pos (by omega), e 55 _ (by decide)]
    exact (i3.1 q hq).symm
  · show (if 0 ≤ q ∧ q < 0 + 24 then F 51 q else F 62 q) = f 2 q
    rw [if_pos (by omega), e 51 _ (by decide)]
    exact (i2 q (by omega)).1.symm
end WD
set_option maxRecDepth 4000 in
set_option maxHeartbeats 400000 in
theorem wD_0 : wD zF0 := by
  have o : ∀ {c : Nat}, zspec c = false → ∀ j, zF0 c j = 0 := fun h j => zF0_o h j
  refine ⟨⟨rfl, rfl⟩, ?_, ⟨fun j _ => (o rfl j).trans (o rfl j).symm, fun g _ => ?_, ?_⟩, fun j _ => (o rfl j).trans (o rfl j).symm, ⟨⟨rfl, rfl⟩, fun j _ => ?_⟩, ⟨rfl, fun h => ?_⟩, (false, []), ⟨fun h => (by cases h), fun _ => rfl⟩, ⟨fun h => (by cases h), fun _ => rfl⟩⟩
  · intro j hj
    have e : ∀ j, zF0 2 j = zF0 51 j ∧ zF0 2 j = (if j = 51 ∨ j = 52 ∨ j = 53 ∨ j = 54 then 100 else 0) := by
      intro j
      by_cases h : j = 51 ∨ j = 52 ∨ j = 53 ∨ j = 54
      · rw [if_pos h]
        rcases h with rfl | rfl | rfl | rfl <;> exact ⟨rfl, rfl⟩
      · rw [if_neg h]
        have n1 : ¬ j = 51 := fun e => h (by omega)
        have n2 : ¬ j = 52 := fun e => h (by omega)
        have n3 : ¬ j = 53 := fun e => h (by omega)
        have n4 : ¬ j = 54 := fun e => h (by omega)
        have a : zF0 2 j = 0 := by simp only [zF0, zup, n1, n2, n3, n4, Nat.reduceEqDiff, if_true, if_false]
        have b : zF0 51 j = 0 := by simp only [zF0, zup, n1, n2, n3, n4, Nat.reduceEqDiff, if_true, if_false]
        exact ⟨a.trans b.symm, a⟩
    refine ⟨(e j).1, ?_⟩
    rw [(e j).2]
    unfold nB
    split <;> omega
  · rw [o (c := 4) rfl g]
    have : lM (zF0 3) g = sN (fun _ => 0) 24 := sN_eq 24 (fun k _ => o (c := 3) rfl _)
    rw [this]
    rfl
  · refine ⟨fun j _ => by rw [o (c := 3) rfl j]; exact Int.le_refl _, fun g _ => ?_, fun g k _ _ _ => o (c := 3) rfl _⟩
    have : lM (zF0 3) g = sN (fun _ => 0) 24 := sN_eq 24 (fun k _ => o (c := 3) rfl _)
    rw [this]
    decide
  · rw [o (c := 27) rfl j, o (c := 28) rfl j, o (c := 29) rfl j, o (c := 52) rfl j, o (c := 53) rfl j, o (c := 54) rfl j]
    refine ⟨⟨rfl, rfl, rfl⟩, ⟨by decide, by decide⟩, ?_, ?_⟩ <;> (unfold nB; omega)
  · exact absurd (show (0 : Int) = 1 from h) (by decide)
/-- two joint runs in one: the class's call, then the reference's -/
def zJ2 (sc : zC) (i : Nat) (as : zL) (j : Nat) (bs : zL) (f0 : zF) (R : Int → Int → zF → Prop) : Prop := zR sc 199 i 0 [] as 0 0 zSH f0 (fun r _ f1 => ∃ v, r = some (zI v) ∧ zR sc 199 j 0 [] bs 0 0 zSH f1 (fun r _ f2 => ∃ w, r = some (zI w) ∧ R v w f2))
set_option maxRecDepth 4000 in
set_option maxHeartbeats 400000 in
theorem zJ2_and {sc : zC} {i j : Nat} {as bs : zL} {f0 : zF} {R R' : Int → Int → zF → Prop} (h : zJ2 sc i as j bs f0 R) (k : zJ2 sc i as j bs f0 R') : zJ2 sc i as j bs f0 (fun v w f => R v w f ∧ R' v w f) :=
  zR_imp (zR_and h k) (fun r _ f1 q => by
    obtain ⟨⟨v, e, k1⟩, v', e', k2⟩ := q
    cases e
    cases e'
    refine ⟨_, rfl, zR_imp (zR_and k1 k2) (fun r _ f2 q => ?_)⟩
    obtain ⟨⟨w, e, h1⟩, w', e', h2⟩ := q
    cases e
    cases e'
    exact ⟨_, rfl, h1, h2⟩)
set_option maxRecDepth 4000 in
set_option maxHeartbeats 400000 in
theorem zJ2_imp {sc : zC} {i j : Nat} {as bs : zL} {f0 : zF} {R R' : Int → Int → zF → Prop} (h : zJ2 sc i as j bs f0 R) (g : ∀ v w f, R v w f → R' v w f) : zJ2 sc i as j bs f0 R' :=
  zR_imp h (fun r _ f1 q => by
    obtain ⟨v, e, k1⟩ := q
    refine ⟨v, e, zR_imp k1 (fun r _ f2 q => ?_)⟩
    obtain ⟨w, e, h1⟩ := q
    exact ⟨w, e, g _ _ _ h1⟩)
end
