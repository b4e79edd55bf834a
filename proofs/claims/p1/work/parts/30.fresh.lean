/-! bounds of cells, some of them overruled -/
def glk (c : Nat) : List (Nat × List (Nat × aI)) → Option (List (Nat × aI))
  | [] => none
  | q :: L => bif Nat.beq q.1 c then some q.2 else glk c L
def gOv (L : List (Nat × List (Nat × aI))) (G : aG) : aG := fun c => match glk c L with
  | some r => r
  | none => G c
theorem glk_ok {c : Nat} {r : List (Nat × aI)} : ∀ {L : List (Nat × List (Nat × aI))}, glk c L = some r → (c, r) ∈ L
  | [], h => by cases h
  | q :: L, h => by
    unfold glk at h
    cases hb : Nat.beq q.1 c with
    | true =>
      rw [hb, cond_true] at h
      cases h
      rw [← Nat.eq_of_beq_eq_true hb]
      exact List.mem_cons_self
    | false =>
      rw [hb, cond_false] at h
      exact List.mem_cons_of_mem _ (glk_ok h)
def gSub : List (Nat × aI) → List (Nat × aI) → Bool
  | [], [] => true
  | (a, I) :: L, (b, J) :: M => (Nat.beq a b && asub I J) && gSub L M
  | _, _ => false
theorem gSub_ok {j : Nat} {J : aI} : ∀ {L M : List (Nat × aI)}, gSub L M = true → gAt M j = some J → ∃ I, gAt L j = some I ∧ asub I J = true
  | [], [], _, h => by cases h
  | (a, I) :: L, (b, K) :: M, h, g => by
    have h : ((Nat.beq a b && asub I K) && gSub L M) = true := h
    simp only [Bool.and_eq_true] at h
    have e := Nat.eq_of_beq_eq_true h.1.1
    subst e
    unfold gAt at g ⊢
    cases hb : Nat.blt j a with
    | true =>
      rw [hb, cond_true] at g
      cases g
      exact ⟨I, rfl, h.1.2⟩
    | false =>
      rw [hb, cond_false] at g
      exact gSub_ok h.2 g
  | [], _ :: _, h, _ => by cases h
  | _ :: _, [], h, _ => by cases h
def gOvk (L : List (Nat × List (Nat × aI))) (G : aG) : Bool := L.all (fun q => gSub (G q.1) q.2)
theorem gOv_ok {L : List (Nat × List (Nat × aI))} {G : aG} {f : zF} (h : gOvk L G = true) (hG : aGok G f) : aGok (gOv L G) f := by
  intro c j I hI
  unfold gOv at hI
  split at hI
  next r hr =>
    unfold gOvk at h
    rw [List.all_eq_true] at h
    obtain ⟨K, k1, k2⟩ := gSub_ok (h _ (glk_ok hr)) hI
    exact asub_ok k2 (hG c j K k1)
  next => exact hG c j I hI
def gck (f : zF) (c : Nat) : Nat → List (Nat × aI) → Bool
  | _, [] => true
  | lo, (b, I) :: L => (List.range (b - lo)).all (fun t => ile I.1 (f c (lo + t)) && ile (f c (lo + t)) I.2) && gck f c b L
theorem gck_ok {f : zF} {c j : Nat} {I : aI} : ∀ {L : List (Nat × aI)} {lo : Nat}, gck f c lo L = true → lo ≤ j → gAt L j = some I → aIn I (f c j)
  | [], _, _, _, h => by cases h
  | (b, J) :: L, lo, h, hl, g => by
    have h : ((List.range (b - lo)).all (fun t => ile J.1 (f c (lo + t)) && ile (f c (lo + t)) J.2) && gck f c b L) = true := h
    rw [Bool.and_eq_true, List.all_eq_true] at h
    unfold gAt at g
    cases hb : Nat.blt j b with
    | true =>
      rw [hb, cond_true] at g
      cases g
      have hb : j + 1 ≤ b := Nat.le_of_ble_eq_true hb
      have := h.1 (j - lo) (List.mem_range.2 (by omega))
      rw [show lo + (j - lo) = j by omega, Bool.and_eq_true, ile_iff, ile_iff] at this
      exact this
    | false =>
      rw [hb, cond_false] at g
      have : b ≤ j := by
        rcases Nat.lt_or_ge j b with k | k
        · have : Nat.blt j b = true := Nat.ble_eq_true_of_le k
          rw [this] at hb; cases hb
        · exact k
      exact gck_ok h.2 this g
def gz0 : List (Nat × aI) → Bool := fun L => L.all (fun r => ile r.2.1 0 && ile 0 r.2.2)
theorem gz0_ok {j : Nat} {I : aI} : ∀ {L : List (Nat × aI)}, gz0 L = true → gAt L j = some I → aIn I 0
  | [], _, h => by cases h
  | (b, J) :: L, h, g => by
    have h : ((ile J.1 0 && ile 0 J.2) && gz0 L) = true := h
    simp only [Bool.and_eq_true, ile_iff] at h
    unfold gAt at g
    cases hb : Nat.blt j b with
    | true =>
      rw [hb, cond_true] at g
      cases g
      exact h.1
    | false =>
      rw [hb, cond_false] at g
      exact gz0_ok h.2 g
def zspec (c : Nat) : Bool := Nat.beq c 2 || Nat.beq c 8 || Nat.beq c 14 || Nat.beq c 46 || Nat.beq c 50 || Nat.beq c 51 || Nat.beq c 74
theorem zF0_o {c : Nat} (h : zspec c = false) (j : Nat) : zF0 c j = 0 := by
  unfold zspec at h
  simp only [Bool.or_eq_false_iff] at h
  have k : ∀ {n : Nat}, Nat.beq c n = false → ¬ c = n := fun h e => by rw [e, Nat.beq_refl] at h; cases h
  have k2 := k h.1.1.1.1.1.1
  have k8 := k h.1.1.1.1.1.2
  have k14 := k h.1.1.1.1.2
  have k46 := k h.1.1.1.2
  have k50 := k h.1.1.2
  have k51 := k h.1.2
  have k74 := k h.2
  simp only [zF0, zup, k2, k8, k14, k46, k50, k51, k74, if_false]
def zZ0 : List (Nat × List (Nat × aI)) := [(1000, [(100000, (.negSucc 2147483647, .ofNat 2147483647))]), (1001, [(1, (.ofNat 0, .ofNat 3072))]),
  (1, [(1, (.ofNat 0, .ofNat 0)), (2, (.ofNat 0, .ofNat 0)), (3, (.ofNat 0, .ofNat 0)), (4, (.ofNat 0, .ofNat 0)), (5, (.ofNat 0, .ofNat 0)), (6, (.ofNat 0, .ofNat 0)), (7, (.ofNat 0, .ofNat 0))]),
  (2, [(24, (.ofNat 0, .ofNat 0)), (30, (.ofNat 0, .ofNat 0)), (37, (.ofNat 0, .ofNat 0)), (44, (.ofNat 0, .ofNat 0)), (51, (.ofNat 0, .ofNat 0)), (55, (.ofNat 100, .ofNat 100)), (59, (.ofNat 0, .ofNat 0)), (60, (.ofNat 0, .ofNat 0))]),
  (50, [(1, (.ofNat 0, .ofNat 0)), (2, (.ofNat 0, .ofNat 0)), (3, (.ofNat 0, .ofNat 0)), (4, (.ofNat 0, .ofNat 0)), (5, (.ofNat 0, .ofNat 0)), (6, (.ofNat 0, .ofNat 0)), (7, (.ofNat 0, .ofNat 0)), (8, (.ofNat 0, .ofNat 0)), (9, (.ofNat 0, .ofNat 0)), (10, (.ofNat 0, .ofNat 0)), (11, (.ofNat 0, .ofNat 0)), (12, (.ofNat 0, .ofNat 0)), (13, (.negSucc 0, .negSucc 0)), (14, (.ofNat 0, .ofNat 0)), (15, (.ofNat 0, .ofNat 0)), (16, (.ofNat 0, .ofNat 0)), (17, (.ofNat 0, .ofNat 0)), (18, (.ofNat 0, .ofNat 0)), (19, (.ofNat 0, .ofNat 0)), (20, (.ofNat 0, .ofNat 0)), (21, (.ofNat 0, .ofNat 0)), (22, (.ofNat 0, .ofNat 0)), (23, (.ofNat 0, .ofNat 0)), (24, (.ofNat 0, .ofNat 0)), (25, (.ofNat 0, .ofNat 0)), (26, (.ofNat 0, .ofNat 0)), (27, (.ofNat 0, .ofNat 0)), (28, (.ofNat 0, .ofNat 0)), (29, (.ofNat 0, .ofNat 0)), (30, (.ofNat 0, .ofNat 0)), (31, (.ofNat 0, .ofNat 0)), (32, (.ofNat 0, .ofNat 0)), (33, (.ofNat 0, .ofNat 0)), (34, (.ofNat 0, .ofNat 0)), (35, (.ofNat 0, .ofNat 0)), (36, (.ofNat 0, .ofNat 0)), (37, (.ofNat 0, .ofNat 0)), (38, (.ofNat 0, .ofNat 0)), (39, (.ofNat 0, .ofNat 0)), (40, (.ofNat 0, .ofNat 0)), (41, (.ofNat 0, .ofNat 0)), (42, (.ofNat 0, .ofNat 0)), (43, (.ofNat 0, .ofNat 0)), (44, (.ofNat 0, .ofNat 0)), (45, (.ofNat 0, .ofNat 0)), (46, (.ofNat 0, .ofNat 0)), (47, (.ofNat 0, .ofNat 0)), (48, (.ofNat 0, .ofNat 0)), (49, (.ofNat 0, .ofNat 0)), (50, (.ofNat 0, .ofNat 0))]),
  (51, [(24, (.ofNat 0, .ofNat 0)), (30, (.ofNat 0, .ofNat 0)), (37, (.ofNat 0, .ofNat 0)), (44, (.ofNat 0, .ofNat 0)), (51, (.ofNat 0, .ofNat 0)), (55, (.ofNat 100, .ofNat 100)), (59, (.ofNat 0, .ofNat 0)), (60, (.ofNat 0, .ofNat 0))]),
  (0, [(1, (.ofNat 0, .ofNat 0)), (2, (.ofNat 0, .ofNat 0)), (3, (.ofNat 0, .ofNat 0)), (4, (.ofNat 0, .ofNat 0)), (5, (.ofNat 0, .ofNat 0)), (6, (.ofNat 0, .ofNat 0)), (7, (.ofNat 0, .ofNat 0)), (8, (.ofNat 0, .ofNat 0)), (9, (.ofNat 0, .ofNat 0)), (10, (.ofNat 0, .ofNat 0)), (11, (.ofNat 0, .ofNat 0)), (12, (.ofNat 0, .ofNat 0)), (13, (.ofNat 0, .ofNat 0))]),
  (45, [(1, (.ofNat 0, .ofNat 0)), (2, (.ofNat 0, .ofNat 0)), (3, (.ofNat 0, .ofNat 0)), (4, (.ofNat 0, .ofNat 0))]),
  (46, [(6, (.negSucc 1, .negSucc 1))]),
  (48, [(6, (.ofNat 0, .ofNat 0))]),
  (49, [(360, (.ofNat 0, .ofNat 0))]),
  (74, [(6, (.negSucc 0, .negSucc 0))]),
  (75, [(6, (.ofNat 0, .ofNat 0))]),
  (76, [(360, (.ofNat 0, .ofNat 0))]),
  (7, [(1, (.ofNat 0, .ofNat 0)), (2, (.ofNat 0, .ofNat 0)), (3, (.ofNat 0, .ofNat 0)), (4, (.ofNat 0, .ofNat 0)), (5, (.ofNat 0, .ofNat 0)), (6, (.ofNat 0, .ofNat 0)), (7, (.ofNat 0, .ofNat 0))]),
  (8, [(24, (.ofNat 0, .ofNat 0)), (30, (.ofNat 0, .ofNat 0)), (37, (.ofNat 0, .ofNat 0)), (44, (.ofNat 0, .ofNat 0)), (51, (.ofNat 0, .ofNat 0)), (55, (.ofNat 100, .ofNat 100)), (59, (.ofNat 0, .ofNat 0)), (60, (.ofNat 0, .ofNat 0))]),
  (19, [(1, (.ofNat 0, .ofNat 0)), (2, (.ofNat 0, .ofNat 0)), (3, (.ofNat 0, .ofNat 0)), (4, (.ofNat 0, .ofNat 0)), (5, (.ofNat 0, .ofNat 0)), (6, (.ofNat 0, .ofNat 0))]),
  (22, [(1, (.ofNat 0, .ofNat 0)), (2, (.ofNat 0, .ofNat 0)), (3, (.ofNat 0, .ofNat 0)), (4, (.ofNat 0, .ofNat 0)), (5, (.ofNat 0, .ofNat 0))]),
  (42, [(1, (.ofNat 0, .ofNat 0)), (2, (.ofNat 0, .ofNat 0)), (3, (.ofNat 0, .ofNat 0)), (4, (.ofNat 0, .ofNat 0))]),
  (3, [(168, (.ofNat 0, .ofNat 0))]),
  (4, [(7, (.ofNat 0, .ofNat 0))]),
  (5, [(6, (.ofNat 0, .ofNat 0))]),
  (6, [(24, (.ofNat 0, .ofNat 0))]),
  (9, [(168, (.ofNat 0, .ofNat 0))]),
  (10, [(7, (.ofNat 0, .ofNat 0))]),
  (11, [(6, (.ofNat 0, .ofNat 0))]),
  (12, [(24, (.ofNat 0, .ofNat 0))]),
  (13, [(1, (.ofNat 0, .ofNat 0)), (2, (.ofNat 0, .ofNat 0)), (3, (.ofNat 0, .ofNat 0)), (4, (.ofNat 0, .ofNat 0)), (5, (.ofNat 0, .ofNat 0)), (6, (.ofNat 0, .ofNat 0)), (7, (.ofNat 0, .ofNat 0))]),
  (14, [(24, (.ofNat 0, .ofNat 0)), (30, (.ofNat 0, .ofNat 0)), (37, (.ofNat 0, .ofNat 0)), (44, (.ofNat 0, .ofNat 0)), (51, (.ofNat 0, .ofNat 0)), (55, (.ofNat 100, .ofNat 100)), (59, (.ofNat 0, .ofNat 0)), (60, (.ofNat 0, .ofNat 0))]),
  (15, [(168, (.ofNat 0, .ofNat 0))]),
  (16, [(7, (.ofNat 0, .ofNat 0))]),
  (17, [(6, (.ofNat 0, .ofNat 0))]),
  (18, [(24, (.ofNat 0, .ofNat 0))]),
  (20, [(120, (.ofNat 0, .ofNat 0))]),
  (21, [(121, (.ofNat 0, .ofNat 0))]),
  (23, [(121, (.ofNat 0, .ofNat 0))]),
  (24, [(6, (.ofNat 0, .ofNat 0))]),
  (25, [(120, (.ofNat 0, .ofNat 0))]),
  (26, [(1, (.ofNat 0, .ofNat 0)), (2, (.ofNat 0, .ofNat 0)), (3, (.ofNat 0, .ofNat 0)), (4, (.ofNat 0, .ofNat 0)), (5, (.ofNat 0, .ofNat 0))]),
  (27, [(40, (.ofNat 0, .ofNat 0))]),
  (28, [(40, (.ofNat 0, .ofNat 0))]),
  (29, [(40, (.ofNat 0, .ofNat 0))]),
  (30, [(1, (.ofNat 0, .ofNat 0)), (2, (.ofNat 0, .ofNat 0))]),
  (31, [(128, (.ofNat 0, .ofNat 0))]),
  (32, [(896, (.ofNat 0, .ofNat 0))]),
  (33, [(1, (.ofNat 0, .ofNat 0)), (2, (.ofNat 0, .ofNat 0)), (3, (.ofNat 0, .ofNat 0)), (4, (.ofNat 0, .ofNat 0)), (5, (.ofNat 0, .ofNat 0)), (6, (.ofNat 0, .ofNat 0))]),
  (34, [(6, (.ofNat 0, .ofNat 0))]),
  (35, [(42, (.ofNat 0, .ofNat 0))]),
  (36, [(7, (.ofNat 0, .ofNat 0))]),
  (37, [(7, (.ofNat 0, .ofNat 0))]),
  (38, [(1, (.ofNat 0, .ofNat 0)), (2, (.ofNat 0, .ofNat 0)), (3, (.ofNat 0, .ofNat 0)), (4, (.ofNat 0, .ofNat 0))]),
  (39, [(28, (.ofNat 0, .ofNat 0))]),
  (40, [(1, (.ofNat 0, .ofNat 0)), (2, (.ofNat 0, .ofNat 0))]),
  (41, [(14, (.ofNat 0, .ofNat 0))]),
  (43, [(50, (.ofNat 0, .ofNat 0))]),
  (44, [(24, (.ofNat 0, .ofNat 0))]),
  (47, [(6, (.ofNat 0, .ofNat 0))]),
  (52, [(40, (.ofNat 0, .ofNat 0))]),
  (53, [(40, (.ofNat 0, .ofNat 0))]),
  (54, [(40, (.ofNat 0, .ofNat 0))]),
  (55, [(168, (.ofNat 0, .ofNat 0))]),
  (56, [(120, (.ofNat 0, .ofNat 0))]),
  (57, [(120, (.ofNat 0, .ofNat 0))]),
  (58, [(6, (.ofNat 0, .ofNat 0))]),
  (59, [(168, (.ofNat 0, .ofNat 0))]),
  (60, [(6, (.ofNat 0, .ofNat 0))]),
  (61, [(4, (.ofNat 0, .ofNat 0))]),
  (62, [(24, (.ofNat 0, .ofNat 0))]),
  (63, [(7, (.ofNat 0, .ofNat 0))]),
  (64, [(896, (.ofNat 0, .ofNat 0))]),
  (65, [(7, (.ofNat 0, .ofNat 0))]),
  (66, [(7, (.ofNat 0, .ofNat 0))]),
  (67, [(7, (.ofNat 0, .ofNat 0))]),
  (68, [(6, (.ofNat 0, .ofNat 0))]),
  (69, [(24, (.ofNat 0, .ofNat 0)), (30, (.ofNat 0, .ofNat 0)), (37, (.ofNat 0, .ofNat 0)), (44, (.ofNat 0, .ofNat 0)), (51, (.ofNat 0, .ofNat 0)), (55, (.ofNat 0, .ofNat 0)), (59, (.ofNat 0, .ofNat 0)), (60, (.ofNat 0, .ofNat 0))]),
  (70, [(168, (.ofNat 0, .ofNat 0))]),
  (71, [(6, (.ofNat 0, .ofNat 0))]),
  (72, [(50, (.ofNat 0, .ofNat 0))]),
  (73, [(24, (.ofNat 0, .ofNat 0))]),
  (77, [(60, (.ofNat 0, .ofNat 0))])]
def zG0 : aG := gOv zZ0 (fun _ => [])
def zzk (q : Nat × List (Nat × aI)) : Bool := bif Nat.beq q.1 1000 then gSub [(100000, aF32)] q.2 else bif Nat.beq q.1 1001 then gSub [(1, (.ofNat 0, .ofNat 3072))] q.2 else Nat.blt q.1 1000 && (bif zspec q.1 then gck zF0 q.1 0 q.2 else gz0 q.2)
set_option maxRecDepth 100000 in
theorem zZ0_k : zZ0.all zzk = true := by decide +kernel
theorem zG0_ok {sc : zC} (hL : sc.1 ≤ 3072) (hs : ∀ j, zIn (sc.2 j)) : aGok zG0 (afx sc zF0) := by
  intro c j I hI
  unfold zG0 gOv at hI
  split at hI
  next r hr =>
    have hm := glk_ok hr
    have h := List.all_eq_true.1 zZ0_k _ hm
    unfold zzk at h
    dsimp only at h
    cases h1 : Nat.beq c 1000 with
    | true =>
      rw [h1, cond_true] at h
      obtain ⟨K, k1, k2⟩ := gSub_ok h hI
      unfold gAt at k1
      cases hb : Nat.blt j 100000 with
      | true =>
        rw [hb, cond_true] at k1
        cases k1
        refine asub_ok k2 (aF32_ok.2 ?_)
        unfold afx
        rw [h1, cond_true]
        exact hs j
      | false => rw [hb] at k1; cases k1
    | false =>
      rw [h1, cond_false] at h
      cases h2 : Nat.beq c 1001 with
      | true =>
        rw [h2, cond_true] at h
        obtain ⟨K, k1, k2⟩ := gSub_ok h hI
        unfold gAt at k1
        cases hb : Nat.blt j 1 with
        | true =>
          rw [hb, cond_true] at k1
          cases k1
          refine asub_ok k2 ?_
          unfold afx
          rw [h1, h2, cond_false, cond_true]
          show (0 : Int) ≤ (sc.1 : Int) ∧ (sc.1 : Int) ≤ 3072
          omega
        | false => rw [hb] at k1; cases k1
      | false =>
        rw [h2, cond_false, Bool.and_eq_true] at h
        have hc : c + 1 ≤ 1000 := Nat.le_of_ble_eq_true h.1
        rw [afx_lt (by omega)]
        have h3 := h.2
        cases hsp : zspec c with
        | true =>
          rw [hsp, cond_true] at h3
          exact gck_ok h3 (Nat.zero_le _) hI
        | false =>
          rw [hsp, cond_false] at h3
          rw [zF0_o hsp]
          exact gz0_ok h3 hI
  next => cases hI
/-- the law's locals, its facts -/
def zLV : aL := [(0, .inr (.inr (.inr (.inr 5)))), (1, .inr (.inr (.inr (.inl 0)))), (2, .inr (.inr (.inr (.inl 50)))), (3, .inl (0, .ofNat 0))]
def zQ1 : zQ := fun r _ _ => r = some (zI 1)
def zR1 : aR := fun r S => match r with
  | some (.inl v) => (match aiv S.1 v with
    | some I => ieq I.1 1 && ieq I.2 1
    | none => false)
  | _ => false
theorem zR1_ok {G : aG} {W : List (Nat × Nat)} {sc : zC} {f0 : zF} {n : Nat} {ρ : Nat → Int} : aHR G W sc f0 zQ1 zR1 n ρ := by
  intro r S ρ' f h ok _ _
  unfold zR1 at h
  split at h
  next v =>
    split at h
    next I hI =>
      rw [Bool.and_eq_true, ieq_iff, ieq_iff] at h
      have := aiv_ok ok.2.1 hI
      unfold aIn at this
      show some (zI (aev ρ' v)) = some (zI 1)
      rw [show aev ρ' v = 1 by omega]
    next => cases h
  next => cases h
theorem zlaw_case {sc : zC} {G : aG} {W : List (Nat × Nat)} {sums : List aSum} {inl : Nat → Bool} {spl : aX} {fuel pc : Nat} {N : List aI} {fs : List (aK × aA)} (ρ : Nat → Int) (h0 : ρ 0 = 0) (hN : aNm ρ N) (hF : aFa sc ρ zF0 fs) (hG : aGok G (afx sc zF0)) (hs : ∀ s ∈ sums, aSumOk G s) (h : aRun G W sums inl spl fuel (fun _ _ _ _ => none) 40 0 true pc [] zLV (N, ([], ([], fs))) zR1 = true) : zR sc 40 0 pc [] [(0, zS 5), (1, zP 0), (2, zP 50), (3, zI 0)] 78 5571 zSH zF0 zQ1 := by
  have := aRun_ok (f0 := zF0) (ρ := ρ) (kc := 78) (ks := 5571) (Q := zQ1) (sc := sc) (f := zF0) hs fuel h ⟨h0, hN, (fun i hi => by cases hi), (fun t ht => by cases ht), hF, hG, (fun c j _ => rfl)⟩ (fun _ _ _ _ _ _ g => by cases g) zR1_ok
  have e : aML ρ zLV = [(0, zS 5), (1, zP 0), (2, zP 50), (3, zI 0)] := by
    show [(0, zS 5), (1, zP 0), (2, zP 50), (3, zI (aev ρ (0, 0)))] = _
    rw [aev_c h0]
  rw [e] at this
  exact this
def zfk (q : aK × aA) : Bool := (Nat.beq q.1.2.1 0 && Nat.beq q.2.1 0) && (ile 0 q.1.2.2 && (bif Nat.beq q.1.1 1001 then ieq q.1.2.2 0 && ieq q.2.2 6 else Nat.blt q.1.1 1000 && ieq (zF0 q.1.1 q.1.2.2.toNat) q.2.2))
theorem zfk_ok {sc : zC} (h6 : sc.1 = 6) {ρ : Nat → Int} (h0 : ρ 0 = 0) {fs : List (aK × aA)} (h : fs.all zfk = true) : aFa sc ρ zF0 fs := by
  intro q hq
  have k := List.all_eq_true.1 h q hq
  obtain ⟨⟨c, i, o⟩, n, v⟩ := q
  unfold zfk at k
  simp only [Bool.and_eq_true] at k
  obtain ⟨⟨k1, k2⟩, k3, k4⟩ := k
  have k1 : i = 0 := Nat.eq_of_beq_eq_true k1
  have k2 : n = 0 := Nat.eq_of_beq_eq_true k2
  subst k1
  subst k2
  show 0 ≤ aev ρ (0, o) ∧ afx sc zF0 c (aev ρ (0, o)).toNat = aev ρ (0, v)
  rw [aev_c h0, aev_c h0]
  refine ⟨ile_iff.1 k3, ?_⟩
  cases hb : Nat.beq c 1001 with
  | true =>
    rw [hb, cond_true, Bool.and_eq_true, ieq_iff, ieq_iff] at k4
    have := Nat.eq_of_beq_eq_true hb
    subst this
    have k5 : o = 0 := k4.1
    have k6 : v = 6 := k4.2
    subst k5
    subst k6
    show (sc.1 : Int) = 6
    omega
  | false =>
    rw [hb, cond_false, Bool.and_eq_true, ieq_iff] at k4
    have : c + 1 ≤ 1000 := Nat.le_of_ble_eq_true k4.1
    rw [afx_lt (by omega)]
    exact k4.2
/-- a case, the cells as they are at first -/
theorem zlaw_c {sc : zC} (h6 : sc.1 = 6) (hs : ∀ j, zIn (sc.2 j)) {L : List (Nat × List (Nat × aI))} {W : List (Nat × Nat)} {sums : List aSum} {spl : aX} {inl : Nat → Bool} {fuel pc : Nat} {fs : List (aK × aA)} (hL : gOvk L zG0 = true) (hS : ∀ s ∈ sums, aSumOk (gOv L zG0) s) (hf : fs.all zfk = true) (h : aRun (gOv L zG0) W sums inl spl fuel (fun _ _ _ _ => none) 40 0 true pc [] zLV ([(.ofNat 0, .ofNat 0)], ([], ([], fs))) zR1 = true) : zR sc 40 0 pc [] [(0, zS 5), (1, zP 0), (2, zP 50), (3, zI 0)] 78 5571 zSH zF0 zQ1 := by
  refine zlaw_case (fun _ => 0) rfl ?_ (zfk_ok h6 (ρ := fun _ => 0) rfl hf) (gOv_ok hL (zG0_ok (by omega) hs)) hS h
  intro i I hI
  match i with
  | 0 =>
    simp only [List.getElem?_cons_zero, Option.some.injEq] at hI
    subst hI
    exact ⟨Int.le_refl _, Int.le_refl _⟩
  | i + 1 => simp at hI
theorem zm0 {G : aG} : ∀ s ∈ ([] : List aSum), aSumOk G s := fun s hs => by cases hs
theorem zmc {G : aG} {s : aSum} {L : List aSum} (h : aSumOk G s) (g : ∀ t ∈ L, aSumOk G t) : ∀ t ∈ s :: L, aSumOk G t := fun t ht => by
  rcases List.mem_cons.1 ht with rfl | ht
  · exact h
  · exact g t ht
def zAllW : List (Nat × Nat) := [(0, 999), (1, 999), (2, 999), (3, 999), (4, 999), (5, 999), (6, 999), (7, 999), (8, 999), (9, 999), (10, 999), (11, 999), (12, 999), (13, 999), (14, 999), (15, 999), (16, 999), (17, 999), (18, 999), (19, 999), (20, 999), (21, 999), (22, 999), (23, 999), (24, 999), (25, 999), (26, 999), (27, 999), (28, 999), (29, 999), (30, 999), (31, 999), (32, 999), (33, 999), (34, 999), (35, 999), (36, 999), (37, 999), (38, 999), (39, 999), (40, 999), (41, 999), (42, 999), (43, 999), (44, 999), (45, 999), (46, 999), (47, 999), (48, 999), (49, 999), (50, 999), (51, 999), (52, 999), (53, 999), (54, 999), (55, 999), (56, 999), (57, 999), (58, 999), (59, 999), (60, 999), (61, 999), (62, 999), (63, 999), (64, 999), (65, 999), (66, 999), (67, 999), (68, 999), (69, 999), (70, 999), (71, 999), (72, 999), (73, 999), (74, 999), (75, 999), (76, 999), (77, 999)]
def zfun (L : List Nat) : Nat → Bool := fun j => !(L.any (Nat.beq j))
def zspl (L : List ((Nat × Nat) × ((Nat ⊕ (Nat × Nat)) × List Int))) : aX := fun mi pc => match L.find? (fun q => Nat.beq q.1.1 mi && Nat.beq q.1.2 pc) with
  | some q => some q.2
  | none => none
