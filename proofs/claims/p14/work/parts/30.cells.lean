noncomputable section
/-! bounds of all cells -/
def gck (f : zF) (c : Nat) : Nat → List (Nat × aI) → Bool
  | _, [] => true
  | lo, (b, I) :: L => (List.range (b - lo)).all (fun t => ile I.1 (f c (lo + t)) && ile (f c (lo + t)) I.2) && gck f c b L
theorem gck_ok {f : zF} {c j : Nat} {I : aI} : ∀ {L : List (Nat × aI)} {lo : Nat}, gck f c lo L = true → lo ≤ j → gAt L j = some I → aIn I (f c j)
  | [], _, _, _, h => by cases h
  | (b, J) :: L, lo, h, hl, g => by
    have h : ((List.range (b - lo)).all (fun t => ile J.1 (f c (lo + t)) && ile (f c (lo + t)) J.2) && gck f c b L) = true := h
    rw [Bool.and_eq_true, List.all_eq_true] at h
    unfold gAt at g
    cases hb : Nat.blt j b with
    | true =>
      rw [hb, cond_true] at g
      cases g
      have hb : j + 1 ≤ b := Nat.le_of_ble_eq_true hb
      have := h.1 (j - lo) (List.mem_range.2 (by omega))
      rw [show lo + (j - lo) = j by omega, Bool.and_eq_true, ile_iff, ile_iff] at this
      exact this
    | false =>
      rw [hb, cond_false] at g
      have : b ≤ j := by
        rcases Nat.lt_or_ge j b with k | k
        · have : Nat.blt j b = true := Nat.ble_eq_true_of_le k
          rw [this] at hb; cases hb
        · exact k
      exact gck_ok h.2 this g
def gz0 : List (Nat × aI) → Bool := fun L => L.all (fun r => ile r.2.1 0 && ile 0 r.2.2)
theorem gz0_ok {j : Nat} {I : aI} : ∀ {L : List (Nat × aI)}, gz0 L = true → gAt L j = some I → aIn I 0
  | [], _, h => by cases h
  | (b, J) :: L, h, g => by
    have h : ((ile J.1 0 && ile 0 J.2) && gz0 L) = true := h
    simp only [Bool.and_eq_true, ile_iff] at h
    unfold gAt at g
    cases hb : Nat.blt j b with
    | true =>
      rw [hb, cond_true] at g
      cases g
      exact h.1
    | false =>
      rw [hb, cond_false] at g
      exact gz0_ok h.2 g
def zspec (c : Nat) : Bool := Nat.beq c 2 || Nat.beq c 8 || Nat.beq c 14 || Nat.beq c 46 || Nat.beq c 50 || Nat.beq c 51 || Nat.beq c 74
theorem zF0_o {c : Nat} (h : zspec c = false) (j : Nat) : zF0 c j = 0 := by
  unfold zspec at h
  simp only [Bool.or_eq_false_iff] at h
  have k : ∀ {n : Nat}, Nat.beq c n = false → ¬ c = n := fun h e => by rw [e, Nat.beq_refl] at h; cases h
  have k2 := k h.1.1.1.1.1.1
  have k8 := k h.1.1.1.1.1.2
  have k14 := k h.1.1.1.1.2
  have k46 := k h.1.1.1.2
  have k50 := k h.1.1.2
  have k51 := k h.1.2
  have k74 := k h.2
  simp only [zF0, zup, k2, k8, k14, k46, k50, k51, k74, if_false]
def wG : aG := fun c => bif Nat.blt c 78 then (bif Nat.blt c 39 then (bif Nat.blt c 19 then (bif Nat.blt c 9 then (bif Nat.blt c 4 then (bif Nat.blt c 2 then (bif Nat.blt c 1 then ([(1, (.negSucc 2147483647, .ofNat 2147483647)), (2, (.negSucc 2147483647, .ofNat 2147483647)), (3, (.negSucc 2147483647, .ofNat 2147483647)), (4, (.ofNat 0, .ofNat 1)), (5, (.negSucc 2147483647, .ofNat 2147483647)), (6, (.negSucc 2147483647, .ofNat 2147483647)), (7, (.negSucc 2147483647, .ofNat 2147483647)), (8, (.negSucc 2147483647, .ofNat 2147483647)), (9, (.negSucc 2147483647, .ofNat 2147483647)), (10, (.negSucc 2147483647, .ofNat 2147483647)), (11, (.negSucc 2147483647, .ofNat 2147483647)), (12, (.negSucc 2147483647, .ofNat 2147483647)), (13, (.negSucc 2147483647, .ofNat 2147483647))]) else ([(1, (.ofNat 0, .ofNat 6)), (2, (.ofNat 0, .ofNat 7)), (3, (.negSucc 2147483647, .ofNat 2147483647)), (4, (.negSucc 2147483647, .ofNat 2147483647)), (5, (.negSucc 2147483647, .ofNat 2147483647)), (6, (.negSucc 2147483647, .ofNat 2147483647)), (7, (.negSucc 2147483647, .ofNat 2147483647))])) else (bif Nat.blt c 3 then ([(37, (.negSucc 2147483647, .ofNat 2147483647)), (44, (.ofNat 0, .ofNat 3)), (60, (.negSucc 2147483647, .ofNat 2147483647))]) else ([(168, (.negSucc 2147483647, .ofNat 2147483647))]))) else (bif Nat.blt c 6 then (bif Nat.blt c 5 then ([(7, (.negSucc 2147483647, .ofNat 2147483647))]) else ([(6, (.negSucc 2147483647, .ofNat 2147483647))])) else (bif Nat.blt c 7 then ([(24, (.negSucc 2147483647, .ofNat 2147483647))]) else (bif Nat.blt c 8 then ([(1, (.ofNat 0, .ofNat 6)), (2, (.ofNat 0, .ofNat 7)), (3, (.negSucc 2147483647, .ofNat 2147483647)), (4, (.negSucc 2147483647, .ofNat 2147483647)), (5, (.negSucc 2147483647, .ofNat 2147483647)), (6, (.negSucc 2147483647, .ofNat 2147483647)), (7, (.negSucc 2147483647, .ofNat 2147483647))]) else ([(37, (.negSucc 2147483647, .ofNat 2147483647)), (44, (.ofNat 0, .ofNat 3)), (60, (.negSucc 2147483647, .ofNat 2147483647))]))))) else (bif Nat.blt c 14 then (bif Nat.blt c 11 then (bif Nat.blt c 10 then ([(168, (.negSucc 2147483647, .ofNat 2147483647))]) else ([(7, (.negSucc 2147483647, .ofNat 2147483647))])) else (bif Nat.blt c 12 then ([(6, (.negSucc 2147483647, .ofNat 2147483647))]) else (bif Nat.blt c 13 then ([(24, (.negSucc 2147483647, .ofNat 2147483647))]) else ([(1, (.ofNat 0, .ofNat 6)), (2, (.ofNat 0, .ofNat 7)), (3, (.negSucc 2147483647, .ofNat 2147483647)), (4, (.negSucc 2147483647, .ofNat 2147483647)), (5, (.negSucc 2147483647, .ofNat 2147483647)), (6, (.negSucc 2147483647, .ofNat 2147483647)), (7, (.negSucc 2147483647, .ofNat 2147483647))])))) else (bif Nat.blt c 16 then (bif Nat.blt c 15 then ([(37, (.negSucc 2147483647, .ofNat 2147483647)), (44, (.ofNat 0, .ofNat 3)), (60, (.negSucc 2147483647, .ofNat 2147483647))]) else ([(168, (.negSucc 2147483647, .ofNat 2147483647))])) else (bif Nat.blt c 17 then ([(7, (.negSucc 2147483647, .ofNat 2147483647))]) else (bif Nat.blt c 18 then ([(6, (.negSucc 2147483647, .ofNat 2147483647))]) else ([(24, (.negSucc 2147483647, .ofNat 2147483647))])))))) else (bif Nat.blt c 29 then (bif Nat.blt c 24 then (bif Nat.blt c 21 then (bif Nat.blt c 20 then ([(1, (.negSucc 2147483647, .ofNat 2147483647)), (2, (.ofNat 0, .ofNat 120)), (3, (.negSucc 2147483647, .ofNat 2147483647)), (4, (.ofNat 0, .ofNat 121)), (5, (.negSucc 2147483647, .ofNat 2147483647)), (6, (.ofNat 0, .ofNat 6))]) else ([(120, (.negSucc 2147483647, .ofNat 2147483647))])) else (bif Nat.blt c 22 then ([(121, (.negSucc 2147483647, .ofNat 2147483647))]) else (bif Nat.blt c 23 then ([(1, (.negSucc 2147483647, .ofNat 2147483647)), (2, (.ofNat 0, .ofNat 121)), (3, (.negSucc 2147483647, .ofNat 2147483647)), (4, (.negSucc 2147483647, .ofNat 2147483647)), (5, (.ofNat 0, .ofNat 120))]) else ([(121, (.negSucc 2147483647, .ofNat 2147483647))])))) else (bif Nat.blt c 26 then (bif Nat.blt c 25 then ([(6, (.negSucc 2147483647, .ofNat 2147483647))]) else ([(120, (.negSucc 2147483647, .ofNat 2147483647))])) else (bif Nat.blt c 27 then ([(1, (.negSucc 2147483647, .ofNat 2147483647)), (2, (.negSucc 2147483647, .ofNat 2147483647)), (3, (.negSucc 2147483647, .ofNat 2147483647)), (4, (.ofNat 0, .ofNat 40)), (5, (.ofNat 0, .ofNat 40))]) else (bif Nat.blt c 28 then ([(40, (.ofNat 0, .ofNat 59))]) else ([(40, (.negSucc 2147483647, .ofNat 2147483647))]))))) else (bif Nat.blt c 34 then (bif Nat.blt c 31 then (bif Nat.blt c 30 then ([(40, (.negSucc 2147483647, .ofNat 2147483647))]) else ([(1, (.negSucc 2147483647, .ofNat 2147483647)), (2, (.negSucc 2147483647, .ofNat 2147483647))])) else (bif Nat.blt c 32 then ([(128, (.negSucc 2147483647, .ofNat 2147483647))]) else (bif Nat.blt c 33 then ([(896, (.negSucc 2147483647, .ofNat 2147483647))]) else ([(1, (.ofNat 0, .ofNat 6)), (2, (.ofNat 0, .ofNat 7)), (3, (.negSucc 2147483647, .ofNat 2147483647)), (4, (.negSucc 2147483647, .ofNat 2147483647)), (5, (.negSucc 2147483647, .ofNat 2147483647)), (6, (.negSucc 2147483647, .ofNat 2147483647))])))) else (bif Nat.blt c 36 then (bif Nat.blt c 35 then ([(6, (.negSucc 2147483647, .ofNat 2147483647))]) else ([(42, (.negSucc 2147483647, .ofNat 2147483647))])) else (bif Nat.blt c 37 then ([(7, (.negSucc 2147483647, .ofNat 2147483647))]) else (bif Nat.blt c 38 then ([(7, (.negSucc 2147483647, .ofNat 2147483647))]) else ([(1, (.negSucc 2147483647, .ofNat 2147483647)), (2, (.negSucc 2147483647, .ofNat 2147483647)), (3, (.negSucc 2147483647, .ofNat 2147483647)), (4, (.negSucc 2147483647, .ofNat 2147483647))]))))))) else (bif Nat.blt c 58 then (bif Nat.blt c 48 then (bif Nat.blt c 43 then (bif Nat.blt c 41 then (bif Nat.blt c 40 then ([(28, (.negSucc 2147483647, .ofNat 2147483647))]) else ([(1, (.negSucc 2147483647, .ofNat 2147483647)), (2, (.negSucc 2147483647, .ofNat 2147483647))])) else (bif Nat.blt c 42 then ([(14, (.negSucc 2147483647, .ofNat 2147483647))]) else ([(1, (.negSucc 2147483647, .ofNat 2147483647)), (2, (.ofNat 0, .ofNat 50)), (3, (.negSucc 2147483647, .ofNat 2147483647)), (4, (.ofNat 0, .ofNat 40))]))) else (bif Nat.blt c 45 then (bif Nat.blt c 44 then ([(50, (.ofNat 0, .ofNat 7))]) else ([(24, (.negSucc 2147483647, .ofNat 2147483647))])) else (bif Nat.blt c 46 then ([(1, (.negSucc 2147483647, .ofNat 2147483647)), (2, (.negSucc 2147483647, .ofNat 2147483647)), (3, (.negSucc 2147483647, .ofNat 2147483647)), (4, (.negSucc 2147483647, .ofNat 2147483647))]) else (bif Nat.blt c 47 then ([(6, (.negSucc 1, .ofNat 4))]) else ([(6, (.negSucc 0, .ofNat 49))]))))) else (bif Nat.blt c 53 then (bif Nat.blt c 50 then (bif Nat.blt c 49 then ([(6, (.ofNat 0, .ofNat 60))]) else ([(360, (.negSucc 9223372036854775807, .ofNat 9223372036854775807))])) else (bif Nat.blt c 51 then ([(1, (.negSucc 2147483647, .ofNat 2147483647)), (2, (.negSucc 2147483647, .ofNat 2147483647)), (3, (.negSucc 2147483647, .ofNat 2147483647)), (4, (.negSucc 2147483647, .ofNat 2147483647)), (5, (.ofNat 0, .ofNat 40)), (6, (.ofNat 0, .ofNat 40)), (7, (.ofNat 0, .ofNat 6)), (8, (.ofNat 0, .ofNat 7)), (9, (.negSucc 2147483647, .ofNat 2147483647)), (10, (.negSucc 2147483647, .ofNat 2147483647)), (11, (.ofNat 0, .ofNat 120)), (12, (.negSucc 2147483647, .ofNat 2147483647)), (13, (.negSucc 0, .ofNat 120)), (14, (.negSucc 0, .ofNat 0)), (15, (.ofNat 0, .ofNat 120)), (16, (.ofNat 0, .ofNat 120)), (17, (.negSucc 0, .ofNat 120)), (18, (.ofNat 0, .ofNat 6)), (19, (.negSucc 2147483647, .ofNat 2147483647)), (20, (.negSucc 2147483647, .ofNat 2147483647)), (21, (.negSucc 2147483647, .ofNat 2147483647)), (22, (.negSucc 2147483647, .ofNat 2147483647)), (23, (.negSucc 2147483647, .ofNat 2147483647)), (24, (.negSucc 2147483647, .ofNat 2147483647)), (25, (.negSucc 2147483647, .ofNat 2147483647)), (26, (.negSucc 2147483647, .ofNat 2147483647)), (27, (.negSucc 2147483647, .ofNat 2147483647)), (28, (.negSucc 2147483647, .ofNat 2147483647)), (29, (.negSucc 2147483647, .ofNat 2147483647)), (30, (.negSucc 2147483647, .ofNat 2147483647)), (31, (.negSucc 2147483647, .ofNat 2147483647)), (32, (.negSucc 2147483647, .ofNat 2147483647)), (33, (.negSucc 2147483647, .ofNat 2147483647)), (34, (.negSucc 2147483647, .ofNat 2147483647)), (35, (.ofNat 0, .ofNat 1)), (36, (.ofNat 0, .ofNat 6)), (37, (.ofNat 0, .ofNat 7)), (38, (.negSucc 2147483647, .ofNat 2147483647)), (39, (.negSucc 2147483647, .ofNat 2147483647)), (40, (.negSucc 2147483647, .ofNat 2147483647)), (41, (.ofNat 0, .ofNat 50)), (42, (.negSucc 2147483647, .ofNat 2147483647)), (43, (.negSucc 2147483647, .ofNat 2147483647)), (44, (.ofNat 0, .ofNat 40)), (45, (.ofNat 0, .ofNat 7)), (46, (.ofNat 0, .ofNat 49)), (47, (.negSucc 2147483647, .ofNat 2147483647)), (48, (.negSucc 2147483647, .ofNat 2147483647)), (49, (.negSucc 2147483647, .ofNat 2147483647)), (50, (.negSucc 2147483647, .ofNat 2147483647))]) else (bif Nat.blt c 52 then ([(37, (.negSucc 2147483647, .ofNat 2147483647)), (44, (.ofNat 0, .ofNat 3)), (60, (.negSucc 2147483647, .ofNat 2147483647))]) else ([(40, (.ofNat 0, .ofNat 59))])))) else (bif Nat.blt c 55 then (bif Nat.blt c 54 then ([(40, (.negSucc 2147483647, .ofNat 2147483647))]) else ([(40, (.negSucc 2147483647, .ofNat 2147483647))])) else (bif Nat.blt c 56 then ([(168, (.negSucc 2147483647, .ofNat 2147483647))]) else (bif Nat.blt c 57 then ([(120, (.negSucc 2147483647, .ofNat 2147483647))]) else ([(120, (.negSucc 2147483647, .ofNat 2147483647))])))))) else (bif Nat.blt c 68 then (bif Nat.blt c 63 then (bif Nat.blt c 60 then (bif Nat.blt c 59 then ([(6, (.negSucc 2147483647, .ofNat 2147483647))]) else ([(168, (.negSucc 2147483647, .ofNat 2147483647))])) else (bif Nat.blt c 61 then ([(6, (.negSucc 2147483647, .ofNat 2147483647))]) else (bif Nat.blt c 62 then ([(4, (.negSucc 2147483647, .ofNat 2147483647))]) else ([(24, (.negSucc 2147483647, .ofNat 2147483647))])))) else (bif Nat.blt c 65 then (bif Nat.blt c 64 then ([(7, (.negSucc 2147483647, .ofNat 2147483647))]) else ([(896, (.negSucc 2147483647, .ofNat 2147483647))])) else (bif Nat.blt c 66 then ([(7, (.negSucc 2147483647, .ofNat 2147483647))]) else (bif Nat.blt c 67 then ([(7, (.negSucc 2147483647, .ofNat 2147483647))]) else ([(7, (.negSucc 2147483647, .ofNat 2147483647))]))))) else (bif Nat.blt c 73 then (bif Nat.blt c 70 then (bif Nat.blt c 69 then ([(6, (.negSucc 2147483647, .ofNat 2147483647))]) else ([(37, (.negSucc 2147483647, .ofNat 2147483647)), (44, (.ofNat 0, .ofNat 3)), (60, (.negSucc 2147483647, .ofNat 2147483647))])) else (bif Nat.blt c 71 then ([(168, (.negSucc 2147483647, .ofNat 2147483647))]) else (bif Nat.blt c 72 then ([(6, (.negSucc 2147483647, .ofNat 2147483647))]) else ([(50, (.ofNat 0, .ofNat 7))])))) else (bif Nat.blt c 75 then (bif Nat.blt c 74 then ([(24, (.negSucc 2147483647, .ofNat 2147483647))]) else ([(6, (.negSucc 0, .ofNat 54))])) else (bif Nat.blt c 76 then ([(6, (.ofNat 0, .ofNat 60))]) else (bif Nat.blt c 77 then ([(360, (.negSucc 9223372036854775807, .ofNat 9223372036854775807))]) else ([(60, (.negSucc 9223372036854775807, .ofNat 9223372036854775807))])))))))) else bif Nat.beq c 1000 then [(100000, aF32)] else bif Nat.beq c 1001 then [(1, (.ofNat 0, .ofNat 3072))] else []
set_option maxRecDepth 100000 in
theorem wG_k : (List.range 78).all (fun c => bif zspec c then gck zF0 c 0 (wG c) else gz0 (wG c)) = true := by decide +kernel
theorem wG_0 {sc : zC} (hL : sc.1 ≤ 3072) (hs : ∀ j, zIn (sc.2 j)) : aGok wG (afx sc zF0) := by
  refine ⟨?_, fun j hj => ?_, fun j hj => ?_, ?_⟩
  rotate_left
  · have e : afx sc zF0 27 j = 0 := zF0_o (c := 27) rfl j
    unfold zcm
    rw [e]
    omega
  · have e : afx sc zF0 52 j = 0 := zF0_o (c := 52) rfl j
    unfold zcm
    rw [e]
    omega
  · exact Int.le_refl 0
  intro c j I hI
  by_cases hc : c < 78
  · have h := List.all_eq_true.1 wG_k c (List.mem_range.2 hc)
    rw [afx_lt (by omega)]
    cases hsp : zspec c with
    | true =>
      rw [hsp, cond_true] at h
      exact gck_ok h (Nat.zero_le _) hI
    | false =>
      rw [hsp, cond_false] at h
      rw [zF0_o hsp]
      exact gz0_ok h hI
  · have h0 : Nat.blt c 78 = false := by
      cases h : Nat.blt c 78 with
      | false => rfl
      | true =>
        have : c + 1 ≤ 78 := Nat.le_of_ble_eq_true h
        omega
    unfold wG at hI
    rw [h0, cond_false] at hI
    cases h1 : Nat.beq c 1000 with
    | true =>
      rw [h1, cond_true] at hI
      unfold gAt at hI
      cases hb : Nat.blt j 100000 with
      | true =>
        rw [hb, cond_true] at hI
        cases hI
        refine aF32_ok.2 ?_
        unfold afx
        rw [h1, cond_true]
        exact hs j
      | false => rw [hb] at hI; cases hI
    | false =>
      rw [h1, cond_false] at hI
      cases h2 : Nat.beq c 1001 with
      | true =>
        rw [h2, cond_true] at hI
        unfold gAt at hI
        cases hb : Nat.blt j 1 with
        | true =>
          rw [hb, cond_true] at hI
          cases hI
          unfold afx
          rw [h1, h2, cond_false, cond_true]
          show (0 : Int) ≤ (sc.1 : Int) ∧ (sc.1 : Int) ≤ 3072
          omega
        | false => rw [hb] at hI; cases hI
      | false => rw [h2] at hI; cases hI
theorem zm0 {G : aG} : ∀ s ∈ ([] : List aSum), aSumOk G s := fun s hs => by cases hs
theorem zmc {G : aG} {s : aSum} {L : List aSum} (h : aSumOk G s) (g : ∀ t ∈ L, aSumOk G t) : ∀ t ∈ s :: L, aSumOk G t := fun t ht => by
  rcases List.mem_cons.1 ht with rfl | ht
  · exact h
  · exact g t ht
def zfun (L : List Nat) : Nat → Bool := fun j => !(L.any (Nat.beq j))
def zspl (L : List ((Nat × Nat) × ((Nat ⊕ (Nat × Nat)) × List Int))) : aX := fun mi pc => match L.find? (fun q => Nat.beq q.1.1 mi && Nat.beq q.1.2 pc) with
  | some q => some q.2
  | none => none
/-- MaidsMemory$Changes note: by hand -/
def wH_note0 : aSum := (13, (3, ([(.ofNat 0, .ofNat 0), (.ofNat 0, .ofNat 36), (.negSucc 2147483647, .ofNat 2147483647), (.negSucc 2147483647, .ofNat 2147483647)], ([.inr (.inr (.inr (.inl 26))), .inl (1, .ofNat 0), .inl (2, .ofNat 0), .inl (3, .ofNat 0)], ([], ([(26, 3), (26, 4), (27, 999), (28, 999), (29, 999)], ([], (none, ([], [])))))))))
/-- MaidsMemory$Changes note: by hand -/
def wH_note1 : aSum := (13, (3, ([(.ofNat 0, .ofNat 0), (.ofNat 37, .ofNat 43), (.ofNat 0, .ofNat 3), (.ofNat 0, .ofNat 3)], ([.inr (.inr (.inr (.inl 26))), .inl (1, .ofNat 0), .inl (2, .ofNat 0), .inl (3, .ofNat 0)], ([], ([(26, 3), (26, 4), (27, 999), (28, 999), (29, 999)], ([], (none, ([], [])))))))))
/-- MaidsMemory$Changes note: by hand -/
def wH_note2 : aSum := (13, (3, ([(.ofNat 0, .ofNat 0), (.ofNat 44, .ofNat 59), (.negSucc 2147483647, .ofNat 2147483647), (.negSucc 2147483647, .ofNat 2147483647)], ([.inr (.inr (.inr (.inl 26))), .inl (1, .ofNat 0), .inl (2, .ofNat 0), .inl (3, .ofNat 0)], ([], ([(26, 3), (26, 4), (27, 999), (28, 999), (29, 999)], ([], (none, ([], [])))))))))
/-- MaidsMemoryModel becomes: by hand -/
def wH_becomes0 : aSum := (169, (3, ([(.ofNat 0, .ofNat 0), (.ofNat 0, .ofNat 36), (.negSucc 2147483647, .ofNat 2147483647)], ([.inr (.inr (.inr (.inl 50))), .inl (1, .ofNat 0), .inl (2, .ofNat 0)], ([], ([(50, 4), (50, 5), (51, 999), (52, 999), (53, 999), (54, 999)], ([(.negSucc 2147483647, .ofNat 2147483647)], (some (.inl (3, .ofNat 0)), ([], [])))))))))
/-- MaidsMemoryModel becomes: by hand -/
def wH_becomes1 : aSum := (169, (3, ([(.ofNat 0, .ofNat 0), (.ofNat 37, .ofNat 43), (.ofNat 0, .ofNat 3)], ([.inr (.inr (.inr (.inl 50))), .inl (1, .ofNat 0), .inl (2, .ofNat 0)], ([], ([(50, 4), (50, 5), (51, 999), (52, 999), (53, 999), (54, 999)], ([(.negSucc 2147483647, .ofNat 2147483647)], (some (.inl (3, .ofNat 0)), ([], [])))))))))
/-- MaidsMemoryModel becomes: by hand -/
def wH_becomes2 : aSum := (169, (3, ([(.ofNat 0, .ofNat 0), (.ofNat 44, .ofNat 59), (.negSucc 2147483647, .ofNat 2147483647)], ([.inr (.inr (.inr (.inl 50))), .inl (1, .ofNat 0), .inl (2, .ofNat 0)], ([], ([(50, 4), (50, 5), (51, 999), (52, 999), (53, 999), (54, 999)], ([(.negSucc 2147483647, .ofNat 2147483647)], (some (.inl (3, .ofNat 0)), ([], [])))))))))
/-- MaidsMemory$Changes takeBack: by hand -/
def wH_takeBack : aSum := (15, (3, ([(.ofNat 0, .ofNat 0)], ([.inr (.inr (.inr (.inl 26))), .inr (.inr (.inr (.inl 1)))], ([], ([(2, 999), (26, 3)], ([(.negSucc 2147483647, .ofNat 2147483647)], (some (.inl (1, .ofNat 0)), ([], [])))))))))
/-- MaidsMemory$Changes doAgain: by hand -/
def wH_doAgain : aSum := (16, (3, ([(.ofNat 0, .ofNat 0)], ([.inr (.inr (.inr (.inl 26))), .inr (.inr (.inr (.inl 1)))], ([], ([(2, 999), (26, 3)], ([(.negSucc 2147483647, .ofNat 2147483647)], (some (.inl (1, .ofNat 0)), ([], [])))))))))
/-- MaidsMemoryModel undo: by hand -/
def wH_undo : aSum := (170, (3, ([(.ofNat 0, .ofNat 0)], ([.inr (.inr (.inr (.inl 50)))], ([], ([(50, 5), (51, 999)], ([(.negSucc 2147483647, .ofNat 2147483647)], (some (.inl (1, .ofNat 0)), ([], [])))))))))
/-- MaidsMemoryModel redo: by hand -/
def wH_redo : aSum := (171, (3, ([(.ofNat 0, .ofNat 0)], ([.inr (.inr (.inr (.inl 50)))], ([], ([(50, 5), (51, 999)], ([(.negSucc 2147483647, .ofNat 2147483647)], (some (.inl (1, .ofNat 0)), ([], [])))))))))
/-- MaidsMemoryModel pack: by hand -/
def wH_pack : aSum := (212, (12, ([(.ofNat 0, .ofNat 0), (.negSucc 2147483647, .ofNat 2147483647)], ([.inr (.inr (.inr (.inl 50))), .inl (1, .ofNat 0)], ([], ([(64, 999)], ([(.negSucc 2147483647, .ofNat 2147483647)], (some (.inl (2, .ofNat 0)), ([], [])))))))))
end
