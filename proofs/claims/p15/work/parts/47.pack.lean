noncomputable section
set_option maxRecDepth 100000 in
theorem k168_0 {sc : zC} {a : Int} {f : zF} {Q : zQ} (h : zR sc (1) 168 4 [] [(0, zI a), (1, zI (0)), (2, zI (0))] 0 0 zSH f Q) : zR sc (1) 168 0 [] [(0, zI a)] 0 0 zSH f Q := zwn_R (stp := fun mi pc => bif Nat.beq mi 168 && Nat.beq pc 4 then some [0, 1, 2] else none) (inl := fun _ => false) (nov := fun _ => false) 6 h
set_option maxRecDepth 100000 in
theorem k168_4 {sc : zC} {x0 x1 x2 : Int} {f : zF} {Q : zQ} (h : if x2 < 7 then (zR sc (1) 168 4 [] [(0, zI x0), (1, zI (w32 (x1 + (zand (zshr x0 x2) (1))))), (2, zI (w32 (x2 + 1)))] 0 0 zSH f Q) else (Q (some (zI x1)) zSH f)) : zR sc (1) 168 4 [] [(0, zI x0), (1, zI x1), (2, zI x2)] 0 0 zSH f Q := zwn_R (stp := fun mi pc => bif Nat.beq mi 168 && Nat.beq pc 4 then some [0, 1, 2] else none) (inl := fun _ => false) (nov := fun _ => false) 17 h
set_option maxRecDepth 100000 in
theorem k210_0 {sc : zC} {a : Int} {f : zF} {Q : zQ} (h : zR sc (2) 210 4 [] [(0, zP (50)), (1, zI a), (2, zI (0)), (3, zI (0))] 0 0 zSH f Q) : zR sc (2) 210 0 [] [(0, zP (50)), (1, zI a)] 0 0 zSH f Q := zwn_R (stp := fun mi pc => bif Nat.beq mi 210 && Nat.beq pc 4 then some [0, 1, 2, 3] else none) (inl := fun j => bif Nat.beq j 167 then true else false) (nov := fun _ => false) 6 h
set_option maxRecDepth 100000 in
theorem k210_4 {sc : zC} {x1 x2 x3 : Int} {f : zF} {Q : zQ} (h : if x3 < f (50) (7) then (if zand (zshr x1 x3) (1) = 1 then (zix (w32 ((30) + x3)) (60) (zR sc (2) 210 4 [] [(0, zP (50)), (1, zI x1), (2, zI (w32 (x2 + (f (51) ((w32 ((30) + x3)).toNat))))), (3, zI (w32 (x3 + 1)))] 0 0 zSH f Q)) else (zR sc (2) 210 4 [] [(0, zP (50)), (1, zI x1), (2, zI (w32 (x2 + (0)))), (3, zI (w32 (x3 + 1)))] 0 0 zSH f Q)) else (Q (some (zI x2)) zSH f)) : zR sc (2) 210 4 [] [(0, zP (50)), (1, zI x1), (2, zI x2), (3, zI x3)] 0 0 zSH f Q := zwn_R (stp := fun mi pc => bif Nat.beq mi 210 && Nat.beq pc 4 then some [0, 1, 2, 3] else none) (inl := fun j => bif Nat.beq j 167 then true else false) (nov := fun _ => false) 42 h
set_option maxRecDepth 100000 in
theorem k208_0 {sc : zC} {a : Int} {f : zF} {Q : zQ} (h : zR sc (1) 208 4 [] [(0, zP (50)), (1, zI a), (2, zI (0)), (3, zI (0))] 0 0 zSH f Q) : zR sc (1) 208 0 [] [(0, zP (50)), (1, zI a)] 0 0 zSH f Q := zwn_R (stp := fun mi pc => bif Nat.beq mi 208 && Nat.beq pc 4 then some [0, 1, 2, 3] else none) (inl := fun _ => false) (nov := fun _ => false) 6 h
set_option maxRecDepth 100000 in
theorem k208_4 {sc : zC} {x1 x2 x3 : Int} {f : zF} {Q : zQ} (h : if x3 < 4 then (zix (w32 ((w32 ((4) * x1)) + x3)) (60) (zR sc (1) 208 4 [] [(0, zP (50)), (1, zI x1), (2, zI (w32 (x2 + (f (51) ((w32 ((w32 ((4) * x1)) + x3)).toNat))))), (3, zI (w32 (x3 + 1)))] 0 0 zSH f Q)) else (Q (some (zI (w32 ((7) * x2)))) zSH f)) : zR sc (1) 208 4 [] [(0, zP (50)), (1, zI x1), (2, zI x2), (3, zI x3)] 0 0 zSH f Q := zwn_R (stp := fun mi pc => bif Nat.beq mi 208 && Nat.beq pc 4 then some [0, 1, 2, 3] else none) (inl := fun _ => false) (nov := fun _ => false) 22 h
set_option maxRecDepth 100000 in
theorem k211_0 {sc : zC} {a : Int} {f : zF} {Q : zQ} (h : zR sc (3) 211 2 [] [(0, zP (50)), (1, zI a), (2, zI a)] 0 0 zSH f Q) : zR sc (3) 211 0 [] [(0, zP (50)), (1, zI a)] 0 0 zSH f Q := zwn_R (stp := fun mi pc => bif Nat.beq mi 211 && Nat.beq pc 2 then some [0, 1, 2] else none) (inl := fun _ => false) (nov := fun _ => false) 4 h
set_option maxRecDepth 100000 in
theorem k211_2 {sc : zC} {x1 x2 : Int} {f : zF} {Q : zQ} (h : if x2 < 0 then (Q none zSH f) else (zR sc (3) 211 8 [] [(0, zP (50)), (1, zI x1), (2, zI x2), (3, zI (0))] 0 0 zSH f Q)) : zR sc (3) 211 2 [] [(0, zP (50)), (1, zI x1), (2, zI x2)] 0 0 zSH f Q := zwn_R (stp := fun mi pc => bif Nat.beq mi 211 && Nat.beq pc 8 then some [0, 1, 2, 3] else none) (inl := fun _ => false) (nov := fun _ => false) 7 h
set_option maxRecDepth 100000 in
theorem k211_8 {sc : zC} {x1 x2 x3 : Int} {f : zF} {Q : zQ} (h : if x3 < zshl (1) (f (50) (7)) then (if x2 = x1 then (zR sc (3) 211 35 [] [(0, zP (50)), (1, zI x1), (2, zI x2), (3, zI x3), (4, zI (0)), (5, zI (0))] 0 0 zSH f Q) else (zR sc (3) 211 35 [] [(0, zP (50)), (1, zI x1), (2, zI x2), (3, zI x3), (4, zI (1000000)), (5, zI (0))] 0 0 zSH f Q)) else (zR sc (3) 211 2 [] [(0, zP (50)), (1, zI x1), (2, zI (w32 (x2 + (-1))))] 0 0 zSH f Q)) : zR sc (3) 211 8 [] [(0, zP (50)), (1, zI x1), (2, zI x2), (3, zI x3)] 0 0 zSH f Q := zwn_R (stp := fun mi pc => bif Nat.beq mi 211 && Nat.beq pc 2 then some [0, 1, 2] else bif Nat.beq mi 211 && Nat.beq pc 35 then some [0, 1, 2, 3, 4, 5] else none) (inl := fun _ => false) (nov := fun _ => false) 22 h
set_option maxRecDepth 100000 in
theorem k211_35 {sc : zC} {x1 x2 x3 x4 x5 : Int} {f : zF} {Q : zQ} (h : if x5 < zshl (1) (f (50) (7)) then (if x2 < x1 then (if zand x5 x3 = 0 then (∃ A2 : zQ, zR sc (2) 210 0 [] [(0, zP (50)), (1, zI x5)] 0 0 zSH f A2 ∧ ∀ (r3 : Int) (f1 : zF), zIn r3 → A2 (some (zI r3)) zSH f1 → (∃ A5 : zQ, zR sc (2) 208 0 [] [(0, zP (50)), (1, zI x2)] 0 0 zSH f1 A5 ∧ ∀ (r6 : Int) (f4 : zF), zIn r6 → A5 (some (zI r6)) zSH f4 → (if r3 < r6 then (zR sc (3) 211 35 [] [(0, zP (50)), (1, zI x1), (2, zI x2), (3, zI x3), (4, zI x4), (5, zI (w32 (x5 + 1)))] 0 0 zSH f4 Q) else (∃ A8 : zQ, zR sc (2) 168 0 [] [(0, zI x5)] 0 0 zSH f4 A8 ∧ ∀ (r9 : Int) (f7 : zF), zIn r9 → A8 (some (zI r9)) zSH f7 → (zix (w32 ((w32 ((128) * (w32 (x2 + (1))))) + (zor x3 x5))) (896) (if w32 (r9 + (f7 (64) ((w32 ((w32 ((128) * (w32 (x2 + (1))))) + (zor x3 x5))).toNat))) < x4 then (zR sc (3) 211 35 [] [(0, zP (50)), (1, zI x1), (2, zI x2), (3, zI x3), (4, zI (w32 (r9 + (f7 (64) ((w32 ((w32 ((128) * (w32 (x2 + (1))))) + (zor x3 x5))).toNat))))), (5, zI (w32 (x5 + 1)))] 0 0 zSH f7 Q) else (zR sc (3) 211 35 [] [(0, zP (50)), (1, zI x1), (2, zI x2), (3, zI x3), (4, zI x4), (5, zI (w32 (x5 + 1)))] 0 0 zSH f7 Q))))))) else (zR sc (3) 211 35 [] [(0, zP (50)), (1, zI x1), (2, zI x2), (3, zI x3), (4, zI x4), (5, zI (w32 (x5 + 1)))] 0 0 zSH f Q)) else (if x4 < 1000000 then (zix (w32 ((w32 ((128) * x2)) + x3)) (896) (zR sc (3) 211 8 [] [(0, zP (50)), (1, zI x1), (2, zI x2), (3, zI (w32 (x3 + 1)))] 0 0 zSH (zup f (64) ((w32 ((w32 ((128) * x2)) + x3)).toNat) x4) Q)) else (zix (w32 ((w32 ((128) * x2)) + x3)) (896) (zR sc (3) 211 8 [] [(0, zP (50)), (1, zI x1), (2, zI x2), (3, zI (w32 (x3 + 1)))] 0 0 zSH (zup f (64) ((w32 ((w32 ((128) * x2)) + x3)).toNat) (1000000)) Q)))) else (if x4 < 1000000 then (zix (w32 ((w32 ((128) * x2)) + x3)) (896) (zR sc (3) 211 8 [] [(0, zP (50)), (1, zI x1), (2, zI x2), (3, zI (w32 (x3 + 1)))] 0 0 zSH (zup f (64) ((w32 ((w32 ((128) * x2)) + x3)).toNat) x4) Q)) else (zix (w32 ((w32 ((128) * x2)) + x3)) (896) (zR sc (3) 211 8 [] [(0, zP (50)), (1, zI x1), (2, zI x2), (3, zI (w32 (x3 + 1)))] 0 0 zSH (zup f (64) ((w32 ((w32 ((128) * x2)) + x3)).toNat) (1000000)) Q)))) : zR sc (3) 211 35 [] [(0, zP (50)), (1, zI x1), (2, zI x2), (3, zI x3), (4, zI x4), (5, zI x5)] 0 0 zSH f Q := zwn_R (stp := fun mi pc => bif Nat.beq mi 211 && Nat.beq pc 8 then some [0, 1, 2, 3] else bif Nat.beq mi 211 && Nat.beq pc 35 then some [0, 1, 2, 3, 4, 5] else none) (inl := fun _ => false) (nov := fun _ => false) 92 h
set_option maxRecDepth 100000 in
theorem k212_0 {sc : zC} {a : Int} {f : zF} {Q : zQ} (h : if zlcmp a (-1) < 0 then (Q (some (zI (-1))) zSH f) else (if 0 < zlcmp a (w32 ((f (50) (6)) - (1))) then (Q (some (zI (-1))) zSH f) else (∃ A2 : zQ, zR sc (3) 211 0 [] [(0, zP (50)), (1, zI (f (50) (6)))] 0 0 zSH f A2 ∧ ∀ f1 : zF, A2 none zSH f1 → (if f1 (64) (0) = 1000000 then (Q (some (zI (-2))) zSH f1) else (if a = (-1) then (Q (some (zI (f1 (64) (0)))) zSH f1) else (zR sc (4) 212 62 [] [(0, zP (50)), (1, zI a), (2, zI (0)), (3, zI (0)), (4, zI (0))] 0 0 zSH f1 Q)))))) : zR sc (4) 212 0 [] [(0, zP (50)), (1, zI a)] 0 0 zSH f Q := zwn_R (stp := fun mi pc => bif Nat.beq mi 212 && Nat.beq pc 62 then some [0, 1, 2, 3, 4] else none) (inl := fun j => bif Nat.beq j 166 then true else false) (nov := fun _ => false) 59 h
set_option maxRecDepth 100000 in
theorem k212_62 {sc : zC} {x1 x2 x3 x4 : Int} {f : zF} {Q : zQ} (h : if x1 < x4 then (Q (some (zI x3)) zSH f) else (zR sc (4) 212 70 [] [(0, zP (50)), (1, zI x1), (2, zI x2), (3, zI (0)), (4, zI x4)] 0 0 zSH f Q)) : zR sc (4) 212 62 [] [(0, zP (50)), (1, zI x1), (2, zI x2), (3, zI x3), (4, zI x4)] 0 0 zSH f Q := zwn_R (stp := fun mi pc => bif Nat.beq mi 212 && Nat.beq pc 70 then some [0, 1, 2, 3, 4] else none) (inl := fun j => bif Nat.beq j 166 then true else false) (nov := fun _ => false) 9 h
set_option maxRecDepth 100000 in
theorem k212_70 {sc : zC} {x1 x2 x3 x4 : Int} {f : zF} {Q : zQ} (h : if zand x3 x2 = 0 then (∃ A2 : zQ, zR sc (3) 210 0 [] [(0, zP (50)), (1, zI x3)] 0 0 zSH f A2 ∧ ∀ (r3 : Int) (f1 : zF), zIn r3 → A2 (some (zI r3)) zSH f1 → (∃ A5 : zQ, zR sc (3) 208 0 [] [(0, zP (50)), (1, zI x4)] 0 0 zSH f1 A5 ∧ ∀ (r6 : Int) (f4 : zF), zIn r6 → A5 (some (zI r6)) zSH f4 → (if r3 < r6 then (zR sc (4) 212 70 [] [(0, zP (50)), (1, zI x1), (2, zI x2), (3, zI (w32 (x3 + 1))), (4, zI x4)] 0 0 zSH f4 Q) else (∃ A8 : zQ, zR sc (3) 168 0 [] [(0, zI x3)] 0 0 zSH f4 A8 ∧ ∀ (r9 : Int) (f7 : zF), zIn r9 → A8 (some (zI r9)) zSH f7 → (zix (w32 ((w32 ((128) * (w32 (x4 + (1))))) + (zor x2 x3))) (896) (zix (w32 ((w32 ((128) * x4)) + x2)) (896) (if w32 (r9 + (f7 (64) ((w32 ((w32 ((128) * (w32 (x4 + (1))))) + (zor x2 x3))).toNat))) = f7 (64) ((w32 ((w32 ((128) * x4)) + x2)).toNat) then (zR sc (4) 212 62 [] [(0, zP (50)), (1, zI x1), (2, zI (zor x2 x3)), (3, zI x3), (4, zI (w32 (x4 + 1)))] 0 0 zSH f7 Q) else (zR sc (4) 212 70 [] [(0, zP (50)), (1, zI x1), (2, zI x2), (3, zI (w32 (x3 + 1))), (4, zI x4)] 0 0 zSH f7 Q)))))))) else (zR sc (4) 212 70 [] [(0, zP (50)), (1, zI x1), (2, zI x2), (3, zI (w32 (x3 + 1))), (4, zI x4)] 0 0 zSH f Q)) : zR sc (4) 212 70 [] [(0, zP (50)), (1, zI x1), (2, zI x2), (3, zI x3), (4, zI x4)] 0 0 zSH f Q := zwn_R (stp := fun mi pc => bif Nat.beq mi 212 && Nat.beq pc 62 then some [0, 1, 2, 3, 4] else bif Nat.beq mi 212 && Nat.beq pc 70 then some [0, 1, 2, 3, 4] else none) (inl := fun j => bif Nat.beq j 166 then true else false) (nov := fun _ => false) 49 h
/-! the reference's pack: its while ends because the least is reached -/
set_option maxRecDepth 100000 in
theorem w32n {k : Nat} (h : k < 2147483647) : w32 ((k : Int) + 1) = ((k + 1 : Nat) : Int) := by
  rw [w32_in (by omega)]; omega
def wB (a : Int) : Nat → Nat → Int → Int
  | 0, _, acc => acc
  | n + 1, k, acc => wB a n (k + 1) (w32 (acc + zand (zshr a (k : Int)) 1))
set_option maxRecDepth 100000 in
theorem wz1 (x : Int) : 0 ≤ zand x 1 ∧ zand x 1 ≤ 1 := by
  rw [zand_c]; exact zand_l (by unfold zIn; decide) (by decide)
set_option maxRecDepth 100000 in
theorem wB_nn {a : Int} : ∀ (n k : Nat) (acc : Int), 0 ≤ acc → acc + (n : Int) ≤ 1000 → 0 ≤ wB a n k acc
  | 0, _, acc, h, _ => h
  | n + 1, k, acc, h, g => by
    show 0 ≤ wB a n (k + 1) (w32 (acc + zand (zshr a (k : Int)) 1))
    have := wz1 (zshr a (k : Int))
    rw [w32_in (by omega)]
    exact wB_nn n (k + 1) _ (by omega) (by omega)
set_option maxRecDepth 100000 in
theorem wB_le {a : Int} : ∀ (n k : Nat) (acc : Int), 0 ≤ acc → acc + (n : Int) ≤ 1000 → wB a n k acc ≤ acc + (n : Int)
  | 0, _, acc, h, _ => by show acc ≤ acc + ((0 : Nat) : Int); omega
  | n + 1, k, acc, h, g => by
    show wB a n (k + 1) (w32 (acc + zand (zshr a (k : Int)) 1)) ≤ _
    have := wz1 (zshr a (k : Int))
    rw [w32_in (by omega)]
    have := wB_le (a := a) n (k + 1) (acc + zand (zshr a (k : Int)) 1) (by omega) (by omega)
    omega
set_option maxRecDepth 100000 in
theorem s168 {sc : zC} {a : Int} {f : zF} {Q : zQ} : ∀ (n k : Nat) (acc : Int), n + k = 7 → Q (some (zI (wB a n k acc))) zSH f → zR sc 1 168 4 [] [(0, zI a), (1, zI acc), (2, zI (k : Int))] 0 0 zSH f Q
  | 0, k, acc, hk, h => by
    refine k168_4 ?_
    rw [if_neg (by omega)]
    exact h
  | n + 1, k, acc, hk, h => by
    refine k168_4 ?_
    rw [if_pos (by omega), w32n (by omega)]
    exact s168 n (k + 1) _ (by omega) h
def wRm (f : zF) (a : Int) : Nat → Nat → Int → Int
  | 0, _, acc => acc
  | n + 1, k, acc => wRm f a n (k + 1) (if zand (zshr a (k : Int)) 1 = 1 then w32 (acc + f 51 (w32 (30 + (k : Int))).toNat) else w32 (acc + 0))
set_option maxRecDepth 100000 in
theorem s210 {sc : zC} {a : Int} {f : zF} {Q : zQ} (h7 : f 50 7 ≤ 7) : ∀ (n k : Nat) (acc : Int), (n : Int) + k = f 50 7 → Q (some (zI (wRm f a n k acc))) zSH f → zR sc 2 210 4 [] [(0, zP 50), (1, zI a), (2, zI acc), (3, zI (k : Int))] 0 0 zSH f Q
  | 0, k, acc, hk, h => by
    refine k210_4 ?_
    rw [if_neg (by omega)]
    exact h
  | n + 1, k, acc, hk, h => by
    refine k210_4 ?_
    rw [if_pos (by omega), w32n (by omega)]
    have h : Q (some (zI (wRm f a n (k + 1) (if zand (zshr a (k : Int)) 1 = 1 then w32 (acc + f 51 (w32 (30 + (k : Int))).toNat) else w32 (acc + 0))))) zSH f := h
    by_cases c : zand (zshr a (k : Int)) 1 = 1
    · rw [if_pos c] at h ⊢
      have e : w32 (30 + (k : Int)) = 30 + (k : Int) := w32_in (by omega)
      have e2 : 0 ≤ w32 (30 + (k : Int)) ∧ w32 (30 + (k : Int)) < ((60 : Nat) : Int) := by rw [e]; omega
      have r := s210 (sc := sc) (Q := Q) h7 n (k + 1) _ (by omega) h
      unfold zix
      rw [if_pos e2]
      exact r
    · rw [if_neg c] at h ⊢
      exact s210 h7 n (k + 1) _ (by omega) h
def wWk (f : zF) (x : Int) : Nat → Nat → Int → Int
  | 0, _, acc => acc
  | n + 1, k, acc => wWk f x n (k + 1) (w32 (acc + f 51 (w32 (w32 (4 * x) + (k : Int))).toNat))
set_option maxRecDepth 100000 in
theorem s208 {sc : zC} {x : Int} {f : zF} {Q : zQ} (hx : 0 ≤ x ∧ x ≤ 5) : ∀ (n k : Nat) (acc : Int), n + k = 4 → Q (some (zI (w32 (7 * wWk f x n k acc)))) zSH f → zR sc 1 208 4 [] [(0, zP 50), (1, zI x), (2, zI acc), (3, zI (k : Int))] 0 0 zSH f Q
  | 0, k, acc, hk, h => by
    refine k208_4 ?_
    rw [if_neg (by omega)]
    exact h
  | n + 1, k, acc, hk, h => by
    refine k208_4 ?_
    rw [if_pos (by omega), w32n (by omega)]
    refine zix_p ?_ (s208 hx n (k + 1) _ (by omega) h)
    have e1 : w32 (4 * x) = 4 * x := w32_in (by omega)
    rw [e1, w32_in (by omega)]
    omega
/-- a set's room, a house's week, a set's girls -/
def vR (f : zF) (s : Int) : Int := wRm f s (f 50 7).toNat 0 0
def vW (f : zF) (x : Int) : Int := w32 (7 * wWk f x 4 0 0)
def vB (s : Int) : Int := wB s 7 0 0
set_option maxRecDepth 100000 in
theorem vB_in (s : Int) : 0 ≤ vB s ∧ vB s ≤ 7 := ⟨wB_nn 7 0 0 (by decide) (by decide), by have := wB_le (a := s) 7 0 0 (by decide) (by decide); unfold vB; omega⟩
set_option maxRecDepth 100000 in
theorem cR {sc : zC} {d : Nat} {f : zF} {s : Int} {P : Int → zF → Prop} (hd : 2 ≤ d) (h0 : 0 ≤ f 50 7) (h7 : f 50 7 ≤ 7) (g : P (vR f s) f) : ∃ A : zQ, zR sc d 210 0 [] [(0, zP 50), (1, zI s)] 0 0 zSH f A ∧ ∀ (r : Int) (f1 : zF), zIn r → A (some (zI r)) zSH f1 → P r f1 :=
  zcall1 (fun v f1 => v = vR f s ∧ f1 = f) (zR_le hd (k210_0 (s210 h7 (f 50 7).toNat 0 0 (by omega) ⟨_, rfl, rfl, rfl⟩))) (fun v f1 _ h => by
    obtain ⟨rfl, rfl⟩ := h
    exact g)
set_option maxRecDepth 100000 in
theorem cW {sc : zC} {d : Nat} {f : zF} {x : Int} {P : Int → zF → Prop} (hd : 1 ≤ d) (hx : 0 ≤ x ∧ x ≤ 5) (g : P (vW f x) f) : ∃ A : zQ, zR sc d 208 0 [] [(0, zP 50), (1, zI x)] 0 0 zSH f A ∧ ∀ (r : Int) (f1 : zF), zIn r → A (some (zI r)) zSH f1 → P r f1 :=
  zcall1 (fun v f1 => v = vW f x ∧ f1 = f) (zR_le hd (k208_0 (s208 hx 4 0 0 rfl ⟨_, rfl, rfl, rfl⟩))) (fun v f1 _ h => by
    obtain ⟨rfl, rfl⟩ := h
    exact g)
set_option maxRecDepth 100000 in
theorem cB {sc : zC} {d : Nat} {f : zF} {s : Int} {P : Int → zF → Prop} (hd : 1 ≤ d) (g : P (vB s) f) : ∃ A : zQ, zR sc d 168 0 [] [(0, zI s)] 0 0 zSH f A ∧ ∀ (r : Int) (f1 : zF), zIn r → A (some (zI r)) zSH f1 → P r f1 :=
  zcall1 (fun v f1 => v = vB s ∧ f1 = f) (zR_le hd (k168_0 (s168 7 0 0 rfl ⟨_, rfl, rfl, rfl⟩))) (fun v f1 _ h => by
    obtain ⟨rfl, rfl⟩ := h
    exact g)
set_option maxRecDepth 100000 in
theorem wRm_up {f : zF} {i : Nat} {v s : Int} : ∀ (n k : Nat) (acc : Int), wRm (zup f 64 i v) s n k acc = wRm f s n k acc
  | 0, _, _ => rfl
  | n + 1, k, acc => wRm_up n (k + 1) _
set_option maxRecDepth 100000 in
theorem wWk_up {f : zF} {i : Nat} {v x : Int} : ∀ (n k : Nat) (acc : Int), wWk (zup f 64 i v) x n k acc = wWk f x n k acc
  | 0, _, _ => rfl
  | n + 1, k, acc => wWk_up n (k + 1) _
set_option maxRecDepth 100000 in
theorem vR_up {f : zF} {i : Nat} {v s : Int} : vR (zup f 64 i v) s = vR f s := wRm_up _ _ _
set_option maxRecDepth 100000 in
theorem vW_up {f : zF} {i : Nat} {v x : Int} : vW (zup f 64 i v) x = vW f x := by unfold vW; rw [wWk_up]
/-- a place of row h that is reached by a set -/
def wV (f : zF) (N h gone s : Nat) (v : Int) : Prop := s < N ∧ zand (s : Int) (gone : Int) = 0 ∧ ¬ vR f (s : Int) < vW f (h : Int) ∧ w32 (vB (s : Int) + f 64 (128 * (h + 1) + (zor (gone : Int) (s : Int)).toNat)) = v
def wE (f : zF) (N h gone : Nat) : Prop := f 64 (128 * h + gone) = 1000000 ∨ (f 64 (128 * h + gone) < 1000000 ∧ ∃ s, wV f N h gone s (f 64 (128 * h + gone)))
set_option maxRecDepth 100000 in
theorem wix {h g : Nat} (hh : h ≤ 6) (hg : g < 128) : w32 (w32 (128 * (h : Int)) + (g : Int)) = ((128 * h + g : Nat) : Int) := by
  rw [show w32 (128 * (h : Int)) = 128 * (h : Int) from w32_in (by omega), w32_in (by omega)]; omega
set_option maxRecDepth 100000 in
theorem wix2 {h : Nat} {z : Int} (hh : h ≤ 5) (hz : 0 ≤ z ∧ z < 128) : w32 (w32 (128 * w32 ((h : Int) + 1)) + z) = ((128 * (h + 1) + z.toNat : Nat) : Int) := by
  rw [show w32 ((h : Int) + 1) = (h : Int) + 1 from w32_in (by omega), show w32 (128 * ((h : Int) + 1)) = 128 * ((h : Int) + 1) from w32_in (by omega), w32_in (by omega)]; omega
set_option maxRecDepth 100000 in
theorem wor {k a b : Nat} (hk : k ≤ 7) (ha : a < 2 ^ k) (hb : b < 2 ^ k) : 0 ≤ zor (a : Int) (b : Int) ∧ (zor (a : Int) (b : Int)).toNat < 2 ^ k ∧ zor (a : Int) (b : Int) < 128 := by
  have p : (2 : Nat) ^ k ≤ 2 ^ 7 := Nat.pow_le_pow_right (by decide) hk
  have ia : ((a : Nat) : Int) < 2 ^ k := by have := Int.ofNat_lt.2 ha; simpa using this
  have ib : ((b : Nat) : Int) < 2 ^ k := by have := Int.ofNat_lt.2 hb; simpa using this
  have h := zor_l (x := (a : Int)) (y := (b : Int)) (k := k) (by omega) (by unfold zIn; omega) (by unfold zIn; omega) (by omega) (by omega) ia ib
  have h2 : zor (a : Int) (b : Int) < ((2 ^ k : Nat) : Int) := by have := h.2; simpa using this
  omega
set_option maxRecDepth 100000 in
theorem wV_up {f : zF} {i N h gone s : Nat} {x v : Int} (hi : i < 128 * (h + 1)) : wV (zup f 64 i x) N h gone s v ↔ wV f N h gone s v := by
  unfold wV
  rw [vR_up, vW_up]
  have e : zup f 64 i x 64 (128 * (h + 1) + (zor (gone : Int) (s : Int)).toNat) = f 64 (128 * (h + 1) + (zor (gone : Int) (s : Int)).toNat) := by
    unfold zup
    rw [if_pos rfl, if_neg (by omega)]
  rw [e]
set_option maxRecDepth 100000 in
theorem wE_up {f : zF} {i N h gone : Nat} {x : Int} (hi : i < 128 * (h + 1)) (hn : 128 * h + gone ≠ i) (w : wE f N h gone) : wE (zup f 64 i x) N h gone := by
  have e : zup f 64 i x 64 (128 * h + gone) = f 64 (128 * h + gone) := by
    unfold zup
    rw [if_pos rfl, if_neg hn]
  unfold wE at w ⊢
  rw [e]
  rcases w with w | ⟨w1, s, w2⟩
  · exact Or.inl w
  · exact Or.inr ⟨w1, s, (wV_up hi).2 w2⟩
set_option maxRecDepth 100000 in
theorem wE_new {f : zF} {N h gone : Nat} {v : Int} (hg : gone < 128) (w : v = 1000000 ∨ (v < 1000000 ∧ ∃ s, wV f N h gone s v)) : wE (zup f 64 (128 * h + gone) v) N h gone := by
  have e : zup f 64 (128 * h + gone) v 64 (128 * h + gone) = v := by
    unfold zup
    rw [if_pos rfl, if_pos rfl]
  unfold wE
  rw [e]
  rcases w with w | ⟨w1, s, w2⟩
  · exact Or.inl w
  · exact Or.inr ⟨w1, s, (wV_up (by omega)).2 w2⟩
/-- only the table has changed -/
def wS (sc : zC) (f0 f : zF) : Prop := aGok wG (afx sc f) ∧ aFr [(64, 999)] f0 f
set_option maxRecDepth 100000 in
theorem wS_up {sc : zC} {f0 f : zF} {i : Nat} {v : Int} (h : wS sc f0 f) (hv : zIn v) : wS sc f0 (zup f 64 i v) := by
  refine ⟨?_, aFr_up h.2 rfl⟩
  rw [afx_up (by decide)]
  exact ⟨aGk_up h.1.1 (fun I hI => wG_f (c := 64) (b := 896) rfl hI hv), zRel_f h.1.2 rfl⟩
set_option maxRecDepth 100000 in
theorem wS_7 {sc : zC} {f0 f : zF} (h : wS sc f0 f) : f 50 7 = f0 50 7 := h.2 50 7 rfl
section PACK
variable {sc : zC} {f0 : zF} {k M : Nat} {Q : zQ}
set_option maxRecDepth 100000 in
theorem pk_a35 (hk : k ≤ 7) (hM : M ≤ 6) {f : zF} (h7 : f 50 7 = (k : Int)) {h gone : Nat} (hh : h < M) (hg : gone < 2 ^ k) (K : ∀ v, zIn v → (v = 1000000 ∨ (v < 1000000 ∧ ∃ s, wV f (2 ^ k) h gone s v)) → zR sc 3 211 8 [] [(0, zP 50), (1, zI (M : Int)), (2, zI (h : Int)), (3, zI ((gone + 1 : Nat) : Int))] 0 0 zSH (zup f 64 (128 * h + gone) v) Q) : ∀ (n s : Nat) (least : Int), s + n = 2 ^ k → zIn least → (least = 1000000 ∨ (least < 1000000 ∧ ∃ t, wV f (2 ^ k) h gone t least)) → zR sc 3 211 35 [] [(0, zP 50), (1, zI (M : Int)), (2, zI (h : Int)), (3, zI (gone : Int)), (4, zI least), (5, zI (s : Int))] 0 0 zSH f Q := by
  have p7 : (2 : Nat) ^ k ≤ 2 ^ 7 := Nat.pow_le_pow_right (by decide) hk
  have hsh : zshl 1 (f 50 7) = ((2 ^ k : Nat) : Int) := by
    rw [h7, zshl_1 (by omega), Int.toNat_natCast]; simp
  intro n
  induction n with
  | zero =>
    intro s least hs hl hv
    refine k211_35 ?_
    rw [hsh, if_neg (by omega)]
    rw [wix (by omega) (by omega), Int.toNat_natCast, w32n (by omega)]
    by_cases c : least < 1000000
    · rw [if_pos c]
      exact zix_p (by omega) (K least hl hv)
    · rw [if_neg c]
      exact zix_p (by omega) (K 1000000 (by unfold zIn; decide) (Or.inl rfl))
  | succ n ih =>
    intro s least hs hl hv
    refine k211_35 ?_
    rw [hsh, if_pos (by omega), if_pos (by omega), w32n (by omega)]
    by_cases c : zand (s : Int) (gone : Int) = 0
    · rw [if_pos c]
      refine cR (by decide) (by omega) (by omega) (cW (by decide) (by omega) ?_)
      by_cases c2 : vR f (s : Int) < vW f (h : Int)
      · rw [if_pos c2]; exact ih (s + 1) least (by omega) hl hv
      · rw [if_neg c2]
        refine cB (by decide) ?_
        have ho := wor hk hg (show s < 2 ^ k by omega)
        rw [wix2 (by omega) ⟨ho.1, ho.2.2⟩, Int.toNat_natCast]
        refine zix_p (by omega) ?_
        by_cases c3 : w32 (vB (s : Int) + f 64 (128 * (h + 1) + (zor (gone : Int) (s : Int)).toNat)) < least
        · rw [if_pos c3]
          refine ih (s + 1) _ (by omega) (zin_w _) (Or.inr ⟨?_, s, by omega, c, c2, rfl⟩)
          rcases hv with hv | hv <;> omega
        · rw [if_neg c3]; exact ih (s + 1) least (by omega) hl hv
    · rw [if_neg c]; exact ih (s + 1) least (by omega) hl hv
set_option maxRecDepth 100000 in
/-- row h -/
theorem pk_a8 (hk : k ≤ 7) (hM : M ≤ 6) (h7 : f0 50 7 = (k : Int)) {h : Nat} (hh : h ≤ M) (K : ∀ f, wS sc f0 f → (∀ h', h ≤ h' → h' < M → ∀ g, g < 2 ^ k → wE f (2 ^ k) h' g) → zR sc 3 211 2 [] [(0, zP 50), (1, zI (M : Int)), (2, zI ((h : Int) - 1))] 0 0 zSH f Q) : ∀ (n gone : Nat) (f : zF), gone + n = 2 ^ k → wS sc f0 f → (∀ h', h < h' → h' < M → ∀ g, g < 2 ^ k → wE f (2 ^ k) h' g) → (h < M → ∀ g, g < gone → wE f (2 ^ k) h g) → zR sc 3 211 8 [] [(0, zP 50), (1, zI (M : Int)), (2, zI (h : Int)), (3, zI (gone : Int))] 0 0 zSH f Q := by
  have p7 : (2 : Nat) ^ k ≤ 2 ^ 7 := Nat.pow_le_pow_right (by decide) hk
  intro n
  induction n with
  | zero =>
    intro gone f hn hS hA hB
    have e7 := (wS_7 hS).trans h7
    refine k211_8 ?_
    rw [show zshl 1 (f 50 7) = ((2 ^ k : Nat) : Int) by rw [e7, zshl_1 (by omega), Int.toNat_natCast]; simp, if_neg (by omega), show w32 ((h : Int) + -1) = (h : Int) - 1 by rw [w32_in (by omega)]; omega]
    refine K f hS (fun h' h1 h2 g hg => ?_)
    rcases Nat.eq_or_lt_of_le h1 with e | e
    · subst e; exact hB h2 g (by omega)
    · exact hA h' e h2 g hg
  | succ n ih =>
    intro gone f hn hS hA hB
    have e7 := (wS_7 hS).trans h7
    have hsh : zshl 1 (f 50 7) = ((2 ^ k : Nat) : Int) := by rw [e7, zshl_1 (by omega), Int.toNat_natCast]; simp
    have step : ∀ v, zIn v → (h < M → (v = 1000000 ∨ (v < 1000000 ∧ ∃ s, wV f (2 ^ k) h gone s v))) → zR sc 3 211 8 [] [(0, zP 50), (1, zI (M : Int)), (2, zI (h : Int)), (3, zI ((gone + 1 : Nat) : Int))] 0 0 zSH (zup f 64 (128 * h + gone) v) Q := by
      intro v hv hw
      refine ih (gone + 1) _ (by omega) (wS_up hS hv) (fun h' h1 h2 g hg => wE_up (by omega) (by omega) (hA h' h1 h2 g hg)) (fun h1 g hg => ?_)
      rcases Nat.eq_or_lt_of_le (Nat.le_of_lt_succ hg) with e | e
      · subst e; exact wE_new (by omega) (hw h1)
      · exact wE_up (by omega) (by omega) (hB h1 g e)
    refine k211_8 ?_
    rw [hsh, if_pos (by omega)]
    by_cases c : (h : Int) = (M : Int)
    · rw [if_pos c]
      refine k211_35 ?_
      rw [hsh, if_pos (by omega), if_neg (by omega), if_pos (by decide), wix (by omega) (by omega), Int.toNat_natCast, w32n (by omega)]
      exact zix_p (by omega) (step 0 (by unfold zIn; decide) (fun h1 => by omega))
    · rw [if_neg c]
      exact pk_a35 hk hM e7 (by omega) (by omega) (fun v hv hw => step v hv (fun _ => hw)) (2 ^ k) 0 1000000 (by omega) (by unfold zIn; decide) (Or.inl rfl)
set_option maxRecDepth 100000 in
theorem pk_a2 (hk : k ≤ 7) (hM : M ≤ 6) (h7 : f0 50 7 = (k : Int)) (K : ∀ f, wS sc f0 f → (∀ h', h' < M → ∀ g, g < 2 ^ k → wE f (2 ^ k) h' g) → Q none zSH f) : ∀ (n : Nat) (f : zF), n ≤ M + 1 → wS sc f0 f → (∀ h', n ≤ h' → h' < M → ∀ g, g < 2 ^ k → wE f (2 ^ k) h' g) → zR sc 3 211 2 [] [(0, zP 50), (1, zI (M : Int)), (2, zI ((n : Int) - 1))] 0 0 zSH f Q := by
  intro n
  induction n with
  | zero =>
    intro f hn hS hA
    refine k211_2 ?_
    rw [if_pos (by omega)]
    exact K f hS (fun h' h1 g hg => hA h' (Nat.zero_le _) h1 g hg)
  | succ n ih =>
    intro f hn hS hA
    refine k211_2 ?_
    rw [if_neg (by omega), show ((n + 1 : Nat) : Int) - 1 = (n : Int) by omega]
    exact pk_a8 hk hM h7 (by omega) (fun f hS hA => ih f (by omega) hS hA) (2 ^ k) 0 f (by omega) hS (fun h' h1 h2 g hg => hA h' h1 h2 g hg) (fun _ g hg => by omega)
end PACK
set_option maxRecDepth 100000 in
theorem s211 {sc : zC} {f0 : zF} {k M : Nat} {Q : zQ} (hk : k ≤ 7) (hM : M ≤ 6) (h7 : f0 50 7 = (k : Int)) (hG : aGok wG (afx sc f0)) (K : ∀ f, wS sc f0 f → (∀ h', h' < M → ∀ g, g < 2 ^ k → wE f (2 ^ k) h' g) → Q none zSH f) : zR sc 3 211 0 [] [(0, zP 50), (1, zI (M : Int))] 0 0 zSH f0 Q := by
  refine k211_0 ?_
  have := pk_a2 (sc := sc) (f0 := f0) (Q := Q) hk hM h7 K (M + 1) f0 (Nat.le_refl _) ⟨hG, fun _ _ _ => rfl⟩ (fun h' h1 h2 => by omega)
  rw [show ((M + 1 : Nat) : Int) - 1 = (M : Int) by omega] at this
  exact this
set_option maxRecDepth 100000 in
theorem p70 {sc : zC} {f : zF} {k : Nat} {Q : zQ} {a : Int} (hk : k ≤ 7) (h7 : f 50 7 = (k : Int)) {h gone s0 : Nat} (hh : h ≤ 5) (hg : gone < 2 ^ k) (hw : wV f (2 ^ k) h gone s0 (f 64 (128 * h + gone))) (K : ∀ s, wV f (2 ^ k) h gone s (f 64 (128 * h + gone)) → zR sc 4 212 62 [] [(0, zP 50), (1, zI a), (2, zI (zor (gone : Int) (s : Int))), (3, zI (s : Int)), (4, zI ((h + 1 : Nat) : Int))] 0 0 zSH f Q) : ∀ (n s : Nat), s + n = s0 → zR sc 4 212 70 [] [(0, zP 50), (1, zI a), (2, zI (gone : Int)), (3, zI (s : Int)), (4, zI (h : Int))] 0 0 zSH f Q := by
  have p7 : (2 : Nat) ^ k ≤ 2 ^ 7 := Nat.pow_le_pow_right (by decide) hk
  have hs0 := hw.1
  intro n
  induction n with
  | zero =>
    intro s hs
    have e : s = s0 := by omega
    subst e
    obtain ⟨w1, w2, w3, w4⟩ := hw
    refine k212_70 ?_
    have ho := wor hk hg w1
    rw [if_pos w2]
    refine cR (by decide) (by omega) (by omega) (cW (by decide) (by omega) ?_)
    rw [if_neg w3]
    refine cB (by decide) ?_
    rw [wix2 hh ⟨ho.1, ho.2.2⟩, wix (by omega) (by omega), Int.toNat_natCast, Int.toNat_natCast]
    refine zix_p (by omega) (zix_p (by omega) ?_)
    rw [if_pos w4, w32n (by omega)]
    exact K s ⟨w1, w2, w3, w4⟩
  | succ n ih =>
    intro s hs
    refine k212_70 ?_
    have hsn : s < 2 ^ k := by omega
    have ho := wor hk hg hsn
    have nx := ih (s + 1) (by omega)
    rw [w32n (by omega)]
    by_cases c : zand (s : Int) (gone : Int) = 0
    · rw [if_pos c]
      refine cR (by decide) (by omega) (by omega) (cW (by decide) (by omega) ?_)
      by_cases c2 : vR f (s : Int) < vW f (h : Int)
      · rw [if_pos c2]; exact nx
      · rw [if_neg c2]
        refine cB (by decide) ?_
        rw [wix2 hh ⟨ho.1, ho.2.2⟩, wix (by omega) (by omega), Int.toNat_natCast, Int.toNat_natCast]
        refine zix_p (by omega) (zix_p (by omega) ?_)
        by_cases c3 : w32 (vB (s : Int) + f 64 (128 * (h + 1) + (zor (gone : Int) (s : Int)).toNat)) = f 64 (128 * h + gone)
        · rw [if_pos c3, w32n (by omega)]
          exact K s ⟨hsn, c, c2, c3⟩
        · rw [if_neg c3]; exact nx
    · rw [if_neg c]; exact nx
set_option maxRecDepth 100000 in
theorem p62 {sc : zC} {f : zF} {k M a : Nat} {Q : zQ} (hk : k ≤ 7) (hM : M ≤ 6) (ha : a < M) (h7 : f 50 7 = (k : Int)) (hT : ∀ h', h' < M → ∀ g, g < 2 ^ k → wE f (2 ^ k) h' g) (hQ : ∀ z, zIn z → Q (some (zI z)) zSH f) : ∀ (n h gone : Nat) (x : Int), h + n = a + 1 → gone < 2 ^ k → (h ≤ a → f 64 (128 * h + gone) ≠ 1000000) → zIn x → zR sc 4 212 62 [] [(0, zP 50), (1, zI (a : Int)), (2, zI (gone : Int)), (3, zI x), (4, zI (h : Int))] 0 0 zSH f Q := by
  have p7 : (2 : Nat) ^ k ≤ 2 ^ 7 := Nat.pow_le_pow_right (by decide) hk
  intro n
  induction n with
  | zero =>
    intro h gone x hn hg _ hx
    refine k212_62 ?_
    rw [if_pos (by omega)]
    exact hQ x hx
  | succ n ih =>
    intro h gone x hn hg hne hx
    refine k212_62 ?_
    rw [if_neg (by omega)]
    rcases hT h (by omega) gone hg with e | ⟨e1, s0, e2⟩
    · exact absurd e (hne (by omega))
    · refine p70 hk h7 (by omega) hg e2 (fun s hs => ?_) s0 0 (by omega)
      obtain ⟨w1, w2, w3, w4⟩ := hs
      have ho := wor hk hg w1
      have := ih (h + 1) (zor (gone : Int) (s : Int)).toNat (s : Int) (by omega) ho.2.1 (fun _ e => by
        rw [e] at w4
        have hb := vB_in (s : Int)
        rw [w32_in (by omega)] at w4
        omega) (by unfold zIn; omega)
      rw [Int.toNat_of_nonneg ho.1] at this
      exact this
set_option maxRecDepth 100000 in
theorem zl1 {x y : Int} (h : ¬ zlcmp x y < 0) : y ≤ x := by
  unfold zlcmp at h
  by_cases c : x < y
  · rw [if_pos c] at h; omega
  · omega
set_option maxRecDepth 100000 in
theorem zl2 {x y : Int} (h : ¬ 0 < zlcmp x y) : x ≤ y := by
  unfold zlcmp at h
  by_cases c : x < y
  · omega
  · rw [if_neg c] at h
    by_cases c2 : x = y
    · omega
    · rw [if_neg c2] at h; omega
set_option maxRecDepth 100000 in
theorem wH_pack_ok : aSumOk wG wH_pack := by
  intro sc f ρ0 d hD h0 hN hF hG
  refine zR_le (Nat.le_trans (by decide) hD) (d := 4) ?_
  show zR sc 4 212 0 [] [(0, zP 50), (1, zI (ρ0 1 + 0))] 0 0 zSH f _
  rw [Int.add_zero]
  have i1 : zIn (ρ0 1) := aF32_ok.1 (aNm_1 hN)
  have g7 : (0 : Int) ≤ f 50 7 ∧ f 50 7 ≤ 7 := wG_at (F := afx sc f) (c := 50) (j := 7) (I := (.ofNat 0, .ofNat 7)) hG.1 rfl
  have g6 : (0 : Int) ≤ f 50 6 ∧ f 50 6 ≤ 6 := wG_at (F := afx sc f) (c := 50) (j := 6) (I := (.ofNat 0, .ofNat 6)) hG.1 rfl
  have r0 : aFr [(64, 999)] f f := fun _ _ _ => rfl
  obtain ⟨k, hk⟩ := Int.eq_ofNat_of_zero_le g7.1
  obtain ⟨M, hM⟩ := Int.eq_ofNat_of_zero_le g6.1
  have hk7 : k ≤ 7 := by omega
  have hM6 : M ≤ 6 := by omega
  generalize ρ0 1 = a at i1
  refine k212_0 ?_
  by_cases c1 : zlcmp a (-1) < 0
  · rw [if_pos c1]; exact aPQ_i h0 hN (by decide) (by unfold zIn; decide) hG r0
  · rw [if_neg c1]
    by_cases c2 : 0 < zlcmp a (w32 (f 50 6 - 1))
    · rw [if_pos c2]; exact aPQ_i h0 hN (by decide) (by unfold zIn; decide) hG r0
    · rw [if_neg c2]
      have e1 := zl1 c1
      have e2 := zl2 c2
      rw [w32_in (by omega)] at e2
      rw [hM]
      refine zcall (fun f1 => wS sc f f1 ∧ ∀ h', h' < M → ∀ g, g < 2 ^ k → wE f1 (2 ^ k) h' g) (s211 hk7 hM6 hk hG (fun f1 h1 h2 => ⟨h1, h2⟩)) (fun f1 h => ?_)
      obtain ⟨hS, hT⟩ := h
      have fin : ∀ z, zIn z → aPQ wG sc [((.ofNat 0, .ofNat 0) : aI), (.negSucc 2147483647, .ofNat 2147483647)] [aF32] (some (.inl (2, .ofNat 0))) ([], []) [(64, 999)] ρ0 f (some (zI z)) zSH f1 := fun z hz => aPQ_i h0 hN (by decide) hz hS.1 hS.2
      by_cases c3 : f1 64 0 = 1000000
      · rw [if_pos c3]; exact fin _ (by unfold zIn; decide)
      · rw [if_neg c3]
        by_cases c4 : a = -1
        · rw [if_pos c4]
          have := wG_in (F := afx sc f1) (c := 64) (b := 896) (j := 0) hS.1.1 rfl (by decide)
          exact fin _ this
        · rw [if_neg c4]
          obtain ⟨b, hb⟩ := Int.eq_ofNat_of_zero_le (show 0 ≤ a by omega)
          subst hb
          exact p62 hk7 hM6 (by omega) ((wS_7 hS).trans hk) hT fin (b + 1) 0 0 0 (by omega) (Nat.pow_pos (by decide)) (fun _ => c3) (by unfold zIn; decide)
end
