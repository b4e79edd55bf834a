noncomputable section
set_option maxRecDepth 100000 in
theorem b199_0 {sc : zC} {d : Nat} {a : Int} {f : zF} {Q : zQ} (h : zR sc (d + 1) 199 4 [] [(0, zP (50)), (1, zI a), (2, zI (0)), (3, zI (0))] 0 0 zSH f Q) : zR sc (d + 1) 199 0 [] [(0, zP (50)), (1, zI a)] 0 0 zSH f Q := zwn_R (stp := fun mi pc => bif Nat.beq mi 199 && Nat.beq pc 4 then some [0, 1, 2, 3] else none) (inl := fun _ => false) (nov := (fun j => bif Nat.beq j 202 then false else bif Nat.beq j 201 then false else true)) 6 h
set_option maxRecDepth 100000 in
theorem b199_4 {sc : zC} {d : Nat} {x1 x2 x3 : Int} {f : zF} {Q : zQ} (h : if x3 < 24 then (zov ((24) * x1) (zov (((24) * x1) + x3) (zix (((24) * x1) + x3) (168) (zov (x2 + (f (59) ((((24) * x1) + x3).toNat))) (zov (x3 + 1) (zR sc (d + 1) 199 4 [] [(0, zP (50)), (1, zI x1), (2, zI (x2 + (f (59) ((((24) * x1) + x3).toNat)))), (3, zI (x3 + 1))] 0 0 zSH f Q)))))) else (Q (some (zI x2)) zSH f)) : zR sc (d + 1) 199 4 [] [(0, zP (50)), (1, zI x1), (2, zI x2), (3, zI x3)] 0 0 zSH f Q := zwn_R (stp := fun mi pc => bif Nat.beq mi 199 && Nat.beq pc 4 then some [0, 1, 2, 3] else none) (inl := fun _ => false) (nov := (fun j => bif Nat.beq j 202 then false else bif Nat.beq j 201 then false else true)) 20 h
set_option maxRecDepth 100000 in
theorem b200_0 {sc : zC} {d : Nat} {a b c : Int} {f : zF} {Q : zQ} (h : ∃ A2 : zQ, zR sc d 199 0 [] [(0, zP (50)), (1, zI a)] 0 0 zSH f A2 ∧ ∀ (r3 : Int) (f1 : zF), zIn r3 → A2 (some (zI r3)) zSH f1 → (if f1 (50) (12) < 0 then (if c < c then (zov ((30) + a) (zix ((30) + a) (60) (zov ((f1 (51) (((30) + a).toNat)) - r3) (if (f1 (51) (((30) + a).toNat)) - r3 < c then (zov ((30) + a) (zix ((30) + a) (60) (zov ((f1 (51) (((30) + a).toNat)) - r3) (if (f1 (51) (((30) + a).toNat)) - r3 < 0 then (Q (some (zI (0))) zSH f1) else (Q (some (zI ((f1 (51) (((30) + a).toNat)) - r3))) zSH f1))))) else (if c < 0 then (Q (some (zI (0))) zSH f1) else (Q (some (zI c)) zSH f1)))))) else (zov ((30) + a) (zix ((30) + a) (60) (zov ((f1 (51) (((30) + a).toNat)) - r3) (if (f1 (51) (((30) + a).toNat)) - r3 < c then (zov ((30) + a) (zix ((30) + a) (60) (zov ((f1 (51) (((30) + a).toNat)) - r3) (if (f1 (51) (((30) + a).toNat)) - r3 < 0 then (Q (some (zI (0))) zSH f1) else (Q (some (zI ((f1 (51) (((30) + a).toNat)) - r3))) zSH f1))))) else (if c < 0 then (Q (some (zI (0))) zSH f1) else (Q (some (zI c)) zSH f1))))))) else (zov ((30) + a) (zix ((30) + a) (60) (zov (Int.tdiv b (4)) (∃ A5 : zQ, zR sc d 196 0 [] [(0, zP (50)), (1, zI (0)), (2, zI (f1 (50) (12)))] 0 0 zSH (zup (zup (zup (zup (zup (zup f1 (58) (0) c) (58) (1) r3) (58) (2) (f1 (51) (((30) + a).toNat))) (58) (3) (Int.tmod b (4))) (58) (4) (Int.tdiv b (4))) (58) (5) a) A5 ∧ ∀ (r6 : Int) (f4 : zF), zIn r6 → A5 (some (zI r6)) zSH f4 → (if c < r6 then (zov ((30) + a) (zix ((30) + a) (60) (zov ((f4 (51) (((30) + a).toNat)) - r3) (if (f4 (51) (((30) + a).toNat)) - r3 < c then (zov ((30) + a) (zix ((30) + a) (60) (zov ((f4 (51) (((30) + a).toNat)) - r3) (if (f4 (51) (((30) + a).toNat)) - r3 < 0 then (Q (some (zI (0))) zSH f4) else (Q (some (zI ((f4 (51) (((30) + a).toNat)) - r3))) zSH f4))))) else (if c < 0 then (Q (some (zI (0))) zSH f4) else (Q (some (zI c)) zSH f4)))))) else (zov ((30) + a) (zix ((30) + a) (60) (zov ((f4 (51) (((30) + a).toNat)) - r3) (if (f4 (51) (((30) + a).toNat)) - r3 < r6 then (zov ((30) + a) (zix ((30) + a) (60) (zov ((f4 (51) (((30) + a).toNat)) - r3) (if (f4 (51) (((30) + a).toNat)) - r3 < 0 then (Q (some (zI (0))) zSH f4) else (Q (some (zI ((f4 (51) (((30) + a).toNat)) - r3))) zSH f4))))) else (if r6 < 0 then (Q (some (zI (0))) zSH f4) else (Q (some (zI r6)) zSH f4))))))))))))) : zR sc (d + 1) 200 0 [] [(0, zP (50)), (1, zI a), (2, zI b), (3, zI c)] 0 0 zSH f Q := zwn_R (stp := fun _ _ => none) (inl := fun _ => false) (nov := (fun j => bif Nat.beq j 202 then false else bif Nat.beq j 201 then false else true)) 216 h
set_option maxRecDepth 100000 in
theorem b201_0 {sc : zC} {d : Nat} {a : Int} {f : zF} {Q : zQ} (h : zix (w32 ((37) + a)) (60) (zR sc (d + 1) 201 12 [] [(0, zP (50)), (1, zI a), (2, zI (f (51) ((w32 ((37) + a)).toNat))), (3, zI (0))] 0 0 zSH f Q)) : zR sc (d + 1) 201 0 [] [(0, zP (50)), (1, zI a)] 0 0 zSH f Q := zwn_R (stp := fun mi pc => bif Nat.beq mi 201 && Nat.beq pc 12 then some [0, 1, 2, 3] else none) (inl := fun _ => false) (nov := (fun j => bif Nat.beq j 202 then false else bif Nat.beq j 201 then false else true)) 11 h
set_option maxRecDepth 100000 in
theorem b201_12 {sc : zC} {d : Nat} {x1 x2 x3 : Int} {f : zF} {Q : zQ} (h : if x3 < 24 then (zix (w32 ((51) + x2)) (60) (zix x2 (4) (zix (w32 ((w32 ((24) * x1)) + x3)) (168) (if f (59) ((w32 ((w32 ((24) * x1)) + x3)).toNat) < w32 ((f (51) ((w32 ((51) + x2)).toNat)) - (f (61) (x2.toNat))) then (zix (w32 ((w32 ((24) * x1)) + x3)) (168) (if f (59) ((w32 ((w32 ((24) * x1)) + x3)).toNat) < 0 then (zix (w32 ((w32 ((24) * x1)) + x3)) (168) (zix (w32 ((w32 ((24) * x1)) + x3)) (168) (zix x2 (4) (zix x2 (4) (zR sc (d + 1) 201 12 [] [(0, zP (50)), (1, zI x1), (2, zI x2), (3, zI (w32 (x3 + 1)))] 0 0 zSH (zup (zup (zup f (59) ((w32 ((w32 ((24) * x1)) + x3)).toNat) (w32 ((f (59) ((w32 ((w32 ((24) * x1)) + x3)).toNat)) - (0)))) (61) (x2.toNat) (w32 ((f (61) (x2.toNat)) + (0)))) (50) (27) (w32 ((f (50) (27)) + (0)))) Q))))) else (zix (w32 ((w32 ((24) * x1)) + x3)) (168) (zix (w32 ((w32 ((24) * x1)) + x3)) (168) (zix x2 (4) (zix x2 (4) (zR sc (d + 1) 201 12 [] [(0, zP (50)), (1, zI x1), (2, zI x2), (3, zI (w32 (x3 + 1)))] 0 0 zSH (zup (zup (zup f (59) ((w32 ((w32 ((24) * x1)) + x3)).toNat) (w32 ((f (59) ((w32 ((w32 ((24) * x1)) + x3)).toNat)) - (f (59) ((w32 ((w32 ((24) * x1)) + x3)).toNat))))) (61) (x2.toNat) (w32 ((f (61) (x2.toNat)) + (f (59) ((w32 ((w32 ((24) * x1)) + x3)).toNat))))) (50) (27) (w32 ((f (50) (27)) + (f (59) ((w32 ((w32 ((24) * x1)) + x3)).toNat))))) Q))))))) else (if w32 ((f (51) ((w32 ((51) + x2)).toNat)) - (f (61) (x2.toNat))) < 0 then (zix (w32 ((w32 ((24) * x1)) + x3)) (168) (zix (w32 ((w32 ((24) * x1)) + x3)) (168) (zix x2 (4) (zix x2 (4) (zR sc (d + 1) 201 12 [] [(0, zP (50)), (1, zI x1), (2, zI x2), (3, zI (w32 (x3 + 1)))] 0 0 zSH (zup (zup (zup f (59) ((w32 ((w32 ((24) * x1)) + x3)).toNat) (w32 ((f (59) ((w32 ((w32 ((24) * x1)) + x3)).toNat)) - (0)))) (61) (x2.toNat) (w32 ((f (61) (x2.toNat)) + (0)))) (50) (27) (w32 ((f (50) (27)) + (0)))) Q))))) else (zix (w32 ((w32 ((24) * x1)) + x3)) (168) (zix (w32 ((w32 ((24) * x1)) + x3)) (168) (zix x2 (4) (zix x2 (4) (zR sc (d + 1) 201 12 [] [(0, zP (50)), (1, zI x1), (2, zI x2), (3, zI (w32 (x3 + 1)))] 0 0 zSH (zup (zup (zup f (59) ((w32 ((w32 ((24) * x1)) + x3)).toNat) (w32 ((f (59) ((w32 ((w32 ((24) * x1)) + x3)).toNat)) - (w32 ((f (51) ((w32 ((51) + x2)).toNat)) - (f (61) (x2.toNat))))))) (61) (x2.toNat) (w32 ((f (61) (x2.toNat)) + (w32 ((f (51) ((w32 ((51) + x2)).toNat)) - (f (61) (x2.toNat))))))) (50) (27) (w32 ((f (50) (27)) + (w32 ((f (51) ((w32 ((51) + x2)).toNat)) - (f (61) (x2.toNat))))))) Q)))))))))) else (Q none zSH f)) : zR sc (d + 1) 201 12 [] [(0, zP (50)), (1, zI x1), (2, zI x2), (3, zI x3)] 0 0 zSH f Q := zwn_R (stp := fun mi pc => bif Nat.beq mi 201 && Nat.beq pc 12 then some [0, 1, 2, 3] else none) (inl := fun _ => false) (nov := (fun j => bif Nat.beq j 202 then false else bif Nat.beq j 201 then false else true)) 166 h
set_option maxRecDepth 100000 in
theorem b202_0 {sc : zC} {d : Nat} {f : zF} {Q : zQ} (h : zR sc (d + 1) 202 17 [] [(0, zP (50)), (1, zI (0))] 0 0 zSH (zup (zup (zup f (50) (25) (0)) (50) (26) (0)) (50) (27) (0)) Q) : zR sc (d + 1) 202 0 [] [(0, zP (50))] 0 0 zSH f Q := zwn_R (stp := fun mi pc => bif Nat.beq mi 202 && Nat.beq pc 17 then some [0, 1] else none) (inl := fun _ => false) (nov := (fun j => bif Nat.beq j 202 then false else bif Nat.beq j 201 then false else true)) 13 h
set_option maxRecDepth 100000 in
theorem b202_17 {sc : zC} {d : Nat} {x1 : Int} {f : zF} {Q : zQ} (h : if x1 < w32 ((4) * (f (50) (6))) then (zix x1 (24) (zR sc (d + 1) 202 36 [] [(0, zP (50)), (1, zI x1), (2, zI (f (62) (x1.toNat))), (3, zI (0))] 0 0 zSH f Q)) else (if w32 ((f (50) (24)) + (1)) = 7 then (zR sc (d + 1) 202 195 [] [(0, zP (50)), (1, zI (0))] 0 0 zSH (zup (zup f (50) (24) (w32 ((f (50) (24)) + (1)))) (50) (24) (0)) Q) else (Q none zSH (zup f (50) (24) (w32 ((f (50) (24)) + (1))))))) : zR sc (d + 1) 202 17 [] [(0, zP (50)), (1, zI x1)] 0 0 zSH f Q := zwn_R (stp := fun mi pc => bif Nat.beq mi 202 && Nat.beq pc 36 then some [0, 1, 2, 3] else bif Nat.beq mi 202 && Nat.beq pc 195 then some [0, 1] else none) (inl := fun _ => false) (nov := (fun j => bif Nat.beq j 202 then false else bif Nat.beq j 201 then false else true)) 31 h
set_option maxRecDepth 100000 in
theorem b202_36 {sc : zC} {d : Nat} {x1 x2 x3 : Int} {f : zF} {Q : zQ} (h : if x3 < f (50) (7) then (zix x3 (7) (if f (63) (x3.toNat) = w32 (Int.tdiv x1 (4)) then (∃ A2 : zQ, zR sc d 200 0 [] [(0, zP (50)), (1, zI x3), (2, zI x1), (3, zI x2)] 0 0 zSH f A2 ∧ ∀ (r3 : Int) (f1 : zF), zIn r3 → A2 (some (zI r3)) zSH f1 → (zix (w32 ((w32 ((24) * x3)) + x1)) (168) (zix (w32 ((w32 ((24) * x3)) + x1)) (168) (zR sc (d + 1) 202 36 [] [(0, zP (50)), (1, zI x1), (2, zI (w32 (x2 - r3))), (3, zI (w32 (x3 + 1)))] 0 0 zSH (zup (zup f1 (59) ((w32 ((w32 ((24) * x3)) + x1)).toNat) (w32 ((f1 (59) ((w32 ((w32 ((24) * x3)) + x1)).toNat)) + r3))) (50) (25) (w32 ((f1 (50) (25)) + r3))) Q)))) else (zR sc (d + 1) 202 36 [] [(0, zP (50)), (1, zI x1), (2, zI x2), (3, zI (w32 (x3 + 1)))] 0 0 zSH f Q))) else (zix (w32 (Int.tdiv x1 (4))) (6) (if 9999 < w32 ((f (60) ((w32 (Int.tdiv x1 (4))).toNat)) + x2) then (zix (w32 (Int.tdiv x1 (4))) (6) (zix (w32 (Int.tdiv x1 (4))) (6) (zR sc (d + 1) 202 17 [] [(0, zP (50)), (1, zI (w32 (x1 + 1)))] 0 0 zSH (zup (zup f (50) (26) (w32 ((f (50) (26)) + (w32 ((9999) - (f (60) ((w32 (Int.tdiv x1 (4))).toNat))))))) (60) ((w32 (Int.tdiv x1 (4))).toNat) (9999)) Q))) else (zix (w32 (Int.tdiv x1 (4))) (6) (zix (w32 (Int.tdiv x1 (4))) (6) (zix (w32 (Int.tdiv x1 (4))) (6) (zR sc (d + 1) 202 17 [] [(0, zP (50)), (1, zI (w32 (x1 + 1)))] 0 0 zSH (zup (zup f (50) (26) (w32 ((f (50) (26)) + (w32 ((w32 ((f (60) ((w32 (Int.tdiv x1 (4))).toNat)) + x2)) - (f (60) ((w32 (Int.tdiv x1 (4))).toNat))))))) (60) ((w32 (Int.tdiv x1 (4))).toNat) (w32 ((f (60) ((w32 (Int.tdiv x1 (4))).toNat)) + x2))) Q))))))) : zR sc (d + 1) 202 36 [] [(0, zP (50)), (1, zI x1), (2, zI x2), (3, zI x3)] 0 0 zSH f Q := zwn_R (stp := fun mi pc => bif Nat.beq mi 202 && Nat.beq pc 17 then some [0, 1] else bif Nat.beq mi 202 && Nat.beq pc 36 then some [0, 1, 2, 3] else none) (inl := fun _ => false) (nov := (fun j => bif Nat.beq j 202 then false else bif Nat.beq j 201 then false else true)) 104 h
set_option maxRecDepth 100000 in
theorem b202_195 {sc : zC} {d : Nat} {x1 : Int} {f : zF} {Q : zQ} (h : if x1 < f (50) (7) then (∃ A2 : zQ, zR sc d 201 0 [] [(0, zP (50)), (1, zI x1)] 0 0 zSH f A2 ∧ ∀ f1 : zF, A2 none zSH f1 → (zR sc (d + 1) 202 195 [] [(0, zP (50)), (1, zI (w32 (x1 + 1)))] 0 0 zSH f1 Q)) else (Q none zSH f)) : zR sc (d + 1) 202 195 [] [(0, zP (50)), (1, zI x1)] 0 0 zSH f Q := zwn_R (stp := fun mi pc => bif Nat.beq mi 202 && Nat.beq pc 195 then some [0, 1] else none) (inl := fun _ => false) (nov := (fun j => bif Nat.beq j 202 then false else bif Nat.beq j 201 then false else true)) 12 h
set_option maxRecDepth 100000 in
theorem b203_0 {sc : zC} {d : Nat} {a : Int} {f : zF} {Q : zQ} (h : zR sc (d + 1) 203 2 [] [(0, zP (50)), (1, zI a), (2, zI (0))] 0 0 zSH f Q) : zR sc (d + 1) 203 0 [] [(0, zP (50)), (1, zI a)] 0 0 zSH f Q := zwn_R (stp := fun mi pc => bif Nat.beq mi 203 && Nat.beq pc 2 then some [0, 1, 2] else none) (inl := fun _ => false) (nov := (fun j => bif Nat.beq j 202 then false else bif Nat.beq j 201 then false else true)) 4 h
set_option maxRecDepth 100000 in
theorem b203_2 {sc : zC} {d : Nat} {x1 x2 : Int} {f : zF} {Q : zQ} (h : if x2 < x1 then (∃ A2 : zQ, zR sc d 202 0 [] [(0, zP (50))] 0 0 zSH f A2 ∧ ∀ f1 : zF, A2 none zSH f1 → (zov (x2 + 1) (zR sc (d + 1) 203 2 [] [(0, zP (50)), (1, zI x1), (2, zI (x2 + 1))] 0 0 zSH f1 Q))) else (Q none zSH f)) : zR sc (d + 1) 203 2 [] [(0, zP (50)), (1, zI x1), (2, zI x2)] 0 0 zSH f Q := zwn_R (stp := fun mi pc => bif Nat.beq mi 203 && Nat.beq pc 2 then some [0, 1, 2] else none) (inl := fun _ => false) (nov := (fun j => bif Nat.beq j 202 then false else bif Nat.beq j 201 then false else true)) 10 h
/-! the reference's days -/
set_option maxRecDepth 4000 in
set_option maxHeartbeats 400000 in
theorem pan_nm {nm nm' : Nat → Int} (h : ∀ j, j < 6 → nm j = nm' j) : ∀ (L st : List Int) (po : Bool), pan nm L st po = pan nm' L st po
  | [], _, _ => rfl
  | c :: L, st, po => by
    have e : pst nm c st = pst nm' c st := by
      unfold pst
      by_cases h0 : 0 ≤ c
      · rw [if_pos h0, if_pos h0]
      · rw [if_neg h0, if_neg h0]
        by_cases h6 : -6 ≤ c
        · rw [if_pos h6, if_pos h6, h _ (by omega)]
        · rw [if_neg h6, if_neg h6]
    show (if po = true then pan nm L st (decide (c ≠ -59)) else if c = -59 then st.headD 0 else if c = -63 then pan nm L st.tail (decide (st.headD 0 = 0)) else pan nm L (pst nm c st) false) = (if po = true then pan nm' L st (decide (c ≠ -59)) else if c = -59 then st.headD 0 else if c = -63 then pan nm' L st.tail (decide (st.headD 0 = 0)) else pan nm' L (pst nm' c st) false)
    rw [pan_nm h L st, pan_nm h L st.tail, e, pan_nm h L (pst nm' c st)]
/-- the reference's law: its text, and the code that it has -/
def rLw (w : zLw) (f : zF) : Prop := (w.1 = true → (0 ≤ f 50 12 ∧ f 50 12 ≤ 120) ∧ (∀ p, -1 ≤ nxt (f 57) (f 50 12) p ∧ nxt (f 57) (f 50 12) p ≤ 255) ∧ pfa (f 50 12) (prd (f 57) (f 50 12)) = -1 ∧ w.2 = (prd (f 57) (f 50 12)).2.2) ∧ (¬ w.1 = true → f 50 12 = -1)
set_option maxRecDepth 4000 in
set_option maxHeartbeats 400000 in
theorem rLw_l {w : zLw} {f f1 : zF} (h : ∀ j, f1 57 j = f 57 j) (g : f1 50 12 = f 50 12) (k : rLw w f) : rLw w f1 := by
  have e : f1 57 = f 57 := funext h
  unfold rLw
  rw [e, g]
  exact k
set_option maxRecDepth 4000 in
set_option maxHeartbeats 400000 in
theorem rLw_k {w : zLw} {f f1 : zF} (k : rLw w f) (h : ∀ j, f1 57 j = f 57 j) (g : f1 50 12 = f 50 12) : rLw w f1 := rLw_l h g k
def rB (w : zLw) (P A f : zF) : Prop := (f 50 6 = P 5 0 ∧ f 50 7 = P 5 1) ∧ (∀ g : Nat, g < 7 → f 51 (30 + g) = P 0 g ∧ f 51 (37 + g) = P 1 g ∧ ((g : Int) < P 5 1 → f 63 g = P 3 g)) ∧ (∀ k, k < 4 → f 51 (51 + k) = P 2 k ∧ f 61 k = A 2 k) ∧ (∀ h, h < 6 → f 60 h = A 1 h) ∧ f 50 24 = A 3 0 ∧ (∀ j, j < 168 → f 59 j = A 0 j) ∧ (∀ hs, hs < 24 → f 62 hs = P 4 hs) ∧ rLw w f
def rK (A f : zF) : Prop := tle (f 50 25) (A 3 1) ∧ tle (f 50 26) (A 3 2) ∧ tle (f 50 27) (A 3 3)
/-- all other cells stay -/
def rM (f f1 : zF) : Prop := ∀ c j, c ≠ 58 → c ≠ 59 → c ≠ 60 → c ≠ 61 → (c ≠ 50 ∨ ¬ ((13 ≤ j ∧ j ≤ 17) ∨ (24 ≤ j ∧ j ≤ 27))) → f1 c j = f c j
/-- the text's frame -/
def lfr (f f1 : zF) : Prop := ∀ c j, c ≠ 58 → (c ≠ 50 ∨ (j ≠ 13 ∧ j ≠ 14 ∧ j ≠ 15 ∧ j ≠ 16 ∧ j ≠ 17)) → f1 c j = f c j
section RD
variable {w : zLw} {P A B f f1 f2 : zF} {g hs : Nat} {left : Int} {sc : zC} {d : Nat} {Q : zQ}
set_option maxRecDepth 4000 in
set_option maxHeartbeats 400000 in
theorem rM_t (h : rM f f1) (g : rM f1 f2) : rM f f2 := fun c j a1 a2 a3 a4 a5 => (g c j a1 a2 a3 a4 a5).trans (h c j a1 a2 a3 a4 a5)
set_option maxRecDepth 4000 in
set_option maxHeartbeats 400000 in
theorem rM_l (h : lfr f f1) : rM f f1 := fun c j a1 a2 a3 a4 a5 => h c j a1 (by omega)
set_option maxRecDepth 4000 in
set_option maxHeartbeats 400000 in
theorem rB_l (h : lfr f f1) (k : rB w P A f) : rB w P A f1 := by
  obtain ⟨⟨k1, k2⟩, k3, k4, k5, k6, k7, k8, k9⟩ := k
  have e : ∀ c j, c ≠ 58 → c ≠ 50 → f1 c j = f c j := fun c j a b => h c j a (Or.inl b)
  refine ⟨⟨(h 50 6 (by decide) (Or.inr (by decide))).trans k1, (h 50 7 (by decide) (Or.inr (by decide))).trans k2⟩, fun g hg => ?_, fun q hq => ?_, fun q hq => ?_, (h 50 24 (by decide) (Or.inr (by decide))).trans k6, fun j hj => ?_, fun j hj => ?_, rLw_l (fun j => e 57 j (by decide) (by decide)) (h 50 12 (by decide) (Or.inr (by decide))) k9⟩
  · rw [e 51 (30 + g) (by decide) (by decide), e 51 (37 + g) (by decide) (by decide), e 63 g (by decide) (by decide)]
    exact k3 g hg
  · rw [e 51 (51 + q) (by decide) (by decide), e 61 q (by decide) (by decide)]
    exact k4 q hq
  · rw [e 60 q (by decide) (by decide)]
    exact k5 q hq
  · rw [e 59 j (by decide) (by decide)]
    exact k7 j hj
  · rw [e 62 j (by decide) (by decide)]
    exact k8 j hj
set_option maxRecDepth 4000 in
set_option maxHeartbeats 400000 in
theorem rK_l (h : lfr f f1) (k : rK A f) : rK A f1 := ⟨(h 50 25 (by decide) (Or.inr (by decide))).trans k.1, (h 50 26 (by decide) (Or.inr (by decide))).trans k.2.1, (h 50 27 (by decide) (Or.inr (by decide))).trans k.2.2⟩
set_option maxRecDepth 4000 in
set_option maxHeartbeats 400000 in
/-- all that a girl has -/
theorem r_sum (hg : g < 7) (a : dIn P A) (h : ∀ j, j < 168 → f 59 j = A 0 j) (K : Q (some (zI (ld A g))) zSH f) : zR sc (d + 1) 199 0 [] [(0, zP 50), (1, zI (g : Int))] 0 0 zSH f Q := by
  refine b199_0 (d := d) ?_
  have L : ∀ n, n ≤ 24 → zR sc (d + 1) 199 4 [] [(0, zP 50), (1, zI (g : Int)), (2, zI (sN (fun k => A 0 (24 * g + k)) n)), (3, zI (n : Int))] 0 0 zSH f Q := by
    refine zloop 24 (fun n hn ih => ?_) ?_
    · refine b199_4 (d := d) ?_
      have e : (24 : Int) * (g : Int) + (n : Int) = ((24 * g + n : Nat) : Int) := by omega
      have b0 := sN_0 (F := fun k => A 0 (24 * g + k)) n (fun k hk => a.1 _ (by omega))
      have b1 := sN_mo (F := fun k => A 0 (24 * g + k)) 24 (n + 1) (by omega) (fun k hk => a.1 _ (by omega))
      have b2 : sN (fun k => A 0 (24 * g + k)) (n + 1) = sN (fun k => A 0 (24 * g + k)) n + A 0 (24 * g + n) := rfl
      have b3 : ld A g = sN (fun k => A 0 (24 * g + k)) 24 := rfl
      have b4 := a.2.1 g hg
      have b5 := a.1 (24 * g + n) (by omega)
      simp only [e, Int.toNat_natCast]
      rw [if_pos (by omega), h (24 * g + n) (by omega)]
      refine zov_p (by omega) (zov_p (by omega) (zix_p (by omega) (zov_p (by omega) (zov_p (by omega) ?_))))
      rw [show (n : Int) + 1 = ((n + 1 : Nat) : Int) by omega]
      exact ih
    · refine b199_4 (d := d) ?_
      rw [if_neg (by omega)]
      exact K
  exact L 0 (Nat.zero_le _)
set_option maxRecDepth 4000 in
set_option maxHeartbeats 400000 in
theorem pTk_is {v z : Int} (h3 : P 3 g = ((hs / 4 : Nat) : Int)) (hz : zan w left (ld A g) (P 0 g) ((hs % 4 : Nat) : Int) ((hs / 4 : Nat) : Int) (g : Int) = z) (h : (v = 0 ∧ (left ≤ 0 ∨ P 0 g - ld A g ≤ 0 ∨ z ≤ 0)) ∨ (0 < v ∧ v ≤ z ∧ v ≤ left ∧ v ≤ P 0 g - ld A g ∧ (v = z ∨ v = left ∨ v = P 0 g - ld A g))) : pTk w P A g hs left = v := by
  unfold pTk
  rw [if_pos h3, hz]
  by_cases c1 : P 0 g - ld A g < left
  · rw [if_pos c1]
    by_cases c2 : P 0 g - ld A g < z
    · rw [if_pos c2]
      split <;> omega
    · rw [if_neg c2]
      split <;> omega
  · rw [if_neg c1]
    by_cases c2 : left < z
    · rw [if_pos c2]
      split <;> omega
    · rw [if_neg c2]
      split <;> omega
set_option maxRecDepth 4000 in
set_option maxHeartbeats 400000 in
/-- what a girl takes -/
theorem r_take (p : pIn P) (a : dIn P A) (hg : g < 7) (hh : hs < 24) (hl : 0 ≤ left ∧ left ≤ 9) (h3 : P 3 g = ((hs / 4 : Nat) : Int)) (k : rB w P A f) (K : ∀ f1, lfr f f1 → Q (some (zI (pTk w P A g hs left))) zSH f1) : zR sc (d + 93) 200 0 [] [(0, zP 50), (1, zI (g : Int)), (2, zI (hs : Int)), (3, zI left)] 0 0 zSH f Q := by
  obtain ⟨⟨k1, k2⟩, k3, k4, k5, k6, k7, k8, k9⟩ := id k
  have l0 := ld_0 a hg
  have l9 := a.2.1 g hg
  have r1 := (p.2.2.1 g hg).1
  have e30 : (30 : Int) + (g : Int) = ((30 + g : Nat) : Int) := by omega
  refine b200_0 (d := d + 92) (zcallE (r_sum (d := d + 91) hg a k7 ⟨rfl, rfl⟩) ?_)
  simp only [e30, Int.toNat_natCast, (k3 g hg).1, td4, tm4]
  by_cases hw : w.1 = true
  · obtain ⟨⟨n0, n1⟩, hT, hf, he⟩ := k9.1 hw
    rw [if_neg (by omega)]
    refine zov_p (by omega) (zix_p (by omega) (zov_p (by omega) ?_))
    refine zcall1 (fun v f1 => zan w left (ld A g) (P 0 g) ((hs % 4 : Nat) : Int) ((hs / 4 : Nat) : Int) (g : Int) = v ∧ lfr f f1) (r_wo (d := d + 1) (T := f 57) ⟨n0, n1⟩ hT (Or.inr ⟨rfl, funext fun _ => rfl⟩) (fun v f1 q1 q2 q3 => ⟨_, rfl, ?_, ?_⟩)) (fun v f1 _ h => ?_)
    · rw [q3 hf]
      unfold zan
      rw [if_pos hw, he]
      refine pan_nm (fun j hj => ?_) _ _ _
      match j, hj with
      | 0, _ => rfl
      | 1, _ => rfl
      | 2, _ => rfl
      | 3, _ => rfl
      | 4, _ => rfl
      | 5, _ => rfl
      | n + 6, h => omega
    · intro c j a1 a2
      rw [q1 c j a2]
      simp only [zup_at, if_neg a1]
    · obtain ⟨hv, h2⟩ := h
      have e51 : f1 51 (30 + g) = P 0 g := (h2 51 _ (by decide) (Or.inl (by decide))).trans (k3 g hg).1
      simp only [e51]
      have K' : ∀ y, pTk w P A g hs left = y → Q (some (zI y)) zSH f1 := fun y e => e ▸ K f1 h2
      repeat' (first | (refine zov_p (by omega) ?_) | (refine zix_p (by omega) ?_) | (refine zit (fun h => ?_) (fun h => ?_)))
      all_goals exact K' _ (pTk_is h3 hv (by omega))
  · have h12 := k9.2 hw
    rw [if_pos (by omega)]
    have K' : ∀ y, pTk w P A g hs left = y → Q (some (zI y)) zSH f := fun y e => e ▸ K f (fun _ _ _ _ => rfl)
    have hv : zan w left (ld A g) (P 0 g) ((hs % 4 : Nat) : Int) ((hs / 4 : Nat) : Int) (g : Int) = left := if_neg hw
    repeat' (first | (refine zov_p (by omega) ?_) | (refine zix_p (by omega) ?_) | (refine zit (fun h => ?_) (fun h => ?_)))
    all_goals exact K' _ (pTk_is h3 hv (by omega))
set_option maxRecDepth 4000 in
set_option maxHeartbeats 400000 in
theorem tnw_is {v : Int} {q : Nat} (hq : P 1 g = (q : Int)) (h : (v = 0 ∧ (A 0 (24 * g + hs) ≤ 0 ∨ P 2 q - A 2 q ≤ 0)) ∨ (0 ≤ v ∧ v ≤ A 0 (24 * g + hs) ∧ v ≤ P 2 q - A 2 q ∧ (v = A 0 (24 * g + hs) ∨ v = P 2 q - A 2 q))) : v = tnw P A g hs := by
  unfold tnw
  rw [hq, Int.toNat_natCast]
  by_cases c1 : A 0 (24 * g + hs) < P 2 q - A 2 q
  · rw [if_pos c1]
    split <;> omega
  · rw [if_neg c1]
    split <;> omega
set_option maxRecDepth 4000 in
set_option maxHeartbeats 400000 in
/-- what is said to a hill -/
theorem r_tl {q : Nat} (p : pIn P) (a : dIn P A) (hg : g < 7) (hh : hs < 24) (hq : P 1 g = (q : Int)) (k : rB w P A f) (kk : rK A f) (K : ∀ f1, rB w P (aTl P A g hs) f1 → rK (aTl P A g hs) f1 → rM f f1 → zR sc (d + 1) 201 12 [] [(0, zP 50), (1, zI (g : Int)), (2, zI (q : Int)), (3, zI ((hs + 1 : Nat) : Int))] 0 0 zSH f1 Q) : zR sc (d + 1) 201 12 [] [(0, zP 50), (1, zI (g : Int)), (2, zI (q : Int)), (3, zI (hs : Int))] 0 0 zSH f Q := by
  obtain ⟨⟨k1, k2⟩, k3, k4, k5, k6, k7, k8, k9⟩ := id k
  obtain ⟨q1, q2, q3⟩ := kk
  obtain ⟨b1, b2, b3⟩ := tnw_b p a hg hh
  have a0 := a.1 (24 * g + hs) (by omega)
  have a9 := own_le a hg hh
  have hk := (p.2.2.1 g hg).2
  have hq4 : q < 4 := by omega
  have p2 := p.2.2.2.1 q hq4
  have a2 := a.2.2.2.1 q hq4
  rw [hq, Int.toNat_natCast] at b3
  have e3 : wq (51 + (q : Int)) ((51 + q : Nat) : Int) := wq_i (by omega) (by omega)
  have e5 : wq (w32 (24 * (g : Int)) + (hs : Int)) ((24 * g + hs : Nat) : Int) := wq_2 (by omega) (by omega) (by omega)
  have e6 : wq (P 2 q - A 2 q) (P 2 q - A 2 q) := wq_i (by omega) rfl
  have e7 : wq ((hs : Int) + 1) ((hs + 1 : Nat) : Int) := wq_i (by omega) (by omega)
  have go : ∀ v, v = tnw P A g hs → zR sc (d + 1) 201 12 [] [(0, zP 50), (1, zI (g : Int)), (2, zI (q : Int)), (3, zI ((hs + 1 : Nat) : Int))] 0 0 zSH (zup (zup (zup f 59 (24 * g + hs) (w32 (A 0 (24 * g + hs) - v))) 61 q (w32 (A 2 q + v))) 50 27 (w32 (A 3 3 + v))) Q := by
    intro v hv
    subst hv
    rw [w32_in (z := A 0 (24 * g + hs) - tnw P A g hs) (by omega), w32_in (z := A 2 q + tnw P A g hs) (by omega)]
    refine K _ ⟨⟨k1, k2⟩, k3, fun q' hq' => ⟨(k4 q' hq').1, ?_⟩, k5, k6, fun j hj => ?_, k8, rLw_k k9 (fun _ => rfl) rfl⟩ ⟨q1, q2, rfl⟩ (fun c j a1 a2 a3 a4 a5 => ?_)
    · rw [aTl_2, hq, Int.toNat_natCast]
      show (if q' = q then A 2 q + tnw P A g hs else f 61 q') = _
      rw [(k4 q' hq').2]
    · rw [aTl_0]
      show (if j = 24 * g + hs then A 0 (24 * g + hs) - tnw P A g hs else f 59 j) = _
      rw [k7 j hj, Int.sub_eq_add_neg]
    · simp only [zup_at, if_neg a2, if_neg a4]
      by_cases e : c = 50
      · rw [if_pos e, if_neg (by omega)]
      · rw [if_neg e]
  refine b201_12 (d := d) ?_
  simp only [wq_e e3, wq_e e5, wq_e e7, Int.toNat_natCast, (k4 q hq4).1, (k4 q hq4).2, wq_e e6, k7 (24 * g + hs) (by omega), tle_e q3, w32_a]
  rw [if_pos (by omega)]
  repeat' (first | (refine zix_p (by omega) ?_) | (refine zit (fun h => ?_) (fun h => ?_)))
  all_goals exact go _ (tnw_is hq (by omega))
set_option maxRecDepth 4000 in
set_option maxHeartbeats 400000 in
/-- a girl goes home -/
theorem r_gh (p : pIn P) (a : dIn P A) (hg : g < 7) (k : rB w P A f) (kk : rK A f) (K : ∀ f1, rB w P (hLp P A g 24) f1 → rK (hLp P A g 24) f1 → rM f f1 → Q none zSH f1) : zR sc (d + 1) 201 0 [] [(0, zP 50), (1, zI (g : Int))] 0 0 zSH f Q := by
  have e37 : wq (37 + (g : Int)) ((37 + g : Nat) : Int) := wq_i (by omega) (by omega)
  have hk := (p.2.2.1 g hg).2
  obtain ⟨q, hq⟩ : ∃ q : Nat, P 1 g = (q : Int) := ⟨(P 1 g).toNat, by omega⟩
  refine b201_0 (d := d) ?_
  rw [wq_e e37, Int.toNat_natCast, (k.2.1 g hg).2.1, hq]
  refine zix_p (by omega) ?_
  have L : ∀ n, n ≤ 24 → ∀ f1, rB w P (hLp P A g n) f1 → rK (hLp P A g n) f1 → rM f f1 → zR sc (d + 1) 201 12 [] [(0, zP 50), (1, zI (g : Int)), (2, zI (q : Int)), (3, zI (n : Int))] 0 0 zSH f1 Q := by
    refine zloop 24 (fun n hn ih f1 k1 kk1 m1 => ?_) (fun f1 k1 kk1 m1 => ?_)
    · exact r_tl p (hLp_in p a hg n (by omega)) hg hn hq k1 kk1 (fun f2 k2 kk2 m2 => ih f2 k2 kk2 (rM_t m1 m2))
    · refine b201_12 (d := d) ?_
      rw [if_neg (by omega)]
      exact K f1 k1 kk1 m1
  exact L 0 (Nat.zero_le _) f k kk (fun _ _ _ _ _ _ _ => rfl)
set_option maxRecDepth 4000 in
set_option maxHeartbeats 400000 in
/-- a girl, of what is left -/
theorem r_gl (p : pIn P) (a : dIn P A) (hg : (g : Int) < P 5 1) (hh : (hs : Int) < 4 * P 5 0) (hl : 0 ≤ left ∧ left ≤ 9) (k : rB w P A f) (kk : rK A f) (K : ∀ f1, rB w P (aTk A g hs (pTk w P A g hs left)) f1 → rK (aTk A g hs (pTk w P A g hs left)) f1 → rM f f1 → zR sc (d + 94) 202 36 [] [(0, zP 50), (1, zI (hs : Int)), (2, zI (left - pTk w P A g hs left)), (3, zI ((g + 1 : Nat) : Int))] 0 0 zSH f1 Q) : zR sc (d + 94) 202 36 [] [(0, zP 50), (1, zI (hs : Int)), (2, zI left), (3, zI (g : Int))] 0 0 zSH f Q := by
  have hp := p.1
  have hG := p.2.1
  have hg7 : g < 7 := by omega
  have hh24 : hs < 24 := by omega
  obtain ⟨⟨k1, k2⟩, k3, k4, k5, k6, k7, k8, k9⟩ := id k
  obtain ⟨b1, b2, b3⟩ := pTk_b (w := w) (hs := hs) p a hg7 hl.1
  have a0 := a.1 (24 * g + hs) (by omega)
  have a9 := own_le a hg7 hh24
  have l0 := ld_0 a hg7
  have l9 := a.2.1 g hg7
  have e5 : wq (w32 (24 * (g : Int)) + (hs : Int)) ((24 * g + hs : Nat) : Int) := wq_2 (by omega) (by omega) (by omega)
  have e7 : wq ((g : Int) + 1) ((g + 1 : Nat) : Int) := wq_i (by omega) (by omega)
  have hdiv : wq (Int.tdiv (hs : Int) 4) ((hs / 4 : Nat) : Int) := by
    rw [td4]
    exact wq_i (by omega) rfl
  refine b202_36 (d := d + 93) ?_
  rw [k2, if_pos hg, wq_e e7, wq_e hdiv, wq_e e5, Int.toNat_natCast, Int.toNat_natCast, (k3 g hg7).2.2 hg]
  refine zix_p (by omega) ?_
  by_cases h3 : P 3 g = ((hs / 4 : Nat) : Int)
  · rw [if_pos h3]
    refine zcall1 (fun v f1 => v = pTk w P A g hs left ∧ lfr f f1) (r_take (d := d) p a hg7 hh24 hl h3 k (fun f1 h => ⟨_, rfl, rfl, h⟩)) (fun v f1 _ h => ?_)
    obtain ⟨rfl, h⟩ := h
    obtain ⟨⟨i1, i2⟩, i3, i4, i5, i6, i7, i8, i9⟩ := rB_l h k
    obtain ⟨j1, j2, j3⟩ := rK_l h kk
    refine zix_p (by omega) (zix_p (by omega) ?_)
    rw [i7 (24 * g + hs) (by omega), tle_e j1, w32_a, w32_in (z := left - pTk w P A g hs left) (by omega), w32_in (z := A 0 (24 * g + hs) + pTk w P A g hs left) (by omega)]
    refine K _ ⟨⟨i1, i2⟩, i3, i4, i5, i6, fun j hj => ?_, i8, rLw_k i9 (fun _ => rfl) rfl⟩ ⟨rfl, j2, j3⟩ (rM_t (rM_l h) (fun c j a1 a2 a3 a4 a5 => ?_))
    · rw [aTk_0]
      show (if j = 24 * g + hs then A 0 (24 * g + hs) + pTk w P A g hs left else f1 59 j) = _
      rw [i7 j hj]
    · simp only [zup_at, if_neg a2]
      by_cases e : c = 50
      · rw [if_pos e, if_neg (by omega)]
      · rw [if_neg e]
  · rw [if_neg h3]
    have t0 : pTk w P A g hs left = 0 := if_neg h3
    have eA : aTk A g hs 0 = A := by
      unfold aTk
      rw [Int.add_zero, Int.add_zero, zup_id (rfl : A 0 (24 * g + hs) = _), zup_id (rfl : A 3 1 = _)]
    rw [t0, eA, Int.sub_zero] at K
    exact K f k kk (fun _ _ _ _ _ _ _ => rfl)
set_option maxRecDepth 4000 in
set_option maxHeartbeats 400000 in
/-- what is left becomes clutter -/
theorem r_cl {n : Nat} (p : pIn P) (a : dIn P A) (hn : (n : Int) = P 5 1) (hh : (hs : Int) < 4 * P 5 0) (hl : 0 ≤ left ∧ left ≤ 9) (k : rB w P A f) (kk : rK A f) (K : ∀ f1, rB w P (aCl A (hs / 4) left) f1 → rK (aCl A (hs / 4) left) f1 → rM f f1 → zR sc (d + 94) 202 17 [] [(0, zP 50), (1, zI ((hs + 1 : Nat) : Int))] 0 0 zSH f1 Q) : zR sc (d + 94) 202 36 [] [(0, zP 50), (1, zI (hs : Int)), (2, zI left), (3, zI (n : Int))] 0 0 zSH f Q := by
  have hp := p.1
  obtain ⟨⟨k1, k2⟩, k3, k4, k5, k6, k7, k8, k9⟩ := id k
  obtain ⟨j1, j2, j3⟩ := kk
  have hh6 : hs / 4 < 6 := by omega
  have a1 := a.2.2.1 (hs / 4) hh6
  have e7 : wq ((hs : Int) + 1) ((hs + 1 : Nat) : Int) := wq_i (by omega) (by omega)
  have hdiv : wq (Int.tdiv (hs : Int) 4) ((hs / 4 : Nat) : Int) := by
    rw [td4]
    exact wq_i (by omega) rfl
  have e1 : wq (A 1 (hs / 4) + left) (A 1 (hs / 4) + left) := wq_i (by omega) rfl
  have e2 : wq (9999 - A 1 (hs / 4)) (9999 - A 1 (hs / 4)) := wq_i (by omega) rfl
  have e3 : wq (A 1 (hs / 4) + left - A 1 (hs / 4)) (A 1 (hs / 4) + left - A 1 (hs / 4)) := wq_i (by omega) rfl
  refine b202_36 (d := d + 93) ?_
  simp only [wq_e hdiv, wq_e e7, Int.toNat_natCast, k5 (hs / 4) hh6, wq_e e1, wq_e e2, wq_e e3, tle_e j2, w32_a]
  rw [k2, if_neg (by omega)]
  have go : ∀ v, v = cnw A (hs / 4) left → zR sc (d + 94) 202 17 [] [(0, zP 50), (1, zI ((hs + 1 : Nat) : Int))] 0 0 zSH (zup (zup f 50 26 (w32 (A 3 2 + (v - A 1 (hs / 4))))) 60 (hs / 4) v) Q := by
    intro v hv
    subst hv
    refine K _ ⟨⟨k1, k2⟩, k3, k4, fun h' hh' => ?_, k6, k7, k8, rLw_k k9 (fun _ => rfl) rfl⟩ ⟨j1, rfl, j3⟩ (fun c j a1 a2 a3 a4 a5 => ?_)
    · show (if h' = hs / 4 then cnw A (hs / 4) left else f 60 h') = aCl A (hs / 4) left 1 h'
      unfold aCl
      simp only [zup_at, Nat.reduceEqDiff, reduceIte]
      rw [k5 h' hh']
    · simp only [zup_at, if_neg a3]
      by_cases e : c = 50
      · rw [if_pos e, if_neg (by omega)]
      · rw [if_neg e]
  refine zix_p (by omega) (zit (fun h => zix_p (by omega) (zix_p (by omega) (go _ (if_pos h).symm))) (fun h => zix_p (by omega) (zix_p (by omega) (zix_p (by omega) (go _ (if_neg h).symm)))))
set_option maxRecDepth 4000 in
set_option maxHeartbeats 400000 in
/-- a day -/
theorem r_day (p : pIn P) (a : dIn P A) (k : rB w P A f) (K : ∀ f1, rB w P (dDy w P A) f1 → rK (dDy w P A) f1 → rM f f1 → Q none zSH f1) : zR sc (d + 94) 202 0 [] [(0, zP 50)] 0 0 zSH f Q := by
  have hp := p.1
  have hG := p.2.1
  have a0 : dIn P (a00 A) := dIn_3 (dIn_3 (dIn_3 a (Or.inl (by decide))) (Or.inl (by decide))) (Or.inl (by decide))
  obtain ⟨⟨i1, i2⟩, i3, i4, i5, i6, i7, i8, i9⟩ := id k
  refine b202_0 (d := d + 93) ?_
  have L : ∀ n, n ≤ (4 * P 5 0).toNat → ∀ f1, rB w P (cLp w P (a00 A) n) f1 → rK (cLp w P (a00 A) n) f1 → rM f f1 → zR sc (d + 94) 202 17 [] [(0, zP 50), (1, zI (n : Int))] 0 0 zSH f1 Q := by
    refine zloop (4 * P 5 0).toNat (fun n hn ih f1 k1 kk1 m1 => ?_) (fun f1 k1 kk1 m1 => ?_)
    · have c1 := cLp_in (w := w) p a0 n (by omega)
      have h9 := p.2.2.2.2 n (by omega)
      refine b202_17 (d := d + 93) ?_
      rw [k1.1.1, w32_in (z := 4 * P 5 0) (by omega), if_pos (by omega), Int.toNat_natCast, k1.2.2.2.2.2.2.1 n (by omega)]
      refine zix_p (by omega) ?_
      have M : ∀ q, q ≤ (P 5 1).toNat → ∀ f2, rB w P (gLp w P (cLp w P (a00 A) n) n (P 4 n) q).1 f2 → rK (gLp w P (cLp w P (a00 A) n) n (P 4 n) q).1 f2 → rM f f2 → zR sc (d + 94) 202 36 [] [(0, zP 50), (1, zI (n : Int)), (2, zI (gLp w P (cLp w P (a00 A) n) n (P 4 n) q).2), (3, zI (q : Int))] 0 0 zSH f2 Q := by
        refine zloop (P 5 1).toNat (fun q hq ih2 f2 k2 kk2 m2 => ?_) (fun f2 k2 kk2 m2 => ?_)
        · obtain ⟨g1, g2, g3⟩ := gLp_in (w := w) (hs := n) (left := P 4 n) p c1 (by omega) h9.1 q (by omega)
          exact r_gl p g1 (by omega) (by omega) ⟨g2, by omega⟩ k2 kk2 (fun f3 k3 kk3 m3 => ih2 f3 k3 kk3 (rM_t m2 m3))
        · obtain ⟨g1, g2, g3⟩ := gLp_in (w := w) (hs := n) (left := P 4 n) p c1 (by omega) h9.1 (P 5 1).toNat (by omega)
          exact r_cl p g1 (by omega) (by omega) ⟨g2, by omega⟩ k2 kk2 (fun f3 k3 kk3 m3 => ih f3 k3 kk3 (rM_t m2 m3))
      exact M 0 (Nat.zero_le _) f1 k1 kk1 m1
    · have c1 := cLp_in (w := w) p a0 (4 * P 5 0).toNat (by omega)
      have c5 := c1.2.2.2.2.1
      refine b202_17 (d := d + 93) ?_
      obtain ⟨⟨j1, j2⟩, j3, j4, j5, j6, j7, j8, j9⟩ := id k1
      obtain ⟨q1, q2, q3⟩ := id kk1
      rw [j1, w32_in (z := 4 * P 5 0) (by omega), if_neg (by omega), j6, w32_in (z := cLp w P (a00 A) (4 * P 5 0).toNat 3 0 + 1) (by omega)]
      by_cases h6 : cLp w P (a00 A) (4 * P 5 0).toNat 3 0 < 6
      · have e : dDy w P A = zup (cLp w P (a00 A) (4 * P 5 0).toNat) 3 0 (cLp w P (a00 A) (4 * P 5 0).toNat 3 0 + 1) := if_pos h6
        rw [e] at K
        rw [if_neg (by omega)]
        refine K _ ⟨⟨j1, j2⟩, j3, j4, j5, rfl, j7, j8, rLw_k j9 (fun _ => rfl) rfl⟩ ⟨q1, q2, q3⟩ (rM_t m1 (fun c j a1 a2 a3 a4 a5 => ?_))
        rw [zup_at]
        by_cases e : c = 50
        · rw [if_pos e, if_neg (by omega)]
        · rw [if_neg e]
      · have e : dDy w P A = oLp P (zup (cLp w P (a00 A) (4 * P 5 0).toNat) 3 0 0) (P 5 1).toNat := if_neg h6
        rw [e] at K
        rw [if_pos (by omega)]
        have o0 : dIn P (zup (cLp w P (a00 A) (4 * P 5 0).toNat) 3 0 0) := dIn_3 c1 (Or.inr (by decide))
        have O : ∀ q, q ≤ (P 5 1).toNat → ∀ f2, rB w P (oLp P (zup (cLp w P (a00 A) (4 * P 5 0).toNat) 3 0 0) q) f2 → rK (oLp P (zup (cLp w P (a00 A) (4 * P 5 0).toNat) 3 0 0) q) f2 → rM f f2 → zR sc (d + 94) 202 195 [] [(0, zP 50), (1, zI (q : Int))] 0 0 zSH f2 Q := by
          refine zloop (P 5 1).toNat (fun q hq ih2 f2 k2 kk2 m2 => ?_) (fun f2 k2 kk2 m2 => ?_)
          · refine b202_195 (d := d + 93) ?_
            rw [k2.1.2, if_pos (by omega)]
            refine zcall (fun f3 => rB w P (oLp P (zup (cLp w P (a00 A) (4 * P 5 0).toNat) 3 0 0) (q + 1)) f3 ∧ rK (oLp P (zup (cLp w P (a00 A) (4 * P 5 0).toNat) 3 0 0) (q + 1)) f3 ∧ rM f2 f3) (r_gh (d := d + 92) p (oLp_in p o0 q (by omega)) (by omega) k2 kk2 (fun f3 b1 b2 b3 => ⟨b1, b2, b3⟩)) (fun f3 h => ?_)
            rw [w32_in (z := (q : Int) + 1) (by omega), show (q : Int) + 1 = ((q + 1 : Nat) : Int) by omega]
            exact ih2 f3 h.1 h.2.1 (rM_t m2 h.2.2)
          · refine b202_195 (d := d + 93) ?_
            rw [k2.1.2, if_neg (by omega)]
            exact K f2 k2 kk2 m2
        refine O 0 (Nat.zero_le _) _ ⟨⟨j1, j2⟩, j3, j4, j5, rfl, j7, j8, rLw_k j9 (fun _ => rfl) rfl⟩ ⟨q1, q2, q3⟩ (rM_t m1 (fun c j a1 a2 a3 a4 a5 => ?_))
        simp only [zup_at]
        by_cases e : c = 50
        · rw [if_pos e, if_pos e, if_neg (by omega), if_neg (by omega)]
        · rw [if_neg e, if_neg e]
  refine L 0 (Nat.zero_le _) _ ⟨⟨i1, i2⟩, i3, i4, i5, i6, i7, i8, rLw_k i9 (fun _ => rfl) rfl⟩ ⟨w32_0.symm, w32_0.symm, w32_0.symm⟩ (fun c j a1 a2 a3 a4 a5 => ?_)
  simp only [zup_at]
  by_cases e : c = 50
  · rw [if_pos e, if_pos e, if_pos e, if_neg (by omega), if_neg (by omega), if_neg (by omega)]
  · rw [if_neg e, if_neg e, if_neg e]
set_option maxRecDepth 4000 in
set_option maxHeartbeats 400000 in
/-- n days -/
theorem r_days {n : Nat} (hn : n ≤ 60) (p : pIn P) (a : dIn P A) (k : rB w P A f) (K : ∀ f1, rB w P (dIt w P A n) f1 → rM f f1 → Q none zSH f1) : zR sc (d + 95) 203 0 [] [(0, zP 50), (1, zI (n : Int))] 0 0 zSH f Q := by
  refine b203_0 (d := d + 94) ?_
  have L : ∀ i, i ≤ n → ∀ f1, rB w P (dIt w P A i) f1 → rM f f1 → zR sc (d + 95) 203 2 [] [(0, zP 50), (1, zI (n : Int)), (2, zI (i : Int))] 0 0 zSH f1 Q := by
    refine zloop n (fun i hi ih f1 k1 m1 => ?_) (fun f1 k1 m1 => ?_)
    · refine b203_2 (d := d + 94) ?_
      rw [if_pos (by omega)]
      refine zcall (fun f2 => rB w P (dIt w P A (i + 1)) f2 ∧ rM f1 f2) (r_day (d := d) p (dIt_in p a i) k1 (fun f2 h1 _ h2 => ⟨h1, h2⟩)) (fun f2 h => ?_)
      refine zov_p (by omega) ?_
      rw [show (i : Int) + 1 = ((i + 1 : Nat) : Int) by omega]
      exact ih f2 h.1 (rM_t m1 h.2)
    · refine b203_2 (d := d + 94) ?_
      rw [if_neg (by omega)]
      exact K f1 k1 m1
  exact L 0 (Nat.zero_le _) f k (fun _ _ _ _ _ _ _ => rfl)
end RD
end
