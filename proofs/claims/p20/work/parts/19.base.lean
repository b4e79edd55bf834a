noncomputable section
/-- the cells behind both constructors -/
def zSH : zH := [.inl (10, [.inl 1, .inl 7, .inl 13, .inr 1, .inl 19, .inl 22, .inl 26, .inl 30, .inl 33, .inl 38, .inl 40, .inl 42, .inl 45]),
  .inl (6, [.inr 0, .inr 0, .inl 2, .inl 3, .inl 4, .inl 5, .inl 6]),
  .inr (false, 60),
  .inr (false, 168),
  .inr (false, 7),
  .inr (false, 6),
  .inr (false, 24),
  .inl (6, [.inr 0, .inr 0, .inl 8, .inl 9, .inl 10, .inl 11, .inl 12]),
  .inr (false, 60),
  .inr (false, 168),
  .inr (false, 7),
  .inr (false, 6),
  .inr (false, 24),
  .inl (6, [.inr 0, .inr 0, .inl 14, .inl 15, .inl 16, .inl 17, .inl 18]),
  .inr (false, 60),
  .inr (false, 168),
  .inr (false, 7),
  .inr (false, 6),
  .inr (false, 24),
  .inl (7, [.inl 20, .inr 0, .inl 21, .inr 0, .inr 0, .inr 0]),
  .inr (false, 120),
  .inr (false, 121),
  .inl (2, [.inl 23, .inr 0, .inl 24, .inl 25, .inr 0]),
  .inr (false, 121),
  .inr (false, 6),
  .inr (false, 120),
  .inl (0, [.inl 27, .inl 28, .inl 29, .inr 0, .inr 0]),
  .inr (false, 40),
  .inr (false, 40),
  .inr (false, 40),
  .inl (3, [.inl 31, .inl 32]),
  .inr (false, 128),
  .inr (false, 896),
  .inl (4, [.inr 0, .inr 0, .inl 34, .inl 35, .inl 36, .inl 37]),
  .inr (false, 6),
  .inr (false, 42),
  .inr (false, 7),
  .inr (false, 7),
  .inl (9, [.inl 39, .inr 0, .inr 0, .inr 0]),
  .inr (false, 28),
  .inl (8, [.inr 0, .inl 41]),
  .inr (false, 14),
  .inl (1, [.inl 43, .inr 0, .inl 44, .inr 0]),
  .inr (false, 50),
  .inr (false, 24),
  .inl (5, [.inl 46, .inl 47, .inl 48, .inl 49]),
  .inr (false, 6),
  .inr (false, 6),
  .inr (false, 6),
  .inr (true, 360),
  .inl (11, [.inl 51, .inl 52, .inl 53, .inl 54, .inr 0, .inr 0, .inr 0, .inr 0, .inl 55, .inl 56, .inr 0, .inl 57, .inr 0, .inr 0, .inr 0, .inr 0, .inr 0, .inr 0, .inl 58, .inl 59, .inl 60, .inl 61, .inl 62, .inl 63, .inr 0, .inr 0, .inr 0, .inr 0, .inl 64, .inl 65, .inl 66, .inl 67, .inr 0, .inl 68, .inr 1, .inr 0, .inr 0, .inl 69, .inl 70, .inl 71, .inr 0, .inl 72, .inl 73, .inr 0, .inr 0, .inr 0, .inl 74, .inl 75, .inl 76, .inl 77]),
  .inr (false, 60),
  .inr (false, 40),
  .inr (false, 40),
  .inr (false, 40),
  .inr (false, 168),
  .inr (false, 120),
  .inr (false, 120),
  .inr (false, 6),
  .inr (false, 168),
  .inr (false, 6),
  .inr (false, 4),
  .inr (false, 24),
  .inr (false, 7),
  .inr (false, 896),
  .inr (false, 7),
  .inr (false, 7),
  .inr (false, 7),
  .inr (false, 6),
  .inr (false, 60),
  .inr (false, 168),
  .inr (false, 6),
  .inr (false, 50),
  .inr (false, 24),
  .inr (false, 6),
  .inr (false, 6),
  .inr (true, 360),
  .inr (true, 60)]
set_option maxRecDepth 100000 in
theorem b198_0 {sc : zC} {f : zF} {Q : zQ} (h : zR sc (1) 198 2 [] [(0, zP (50)), (1, zI (0))] 0 0 zSH f Q) : zR sc (1) 198 0 [] [(0, zP (50))] 0 0 zSH f Q := zwn_R (stp := fun mi pc => bif Nat.beq mi 198 && Nat.beq pc 2 then some [0, 1] else bif Nat.beq mi 198 && Nat.beq pc 29 then some [0, 1] else bif Nat.beq mi 198 && Nat.beq pc 58 then some [0, 1] else bif Nat.beq mi 198 && Nat.beq pc 86 then some [0, 1] else bif Nat.beq mi 198 && Nat.beq pc 112 then some [0, 1] else none) (inl := fun _ => false) (nov := fun _ => true) 4 h
set_option maxRecDepth 100000 in
theorem b198_2 {sc : zC} {x1 : Int} {f : zF} {Q : zQ} (h : if x1 < 168 then (zix x1 (168) (zix x1 (168) (zov (x1 + 1) (zR sc (1) 198 2 [] [(0, zP (50)), (1, zI (x1 + 1))] 0 0 zSH (zup f (59) (x1.toNat) (f (55) (x1.toNat))) Q)))) else (zR sc (1) 198 29 [] [(0, zP (50)), (1, zI (0))] 0 0 zSH f Q)) : zR sc (1) 198 2 [] [(0, zP (50)), (1, zI x1)] 0 0 zSH f Q := zwn_R (stp := fun mi pc => bif Nat.beq mi 198 && Nat.beq pc 2 then some [0, 1] else bif Nat.beq mi 198 && Nat.beq pc 29 then some [0, 1] else bif Nat.beq mi 198 && Nat.beq pc 58 then some [0, 1] else bif Nat.beq mi 198 && Nat.beq pc 86 then some [0, 1] else bif Nat.beq mi 198 && Nat.beq pc 112 then some [0, 1] else none) (inl := fun _ => false) (nov := fun _ => true) 17 h
set_option maxRecDepth 100000 in
theorem b198_29 {sc : zC} {x1 : Int} {f : zF} {Q : zQ} (h : if x1 < 6 then (zov ((24) + x1) (zix ((24) + x1) (60) (zix x1 (6) (zov (x1 + 1) (zR sc (1) 198 29 [] [(0, zP (50)), (1, zI (x1 + 1))] 0 0 zSH (zup f (60) (x1.toNat) (f (51) (((24) + x1).toNat))) Q))))) else (zR sc (1) 198 58 [] [(0, zP (50)), (1, zI (0))] 0 0 zSH f Q)) : zR sc (1) 198 29 [] [(0, zP (50)), (1, zI x1)] 0 0 zSH f Q := zwn_R (stp := fun mi pc => bif Nat.beq mi 198 && Nat.beq pc 2 then some [0, 1] else bif Nat.beq mi 198 && Nat.beq pc 29 then some [0, 1] else bif Nat.beq mi 198 && Nat.beq pc 58 then some [0, 1] else bif Nat.beq mi 198 && Nat.beq pc 86 then some [0, 1] else bif Nat.beq mi 198 && Nat.beq pc 112 then some [0, 1] else none) (inl := fun _ => false) (nov := fun _ => true) 19 h
set_option maxRecDepth 100000 in
theorem b198_58 {sc : zC} {x1 : Int} {f : zF} {Q : zQ} (h : if x1 < 4 then (zov ((55) + x1) (zix ((55) + x1) (60) (zix x1 (4) (zov (x1 + 1) (zR sc (1) 198 58 [] [(0, zP (50)), (1, zI (x1 + 1))] 0 0 zSH (zup f (61) (x1.toNat) (f (51) (((55) + x1).toNat))) Q))))) else (zR sc (1) 198 86 [] [(0, zP (50)), (1, zI (0))] 0 0 zSH f Q)) : zR sc (1) 198 58 [] [(0, zP (50)), (1, zI x1)] 0 0 zSH f Q := zwn_R (stp := fun mi pc => bif Nat.beq mi 198 && Nat.beq pc 2 then some [0, 1] else bif Nat.beq mi 198 && Nat.beq pc 29 then some [0, 1] else bif Nat.beq mi 198 && Nat.beq pc 58 then some [0, 1] else bif Nat.beq mi 198 && Nat.beq pc 86 then some [0, 1] else bif Nat.beq mi 198 && Nat.beq pc 112 then some [0, 1] else none) (inl := fun _ => false) (nov := fun _ => true) 19 h
set_option maxRecDepth 100000 in
theorem b198_86 {sc : zC} {x1 : Int} {f : zF} {Q : zQ} (h : if x1 < 24 then (zix x1 (60) (zix x1 (24) (zov (x1 + 1) (zR sc (1) 198 86 [] [(0, zP (50)), (1, zI (x1 + 1))] 0 0 zSH (zup f (62) (x1.toNat) (f (51) (x1.toNat))) Q)))) else (zR sc (1) 198 112 [] [(0, zP (50)), (1, zI (0))] 0 0 zSH f Q)) : zR sc (1) 198 86 [] [(0, zP (50)), (1, zI x1)] 0 0 zSH f Q := zwn_R (stp := fun mi pc => bif Nat.beq mi 198 && Nat.beq pc 2 then some [0, 1] else bif Nat.beq mi 198 && Nat.beq pc 29 then some [0, 1] else bif Nat.beq mi 198 && Nat.beq pc 58 then some [0, 1] else bif Nat.beq mi 198 && Nat.beq pc 86 then some [0, 1] else bif Nat.beq mi 198 && Nat.beq pc 112 then some [0, 1] else none) (inl := fun _ => false) (nov := fun _ => true) 17 h
set_option maxRecDepth 100000 in
theorem b198_112 {sc : zC} {x1 : Int} {f : zF} {Q : zQ} (h : if x1 < 7 then (if x1 < f (50) (7) then (zov ((44) + x1) (zix ((44) + x1) (60) (zix x1 (7) (zov (x1 + 1) (zR sc (1) 198 112 [] [(0, zP (50)), (1, zI (x1 + 1))] 0 0 zSH (zup f (63) (x1.toNat) (f (51) (((44) + x1).toNat))) Q))))) else (zix x1 (7) (zov (x1 + 1) (zR sc (1) 198 112 [] [(0, zP (50)), (1, zI (x1 + 1))] 0 0 zSH (zup f (63) (x1.toNat) (-1)) Q)))) else (Q none zSH (zup f (50) (24) (f (51) (59))))) : zR sc (1) 198 112 [] [(0, zP (50)), (1, zI x1)] 0 0 zSH f Q := zwn_R (stp := fun mi pc => bif Nat.beq mi 198 && Nat.beq pc 2 then some [0, 1] else bif Nat.beq mi 198 && Nat.beq pc 29 then some [0, 1] else bif Nat.beq mi 198 && Nat.beq pc 58 then some [0, 1] else bif Nat.beq mi 198 && Nat.beq pc 86 then some [0, 1] else bif Nat.beq mi 198 && Nat.beq pc 112 then some [0, 1] else none) (inl := fun _ => false) (nov := fun _ => true) 33 h
set_option maxRecDepth 100000 in
theorem b88_0 {sc : zC} {n : Int} {f : zF} {Q : zQ} (h : zR sc (3) 88 5 [] [(0, zP (7)), (1, zP (22)), (2, zI n), (3, zI (0)), (4, zI (0))] 0 0 zSH f Q) : zR sc (3) 88 0 [] [(0, zP (7)), (1, zP (22)), (2, zI n)] 0 0 zSH f Q := zwn_R (stp := fun mi pc => bif Nat.beq mi 88 && Nat.beq pc 5 then some [0, 1, 2, 3, 4] else none) (inl := fun _ => false) (nov := fun _ => true) 6 h
set_option maxRecDepth 100000 in
theorem b88_5 {sc : zC} {x2 x3 x4 : Int} {f : zF} {Q : zQ} (h : if x4 < x2 then (∃ A2 : zQ, zR sc (2) 90 0 [] [(0, zP (7)), (1, zP (22))] 0 0 zSH (zcp f (8) (12) (0) (0) (24)) A2 ∧ ∀ (r3 : Int) (f1 : zF), zIn r3 → A2 (some (zI r3)) zSH f1 → (zov (x3 + r3) (zov (x4 + 1) (zR sc (3) 88 5 [] [(0, zP (7)), (1, zP (22)), (2, zI x2), (3, zI (x3 + r3)), (4, zI (x4 + 1))] 0 0 zSH f1 Q)))) else (Q (some (zI x3)) zSH f)) : zR sc (3) 88 5 [] [(0, zP (7)), (1, zP (22)), (2, zI x2), (3, zI x3), (4, zI x4)] 0 0 zSH f Q := zwn_R (stp := fun mi pc => bif Nat.beq mi 88 && Nat.beq pc 5 then some [0, 1, 2, 3, 4] else none) (inl := fun _ => false) (nov := fun _ => true) 23 h
set_option maxRecDepth 100000 in
theorem b69_0 {sc : zC} {a b : Int} {f : zF} {Q : zQ} {c : Nat} (hc : c = 1 ∨ c = 7) (h : if a < 1 then (Q (some (zI (-1))) zSH f) else (if 99 < a then (Q (some (zI (-1))) zSH f) else (if b < 0 then (Q (some (zI (-1))) zSH f) else (if b < 4 then (if f c (1) < 7 then (zov ((30) + (f c (1))) (zix ((30) + (f c (1))) (60) (zov ((37) + (f c (1))) (zix ((37) + (f c (1))) (60) (zov ((44) + (f c (1))) (zix ((44) + (f c (1))) (60) (zov ((f c (1)) + (1)) (zov (((f c (1)) + (1)) - (1)) (Q (some (zI (((f c (1)) + (1)) - (1)))) zSH (zup (zup (zup (zup f (c + 1) (((30) + (f c (1))).toNat) a) (c + 1) (((37) + (f c (1))).toNat) b) (c + 1) (((44) + (f c (1))).toNat) (-1)) c (1) ((f c (1)) + (1)))))))))))) else (Q (some (zI (-3))) zSH f)) else (Q (some (zI (-1))) zSH f))))) : zR sc (1) 69 0 [] [(0, zP c), (1, zI a), (2, zI b)] 0 0 zSH f Q := by
  rcases hc with rfl | rfl
  · exact zwn_R (stp := fun _ _ => none) (inl := fun _ => false) (nov := fun _ => true) 62 h
  · exact zwn_R (stp := fun _ _ => none) (inl := fun _ => false) (nov := fun _ => true) 62 h
end
