noncomputable section
set_option maxRecDepth 100000 in
theorem b186_0 {sc : zC} {d : Nat} {f : zF} {Q : zQ} (h : if f (50) (14) < f (50) (15) then (if f (50) (13) < 0 then (zix (f (50) (14)) (120) (Q (some (zI (f (56) ((f (50) (14)).toNat)))) zSH f)) else (zov ((f (50) (13)) + (f (50) (14))) (zix ((f (50) (13)) + (f (50) (14))) (120) (Q (some (zI (f (57) (((f (50) (13)) + (f (50) (14))).toNat)))) zSH f)))) else (Q (some (zI (0))) zSH f)) : zR sc (d + 1) 186 0 [] [(0, zP (50))] 0 0 zSH f Q := zwn_R (stp := fun _ _ => none) (inl := fun _ => false) (nov := (fun j => bif Nat.beq j 195 then false else bif Nat.beq j 193 then false else bif Nat.beq j 192 then false else bif Nat.beq j 30 then false else true)) 29 h
set_option maxRecDepth 100000 in
theorem b187_0 {sc : zC} {d : Nat} {f : zF} {Q : zQ} (h : if f (50) (16) < 0 then (Q (some (zI (0))) zSH (zup f (50) (16) (f (50) (14)))) else (Q (some (zI (0))) zSH (zup f (50) (16) (f (50) (16))))) : zR sc (d + 1) 187 0 [] [(0, zP (50))] 0 0 zSH f Q := zwn_R (stp := fun _ _ => none) (inl := fun _ => false) (nov := (fun j => bif Nat.beq j 195 then false else bif Nat.beq j 193 then false else bif Nat.beq j 192 then false else bif Nat.beq j 30 then false else true)) 17 h
set_option maxRecDepth 100000 in
theorem b188_0 {sc : zC} {d : Nat} {a : Int} {f : zF} {Q : zQ} (h : if f (50) (16) < 0 then (∃ A2 : zQ, zR sc d 186 0 [] [(0, zP (50))] 0 0 zSH f A2 ∧ ∀ (r3 : Int) (f1 : zF), zIn r3 → A2 (some (zI r3)) zSH f1 → (if r3 = a then (zov ((f1 (50) (14)) + (1)) (Q (some (zI (1))) zSH (zup f1 (50) (14) ((f1 (50) (14)) + (1))))) else (Q (some (zI (0))) zSH f1))) else (Q (some (zI (0))) zSH f)) : zR sc (d + 1) 188 0 [] [(0, zP (50)), (1, zI a)] 0 0 zSH f Q := zwn_R (stp := fun _ _ => none) (inl := fun _ => false) (nov := (fun j => bif Nat.beq j 195 then false else bif Nat.beq j 193 then false else bif Nat.beq j 192 then false else bif Nat.beq j 30 then false else true)) 21 h
set_option maxRecDepth 100000 in
theorem b194_0 {sc : zC} {d : Nat} {a : Int} {f : zF} {Q : zQ} (h : if a = 97 then (Q (some (zI (0))) zSH f) else if a = 98 then (Q (some (zI (-1))) zSH f) else if a = 99 then (Q (some (zI (-1))) zSH f) else if a = 100 then (Q (some (zI (-1))) zSH f) else if a = 101 then (Q (some (zI (-1))) zSH f) else if a = 102 then (Q (some (zI (1))) zSH f) else if a = 103 then (Q (some (zI (5))) zSH f) else if a = 104 then (Q (some (zI (4))) zSH f) else if a = 105 then (Q (some (zI (-1))) zSH f) else if a = 106 then (Q (some (zI (-1))) zSH f) else if a = 107 then (Q (some (zI (-1))) zSH f) else if a = 108 then (Q (some (zI (-1))) zSH f) else if a = 109 then (Q (some (zI (-1))) zSH f) else if a = 110 then (Q (some (zI (-1))) zSH f) else if a = 111 then (Q (some (zI (-1))) zSH f) else if a = 112 then (Q (some (zI (-1))) zSH f) else if a = 113 then (Q (some (zI (-1))) zSH f) else if a = 114 then (Q (some (zI (2))) zSH f) else if a = 115 then (Q (some (zI (3))) zSH f) else (Q (some (zI (-1))) zSH f)) : zR sc (d + 1) 194 0 [] [(0, zI a)] 0 0 zSH f Q := zwn_R (stp := fun _ _ => none) (inl := fun _ => false) (nov := (fun j => bif Nat.beq j 195 then false else bif Nat.beq j 193 then false else bif Nat.beq j 192 then false else bif Nat.beq j 30 then false else true)) 44 h
set_option maxRecDepth 100000 in
theorem b189_0 {sc : zC} {d : Nat} {f : zF} {Q : zQ} (h : ∃ A2 : zQ, zR sc d 190 0 [] [(0, zP (50))] 0 0 zSH f A2 ∧ ∀ (r3 : Int) (f1 : zF), zIn r3 → A2 (some (zI r3)) zSH f1 → (zR sc (d + 1) 189 5 [] [(0, zP (50)), (1, zI r3)] 0 0 zSH f1 Q)) : zR sc (d + 1) 189 0 [] [(0, zP (50))] 0 0 zSH f Q := zwn_R (stp := fun mi pc => bif Nat.beq mi 189 && Nat.beq pc 5 then some [0, 1] else none) (inl := fun _ => false) (nov := (fun j => bif Nat.beq j 195 then false else bif Nat.beq j 193 then false else bif Nat.beq j 192 then false else bif Nat.beq j 30 then false else true)) 5 h
set_option maxRecDepth 100000 in
theorem b189_5 {sc : zC} {d : Nat} {x1 : Int} {f : zF} {Q : zQ} (h : ∃ A2 : zQ, zR sc d 188 0 [] [(0, zP (50)), (1, zI (124))] 0 0 zSH f A2 ∧ ∀ (r3 : Int) (f1 : zF), (r3 = 0 ∨ r3 = 1) → A2 (some (zI r3)) zSH f1 → (if r3 = 0 then (Q (some (zI x1)) zSH f1) else (∃ A5 : zQ, zR sc d 190 0 [] [(0, zP (50))] 0 0 zSH f1 A5 ∧ ∀ (r6 : Int) (f4 : zF), zIn r6 → A5 (some (zI r6)) zSH f4 → (if x1 = 0 then (if r6 = 0 then (zR sc (d + 1) 189 5 [] [(0, zP (50)), (1, zI (0))] 0 0 zSH f4 Q) else (zR sc (d + 1) 189 5 [] [(0, zP (50)), (1, zI (1))] 0 0 zSH f4 Q)) else (zR sc (d + 1) 189 5 [] [(0, zP (50)), (1, zI (1))] 0 0 zSH f4 Q))))) : zR sc (d + 1) 189 5 [] [(0, zP (50)), (1, zI x1)] 0 0 zSH f Q := zwn_R (stp := fun mi pc => bif Nat.beq mi 189 && Nat.beq pc 5 then some [0, 1] else none) (inl := fun _ => false) (nov := (fun j => bif Nat.beq j 195 then false else bif Nat.beq j 193 then false else bif Nat.beq j 192 then false else bif Nat.beq j 30 then false else true)) 26 h
set_option maxRecDepth 100000 in
theorem b190_0 {sc : zC} {d : Nat} {f : zF} {Q : zQ} (h : ∃ A2 : zQ, zR sc d 191 0 [] [(0, zP (50))] 0 0 zSH f A2 ∧ ∀ (r3 : Int) (f1 : zF), zIn r3 → A2 (some (zI r3)) zSH f1 → (zR sc (d + 1) 190 5 [] [(0, zP (50)), (1, zI r3)] 0 0 zSH f1 Q)) : zR sc (d + 1) 190 0 [] [(0, zP (50))] 0 0 zSH f Q := zwn_R (stp := fun mi pc => bif Nat.beq mi 190 && Nat.beq pc 5 then some [0, 1] else none) (inl := fun _ => false) (nov := (fun j => bif Nat.beq j 195 then false else bif Nat.beq j 193 then false else bif Nat.beq j 192 then false else bif Nat.beq j 30 then false else true)) 5 h
set_option maxRecDepth 100000 in
theorem b190_5 {sc : zC} {d : Nat} {x1 : Int} {f : zF} {Q : zQ} (h : ∃ A2 : zQ, zR sc d 188 0 [] [(0, zP (50)), (1, zI (38))] 0 0 zSH f A2 ∧ ∀ (r3 : Int) (f1 : zF), (r3 = 0 ∨ r3 = 1) → A2 (some (zI r3)) zSH f1 → (if r3 = 0 then (Q (some (zI x1)) zSH f1) else (∃ A5 : zQ, zR sc d 191 0 [] [(0, zP (50))] 0 0 zSH f1 A5 ∧ ∀ (r6 : Int) (f4 : zF), zIn r6 → A5 (some (zI r6)) zSH f4 → (if x1 = 0 then (zR sc (d + 1) 190 5 [] [(0, zP (50)), (1, zI (0))] 0 0 zSH f4 Q) else (if r6 = 0 then (zR sc (d + 1) 190 5 [] [(0, zP (50)), (1, zI (0))] 0 0 zSH f4 Q) else (zR sc (d + 1) 190 5 [] [(0, zP (50)), (1, zI (1))] 0 0 zSH f4 Q)))))) : zR sc (d + 1) 190 5 [] [(0, zP (50)), (1, zI x1)] 0 0 zSH f Q := zwn_R (stp := fun mi pc => bif Nat.beq mi 190 && Nat.beq pc 5 then some [0, 1] else none) (inl := fun _ => false) (nov := (fun j => bif Nat.beq j 195 then false else bif Nat.beq j 193 then false else bif Nat.beq j 192 then false else bif Nat.beq j 30 then false else true)) 25 h
set_option maxRecDepth 100000 in
theorem b192_0 {sc : zC} {d : Nat} {f : zF} {Q : zQ} (h : ∃ A2 : zQ, zR sc d 193 0 [] [(0, zP (50))] 0 0 zSH f A2 ∧ ∀ (r3 : Int) (f1 : zF), zIn r3 → A2 (some (zI r3)) zSH f1 → (zR sc (d + 1) 192 5 [] [(0, zP (50)), (1, zI r3)] 0 0 zSH f1 Q)) : zR sc (d + 1) 192 0 [] [(0, zP (50))] 0 0 zSH f Q := zwn_R (stp := fun mi pc => bif Nat.beq mi 192 && Nat.beq pc 5 then some [0, 1] else none) (inl := fun _ => false) (nov := (fun j => bif Nat.beq j 195 then false else bif Nat.beq j 193 then false else bif Nat.beq j 192 then false else bif Nat.beq j 30 then false else true)) 5 h
set_option maxRecDepth 100000 in
theorem b192_5 {sc : zC} {d : Nat} {x1 : Int} {f : zF} {Q : zQ} (h : if f (50) (16) < 0 then (∃ A2 : zQ, zR sc d 186 0 [] [(0, zP (50))] 0 0 zSH f A2 ∧ ∀ (r3 : Int) (f1 : zF), zIn r3 → A2 (some (zI r3)) zSH f1 → (if r3 = 43 then (∃ A5 : zQ, zR sc d 186 0 [] [(0, zP (50))] 0 0 zSH f1 A5 ∧ ∀ (r6 : Int) (f4 : zF), zIn r6 → A5 (some (zI r6)) zSH f4 → (if r6 = 43 then (∃ A8 : zQ, zR sc d 193 0 [] [(0, zP (50))] 0 0 zSH (zup f4 (50) (14) (w32 ((f4 (50) (14)) + (1)))) A8 ∧ ∀ (r9 : Int) (f7 : zF), zIn r9 → A8 (some (zI r9)) zSH f7 → (zR sc (d + 1) 192 5 [] [(0, zP (50)), (1, zI (w32 (x1 + r9)))] 0 0 zSH f7 Q)) else (∃ A11 : zQ, zR sc d 193 0 [] [(0, zP (50))] 0 0 zSH (zup f4 (50) (14) (w32 ((f4 (50) (14)) + (1)))) A11 ∧ ∀ (r12 : Int) (f10 : zF), zIn r12 → A11 (some (zI r12)) zSH f10 → (zR sc (d + 1) 192 5 [] [(0, zP (50)), (1, zI (w32 (x1 - r12)))] 0 0 zSH f10 Q)))) else (∃ A14 : zQ, zR sc d 186 0 [] [(0, zP (50))] 0 0 zSH f1 A14 ∧ ∀ (r15 : Int) (f13 : zF), zIn r15 → A14 (some (zI r15)) zSH f13 → (if r15 = 45 then (∃ A17 : zQ, zR sc d 186 0 [] [(0, zP (50))] 0 0 zSH f13 A17 ∧ ∀ (r18 : Int) (f16 : zF), zIn r18 → A17 (some (zI r18)) zSH f16 → (if r18 = 43 then (∃ A20 : zQ, zR sc d 193 0 [] [(0, zP (50))] 0 0 zSH (zup f16 (50) (14) (w32 ((f16 (50) (14)) + (1)))) A20 ∧ ∀ (r21 : Int) (f19 : zF), zIn r21 → A20 (some (zI r21)) zSH f19 → (zR sc (d + 1) 192 5 [] [(0, zP (50)), (1, zI (w32 (x1 + r21)))] 0 0 zSH f19 Q)) else (∃ A23 : zQ, zR sc d 193 0 [] [(0, zP (50))] 0 0 zSH (zup f16 (50) (14) (w32 ((f16 (50) (14)) + (1)))) A23 ∧ ∀ (r24 : Int) (f22 : zF), zIn r24 → A23 (some (zI r24)) zSH f22 → (zR sc (d + 1) 192 5 [] [(0, zP (50)), (1, zI (w32 (x1 - r24)))] 0 0 zSH f22 Q)))) else (Q (some (zI x1)) zSH f13))))) else (Q (some (zI x1)) zSH f)) : zR sc (d + 1) 192 5 [] [(0, zP (50)), (1, zI x1)] 0 0 zSH f Q := zwn_R (stp := fun mi pc => bif Nat.beq mi 192 && Nat.beq pc 5 then some [0, 1] else none) (inl := fun _ => false) (nov := (fun j => bif Nat.beq j 195 then false else bif Nat.beq j 193 then false else bif Nat.beq j 192 then false else bif Nat.beq j 30 then false else true)) 101 h
set_option maxRecDepth 100000 in
theorem b193_0 {sc : zC} {d : Nat} {f : zF} {Q : zQ} (h : ∃ A2 : zQ, zR sc d 195 0 [] [(0, zP (50))] 0 0 zSH f A2 ∧ ∀ (r3 : Int) (f1 : zF), zIn r3 → A2 (some (zI r3)) zSH f1 → (∃ A5 : zQ, zR sc d 186 0 [] [(0, zP (50))] 0 0 zSH f1 A5 ∧ ∀ (r6 : Int) (f4 : zF), zIn r6 → A5 (some (zI r6)) zSH f4 → (zR sc (d + 1) 193 10 [] [(0, zP (50)), (1, zI r3), (2, zI r6)] 0 0 zSH f4 Q))) : zR sc (d + 1) 193 0 [] [(0, zP (50))] 0 0 zSH f Q := zwn_R (stp := fun mi pc => bif Nat.beq mi 193 && Nat.beq pc 10 then some [0, 1, 2] else none) (inl := fun _ => false) (nov := (fun j => bif Nat.beq j 195 then false else bif Nat.beq j 193 then false else bif Nat.beq j 192 then false else bif Nat.beq j 30 then false else true)) 8 h
set_option maxRecDepth 100000 in
theorem b193_10 {sc : zC} {d : Nat} {x1 x2 : Int} {f : zF} {Q : zQ} (h : if f (50) (16) < 0 then (if x2 = 42 then (∃ A2 : zQ, zR sc d 195 0 [] [(0, zP (50))] 0 0 zSH (zup f (50) (14) (w32 ((f (50) (14)) + (1)))) A2 ∧ ∀ (r3 : Int) (f1 : zF), zIn r3 → A2 (some (zI r3)) zSH f1 → (if x2 = 42 then (∃ A5 : zQ, zR sc d 186 0 [] [(0, zP (50))] 0 0 zSH f1 A5 ∧ ∀ (r6 : Int) (f4 : zF), zIn r6 → A5 (some (zI r6)) zSH f4 → (zR sc (d + 1) 193 10 [] [(0, zP (50)), (1, zI (w32 (x1 * r3))), (2, zI r6)] 0 0 zSH f4 Q)) else (if r3 = 0 then (∃ A8 : zQ, zR sc d 186 0 [] [(0, zP (50))] 0 0 zSH f1 A8 ∧ ∀ (r9 : Int) (f7 : zF), zIn r9 → A8 (some (zI r9)) zSH f7 → (zR sc (d + 1) 193 10 [] [(0, zP (50)), (1, zI (0)), (2, zI r9)] 0 0 zSH f7 Q)) else (if x2 = 47 then (if r3 = 0 then False else ∃ A11 : zQ, zR sc d 186 0 [] [(0, zP (50))] 0 0 zSH f1 A11 ∧ ∀ (r12 : Int) (f10 : zF), zIn r12 → A11 (some (zI r12)) zSH f10 → (zR sc (d + 1) 193 10 [] [(0, zP (50)), (1, zI (w32 (Int.tdiv x1 r3))), (2, zI r12)] 0 0 zSH f10 Q)) else (if r3 = 0 then False else ∃ A14 : zQ, zR sc d 186 0 [] [(0, zP (50))] 0 0 zSH f1 A14 ∧ ∀ (r15 : Int) (f13 : zF), zIn r15 → A14 (some (zI r15)) zSH f13 → (zR sc (d + 1) 193 10 [] [(0, zP (50)), (1, zI (Int.tmod x1 r3)), (2, zI r15)] 0 0 zSH f13 Q)))))) else (if x2 = 47 then (∃ A17 : zQ, zR sc d 195 0 [] [(0, zP (50))] 0 0 zSH (zup f (50) (14) (w32 ((f (50) (14)) + (1)))) A17 ∧ ∀ (r18 : Int) (f16 : zF), zIn r18 → A17 (some (zI r18)) zSH f16 → (if x2 = 42 then (∃ A20 : zQ, zR sc d 186 0 [] [(0, zP (50))] 0 0 zSH f16 A20 ∧ ∀ (r21 : Int) (f19 : zF), zIn r21 → A20 (some (zI r21)) zSH f19 → (zR sc (d + 1) 193 10 [] [(0, zP (50)), (1, zI (w32 (x1 * r18))), (2, zI r21)] 0 0 zSH f19 Q)) else (if r18 = 0 then (∃ A23 : zQ, zR sc d 186 0 [] [(0, zP (50))] 0 0 zSH f16 A23 ∧ ∀ (r24 : Int) (f22 : zF), zIn r24 → A23 (some (zI r24)) zSH f22 → (zR sc (d + 1) 193 10 [] [(0, zP (50)), (1, zI (0)), (2, zI r24)] 0 0 zSH f22 Q)) else (if x2 = 47 then (if r18 = 0 then False else ∃ A26 : zQ, zR sc d 186 0 [] [(0, zP (50))] 0 0 zSH f16 A26 ∧ ∀ (r27 : Int) (f25 : zF), zIn r27 → A26 (some (zI r27)) zSH f25 → (zR sc (d + 1) 193 10 [] [(0, zP (50)), (1, zI (w32 (Int.tdiv x1 r18))), (2, zI r27)] 0 0 zSH f25 Q)) else (if r18 = 0 then False else ∃ A29 : zQ, zR sc d 186 0 [] [(0, zP (50))] 0 0 zSH f16 A29 ∧ ∀ (r30 : Int) (f28 : zF), zIn r30 → A29 (some (zI r30)) zSH f28 → (zR sc (d + 1) 193 10 [] [(0, zP (50)), (1, zI (Int.tmod x1 r18)), (2, zI r30)] 0 0 zSH f28 Q)))))) else (if x2 = 37 then (∃ A32 : zQ, zR sc d 195 0 [] [(0, zP (50))] 0 0 zSH (zup f (50) (14) (w32 ((f (50) (14)) + (1)))) A32 ∧ ∀ (r33 : Int) (f31 : zF), zIn r33 → A32 (some (zI r33)) zSH f31 → (if x2 = 42 then (∃ A35 : zQ, zR sc d 186 0 [] [(0, zP (50))] 0 0 zSH f31 A35 ∧ ∀ (r36 : Int) (f34 : zF), zIn r36 → A35 (some (zI r36)) zSH f34 → (zR sc (d + 1) 193 10 [] [(0, zP (50)), (1, zI (w32 (x1 * r33))), (2, zI r36)] 0 0 zSH f34 Q)) else (if r33 = 0 then (∃ A38 : zQ, zR sc d 186 0 [] [(0, zP (50))] 0 0 zSH f31 A38 ∧ ∀ (r39 : Int) (f37 : zF), zIn r39 → A38 (some (zI r39)) zSH f37 → (zR sc (d + 1) 193 10 [] [(0, zP (50)), (1, zI (0)), (2, zI r39)] 0 0 zSH f37 Q)) else (if x2 = 47 then (if r33 = 0 then False else ∃ A41 : zQ, zR sc d 186 0 [] [(0, zP (50))] 0 0 zSH f31 A41 ∧ ∀ (r42 : Int) (f40 : zF), zIn r42 → A41 (some (zI r42)) zSH f40 → (zR sc (d + 1) 193 10 [] [(0, zP (50)), (1, zI (w32 (Int.tdiv x1 r33))), (2, zI r42)] 0 0 zSH f40 Q)) else (if r33 = 0 then False else ∃ A44 : zQ, zR sc d 186 0 [] [(0, zP (50))] 0 0 zSH f31 A44 ∧ ∀ (r45 : Int) (f43 : zF), zIn r45 → A44 (some (zI r45)) zSH f43 → (zR sc (d + 1) 193 10 [] [(0, zP (50)), (1, zI (Int.tmod x1 r33)), (2, zI r45)] 0 0 zSH f43 Q)))))) else (Q (some (zI x1)) zSH f)))) else (Q (some (zI x1)) zSH f)) : zR sc (d + 1) 193 10 [] [(0, zP (50)), (1, zI x1), (2, zI x2)] 0 0 zSH f Q := zwn_R (stp := fun mi pc => bif Nat.beq mi 193 && Nat.beq pc 10 then some [0, 1, 2] else none) (inl := fun _ => false) (nov := (fun j => bif Nat.beq j 195 then false else bif Nat.beq j 193 then false else bif Nat.beq j 192 then false else bif Nat.beq j 30 then false else true)) 168 h
set_option maxRecDepth 100000 in
theorem b195_0 {sc : zC} {d : Nat} {f : zF} {Q : zQ} (h : if f (50) (16) < 0 then (∃ A2 : zQ, zR sc d 186 0 [] [(0, zP (50))] 0 0 zSH f A2 ∧ ∀ (r3 : Int) (f1 : zF), zIn r3 → A2 (some (zI r3)) zSH f1 → (if r3 = 33 then (if f1 (50) (17) = 6 then (∃ A5 : zQ, zR sc d 187 0 [] [(0, zP (50))] 0 0 zSH f1 A5 ∧ ∀ (r6 : Int) (f4 : zF), zIn r6 → A5 (some (zI r6)) zSH f4 → (Q (some (zI r6)) zSH f4)) else (if r3 = 40 then (∃ A8 : zQ, zR sc d 189 0 [] [(0, zP (50))] 0 0 zSH (zup (zup f1 (50) (17) (w32 ((f1 (50) (17)) + (1)))) (50) (14) (w32 ((f1 (50) (14)) + (1)))) A8 ∧ ∀ (r9 : Int) (f7 : zF), zIn r9 → A8 (some (zI r9)) zSH f7 → (if r3 = 40 then (∃ A11 : zQ, zR sc d 188 0 [] [(0, zP (50)), (1, zI (41))] 0 0 zSH f7 A11 ∧ ∀ (r12 : Int) (f10 : zF), (r12 = 0 ∨ r12 = 1) → A11 (some (zI r12)) zSH f10 → (if r12 = 0 then (∃ A14 : zQ, zR sc d 187 0 [] [(0, zP (50))] 0 0 zSH f10 A14 ∧ ∀ (r15 : Int) (f13 : zF), zIn r15 → A14 (some (zI r15)) zSH f13 → (Q (some (zI r15)) zSH f13)) else (if r3 = 40 then (Q (some (zI r9)) zSH (zup f10 (50) (17) (w32 ((f10 (50) (17)) - (1))))) else (if r3 = 45 then (Q (some (zI (w32 (-r9)))) zSH (zup f10 (50) (17) (w32 ((f10 (50) (17)) - (1))))) else (if r9 = 0 then (Q (some (zI (1))) zSH (zup f10 (50) (17) (w32 ((f10 (50) (17)) - (1))))) else (Q (some (zI (0))) zSH (zup f10 (50) (17) (w32 ((f10 (50) (17)) - (1)))))))))) else (if r3 = 40 then (Q (some (zI r9)) zSH (zup f7 (50) (17) (w32 ((f7 (50) (17)) - (1))))) else (if r3 = 45 then (Q (some (zI (w32 (-r9)))) zSH (zup f7 (50) (17) (w32 ((f7 (50) (17)) - (1))))) else (if r9 = 0 then (Q (some (zI (1))) zSH (zup f7 (50) (17) (w32 ((f7 (50) (17)) - (1))))) else (Q (some (zI (0))) zSH (zup f7 (50) (17) (w32 ((f7 (50) (17)) - (1)))))))))) else (∃ A17 : zQ, zR sc d 195 0 [] [(0, zP (50))] 0 0 zSH (zup (zup f1 (50) (17) (w32 ((f1 (50) (17)) + (1)))) (50) (14) (w32 ((f1 (50) (14)) + (1)))) A17 ∧ ∀ (r18 : Int) (f16 : zF), zIn r18 → A17 (some (zI r18)) zSH f16 → (if r3 = 40 then (∃ A20 : zQ, zR sc d 188 0 [] [(0, zP (50)), (1, zI (41))] 0 0 zSH f16 A20 ∧ ∀ (r21 : Int) (f19 : zF), (r21 = 0 ∨ r21 = 1) → A20 (some (zI r21)) zSH f19 → (if r21 = 0 then (∃ A23 : zQ, zR sc d 187 0 [] [(0, zP (50))] 0 0 zSH f19 A23 ∧ ∀ (r24 : Int) (f22 : zF), zIn r24 → A23 (some (zI r24)) zSH f22 → (Q (some (zI r24)) zSH f22)) else (if r3 = 40 then (Q (some (zI r18)) zSH (zup f19 (50) (17) (w32 ((f19 (50) (17)) - (1))))) else (if r3 = 45 then (Q (some (zI (w32 (-r18)))) zSH (zup f19 (50) (17) (w32 ((f19 (50) (17)) - (1))))) else (if r18 = 0 then (Q (some (zI (1))) zSH (zup f19 (50) (17) (w32 ((f19 (50) (17)) - (1))))) else (Q (some (zI (0))) zSH (zup f19 (50) (17) (w32 ((f19 (50) (17)) - (1)))))))))) else (if r3 = 40 then (Q (some (zI r18)) zSH (zup f16 (50) (17) (w32 ((f16 (50) (17)) - (1))))) else (if r3 = 45 then (Q (some (zI (w32 (-r18)))) zSH (zup f16 (50) (17) (w32 ((f16 (50) (17)) - (1))))) else (if r18 = 0 then (Q (some (zI (1))) zSH (zup f16 (50) (17) (w32 ((f16 (50) (17)) - (1))))) else (Q (some (zI (0))) zSH (zup f16 (50) (17) (w32 ((f16 (50) (17)) - (1)))))))))))) else (if r3 = 45 then (if f1 (50) (17) = 6 then (∃ A26 : zQ, zR sc d 187 0 [] [(0, zP (50))] 0 0 zSH f1 A26 ∧ ∀ (r27 : Int) (f25 : zF), zIn r27 → A26 (some (zI r27)) zSH f25 → (Q (some (zI r27)) zSH f25)) else (if r3 = 40 then (∃ A29 : zQ, zR sc d 189 0 [] [(0, zP (50))] 0 0 zSH (zup (zup f1 (50) (17) (w32 ((f1 (50) (17)) + (1)))) (50) (14) (w32 ((f1 (50) (14)) + (1)))) A29 ∧ ∀ (r30 : Int) (f28 : zF), zIn r30 → A29 (some (zI r30)) zSH f28 → (if r3 = 40 then (∃ A32 : zQ, zR sc d 188 0 [] [(0, zP (50)), (1, zI (41))] 0 0 zSH f28 A32 ∧ ∀ (r33 : Int) (f31 : zF), (r33 = 0 ∨ r33 = 1) → A32 (some (zI r33)) zSH f31 → (if r33 = 0 then (∃ A35 : zQ, zR sc d 187 0 [] [(0, zP (50))] 0 0 zSH f31 A35 ∧ ∀ (r36 : Int) (f34 : zF), zIn r36 → A35 (some (zI r36)) zSH f34 → (Q (some (zI r36)) zSH f34)) else (if r3 = 40 then (Q (some (zI r30)) zSH (zup f31 (50) (17) (w32 ((f31 (50) (17)) - (1))))) else (if r3 = 45 then (Q (some (zI (w32 (-r30)))) zSH (zup f31 (50) (17) (w32 ((f31 (50) (17)) - (1))))) else (if r30 = 0 then (Q (some (zI (1))) zSH (zup f31 (50) (17) (w32 ((f31 (50) (17)) - (1))))) else (Q (some (zI (0))) zSH (zup f31 (50) (17) (w32 ((f31 (50) (17)) - (1)))))))))) else (if r3 = 40 then (Q (some (zI r30)) zSH (zup f28 (50) (17) (w32 ((f28 (50) (17)) - (1))))) else (if r3 = 45 then (Q (some (zI (w32 (-r30)))) zSH (zup f28 (50) (17) (w32 ((f28 (50) (17)) - (1))))) else (if r30 = 0 then (Q (some (zI (1))) zSH (zup f28 (50) (17) (w32 ((f28 (50) (17)) - (1))))) else (Q (some (zI (0))) zSH (zup f28 (50) (17) (w32 ((f28 (50) (17)) - (1)))))))))) else (∃ A38 : zQ, zR sc d 195 0 [] [(0, zP (50))] 0 0 zSH (zup (zup f1 (50) (17) (w32 ((f1 (50) (17)) + (1)))) (50) (14) (w32 ((f1 (50) (14)) + (1)))) A38 ∧ ∀ (r39 : Int) (f37 : zF), zIn r39 → A38 (some (zI r39)) zSH f37 → (if r3 = 40 then (∃ A41 : zQ, zR sc d 188 0 [] [(0, zP (50)), (1, zI (41))] 0 0 zSH f37 A41 ∧ ∀ (r42 : Int) (f40 : zF), (r42 = 0 ∨ r42 = 1) → A41 (some (zI r42)) zSH f40 → (if r42 = 0 then (∃ A44 : zQ, zR sc d 187 0 [] [(0, zP (50))] 0 0 zSH f40 A44 ∧ ∀ (r45 : Int) (f43 : zF), zIn r45 → A44 (some (zI r45)) zSH f43 → (Q (some (zI r45)) zSH f43)) else (if r3 = 40 then (Q (some (zI r39)) zSH (zup f40 (50) (17) (w32 ((f40 (50) (17)) - (1))))) else (if r3 = 45 then (Q (some (zI (w32 (-r39)))) zSH (zup f40 (50) (17) (w32 ((f40 (50) (17)) - (1))))) else (if r39 = 0 then (Q (some (zI (1))) zSH (zup f40 (50) (17) (w32 ((f40 (50) (17)) - (1))))) else (Q (some (zI (0))) zSH (zup f40 (50) (17) (w32 ((f40 (50) (17)) - (1)))))))))) else (if r3 = 40 then (Q (some (zI r39)) zSH (zup f37 (50) (17) (w32 ((f37 (50) (17)) - (1))))) else (if r3 = 45 then (Q (some (zI (w32 (-r39)))) zSH (zup f37 (50) (17) (w32 ((f37 (50) (17)) - (1))))) else (if r39 = 0 then (Q (some (zI (1))) zSH (zup f37 (50) (17) (w32 ((f37 (50) (17)) - (1))))) else (Q (some (zI (0))) zSH (zup f37 (50) (17) (w32 ((f37 (50) (17)) - (1)))))))))))) else (if r3 = 40 then (if f1 (50) (17) = 6 then (∃ A47 : zQ, zR sc d 187 0 [] [(0, zP (50))] 0 0 zSH f1 A47 ∧ ∀ (r48 : Int) (f46 : zF), zIn r48 → A47 (some (zI r48)) zSH f46 → (Q (some (zI r48)) zSH f46)) else (if r3 = 40 then (∃ A50 : zQ, zR sc d 189 0 [] [(0, zP (50))] 0 0 zSH (zup (zup f1 (50) (17) (w32 ((f1 (50) (17)) + (1)))) (50) (14) (w32 ((f1 (50) (14)) + (1)))) A50 ∧ ∀ (r51 : Int) (f49 : zF), zIn r51 → A50 (some (zI r51)) zSH f49 → (if r3 = 40 then (∃ A53 : zQ, zR sc d 188 0 [] [(0, zP (50)), (1, zI (41))] 0 0 zSH f49 A53 ∧ ∀ (r54 : Int) (f52 : zF), (r54 = 0 ∨ r54 = 1) → A53 (some (zI r54)) zSH f52 → (if r54 = 0 then (∃ A56 : zQ, zR sc d 187 0 [] [(0, zP (50))] 0 0 zSH f52 A56 ∧ ∀ (r57 : Int) (f55 : zF), zIn r57 → A56 (some (zI r57)) zSH f55 → (Q (some (zI r57)) zSH f55)) else (if r3 = 40 then (Q (some (zI r51)) zSH (zup f52 (50) (17) (w32 ((f52 (50) (17)) - (1))))) else (if r3 = 45 then (Q (some (zI (w32 (-r51)))) zSH (zup f52 (50) (17) (w32 ((f52 (50) (17)) - (1))))) else (if r51 = 0 then (Q (some (zI (1))) zSH (zup f52 (50) (17) (w32 ((f52 (50) (17)) - (1))))) else (Q (some (zI (0))) zSH (zup f52 (50) (17) (w32 ((f52 (50) (17)) - (1)))))))))) else (if r3 = 40 then (Q (some (zI r51)) zSH (zup f49 (50) (17) (w32 ((f49 (50) (17)) - (1))))) else (if r3 = 45 then (Q (some (zI (w32 (-r51)))) zSH (zup f49 (50) (17) (w32 ((f49 (50) (17)) - (1))))) else (if r51 = 0 then (Q (some (zI (1))) zSH (zup f49 (50) (17) (w32 ((f49 (50) (17)) - (1))))) else (Q (some (zI (0))) zSH (zup f49 (50) (17) (w32 ((f49 (50) (17)) - (1)))))))))) else (∃ A59 : zQ, zR sc d 195 0 [] [(0, zP (50))] 0 0 zSH (zup (zup f1 (50) (17) (w32 ((f1 (50) (17)) + (1)))) (50) (14) (w32 ((f1 (50) (14)) + (1)))) A59 ∧ ∀ (r60 : Int) (f58 : zF), zIn r60 → A59 (some (zI r60)) zSH f58 → (if r3 = 40 then (∃ A62 : zQ, zR sc d 188 0 [] [(0, zP (50)), (1, zI (41))] 0 0 zSH f58 A62 ∧ ∀ (r63 : Int) (f61 : zF), (r63 = 0 ∨ r63 = 1) → A62 (some (zI r63)) zSH f61 → (if r63 = 0 then (∃ A65 : zQ, zR sc d 187 0 [] [(0, zP (50))] 0 0 zSH f61 A65 ∧ ∀ (r66 : Int) (f64 : zF), zIn r66 → A65 (some (zI r66)) zSH f64 → (Q (some (zI r66)) zSH f64)) else (if r3 = 40 then (Q (some (zI r60)) zSH (zup f61 (50) (17) (w32 ((f61 (50) (17)) - (1))))) else (if r3 = 45 then (Q (some (zI (w32 (-r60)))) zSH (zup f61 (50) (17) (w32 ((f61 (50) (17)) - (1))))) else (if r60 = 0 then (Q (some (zI (1))) zSH (zup f61 (50) (17) (w32 ((f61 (50) (17)) - (1))))) else (Q (some (zI (0))) zSH (zup f61 (50) (17) (w32 ((f61 (50) (17)) - (1)))))))))) else (if r3 = 40 then (Q (some (zI r60)) zSH (zup f58 (50) (17) (w32 ((f58 (50) (17)) - (1))))) else (if r3 = 45 then (Q (some (zI (w32 (-r60)))) zSH (zup f58 (50) (17) (w32 ((f58 (50) (17)) - (1))))) else (if r60 = 0 then (Q (some (zI (1))) zSH (zup f58 (50) (17) (w32 ((f58 (50) (17)) - (1))))) else (Q (some (zI (0))) zSH (zup f58 (50) (17) (w32 ((f58 (50) (17)) - (1)))))))))))) else (∃ A68 : zQ, zR sc d 194 0 [] [(0, zI r3)] 0 0 zSH f1 A68 ∧ ∀ (r69 : Int) (f67 : zF), zIn r69 → A68 (some (zI r69)) zSH f67 → (if r69 < 0 then (zR sc (d + 1) 195 176 [] [(0, zP (50)), (3, zI (0)), (4, zI (0))] 0 0 zSH f67 Q) else (zix r69 (6) (Q (some (zI (f67 (58) (r69.toNat)))) zSH (zup f67 (50) (14) (w32 ((f67 (50) (14)) + (1)))))))))))) else (Q (some (zI (0))) zSH f)) : zR sc (d + 1) 195 0 [] [(0, zP (50))] 0 0 zSH f Q := zwn_R (stp := fun mi pc => bif Nat.beq mi 195 && Nat.beq pc 176 then some [0, 3, 4] else none) (inl := fun _ => false) (nov := (fun j => bif Nat.beq j 195 then false else bif Nat.beq j 193 then false else bif Nat.beq j 192 then false else bif Nat.beq j 30 then false else true)) 498 h
set_option maxRecDepth 100000 in
theorem b195_176 {sc : zC} {d : Nat} {x3 x4 : Int} {f : zF} {Q : zQ} (h : if x4 < 4 then (∃ A2 : zQ, zR sc d 186 0 [] [(0, zP (50))] 0 0 zSH f A2 ∧ ∀ (r3 : Int) (f1 : zF), zIn r3 → A2 (some (zI r3)) zSH f1 → (if r3 < 48 then (if x4 = 0 then (∃ A5 : zQ, zR sc d 187 0 [] [(0, zP (50))] 0 0 zSH f1 A5 ∧ ∀ (r6 : Int) (f4 : zF), zIn r6 → A5 (some (zI r6)) zSH f4 → (Q (some (zI r6)) zSH f4)) else (Q (some (zI x3)) zSH f1)) else (∃ A8 : zQ, zR sc d 186 0 [] [(0, zP (50))] 0 0 zSH f1 A8 ∧ ∀ (r9 : Int) (f7 : zF), zIn r9 → A8 (some (zI r9)) zSH f7 → (if 57 < r9 then (if x4 = 0 then (∃ A11 : zQ, zR sc d 187 0 [] [(0, zP (50))] 0 0 zSH f7 A11 ∧ ∀ (r12 : Int) (f10 : zF), zIn r12 → A11 (some (zI r12)) zSH f10 → (Q (some (zI r12)) zSH f10)) else (Q (some (zI x3)) zSH f7)) else (∃ A14 : zQ, zR sc d 186 0 [] [(0, zP (50))] 0 0 zSH f7 A14 ∧ ∀ (r15 : Int) (f13 : zF), zIn r15 → A14 (some (zI r15)) zSH f13 → (zR sc (d + 1) 195 176 [] [(0, zP (50)), (3, zI (w32 ((w32 ((w32 ((10) * x3)) + r15)) - (48)))), (4, zI (w32 (x4 + 1)))] 0 0 zSH (zup f13 (50) (14) (w32 ((f13 (50) (14)) + (1)))) Q)))))) else (if x4 = 0 then (∃ A17 : zQ, zR sc d 187 0 [] [(0, zP (50))] 0 0 zSH f A17 ∧ ∀ (r18 : Int) (f16 : zF), zIn r18 → A17 (some (zI r18)) zSH f16 → (Q (some (zI r18)) zSH f16)) else (Q (some (zI x3)) zSH f))) : zR sc (d + 1) 195 176 [] [(0, zP (50)), (3, zI x3), (4, zI x4)] 0 0 zSH f Q := zwn_R (stp := fun mi pc => bif Nat.beq mi 195 && Nat.beq pc 176 then some [0, 3, 4] else none) (inl := fun _ => false) (nov := (fun j => bif Nat.beq j 195 then false else bif Nat.beq j 193 then false else bif Nat.beq j 192 then false else bif Nat.beq j 30 then false else true)) 54 h
set_option maxRecDepth 100000 in
theorem b191_0 {sc : zC} {d : Nat} {f : zF} {Q : zQ} (h : ∃ A2 : zQ, zR sc d 192 0 [] [(0, zP (50))] 0 0 zSH f A2 ∧ ∀ (r3 : Int) (f1 : zF), zIn r3 → A2 (some (zI r3)) zSH f1 → (zR sc (d + 1) 191 5 [] [(0, zP (50)), (1, zI r3)] 0 0 zSH f1 Q)) : zR sc (d + 1) 191 0 [] [(0, zP (50))] 0 0 zSH f Q := zwn_R (stp := fun mi pc => bif Nat.beq mi 191 && Nat.beq pc 5 then some [0, 1] else none) (inl := fun _ => false) (nov := (fun j => bif Nat.beq j 195 then false else bif Nat.beq j 193 then false else bif Nat.beq j 192 then false else bif Nat.beq j 30 then false else true)) 5 h
set_option maxRecDepth 100000 in
theorem b191_5 {sc : zC} {d : Nat} {x1 : Int} {f : zF} {Q : zQ} (h : ∃ A2 : zQ, zR sc d 186 0 [] [(0, zP (50))] 0 0 zSH f A2 ∧ ∀ (r3 : Int) (f1 : zF), zIn r3 → A2 (some (zI r3)) zSH f1 → (if f1 (50) (16) < 0 then (if r3 = 60 then (zov ((f1 (50) (14)) + (1)) (∃ A5 : zQ, zR sc d 192 0 [] [(0, zP (50))] 0 0 zSH (zup f1 (50) (14) ((f1 (50) (14)) + (1))) A5 ∧ ∀ (r6 : Int) (f4 : zF), zIn r6 → A5 (some (zI r6)) zSH f4 → (if r3 = 60 then (if x1 < r6 then (Q (some (zI (1))) zSH f4) else (Q (some (zI (0))) zSH f4)) else (if r3 = 61 then (if x1 = r6 then (Q (some (zI (1))) zSH f4) else (Q (some (zI (0))) zSH f4)) else (if r6 < x1 then (Q (some (zI (1))) zSH f4) else (Q (some (zI (0))) zSH f4)))))) else (if r3 = 61 then (zov ((f1 (50) (14)) + (1)) (∃ A8 : zQ, zR sc d 192 0 [] [(0, zP (50))] 0 0 zSH (zup f1 (50) (14) ((f1 (50) (14)) + (1))) A8 ∧ ∀ (r9 : Int) (f7 : zF), zIn r9 → A8 (some (zI r9)) zSH f7 → (if r3 = 60 then (if x1 < r9 then (Q (some (zI (1))) zSH f7) else (Q (some (zI (0))) zSH f7)) else (if r3 = 61 then (if x1 = r9 then (Q (some (zI (1))) zSH f7) else (Q (some (zI (0))) zSH f7)) else (if r9 < x1 then (Q (some (zI (1))) zSH f7) else (Q (some (zI (0))) zSH f7)))))) else (if r3 = 62 then (zov ((f1 (50) (14)) + (1)) (∃ A11 : zQ, zR sc d 192 0 [] [(0, zP (50))] 0 0 zSH (zup f1 (50) (14) ((f1 (50) (14)) + (1))) A11 ∧ ∀ (r12 : Int) (f10 : zF), zIn r12 → A11 (some (zI r12)) zSH f10 → (if r3 = 60 then (if x1 < r12 then (Q (some (zI (1))) zSH f10) else (Q (some (zI (0))) zSH f10)) else (if r3 = 61 then (if x1 = r12 then (Q (some (zI (1))) zSH f10) else (Q (some (zI (0))) zSH f10)) else (if r12 < x1 then (Q (some (zI (1))) zSH f10) else (Q (some (zI (0))) zSH f10)))))) else (Q (some (zI x1)) zSH f1)))) else (Q (some (zI x1)) zSH f1))) : zR sc (d + 1) 191 5 [] [(0, zP (50)), (1, zI x1)] 0 0 zSH f Q := zwn_R (stp := fun _ _ => none) (inl := fun _ => false) (nov := (fun j => bif Nat.beq j 195 then false else bif Nat.beq j 193 then false else bif Nat.beq j 192 then false else bif Nat.beq j 30 then false else true)) 144 h
/-! the reference's reader, with what it works out -/
def pjn (l s r : Int) : Int := if s = 33 then (if r = 0 then 1 else 0) else if s = 126 then w32 (-r) else if s = 43 then w32 (l + r) else if s = 45 then w32 (l - r) else if s = 42 then w32 (l * r) else if s = 47 then (if r = 0 then 0 else w32 (Int.tdiv l r)) else if s = 37 then (if r = 0 then 0 else Int.tmod l r) else if s = 60 then (if l < r then 1 else 0) else if s = 61 then (if l = r then 1 else 0) else if s = 62 then (if r < l then 1 else 0) else if s = 38 then (if l = 0 then 0 else if r = 0 then 0 else 1) else (if l = 0 then (if r = 0 then 0 else 1) else 1)
def pst (nm : Nat → Int) (c : Int) (st : List Int) : List Int := if 0 ≤ c then c :: st else if -6 ≤ c then nm (-c - 1).toNat :: st else if c = -33 ∨ c = -126 then pjn 0 (-c) (st.headD 0) :: st.tail else pjn (st.tail.headD 0) (-c) (st.headD 0) :: st.tail.tail
def prn (nm : Nat → Int) : List Int → List Int → List Int
  | [], st => st
  | c :: L, st => prn nm L (pst nm c st)
theorem prn_app {nm : Nat → Int} : ∀ {L M st : List Int}, prn nm (L ++ M) st = prn nm M (prn nm L st)
  | [], _, _ => rfl
  | c :: L, M, st => prn_app (L := L) (M := M) (st := pst nm c st)
theorem pst_1 {nm : Nat → Int} {c r : Int} {st : List Int} (h : c = -33 ∨ c = -126) : pst nm c (r :: st) = pjn 0 (-c) r :: st := by
  unfold pst
  rw [if_neg (by omega), if_neg (by omega), if_pos h]
  rfl
theorem pst_2 {nm : Nat → Int} {c l r : Int} {st : List Int} (h : c < -6 ∧ c ≠ -33 ∧ c ≠ -126) : pst nm c (r :: l :: st) = pjn l (-c) r :: st := by
  unfold pst
  rw [if_neg (by omega), if_neg (by omega), if_neg (by omega)]
  rfl
/-- what a run of the code leaves of what lay there: one value more -/
def rVl (nm : Nat → Int) (r : pR) (v : Int) : Prop := r.1 = true → ∀ st, prn nm r.2.2 st = v :: st
/-- the same, behind a first value -/
def rVx (nm : Nat → Int) (x : Int) (r : pR) (v : Int) : Prop := r.1 = true → ∀ st, prn nm r.2.2 (x :: st) = v :: st
theorem rVl_cat {nm : Nat → Int} {r s : pR} {x v : Int} (h : rVl nm r x) (hb : r.1 = true) (g : rVx nm x s v) : rVl nm (pcat r s) v := fun hs st => by
  show prn nm (r.2.2 ++ s.2.2) st = _
  rw [prn_app, h hb, g hs]
theorem rVx_cat {nm : Nat → Int} {r s : pR} {x y v : Int} (h : rVx nm x r y) (hb : r.1 = true) (g : rVx nm y s v) : rVx nm x (pcat r s) v := fun hs st => by
  show prn nm (r.2.2 ++ s.2.2) (x :: st) = _
  rw [prn_app, h hb, g hs]
theorem rVl_fl {nm : Nat → Int} {r : pR} {v : Int} : rVl nm (pfl r) v := fun h => by cases h
theorem rVx_fl {nm : Nat → Int} {r : pR} {x v : Int} : rVx nm x (pfl r) v := fun h => by cases h
theorem rVl_pad {nm : Nat → Int} {r : pR} {v a : Int} (h : rVl nm r v) (hb : r.1 = true) (ha : a = -33 ∨ a = -126) : rVl nm (pad r a) (pjn 0 (-a) v) := fun _ st => by
  show prn nm (r.2.2 ++ [a]) st = _
  rw [prn_app, h hb]
  exact pst_1 ha
theorem rVx_pad {nm : Nat → Int} {r : pR} {x v a : Int} (h : rVl nm r v) (hb : r.1 = true) (ha : a < -6 ∧ a ≠ -33 ∧ a ≠ -126) : rVx nm x (pad r a) (pjn x (-a) v) := fun _ st => by
  show prn nm (r.2.2 ++ [a]) (x :: st) = _
  rw [prn_app, h hb]
  exact pst_2 ha
def rbt (T : Nat → Int) (n p : Int) : Int := if p < n then T p.toNat else 0
/-- source, end and place of a reading -/
def rS0 (T : Nat → Int) (n p : Int) (f : zF) : Prop := ((f 50 13 = -1 ∧ f 56 = T) ∨ (f 50 13 = 0 ∧ f 57 = T)) ∧ f 50 15 = n ∧ f 50 14 = p
def rS (T : Nat → Int) (n o p : Int) (nm : Nat → Int) (f : zF) : Prop := rS0 T n p f ∧ f 50 16 = -1 ∧ f 50 17 = o ∧ f 58 = nm
def rPo (f : zF) (r : pR) (f1 : zF) : Prop := (∀ c j, (c ≠ 50 ∨ (j ≠ 14 ∧ j ≠ 16 ∧ j ≠ 17)) → f1 c j = f c j) ∧ f1 50 14 = r.2.1 ∧ (r.1 = true → f1 50 16 = f 50 16 ∧ f1 50 17 = f 50 17) ∧ (¬ r.1 = true → f1 50 16 = r.2.1)
section READR
variable {T : Nat → Int} {n o p : Int} {nm : Nat → Int} {f f1 f2 : zF} {r s : pR} {sc : zC} {d : Nat} {Q : zQ}
theorem rbt_c {c : Int} (hp : 0 ≤ p) (hc : 0 < c) : rbt T n p = c ↔ nxt T n p = c := by
  unfold rbt nxt
  by_cases h : p < n
  · rw [if_pos h, if_pos ⟨hp, h⟩]
  · rw [if_neg h, if_neg (fun g => h g.2)]
    omega
theorem rbt_x (hp : 0 ≤ p) : rbt T n p = nxt T n p ∨ (rbt T n p = 0 ∧ nxt T n p = -1) := by
  unfold rbt nxt
  by_cases h : p < n
  · rw [if_pos h, if_pos ⟨hp, h⟩]; exact Or.inl rfl
  · rw [if_neg h, if_neg (fun g => h g.2)]; exact Or.inr ⟨rfl, rfl⟩
theorem rS0_of {q : Int} (h : ∀ c j, (c ≠ 50 ∨ (j ≠ 14 ∧ j ≠ 16 ∧ j ≠ 17)) → f1 c j = f c j) (S : rS0 T n p f) (hq : f1 50 14 = q) : rS0 T n q f1 := by
  obtain ⟨S1, S2, S3⟩ := S
  refine ⟨?_, (h 50 15 (Or.inr (by decide))).trans S2, hq⟩
  have e13 := h 50 13 (Or.inr (by decide))
  rcases S1 with ⟨a, b⟩ | ⟨a, b⟩
  · exact Or.inl ⟨e13.trans a, (funext fun j => h 56 j (Or.inl (by decide))).trans b⟩
  · exact Or.inr ⟨e13.trans a, (funext fun j => h 57 j (Or.inl (by decide))).trans b⟩
theorem rS_of (h : rPo f r f1) (S : rS T n o p nm f) (hb : r.1 = true) : rS T n o r.2.1 nm f1 := by
  obtain ⟨h1, h2, h3, h4⟩ := h
  obtain ⟨S1, S2, S3, S4⟩ := S
  obtain ⟨h5, h6⟩ := h3 hb
  exact ⟨rS0_of h1 S1 h2, h5.trans S2, h6.trans S3, (funext fun j => h1 58 j (Or.inl (by decide))).trans S4⟩
theorem rPo_nil (h : f 50 14 = p) : rPo f (true, p, []) f := ⟨fun _ _ _ => rfl, h, fun _ => ⟨rfl, rfl⟩, fun h => absurd rfl h⟩
theorem rPo_cat (h : rPo f r f1) (hb : r.1 = true) (g : rPo f1 s f2) : rPo f (pcat r s) f2 := by
  obtain ⟨h1, h2, h3, h4⟩ := h
  obtain ⟨g1, g2, g3, g4⟩ := g
  exact ⟨fun c j hc => (g1 c j hc).trans (h1 c j hc), g2, fun hs => ⟨(g3 hs).1.trans (h3 hb).1, (g3 hs).2.trans (h3 hb).2⟩, g4⟩
theorem rPo_pad {a : Int} (h : rPo f r f1) (hb : r.1 = true) : rPo f (pad r a) f1 := ⟨h.1, h.2.1, fun _ => h.2.2.1 hb, fun h => absurd rfl h⟩
theorem rPo_fl (h : rPo f r f1) (hb : ¬ r.1 = true) : rPo f (pfl r) f1 := ⟨h.1, h.2.1, (fun h => by cases h), fun _ => h.2.2.2 hb⟩
theorem rPo_at {v : Int} (h : rPo (zup f 50 14 v) r f1) : rPo f r f1 := by
  obtain ⟨h1, h2, h3, h4⟩ := h
  refine ⟨fun c j hc => (h1 c j hc).trans ?_, h2, h3, h4⟩
  rw [zup_at]
  by_cases e : c = 50
  · rw [if_pos e, if_neg (by omega)]
  · rw [if_neg e]
theorem s_byte (hp : 0 ≤ p ∧ p ≤ 120) (hn : n ≤ 120) (S : rS0 T n p f) (k : Q (some (zI (rbt T n p))) zSH f) (hd : 1 ≤ d := by omega) : zR sc d 186 0 [] [(0, zP 50)] 0 0 zSH f Q := by
  refine zR_le hd (b186_0 (d := 0) ?_)
  obtain ⟨S1, S2, S3⟩ := S
  unfold rbt at k
  by_cases h : p < n
  · rw [if_pos (by omega)]
    rw [if_pos h] at k
    rcases S1 with ⟨a, b⟩ | ⟨a, b⟩
    · rw [if_pos (by omega)]
      refine zix_p (by omega) ?_
      rw [b, S3]
      exact k
    · rw [if_neg (by omega)]
      refine zov_p (by omega) (zix_p (by omega) ?_)
      rw [b, a, S3, Int.zero_add]
      exact k
  · rw [if_neg (by omega)]
    rw [if_neg h] at k
    exact k
theorem s_wrong (S : f 50 16 < 0) (k : Q (some (zI 0)) zSH (zup f 50 16 (f 50 14))) (hd : 1 ≤ d := by omega) : zR sc d 187 0 [] [(0, zP 50)] 0 0 zSH f Q := by
  refine zR_le hd (b187_0 (d := 0) ?_)
  rw [if_pos S]
  exact k
theorem s_tk1 {a : Int} (hp : 0 ≤ p ∧ p ≤ 120) (hn : n ≤ 120) (S : rS0 T n p f) (h : f 50 16 < 0) (ha : 0 < a) (hc : nxt T n p = a) (k : Q (some (zI 1)) zSH (zup f 50 14 (f 50 14 + 1))) (hd : 2 ≤ d := by omega) : zR sc d 188 0 [] [(0, zP 50), (1, zI a)] 0 0 zSH f Q := by
  refine zR_le hd (b188_0 (d := 1) ?_)
  rw [if_pos h]
  refine zcallE (s_byte hp hn S ⟨rfl, rfl⟩) ?_
  rw [if_pos ((rbt_c hp.1 ha).2 hc)]
  have S3 := S.2.2
  exact zov_p (by omega) k
theorem s_tk0 {a : Int} (hp : 0 ≤ p ∧ p ≤ 120) (hn : n ≤ 120) (S : rS0 T n p f) (ha : 0 < a) (hc : 0 ≤ f 50 16 ∨ nxt T n p ≠ a) (k : Q (some (zI 0)) zSH f) (hd : 2 ≤ d := by omega) : zR sc d 188 0 [] [(0, zP 50), (1, zI a)] 0 0 zSH f Q := by
  refine zR_le hd (b188_0 (d := 1) ?_)
  by_cases h : f 50 16 < 0
  · rw [if_pos h]
    refine zcallE (s_byte hp hn S ⟨rfl, rfl⟩) ?_
    have hc : nxt T n p ≠ a := by omega
    rw [if_neg (fun e => hc ((rbt_c hp.1 ha).1 e))]
    exact k
  · rw [if_neg h]
    exact k
theorem s_rnm {a : Int} (k : Q (some (zI (pnm a - 1))) zSH f) (hd : 1 ≤ d := by omega) : zR sc d 194 0 [] [(0, zI a)] 0 0 zSH f Q := by
  refine zR_le hd (b194_0 (d := 0) ?_)
  have k' : ∀ v, pnm a = v + 1 → Q (some (zI v)) zSH f := fun v e => by
    rw [show v = pnm a - 1 by omega]; exact k
  unfold pnm at k'
  repeat' (refine zit (fun h => ?_) (fun h => ?_))
  all_goals (apply k'; simp only [*, if_true, if_false, Int.reduceEq, Int.reduceAdd, Int.reduceNeg])
def rmt (m : Int) : Nat := if m = 0 then 189 else if m = 1 then 190 else if m = 2 then 191 else if m = 3 then 192 else if m = 4 then 193 else 195
/-- what is known of the reference's reader, up to so much fuel -/
def rHX (sc : zC) (T : Nat → Int) (n : Int) (nm : Nat → Int) (k : Nat) : Prop := ∀ (m o p : Int) (d : Nat) (f : zF) (Q : zQ), 0 ≤ m → m ≤ 5 → (0 ≤ o ∧ o ≤ 6) → (0 ≤ p ∧ p ≤ n) → 20 * (n - p) + 7 - m ≤ (k : Int) → 12 * (6 - o) + (7 - m) + 3 ≤ (d : Int) → rS T n o p nm f → (∀ v f1, rPo f (pps T n k m o p) f1 → rVl nm (pps T n k m o p) v → Q (some (zI v)) zSH f1) → zR sc d (rmt m) 0 [] [(0, zP 50)] 0 0 zSH f Q
/-- the same behind a level's first -/
def rHW (sc : zC) (T : Nat → Int) (n : Int) (nm : Nat → Int) (k : Nat) (l : Int) (L : Nat × Nat × (Int → Int → zL)) : Prop := ∀ (o p : Int) (d : Nat) (f : zF) (Q : zQ) (x : Int), (0 ≤ o ∧ o ≤ 6) → (0 ≤ p ∧ p ≤ n) → 20 * (n - p) + 7 - l ≤ (k : Int) → 12 * (6 - o) + (7 - l) + 3 ≤ (d : Int) → rS T n o p nm f → (∀ v f1, rPo f (pps T n k (10 + l) o p) f1 → rVx nm x (pps T n k (10 + l) o p) v → Q (some (zI v)) zSH f1) → zR sc d L.1 L.2.1 [] (L.2.2 x (rbt T n p)) 0 0 zSH f Q
theorem pR_eta {b : Bool} {q : Int} {L : List Int} {r : pR} (h1 : r.1 = b) (h2 : r.2.1 = q) (h3 : r.2.2 = L) : r = (b, q, L) := Prod.ext h1 (Prod.ext h2 h3)
theorem rVx_nil {x : Int} : rVx nm x (true, p, []) x := fun _ _ => rfl
def lv1 (x _c : Int) : zL := [(0, zP 50), (1, zI x)]
def lv2 (x c : Int) : zL := [(0, zP 50), (1, zI x), (2, zI c)]
theorem pjn_or {l r : Int} : pjn l 124 r = if l = 0 then (if r = 0 then 0 else 1) else 1 := by
  unfold pjn
  simp only [Int.reduceEq, reduceIte]
theorem pjn_and {l r : Int} : pjn l 38 r = if l = 0 then 0 else if r = 0 then 0 else 1 := by
  unfold pjn
  simp only [Int.reduceEq, reduceIte]
theorem pjn_lt {l r : Int} : pjn l 60 r = if l < r then 1 else 0 := by
  unfold pjn
  simp only [Int.reduceEq, reduceIte]
theorem pjn_eq {l r : Int} : pjn l 61 r = if l = r then 1 else 0 := by
  unfold pjn
  simp only [Int.reduceEq, reduceIte]
theorem pjn_gt {l r : Int} : pjn l 62 r = if r < l then 1 else 0 := by
  unfold pjn
  simp only [Int.reduceEq, reduceIte]
theorem pjn_add {l r : Int} : pjn l 43 r = w32 (l + r) := by
  unfold pjn
  simp only [Int.reduceEq, reduceIte]
theorem pjn_sub {l r : Int} : pjn l 45 r = w32 (l - r) := by
  unfold pjn
  simp only [Int.reduceEq, reduceIte]
theorem pjn_mul {l r : Int} : pjn l 42 r = w32 (l * r) := by
  unfold pjn
  simp only [Int.reduceEq, reduceIte]
theorem pjn_div {l r : Int} : pjn l 47 r = if r = 0 then 0 else w32 (Int.tdiv l r) := by
  unfold pjn
  simp only [Int.reduceEq, reduceIte]
theorem pjn_rem {l r : Int} : pjn l 37 r = if r = 0 then 0 else Int.tmod l r := by
  unfold pjn
  simp only [Int.reduceEq, reduceIte]
theorem pjn_not {l r : Int} : pjn l 33 r = if r = 0 then 1 else 0 := by
  unfold pjn
  simp only [Int.reduceEq, reduceIte]
theorem pjn_neg {l r : Int} : pjn l 126 r = w32 (-r) := by
  unfold pjn
  simp only [Int.reduceEq, reduceIte]
theorem plv_i0 {c : Int} (h : plv c = 0) : c = 124 := by
  unfold plv at h
  repeat' split at h
  all_goals omega
theorem plv_c124 : plv 124 = 0 := by
  unfold plv
  simp only [Int.reduceEq, reduceIte]
theorem plv_i1 {c : Int} (h : plv c = 1) : c = 38 := by
  unfold plv at h
  repeat' split at h
  all_goals omega
theorem plv_c38 : plv 38 = 1 := by
  unfold plv
  simp only [Int.reduceEq, reduceIte]
theorem plv_i2 {c : Int} (h : plv c = 2) : c = 60 ∨ c = 61 ∨ c = 62 := by
  unfold plv at h
  repeat' split at h
  all_goals omega
theorem plv_c60 : plv 60 = 2 := by
  unfold plv
  simp only [Int.reduceEq, reduceIte]
theorem plv_c61 : plv 61 = 2 := by
  unfold plv
  simp only [Int.reduceEq, reduceIte]
theorem plv_c62 : plv 62 = 2 := by
  unfold plv
  simp only [Int.reduceEq, reduceIte]
theorem plv_i3 {c : Int} (h : plv c = 3) : c = 43 ∨ c = 45 := by
  unfold plv at h
  repeat' split at h
  all_goals omega
theorem plv_c43 : plv 43 = 3 := by
  unfold plv
  simp only [Int.reduceEq, reduceIte]
theorem plv_c45 : plv 45 = 3 := by
  unfold plv
  simp only [Int.reduceEq, reduceIte]
theorem plv_i4 {c : Int} (h : plv c = 4) : c = 42 ∨ c = 47 ∨ c = 37 := by
  unfold plv at h
  repeat' split at h
  all_goals omega
theorem plv_c42 : plv 42 = 4 := by
  unfold plv
  simp only [Int.reduceEq, reduceIte]
theorem plv_c47 : plv 47 = 4 := by
  unfold plv
  simp only [Int.reduceEq, reduceIte]
theorem plv_c37 : plv 37 = 4 := by
  unfold plv
  simp only [Int.reduceEq, reduceIte]
theorem rF_189 {x : Int} (hp : 0 ≤ p ∧ p ≤ 120) (hn : n ≤ 120) (S : rS0 T n p f) (h : 0 ≤ f 50 16) (k : Q (some (zI x)) zSH f) (hd : 3 ≤ d := by omega) : zR sc d 189 5 [] [(0, zP 50), (1, zI x)] 0 0 zSH f Q := by
  refine zR_le hd (b189_5 (d := 2) (zcallB (s_tk0 hp hn S (by decide) (Or.inl h) ⟨rfl, rfl⟩) ?_))
  rw [if_pos rfl]
  exact k
theorem rF_190 {x : Int} (hp : 0 ≤ p ∧ p ≤ 120) (hn : n ≤ 120) (S : rS0 T n p f) (h : 0 ≤ f 50 16) (k : Q (some (zI x)) zSH f) (hd : 3 ≤ d := by omega) : zR sc d 190 5 [] [(0, zP 50), (1, zI x)] 0 0 zSH f Q := by
  refine zR_le hd (b190_5 (d := 2) (zcallB (s_tk0 hp hn S (by decide) (Or.inl h) ⟨rfl, rfl⟩) ?_))
  rw [if_pos rfl]
  exact k
theorem rF_191 {x : Int} (hp : 0 ≤ p ∧ p ≤ 120) (hn : n ≤ 120) (S : rS0 T n p f) (h : 0 ≤ f 50 16) (k : Q (some (zI x)) zSH f) (hd : 3 ≤ d := by omega) : zR sc d 191 5 [] [(0, zP 50), (1, zI x)] 0 0 zSH f Q := by
  refine zR_le hd (b191_5 (d := 2) (zcallE (s_byte hp hn S ⟨rfl, rfl⟩) ?_))
  rw [if_neg (by omega)]
  exact k
theorem rF_192 {x : Int} (_hp : 0 ≤ p ∧ p ≤ 120) (_hn : n ≤ 120) (_S : rS0 T n p f) (h : 0 ≤ f 50 16) (k : Q (some (zI x)) zSH f) (hd : 3 ≤ d := by omega) : zR sc d 192 5 [] [(0, zP 50), (1, zI x)] 0 0 zSH f Q := by
  refine zR_le hd (b192_5 (d := 2) ?_)
  rw [if_neg (by omega)]
  exact k
theorem rF_193 {x c : Int} (h : 0 ≤ f 50 16) (k : Q (some (zI x)) zSH f) (hd : 3 ≤ d := by omega) : zR sc d 193 10 [] [(0, zP 50), (1, zI x), (2, zI c)] 0 0 zSH f Q := by
  refine zR_le hd (b193_10 (d := 2) ?_)
  rw [if_neg (by omega)]
  exact k
theorem rX_189 {k : Nat} (hn : 0 ≤ n ∧ n ≤ 120) (hX : rHX sc T n nm k) (hW : rHW sc T n nm k 0 (189, 5, lv1)) (ho : 0 ≤ o ∧ o ≤ 6) (hp : 0 ≤ p ∧ p ≤ n) (hk : 20 * (n - p) + 7 - 0 ≤ ((k + 1 : Nat) : Int)) (hd : 12 * (6 - o) + (7 - 0) + 3 ≤ (d : Int)) (S : rS T n o p nm f) (K : ∀ v f1, rPo f (pps T n (k + 1) 0 o p) f1 → rVl nm (pps T n (k + 1) 0 o p) v → Q (some (zI v)) zSH f1) : zR sc d 189 0 [] [(0, zP 50)] 0 0 zSH f Q := by
  obtain ⟨d, rfl⟩ : ∃ e, d = e + 1 := ⟨d - 1, by omega⟩
  rw [pps_V (by omega)] at K
  have G := (pps_at (T := T) (n := n) k).1 1 o p (by omega) (by omega) hp.1 hp.2 (by omega)
  refine b189_0 ?_
  refine zcall1 (fun v f1 => rPo f (pps T n k 1 o p) f1 ∧ rVl nm (pps T n k 1 o p) v) (hX 1 o p d f _ (by omega) (by omega) ho hp (by omega) (by omega) S (fun v f1 h1 h2 => ⟨_, rfl, h1, h2⟩)) (fun v f1 _ h => ?_)
  obtain ⟨h, hv⟩ := h
  obtain ⟨G1, G2, G3⟩ := id G
  have S0 := rS0_of h.1 S.1 h.2.1
  by_cases hb : (pps T n k 1 o p).1 = true
  · have E : pV (pps T n k) 0 o p = pcat (pps T n k 1 o p) (pps T n k (10 + 0) o (pps T n k 1 o p).2.1) := if_pos hb
    rw [E] at K
    exact hW o _ (d + 1) f1 Q v ho ⟨by omega, G2⟩ (by have := (G3 hb).2 rfl; omega) (by omega) (rS_of h S hb) (fun w f2 h2 g2 => K w f2 (rPo_cat h hb h2) (rVl_cat hv hb g2))
  · have E : pV (pps T n k) 0 o p = pfl (pps T n k 1 o p) := if_neg hb
    rw [E] at K
    have hf := h.2.2.2 hb
    exact rF_189 (by omega) hn.2 S0 (by omega) (K v f1 (rPo_fl h hb) rVl_fl)
theorem rX_190 {k : Nat} (hn : 0 ≤ n ∧ n ≤ 120) (hX : rHX sc T n nm k) (hW : rHW sc T n nm k 1 (190, 5, lv1)) (ho : 0 ≤ o ∧ o ≤ 6) (hp : 0 ≤ p ∧ p ≤ n) (hk : 20 * (n - p) + 7 - 1 ≤ ((k + 1 : Nat) : Int)) (hd : 12 * (6 - o) + (7 - 1) + 3 ≤ (d : Int)) (S : rS T n o p nm f) (K : ∀ v f1, rPo f (pps T n (k + 1) 1 o p) f1 → rVl nm (pps T n (k + 1) 1 o p) v → Q (some (zI v)) zSH f1) : zR sc d 190 0 [] [(0, zP 50)] 0 0 zSH f Q := by
  obtain ⟨d, rfl⟩ : ∃ e, d = e + 1 := ⟨d - 1, by omega⟩
  rw [pps_V (by omega)] at K
  have G := (pps_at (T := T) (n := n) k).1 2 o p (by omega) (by omega) hp.1 hp.2 (by omega)
  refine b190_0 ?_
  refine zcall1 (fun v f1 => rPo f (pps T n k 2 o p) f1 ∧ rVl nm (pps T n k 2 o p) v) (hX 2 o p d f _ (by omega) (by omega) ho hp (by omega) (by omega) S (fun v f1 h1 h2 => ⟨_, rfl, h1, h2⟩)) (fun v f1 _ h => ?_)
  obtain ⟨h, hv⟩ := h
  obtain ⟨G1, G2, G3⟩ := id G
  have S0 := rS0_of h.1 S.1 h.2.1
  by_cases hb : (pps T n k 2 o p).1 = true
  · have E : pV (pps T n k) 1 o p = pcat (pps T n k 2 o p) (pps T n k (10 + 1) o (pps T n k 2 o p).2.1) := if_pos hb
    rw [E] at K
    exact hW o _ (d + 1) f1 Q v ho ⟨by omega, G2⟩ (by have := (G3 hb).2 rfl; omega) (by omega) (rS_of h S hb) (fun w f2 h2 g2 => K w f2 (rPo_cat h hb h2) (rVl_cat hv hb g2))
  · have E : pV (pps T n k) 1 o p = pfl (pps T n k 2 o p) := if_neg hb
    rw [E] at K
    have hf := h.2.2.2 hb
    exact rF_190 (by omega) hn.2 S0 (by omega) (K v f1 (rPo_fl h hb) rVl_fl)
theorem rX_191 {k : Nat} (hn : 0 ≤ n ∧ n ≤ 120) (hX : rHX sc T n nm k) (hW : rHW sc T n nm k 2 (191, 5, lv1)) (ho : 0 ≤ o ∧ o ≤ 6) (hp : 0 ≤ p ∧ p ≤ n) (hk : 20 * (n - p) + 7 - 2 ≤ ((k + 1 : Nat) : Int)) (hd : 12 * (6 - o) + (7 - 2) + 3 ≤ (d : Int)) (S : rS T n o p nm f) (K : ∀ v f1, rPo f (pps T n (k + 1) 2 o p) f1 → rVl nm (pps T n (k + 1) 2 o p) v → Q (some (zI v)) zSH f1) : zR sc d 191 0 [] [(0, zP 50)] 0 0 zSH f Q := by
  obtain ⟨d, rfl⟩ : ∃ e, d = e + 1 := ⟨d - 1, by omega⟩
  rw [pps_V (by omega)] at K
  have G := (pps_at (T := T) (n := n) k).1 3 o p (by omega) (by omega) hp.1 hp.2 (by omega)
  refine b191_0 ?_
  refine zcall1 (fun v f1 => rPo f (pps T n k 3 o p) f1 ∧ rVl nm (pps T n k 3 o p) v) (hX 3 o p d f _ (by omega) (by omega) ho hp (by omega) (by omega) S (fun v f1 h1 h2 => ⟨_, rfl, h1, h2⟩)) (fun v f1 _ h => ?_)
  obtain ⟨h, hv⟩ := h
  obtain ⟨G1, G2, G3⟩ := id G
  have S0 := rS0_of h.1 S.1 h.2.1
  by_cases hb : (pps T n k 3 o p).1 = true
  · have E : pV (pps T n k) 2 o p = pcat (pps T n k 3 o p) (pps T n k (10 + 2) o (pps T n k 3 o p).2.1) := if_pos hb
    rw [E] at K
    exact hW o _ (d + 1) f1 Q v ho ⟨by omega, G2⟩ (by have := (G3 hb).2 rfl; omega) (by omega) (rS_of h S hb) (fun w f2 h2 g2 => K w f2 (rPo_cat h hb h2) (rVl_cat hv hb g2))
  · have E : pV (pps T n k) 2 o p = pfl (pps T n k 3 o p) := if_neg hb
    rw [E] at K
    have hf := h.2.2.2 hb
    exact rF_191 (by omega) hn.2 S0 (by omega) (K v f1 (rPo_fl h hb) rVl_fl)
theorem rX_192 {k : Nat} (hn : 0 ≤ n ∧ n ≤ 120) (hX : rHX sc T n nm k) (hW : rHW sc T n nm k 3 (192, 5, lv1)) (ho : 0 ≤ o ∧ o ≤ 6) (hp : 0 ≤ p ∧ p ≤ n) (hk : 20 * (n - p) + 7 - 3 ≤ ((k + 1 : Nat) : Int)) (hd : 12 * (6 - o) + (7 - 3) + 3 ≤ (d : Int)) (S : rS T n o p nm f) (K : ∀ v f1, rPo f (pps T n (k + 1) 3 o p) f1 → rVl nm (pps T n (k + 1) 3 o p) v → Q (some (zI v)) zSH f1) : zR sc d 192 0 [] [(0, zP 50)] 0 0 zSH f Q := by
  obtain ⟨d, rfl⟩ : ∃ e, d = e + 1 := ⟨d - 1, by omega⟩
  rw [pps_V (by omega)] at K
  have G := (pps_at (T := T) (n := n) k).1 4 o p (by omega) (by omega) hp.1 hp.2 (by omega)
  refine b192_0 ?_
  refine zcall1 (fun v f1 => rPo f (pps T n k 4 o p) f1 ∧ rVl nm (pps T n k 4 o p) v) (hX 4 o p d f _ (by omega) (by omega) ho hp (by omega) (by omega) S (fun v f1 h1 h2 => ⟨_, rfl, h1, h2⟩)) (fun v f1 _ h => ?_)
  obtain ⟨h, hv⟩ := h
  obtain ⟨G1, G2, G3⟩ := id G
  have S0 := rS0_of h.1 S.1 h.2.1
  by_cases hb : (pps T n k 4 o p).1 = true
  · have E : pV (pps T n k) 3 o p = pcat (pps T n k 4 o p) (pps T n k (10 + 3) o (pps T n k 4 o p).2.1) := if_pos hb
    rw [E] at K
    exact hW o _ (d + 1) f1 Q v ho ⟨by omega, G2⟩ (by have := (G3 hb).2 rfl; omega) (by omega) (rS_of h S hb) (fun w f2 h2 g2 => K w f2 (rPo_cat h hb h2) (rVl_cat hv hb g2))
  · have E : pV (pps T n k) 3 o p = pfl (pps T n k 4 o p) := if_neg hb
    rw [E] at K
    have hf := h.2.2.2 hb
    exact rF_192 (by omega) hn.2 S0 (by omega) (K v f1 (rPo_fl h hb) rVl_fl)
theorem rX_193 {k : Nat} (hn : 0 ≤ n ∧ n ≤ 120) (hX : rHX sc T n nm k) (hW : rHW sc T n nm k 4 (193, 10, lv2)) (ho : 0 ≤ o ∧ o ≤ 6) (hp : 0 ≤ p ∧ p ≤ n) (hk : 20 * (n - p) + 7 - 4 ≤ ((k + 1 : Nat) : Int)) (hd : 12 * (6 - o) + (7 - 4) + 3 ≤ (d : Int)) (S : rS T n o p nm f) (K : ∀ v f1, rPo f (pps T n (k + 1) 4 o p) f1 → rVl nm (pps T n (k + 1) 4 o p) v → Q (some (zI v)) zSH f1) : zR sc d 193 0 [] [(0, zP 50)] 0 0 zSH f Q := by
  obtain ⟨d, rfl⟩ : ∃ e, d = e + 1 := ⟨d - 1, by omega⟩
  rw [pps_V (by omega)] at K
  have G := (pps_at (T := T) (n := n) k).1 5 o p (by omega) (by omega) hp.1 hp.2 (by omega)
  refine b193_0 ?_
  refine zcall1 (fun v f1 => rPo f (pps T n k 5 o p) f1 ∧ rVl nm (pps T n k 5 o p) v) (hX 5 o p d f _ (by omega) (by omega) ho hp (by omega) (by omega) S (fun v f1 h1 h2 => ⟨_, rfl, h1, h2⟩)) (fun v f1 _ h => ?_)
  obtain ⟨h, hv⟩ := h
  obtain ⟨G1, G2, G3⟩ := id G
  have S0 := rS0_of h.1 S.1 h.2.1
  refine zcallE (s_byte (by omega) hn.2 S0 ⟨rfl, rfl⟩) ?_
  by_cases hb : (pps T n k 5 o p).1 = true
  · have E : pV (pps T n k) 4 o p = pcat (pps T n k 5 o p) (pps T n k (10 + 4) o (pps T n k 5 o p).2.1) := if_pos hb
    rw [E] at K
    exact hW o _ (d + 1) f1 Q v ho ⟨by omega, G2⟩ (by have := (G3 hb).2 rfl; omega) (by omega) (rS_of h S hb) (fun w f2 h2 g2 => K w f2 (rPo_cat h hb h2) (rVl_cat hv hb g2))
  · have E : pV (pps T n k) 4 o p = pfl (pps T n k 5 o p) := if_neg hb
    rw [E] at K
    have hf := h.2.2.2 hb
    exact rF_193 (by omega) (K v f1 (rPo_fl h hb) rVl_fl)
theorem rW_189 {k : Nat} (hn : 0 ≤ n ∧ n ≤ 120) (hX : rHX sc T n nm k) (hW : rHW sc T n nm k 0 (189, 5, lv1)) : rHW sc T n nm (k + 1) 0 (189, 5, lv1) := by
  intro o p d f Q x ho hp hk hd S K
  obtain ⟨d, rfl⟩ : ∃ e, d = e + 1 := ⟨d - 1, by omega⟩
  obtain ⟨S0, S1, S2, S3⟩ := id S
  have S03 := S0.2.2
  rw [pps_W (by omega)] at K
  refine b189_5 ?_
  by_cases hc : plv (nxt T n p) = 0
  · have pn := nxt_lt (T := T) (n := n) (p := p) (by have := plv_b (c := nxt T n p) (by omega); omega)
    have G := (pps_at (T := T) (n := n) k).1 1 o (p + 1) (by omega) (by omega) (by omega) (by omega) (by omega)
    obtain ⟨G1, G2, G3⟩ := id G
    have S' : rS T n o (p + 1) nm (zup f 50 14 (f 50 14 + 1)) := ⟨⟨S0.1, S0.2.1, by show f 50 14 + 1 = p + 1; omega⟩, S1, S2, S3⟩
    have E0 : pW T n (pps T n k) 0 o p = if (pps T n k 1 o (p + 1)).1 = true then (if (0 : Int) = 2 then pad (pps T n k 1 o (p + 1)) (-(nxt T n p)) else pcat (pad (pps T n k 1 o (p + 1)) (-(nxt T n p))) (pps T n k (10 + 0) o (pps T n k 1 o (p + 1)).2.1)) else pfl (pps T n k 1 o (p + 1)) := if_pos hc
    rw [E0] at K
    clear E0
    have c1 : nxt T n p = 124 := plv_i0 hc
    have H : ∀ (w : Int) (f1 : zF), rPo f (pps T n k 1 o (p + 1)) f1 → rVl nm (pps T n k 1 o (p + 1)) w → ∀ y, y = pjn x 124 w → zR sc (d + 1) 189 5 [] [(0, zP 50), (1, zI y)] 0 0 zSH f1 Q := by
      intro w f1 h hv y hy
      by_cases hb : (pps T n k 1 o (p + 1)).1 = true
      · rw [if_pos hb, if_neg (by decide)] at K
        have hx : rVx nm x (pad (pps T n k 1 o (p + 1)) (-(nxt T n p))) (pjn x 124 w) := by
          have := rVx_pad (x := x) (a := -(nxt T n p)) hv hb (by omega)
          rw [Int.neg_neg] at this
          rw [c1] at this ⊢
          exact this
        rw [hy]
        exact hW o _ (d + 1) f1 Q _ ho ⟨by show 0 ≤ (pps T n k 1 o (p + 1)).2.1; omega, G2⟩ (by have := (G3 hb).2 rfl; show 20 * (n - (pps T n k 1 o (p + 1)).2.1) + 7 - 0 ≤ (k : Int); omega) (by omega) (rS_of (r := pad (pps T n k 1 o (p + 1)) (-(nxt T n p))) (rPo_pad (a := -(nxt T n p)) h hb) S rfl) (fun v f2 h2 g2 => K v f2 (rPo_cat (rPo_pad h hb) rfl h2) (rVx_cat hx rfl g2))
      · rw [if_neg hb] at K
        have hf := h.2.2.2 hb
        exact rF_189 (by omega) hn.2 (rS0_of h.1 S.1 h.2.1) (by omega) (K y f1 (rPo_fl h hb) rVx_fl)
    refine zcallB (s_tk1 (by omega) hn.2 S0 (by omega) (by decide) c1 ⟨rfl, rfl⟩) ?_
    rw [if_neg (by decide)]
    refine zcall1 (fun v f1 => rPo (zup f 50 14 (f 50 14 + 1)) (pps T n k 1 o (p + 1)) f1 ∧ rVl nm (pps T n k 1 o (p + 1)) v) (hX 1 o (p + 1) d _ _ (by omega) (by omega) ho (by omega) (by omega) (by omega) S' (fun v f1 h1 h2 => ⟨_, rfl, h1, h2⟩)) (fun w f1 _ h => ?_)
    obtain ⟨h, hv⟩ := h
    have h := rPo_at h
    refine zit (fun h1 => zit (fun h2 => H w f1 h hv _ ?_) (fun h2 => H w f1 h hv _ ?_)) (fun h1 => H w f1 h hv _ ?_)
    · rw [pjn_or, if_pos h1, if_pos h2]
    · rw [pjn_or, if_pos h1, if_neg h2]
    · rw [pjn_or, if_neg h1]
  · have E0 : pW T n (pps T n k) 0 o p = (true, p, []) := if_neg hc
    rw [E0] at K
    have fin : Q (some (zI x)) zSH f := K x f (rPo_nil S03) rVx_nil
    refine zcallB (s_tk0 (by omega) hn.2 S0 (by decide) (Or.inr (fun e => hc (by rw [e]; exact plv_c124))) ⟨rfl, rfl⟩) ?_
    rw [if_pos rfl]
    exact fin
theorem rW_190 {k : Nat} (hn : 0 ≤ n ∧ n ≤ 120) (hX : rHX sc T n nm k) (hW : rHW sc T n nm k 1 (190, 5, lv1)) : rHW sc T n nm (k + 1) 1 (190, 5, lv1) := by
  intro o p d f Q x ho hp hk hd S K
  obtain ⟨d, rfl⟩ : ∃ e, d = e + 1 := ⟨d - 1, by omega⟩
  obtain ⟨S0, S1, S2, S3⟩ := id S
  have S03 := S0.2.2
  rw [pps_W (by omega)] at K
  refine b190_5 ?_
  by_cases hc : plv (nxt T n p) = 1
  · have pn := nxt_lt (T := T) (n := n) (p := p) (by have := plv_b (c := nxt T n p) (by omega); omega)
    have G := (pps_at (T := T) (n := n) k).1 2 o (p + 1) (by omega) (by omega) (by omega) (by omega) (by omega)
    obtain ⟨G1, G2, G3⟩ := id G
    have S' : rS T n o (p + 1) nm (zup f 50 14 (f 50 14 + 1)) := ⟨⟨S0.1, S0.2.1, by show f 50 14 + 1 = p + 1; omega⟩, S1, S2, S3⟩
    have E0 : pW T n (pps T n k) 1 o p = if (pps T n k 2 o (p + 1)).1 = true then (if (1 : Int) = 2 then pad (pps T n k 2 o (p + 1)) (-(nxt T n p)) else pcat (pad (pps T n k 2 o (p + 1)) (-(nxt T n p))) (pps T n k (10 + 1) o (pps T n k 2 o (p + 1)).2.1)) else pfl (pps T n k 2 o (p + 1)) := if_pos hc
    rw [E0] at K
    clear E0
    have c1 : nxt T n p = 38 := plv_i1 hc
    have H : ∀ (w : Int) (f1 : zF), rPo f (pps T n k 2 o (p + 1)) f1 → rVl nm (pps T n k 2 o (p + 1)) w → ∀ y, y = pjn x 38 w → zR sc (d + 1) 190 5 [] [(0, zP 50), (1, zI y)] 0 0 zSH f1 Q := by
      intro w f1 h hv y hy
      by_cases hb : (pps T n k 2 o (p + 1)).1 = true
      · rw [if_pos hb, if_neg (by decide)] at K
        have hx : rVx nm x (pad (pps T n k 2 o (p + 1)) (-(nxt T n p))) (pjn x 38 w) := by
          have := rVx_pad (x := x) (a := -(nxt T n p)) hv hb (by omega)
          rw [Int.neg_neg] at this
          rw [c1] at this ⊢
          exact this
        rw [hy]
        exact hW o _ (d + 1) f1 Q _ ho ⟨by show 0 ≤ (pps T n k 2 o (p + 1)).2.1; omega, G2⟩ (by have := (G3 hb).2 rfl; show 20 * (n - (pps T n k 2 o (p + 1)).2.1) + 7 - 1 ≤ (k : Int); omega) (by omega) (rS_of (r := pad (pps T n k 2 o (p + 1)) (-(nxt T n p))) (rPo_pad (a := -(nxt T n p)) h hb) S rfl) (fun v f2 h2 g2 => K v f2 (rPo_cat (rPo_pad h hb) rfl h2) (rVx_cat hx rfl g2))
      · rw [if_neg hb] at K
        have hf := h.2.2.2 hb
        exact rF_190 (by omega) hn.2 (rS0_of h.1 S.1 h.2.1) (by omega) (K y f1 (rPo_fl h hb) rVx_fl)
    refine zcallB (s_tk1 (by omega) hn.2 S0 (by omega) (by decide) c1 ⟨rfl, rfl⟩) ?_
    rw [if_neg (by decide)]
    refine zcall1 (fun v f1 => rPo (zup f 50 14 (f 50 14 + 1)) (pps T n k 2 o (p + 1)) f1 ∧ rVl nm (pps T n k 2 o (p + 1)) v) (hX 2 o (p + 1) d _ _ (by omega) (by omega) ho (by omega) (by omega) (by omega) S' (fun v f1 h1 h2 => ⟨_, rfl, h1, h2⟩)) (fun w f1 _ h => ?_)
    obtain ⟨h, hv⟩ := h
    have h := rPo_at h
    refine zit (fun h1 => H w f1 h hv _ ?_) (fun h1 => zit (fun h2 => H w f1 h hv _ ?_) (fun h2 => H w f1 h hv _ ?_))
    · rw [pjn_and, if_pos h1]
    · rw [pjn_and, if_neg h1, if_pos h2]
    · rw [pjn_and, if_neg h1, if_neg h2]
  · have E0 : pW T n (pps T n k) 1 o p = (true, p, []) := if_neg hc
    rw [E0] at K
    have fin : Q (some (zI x)) zSH f := K x f (rPo_nil S03) rVx_nil
    refine zcallB (s_tk0 (by omega) hn.2 S0 (by decide) (Or.inr (fun e => hc (by rw [e]; exact plv_c38))) ⟨rfl, rfl⟩) ?_
    rw [if_pos rfl]
    exact fin
theorem rW_191 {k : Nat} (hn : 0 ≤ n ∧ n ≤ 120) (hX : rHX sc T n nm k) : rHW sc T n nm (k + 1) 2 (191, 5, lv1) := by
  intro o p d f Q x ho hp hk hd S K
  obtain ⟨d, rfl⟩ : ∃ e, d = e + 1 := ⟨d - 1, by omega⟩
  obtain ⟨S0, S1, S2, S3⟩ := id S
  have S03 := S0.2.2
  rw [pps_W (by omega)] at K
  refine b191_5 ?_
  by_cases hc : plv (nxt T n p) = 2
  · have pn := nxt_lt (T := T) (n := n) (p := p) (by have := plv_b (c := nxt T n p) (by omega); omega)
    have G := (pps_at (T := T) (n := n) k).1 3 o (p + 1) (by omega) (by omega) (by omega) (by omega) (by omega)
    obtain ⟨G1, G2, G3⟩ := id G
    have S' : rS T n o (p + 1) nm (zup f 50 14 (f 50 14 + 1)) := ⟨⟨S0.1, S0.2.1, by show f 50 14 + 1 = p + 1; omega⟩, S1, S2, S3⟩
    have E0 : pW T n (pps T n k) 2 o p = if (pps T n k 3 o (p + 1)).1 = true then (if (2 : Int) = 2 then pad (pps T n k 3 o (p + 1)) (-(nxt T n p)) else pcat (pad (pps T n k 3 o (p + 1)) (-(nxt T n p))) (pps T n k (10 + 2) o (pps T n k 3 o (p + 1)).2.1)) else pfl (pps T n k 3 o (p + 1)) := if_pos hc
    rw [E0] at K
    clear E0
    rcases plv_i2 hc with c1 | c1 | c1
    · have H : ∀ (w : Int) (f1 : zF), rPo f (pps T n k 3 o (p + 1)) f1 → rVl nm (pps T n k 3 o (p + 1)) w → ∀ y, y = pjn x 60 w → Q (some (zI y)) zSH f1 := by
        intro w f1 h hv y hy
        by_cases hb : (pps T n k 3 o (p + 1)).1 = true
        · rw [if_pos hb, if_pos (by decide)] at K
          have hx : rVx nm x (pad (pps T n k 3 o (p + 1)) (-(nxt T n p))) (pjn x 60 w) := by
            have := rVx_pad (x := x) (a := -(nxt T n p)) hv hb (by omega)
            rw [Int.neg_neg] at this
            rw [c1] at this ⊢
            exact this
          rw [hy]
          exact K _ f1 (rPo_pad h hb) hx
        · rw [if_neg hb] at K
          have hf := h.2.2.2 hb
          exact K y f1 (rPo_fl h hb) rVx_fl
      refine zcallE (s_byte (by omega) hn.2 S0 ⟨rfl, rfl⟩) ?_
      rw [if_pos (by omega), (rbt_c hp.1 (by decide)).2 c1, if_pos rfl]
      refine zov_p (by omega) ?_
      refine zcall1 (fun v f1 => rPo (zup f 50 14 (f 50 14 + 1)) (pps T n k 3 o (p + 1)) f1 ∧ rVl nm (pps T n k 3 o (p + 1)) v) (hX 3 o (p + 1) d _ _ (by omega) (by omega) ho (by omega) (by omega) (by omega) S' (fun v f1 h1 h2 => ⟨_, rfl, h1, h2⟩)) (fun w f1 _ h => ?_)
      obtain ⟨h, hv⟩ := h
      have h := rPo_at h
      rw [if_pos rfl]
      refine zit (fun h1 => H w f1 h hv _ ?_) (fun h1 => H w f1 h hv _ ?_)
      · rw [pjn_lt, if_pos h1]
      · rw [pjn_lt, if_neg h1]
    · have H : ∀ (w : Int) (f1 : zF), rPo f (pps T n k 3 o (p + 1)) f1 → rVl nm (pps T n k 3 o (p + 1)) w → ∀ y, y = pjn x 61 w → Q (some (zI y)) zSH f1 := by
        intro w f1 h hv y hy
        by_cases hb : (pps T n k 3 o (p + 1)).1 = true
        · rw [if_pos hb, if_pos (by decide)] at K
          have hx : rVx nm x (pad (pps T n k 3 o (p + 1)) (-(nxt T n p))) (pjn x 61 w) := by
            have := rVx_pad (x := x) (a := -(nxt T n p)) hv hb (by omega)
            rw [Int.neg_neg] at this
            rw [c1] at this ⊢
            exact this
          rw [hy]
          exact K _ f1 (rPo_pad h hb) hx
        · rw [if_neg hb] at K
          have hf := h.2.2.2 hb
          exact K y f1 (rPo_fl h hb) rVx_fl
      refine zcallE (s_byte (by omega) hn.2 S0 ⟨rfl, rfl⟩) ?_
      rw [if_pos (by omega), (rbt_c hp.1 (by decide)).2 c1, if_neg (by decide), if_pos rfl]
      refine zov_p (by omega) ?_
      refine zcall1 (fun v f1 => rPo (zup f 50 14 (f 50 14 + 1)) (pps T n k 3 o (p + 1)) f1 ∧ rVl nm (pps T n k 3 o (p + 1)) v) (hX 3 o (p + 1) d _ _ (by omega) (by omega) ho (by omega) (by omega) (by omega) S' (fun v f1 h1 h2 => ⟨_, rfl, h1, h2⟩)) (fun w f1 _ h => ?_)
      obtain ⟨h, hv⟩ := h
      have h := rPo_at h
      rw [if_neg (by decide), if_pos rfl]
      refine zit (fun h1 => H w f1 h hv _ ?_) (fun h1 => H w f1 h hv _ ?_)
      · rw [pjn_eq, if_pos h1]
      · rw [pjn_eq, if_neg h1]
    · have H : ∀ (w : Int) (f1 : zF), rPo f (pps T n k 3 o (p + 1)) f1 → rVl nm (pps T n k 3 o (p + 1)) w → ∀ y, y = pjn x 62 w → Q (some (zI y)) zSH f1 := by
        intro w f1 h hv y hy
        by_cases hb : (pps T n k 3 o (p + 1)).1 = true
        · rw [if_pos hb, if_pos (by decide)] at K
          have hx : rVx nm x (pad (pps T n k 3 o (p + 1)) (-(nxt T n p))) (pjn x 62 w) := by
            have := rVx_pad (x := x) (a := -(nxt T n p)) hv hb (by omega)
            rw [Int.neg_neg] at this
            rw [c1] at this ⊢
            exact this
          rw [hy]
          exact K _ f1 (rPo_pad h hb) hx
        · rw [if_neg hb] at K
          have hf := h.2.2.2 hb
          exact K y f1 (rPo_fl h hb) rVx_fl
      refine zcallE (s_byte (by omega) hn.2 S0 ⟨rfl, rfl⟩) ?_
      rw [if_pos (by omega), (rbt_c hp.1 (by decide)).2 c1, if_neg (by decide), if_neg (by decide), if_pos rfl]
      refine zov_p (by omega) ?_
      refine zcall1 (fun v f1 => rPo (zup f 50 14 (f 50 14 + 1)) (pps T n k 3 o (p + 1)) f1 ∧ rVl nm (pps T n k 3 o (p + 1)) v) (hX 3 o (p + 1) d _ _ (by omega) (by omega) ho (by omega) (by omega) (by omega) S' (fun v f1 h1 h2 => ⟨_, rfl, h1, h2⟩)) (fun w f1 _ h => ?_)
      obtain ⟨h, hv⟩ := h
      have h := rPo_at h
      rw [if_neg (by decide), if_neg (by decide)]
      refine zit (fun h1 => H w f1 h hv _ ?_) (fun h1 => H w f1 h hv _ ?_)
      · rw [pjn_gt, if_pos h1]
      · rw [pjn_gt, if_neg h1]
  · have E0 : pW T n (pps T n k) 2 o p = (true, p, []) := if_neg hc
    rw [E0] at K
    have fin : Q (some (zI x)) zSH f := K x f (rPo_nil S03) rVx_nil
    have n60 : ¬ rbt T n p = 60 := fun e => hc (by rw [(rbt_c hp.1 (by decide)).1 e]; exact plv_c60)
    have n61 : ¬ rbt T n p = 61 := fun e => hc (by rw [(rbt_c hp.1 (by decide)).1 e]; exact plv_c61)
    have n62 : ¬ rbt T n p = 62 := fun e => hc (by rw [(rbt_c hp.1 (by decide)).1 e]; exact plv_c62)
    refine zcallE (s_byte (by omega) hn.2 S0 ⟨rfl, rfl⟩) ?_
    rw [if_pos (by omega), if_neg n60, if_neg n61, if_neg n62]
    exact fin
theorem rW_192 {k : Nat} (hn : 0 ≤ n ∧ n ≤ 120) (hX : rHX sc T n nm k) (hW : rHW sc T n nm k 3 (192, 5, lv1)) : rHW sc T n nm (k + 1) 3 (192, 5, lv1) := by
  intro o p d f Q x ho hp hk hd S K
  obtain ⟨d, rfl⟩ : ∃ e, d = e + 1 := ⟨d - 1, by omega⟩
  obtain ⟨S0, S1, S2, S3⟩ := id S
  have S03 := S0.2.2
  rw [pps_W (by omega)] at K
  refine b192_5 ?_
  by_cases hc : plv (nxt T n p) = 3
  · have pn := nxt_lt (T := T) (n := n) (p := p) (by have := plv_b (c := nxt T n p) (by omega); omega)
    have G := (pps_at (T := T) (n := n) k).1 4 o (p + 1) (by omega) (by omega) (by omega) (by omega) (by omega)
    obtain ⟨G1, G2, G3⟩ := id G
    have S' : rS T n o (p + 1) nm (zup f 50 14 (f 50 14 + 1)) := ⟨⟨S0.1, S0.2.1, by show f 50 14 + 1 = p + 1; omega⟩, S1, S2, S3⟩
    have E0 : pW T n (pps T n k) 3 o p = if (pps T n k 4 o (p + 1)).1 = true then (if (3 : Int) = 2 then pad (pps T n k 4 o (p + 1)) (-(nxt T n p)) else pcat (pad (pps T n k 4 o (p + 1)) (-(nxt T n p))) (pps T n k (10 + 3) o (pps T n k 4 o (p + 1)).2.1)) else pfl (pps T n k 4 o (p + 1)) := if_pos hc
    rw [E0] at K
    clear E0
    have w1 : w32 (f 50 14 + 1) = f 50 14 + 1 := w32_in (by omega)
    rcases plv_i3 hc with c1 | c1
    · have H : ∀ (w : Int) (f1 : zF), rPo f (pps T n k 4 o (p + 1)) f1 → rVl nm (pps T n k 4 o (p + 1)) w → ∀ y, y = pjn x 43 w → zR sc (d + 1) 192 5 [] [(0, zP 50), (1, zI y)] 0 0 zSH f1 Q := by
        intro w f1 h hv y hy
        by_cases hb : (pps T n k 4 o (p + 1)).1 = true
        · rw [if_pos hb, if_neg (by decide)] at K
          have hx : rVx nm x (pad (pps T n k 4 o (p + 1)) (-(nxt T n p))) (pjn x 43 w) := by
            have := rVx_pad (x := x) (a := -(nxt T n p)) hv hb (by omega)
            rw [Int.neg_neg] at this
            rw [c1] at this ⊢
            exact this
          rw [hy]
          exact hW o _ (d + 1) f1 Q _ ho ⟨by show 0 ≤ (pps T n k 4 o (p + 1)).2.1; omega, G2⟩ (by have := (G3 hb).2 rfl; show 20 * (n - (pps T n k 4 o (p + 1)).2.1) + 7 - 3 ≤ (k : Int); omega) (by omega) (rS_of (r := pad (pps T n k 4 o (p + 1)) (-(nxt T n p))) (rPo_pad (a := -(nxt T n p)) h hb) S rfl) (fun v f2 h2 g2 => K v f2 (rPo_cat (rPo_pad h hb) rfl h2) (rVx_cat hx rfl g2))
        · rw [if_neg hb] at K
          have hf := h.2.2.2 hb
          exact rF_192 (by omega) hn.2 (rS0_of h.1 S.1 h.2.1) (by omega) (K y f1 (rPo_fl h hb) rVx_fl)
      rw [if_pos (by omega)]
      refine zcallE (s_byte (by omega) hn.2 S0 ⟨rfl, rfl⟩) ?_
      rw [(rbt_c hp.1 (by decide)).2 c1, if_pos rfl]
      refine zcallE (s_byte (by omega) hn.2 S0 ⟨rfl, rfl⟩) ?_
      rw [(rbt_c hp.1 (by decide)).2 c1, if_pos rfl, w1]
      refine zcall1 (fun v f1 => rPo (zup f 50 14 (f 50 14 + 1)) (pps T n k 4 o (p + 1)) f1 ∧ rVl nm (pps T n k 4 o (p + 1)) v) (hX 4 o (p + 1) d _ _ (by omega) (by omega) ho (by omega) (by omega) (by omega) S' (fun v f1 h1 h2 => ⟨_, rfl, h1, h2⟩)) (fun w f1 _ h => ?_)
      obtain ⟨h, hv⟩ := h
      have h := rPo_at h
      exact H w f1 h hv _ pjn_add.symm
    · have H : ∀ (w : Int) (f1 : zF), rPo f (pps T n k 4 o (p + 1)) f1 → rVl nm (pps T n k 4 o (p + 1)) w → ∀ y, y = pjn x 45 w → zR sc (d + 1) 192 5 [] [(0, zP 50), (1, zI y)] 0 0 zSH f1 Q := by
        intro w f1 h hv y hy
        by_cases hb : (pps T n k 4 o (p + 1)).1 = true
        · rw [if_pos hb, if_neg (by decide)] at K
          have hx : rVx nm x (pad (pps T n k 4 o (p + 1)) (-(nxt T n p))) (pjn x 45 w) := by
            have := rVx_pad (x := x) (a := -(nxt T n p)) hv hb (by omega)
            rw [Int.neg_neg] at this
            rw [c1] at this ⊢
            exact this
          rw [hy]
          exact hW o _ (d + 1) f1 Q _ ho ⟨by show 0 ≤ (pps T n k 4 o (p + 1)).2.1; omega, G2⟩ (by have := (G3 hb).2 rfl; show 20 * (n - (pps T n k 4 o (p + 1)).2.1) + 7 - 3 ≤ (k : Int); omega) (by omega) (rS_of (r := pad (pps T n k 4 o (p + 1)) (-(nxt T n p))) (rPo_pad (a := -(nxt T n p)) h hb) S rfl) (fun v f2 h2 g2 => K v f2 (rPo_cat (rPo_pad h hb) rfl h2) (rVx_cat hx rfl g2))
        · rw [if_neg hb] at K
          have hf := h.2.2.2 hb
          exact rF_192 (by omega) hn.2 (rS0_of h.1 S.1 h.2.1) (by omega) (K y f1 (rPo_fl h hb) rVx_fl)
      have e45 : rbt T n p = 45 := (rbt_c hp.1 (by decide)).2 c1
      rw [if_pos (by omega)]
      refine zcallE (s_byte (by omega) hn.2 S0 ⟨rfl, rfl⟩) ?_
      rw [e45, if_neg (by decide)]
      refine zcallE (s_byte (by omega) hn.2 S0 ⟨rfl, rfl⟩) ?_
      rw [e45, if_pos rfl]
      refine zcallE (s_byte (by omega) hn.2 S0 ⟨rfl, rfl⟩) ?_
      rw [e45, if_neg (by decide), w1]
      refine zcall1 (fun v f1 => rPo (zup f 50 14 (f 50 14 + 1)) (pps T n k 4 o (p + 1)) f1 ∧ rVl nm (pps T n k 4 o (p + 1)) v) (hX 4 o (p + 1) d _ _ (by omega) (by omega) ho (by omega) (by omega) (by omega) S' (fun v f1 h1 h2 => ⟨_, rfl, h1, h2⟩)) (fun w f1 _ h => ?_)
      obtain ⟨h, hv⟩ := h
      have h := rPo_at h
      exact H w f1 h hv _ pjn_sub.symm
  · have E0 : pW T n (pps T n k) 3 o p = (true, p, []) := if_neg hc
    rw [E0] at K
    have fin : Q (some (zI x)) zSH f := K x f (rPo_nil S03) rVx_nil
    have n43 : ¬ rbt T n p = 43 := fun e => hc (by rw [(rbt_c hp.1 (by decide)).1 e]; exact plv_c43)
    have n45 : ¬ rbt T n p = 45 := fun e => hc (by rw [(rbt_c hp.1 (by decide)).1 e]; exact plv_c45)
    rw [if_pos (by omega)]
    refine zcallE (s_byte (by omega) hn.2 S0 ⟨rfl, rfl⟩) ?_
    rw [if_neg n43]
    refine zcallE (s_byte (by omega) hn.2 S0 ⟨rfl, rfl⟩) ?_
    rw [if_neg n45]
    exact fin
theorem rW_193 {k : Nat} (hn : 0 ≤ n ∧ n ≤ 120) (hX : rHX sc T n nm k) (hW : rHW sc T n nm k 4 (193, 10, lv2)) : rHW sc T n nm (k + 1) 4 (193, 10, lv2) := by
  intro o p d f Q x ho hp hk hd S K
  obtain ⟨d, rfl⟩ : ∃ e, d = e + 1 := ⟨d - 1, by omega⟩
  obtain ⟨S0, S1, S2, S3⟩ := id S
  have S03 := S0.2.2
  rw [pps_W (by omega)] at K
  refine b193_10 ?_
  by_cases hc : plv (nxt T n p) = 4
  · have pn := nxt_lt (T := T) (n := n) (p := p) (by have := plv_b (c := nxt T n p) (by omega); omega)
    have G := (pps_at (T := T) (n := n) k).1 5 o (p + 1) (by omega) (by omega) (by omega) (by omega) (by omega)
    obtain ⟨G1, G2, G3⟩ := id G
    have S' : rS T n o (p + 1) nm (zup f 50 14 (f 50 14 + 1)) := ⟨⟨S0.1, S0.2.1, by show f 50 14 + 1 = p + 1; omega⟩, S1, S2, S3⟩
    have E0 : pW T n (pps T n k) 4 o p = if (pps T n k 5 o (p + 1)).1 = true then (if (4 : Int) = 2 then pad (pps T n k 5 o (p + 1)) (-(nxt T n p)) else pcat (pad (pps T n k 5 o (p + 1)) (-(nxt T n p))) (pps T n k (10 + 4) o (pps T n k 5 o (p + 1)).2.1)) else pfl (pps T n k 5 o (p + 1)) := if_pos hc
    rw [E0] at K
    clear E0
    have w1 : w32 (f 50 14 + 1) = f 50 14 + 1 := w32_in (by omega)
    rcases plv_i4 hc with c1 | c1 | c1
    · have H : ∀ (w : Int) (f1 : zF), rPo f (pps T n k 5 o (p + 1)) f1 → rVl nm (pps T n k 5 o (p + 1)) w → ∀ y, y = pjn x 42 w → zR sc (d + 1) 193 10 [] [(0, zP 50), (1, zI y), (2, zI (rbt T n (pps T n k 5 o (p + 1)).2.1))] 0 0 zSH f1 Q := by
        intro w f1 h hv y hy
        by_cases hb : (pps T n k 5 o (p + 1)).1 = true
        · rw [if_pos hb, if_neg (by decide)] at K
          have hx : rVx nm x (pad (pps T n k 5 o (p + 1)) (-(nxt T n p))) (pjn x 42 w) := by
            have := rVx_pad (x := x) (a := -(nxt T n p)) hv hb (by omega)
            rw [Int.neg_neg] at this
            rw [c1] at this ⊢
            exact this
          rw [hy]
          exact hW o _ (d + 1) f1 Q _ ho ⟨by show 0 ≤ (pps T n k 5 o (p + 1)).2.1; omega, G2⟩ (by have := (G3 hb).2 rfl; show 20 * (n - (pps T n k 5 o (p + 1)).2.1) + 7 - 4 ≤ (k : Int); omega) (by omega) (rS_of (r := pad (pps T n k 5 o (p + 1)) (-(nxt T n p))) (rPo_pad (a := -(nxt T n p)) h hb) S rfl) (fun v f2 h2 g2 => K v f2 (rPo_cat (rPo_pad h hb) rfl h2) (rVx_cat hx rfl g2))
        · rw [if_neg hb] at K
          have hf := h.2.2.2 hb
          exact rF_193 (by omega) (K y f1 (rPo_fl h hb) rVx_fl)
      show (if f 50 16 < 0 then _ else _)
      rw [(rbt_c hp.1 (by decide)).2 c1, if_pos (by omega), if_pos rfl, w1]
      refine zcall1 (fun v f1 => rPo (zup f 50 14 (f 50 14 + 1)) (pps T n k 5 o (p + 1)) f1 ∧ rVl nm (pps T n k 5 o (p + 1)) v) (hX 5 o (p + 1) d _ _ (by omega) (by omega) ho (by omega) (by omega) (by omega) S' (fun v f1 h1 h2 => ⟨_, rfl, h1, h2⟩)) (fun w f1 _ h => ?_)
      obtain ⟨h, hv⟩ := h
      have h := rPo_at h
      have hq : 0 ≤ (pps T n k 5 o (p + 1)).2.1 ∧ (pps T n k 5 o (p + 1)).2.1 ≤ 120 := by omega
      rw [if_pos rfl]
      refine zcallE (s_byte (f := f1) hq hn.2 (rS0_of h.1 S.1 h.2.1) ⟨rfl, rfl⟩) ?_
      exact H w f1 h hv _ pjn_mul.symm
    · have H : ∀ (w : Int) (f1 : zF), rPo f (pps T n k 5 o (p + 1)) f1 → rVl nm (pps T n k 5 o (p + 1)) w → ∀ y, y = pjn x 47 w → zR sc (d + 1) 193 10 [] [(0, zP 50), (1, zI y), (2, zI (rbt T n (pps T n k 5 o (p + 1)).2.1))] 0 0 zSH f1 Q := by
        intro w f1 h hv y hy
        by_cases hb : (pps T n k 5 o (p + 1)).1 = true
        · rw [if_pos hb, if_neg (by decide)] at K
          have hx : rVx nm x (pad (pps T n k 5 o (p + 1)) (-(nxt T n p))) (pjn x 47 w) := by
            have := rVx_pad (x := x) (a := -(nxt T n p)) hv hb (by omega)
            rw [Int.neg_neg] at this
            rw [c1] at this ⊢
            exact this
          rw [hy]
          exact hW o _ (d + 1) f1 Q _ ho ⟨by show 0 ≤ (pps T n k 5 o (p + 1)).2.1; omega, G2⟩ (by have := (G3 hb).2 rfl; show 20 * (n - (pps T n k 5 o (p + 1)).2.1) + 7 - 4 ≤ (k : Int); omega) (by omega) (rS_of (r := pad (pps T n k 5 o (p + 1)) (-(nxt T n p))) (rPo_pad (a := -(nxt T n p)) h hb) S rfl) (fun v f2 h2 g2 => K v f2 (rPo_cat (rPo_pad h hb) rfl h2) (rVx_cat hx rfl g2))
        · rw [if_neg hb] at K
          have hf := h.2.2.2 hb
          exact rF_193 (by omega) (K y f1 (rPo_fl h hb) rVx_fl)
      show (if f 50 16 < 0 then _ else _)
      rw [(rbt_c hp.1 (by decide)).2 c1, if_pos (by omega), if_neg (by decide), if_pos rfl, w1]
      refine zcall1 (fun v f1 => rPo (zup f 50 14 (f 50 14 + 1)) (pps T n k 5 o (p + 1)) f1 ∧ rVl nm (pps T n k 5 o (p + 1)) v) (hX 5 o (p + 1) d _ _ (by omega) (by omega) ho (by omega) (by omega) (by omega) S' (fun v f1 h1 h2 => ⟨_, rfl, h1, h2⟩)) (fun w f1 _ h => ?_)
      obtain ⟨h, hv⟩ := h
      have h := rPo_at h
      have hq : 0 ≤ (pps T n k 5 o (p + 1)).2.1 ∧ (pps T n k 5 o (p + 1)).2.1 ≤ 120 := by omega
      rw [if_neg (by decide)]
      refine zit (fun h1 => ?_) (fun h1 => ?_)
      · refine zcallE (s_byte (f := f1) hq hn.2 (rS0_of h.1 S.1 h.2.1) ⟨rfl, rfl⟩) ?_
        exact H w f1 h hv _ (by rw [pjn_div, if_pos h1])
      · rw [if_pos rfl, if_neg h1]
        refine zcallE (s_byte (f := f1) hq hn.2 (rS0_of h.1 S.1 h.2.1) ⟨rfl, rfl⟩) ?_
        exact H w f1 h hv _ (by rw [pjn_div, if_neg h1])
    · have H : ∀ (w : Int) (f1 : zF), rPo f (pps T n k 5 o (p + 1)) f1 → rVl nm (pps T n k 5 o (p + 1)) w → ∀ y, y = pjn x 37 w → zR sc (d + 1) 193 10 [] [(0, zP 50), (1, zI y), (2, zI (rbt T n (pps T n k 5 o (p + 1)).2.1))] 0 0 zSH f1 Q := by
        intro w f1 h hv y hy
        by_cases hb : (pps T n k 5 o (p + 1)).1 = true
        · rw [if_pos hb, if_neg (by decide)] at K
          have hx : rVx nm x (pad (pps T n k 5 o (p + 1)) (-(nxt T n p))) (pjn x 37 w) := by
            have := rVx_pad (x := x) (a := -(nxt T n p)) hv hb (by omega)
            rw [Int.neg_neg] at this
            rw [c1] at this ⊢
            exact this
          rw [hy]
          exact hW o _ (d + 1) f1 Q _ ho ⟨by show 0 ≤ (pps T n k 5 o (p + 1)).2.1; omega, G2⟩ (by have := (G3 hb).2 rfl; show 20 * (n - (pps T n k 5 o (p + 1)).2.1) + 7 - 4 ≤ (k : Int); omega) (by omega) (rS_of (r := pad (pps T n k 5 o (p + 1)) (-(nxt T n p))) (rPo_pad (a := -(nxt T n p)) h hb) S rfl) (fun v f2 h2 g2 => K v f2 (rPo_cat (rPo_pad h hb) rfl h2) (rVx_cat hx rfl g2))
        · rw [if_neg hb] at K
          have hf := h.2.2.2 hb
          exact rF_193 (by omega) (K y f1 (rPo_fl h hb) rVx_fl)
      show (if f 50 16 < 0 then _ else _)
      rw [(rbt_c hp.1 (by decide)).2 c1, if_pos (by omega), if_neg (by decide), if_neg (by decide), if_pos rfl, w1]
      refine zcall1 (fun v f1 => rPo (zup f 50 14 (f 50 14 + 1)) (pps T n k 5 o (p + 1)) f1 ∧ rVl nm (pps T n k 5 o (p + 1)) v) (hX 5 o (p + 1) d _ _ (by omega) (by omega) ho (by omega) (by omega) (by omega) S' (fun v f1 h1 h2 => ⟨_, rfl, h1, h2⟩)) (fun w f1 _ h => ?_)
      obtain ⟨h, hv⟩ := h
      have h := rPo_at h
      have hq : 0 ≤ (pps T n k 5 o (p + 1)).2.1 ∧ (pps T n k 5 o (p + 1)).2.1 ≤ 120 := by omega
      rw [if_neg (by decide)]
      refine zit (fun h1 => ?_) (fun h1 => ?_)
      · refine zcallE (s_byte (f := f1) hq hn.2 (rS0_of h.1 S.1 h.2.1) ⟨rfl, rfl⟩) ?_
        exact H w f1 h hv _ (by rw [pjn_rem, if_pos h1])
      · rw [if_neg (by decide), if_neg h1]
        refine zcallE (s_byte (f := f1) hq hn.2 (rS0_of h.1 S.1 h.2.1) ⟨rfl, rfl⟩) ?_
        exact H w f1 h hv _ (by rw [pjn_rem, if_neg h1])
  · have E0 : pW T n (pps T n k) 4 o p = (true, p, []) := if_neg hc
    rw [E0] at K
    have fin : Q (some (zI x)) zSH f := K x f (rPo_nil S03) rVx_nil
    have n42 : ¬ rbt T n p = 42 := fun e => hc (by rw [(rbt_c hp.1 (by decide)).1 e]; exact plv_c42)
    have n47 : ¬ rbt T n p = 47 := fun e => hc (by rw [(rbt_c hp.1 (by decide)).1 e]; exact plv_c47)
    have n37 : ¬ rbt T n p = 37 := fun e => hc (by rw [(rbt_c hp.1 (by decide)).1 e]; exact plv_c37)
    show (if f 50 16 < 0 then _ else _)
    rw [if_pos (by omega), if_neg n42, if_neg n47, if_neg n37]
    exact fin
/-- digits -/
theorem r_nd (hn : n ≤ 120) (hT : ∀ p, -1 ≤ nxt T n p ∧ nxt T n p ≤ 255) (S : rS0 T n p f) (S1 : f 50 16 < 0) : ∀ (j : Nat) (v p : Int), 0 ≤ p → p ≤ n → 0 ≤ v → ((j = 4 ∧ v ≤ 0 ∧ 48 ≤ nxt T n p ∧ nxt T n p ≤ 57) ∨ (j = 3 ∧ v ≤ 9) ∨ (j = 2 ∧ v ≤ 99) ∨ (j = 1 ∧ v ≤ 999) ∨ (j = 0 ∧ v ≤ 9999)) → Q (some (zI (pdg T n j v p).1)) zSH (zup f 50 14 (pdg T n j v p).2) → zR sc (d + 2) 195 176 [] [(0, zP 50), (3, zI v), (4, zI (4 - (j : Int)))] 0 0 zSH (zup f 50 14 p) Q := by
  intro j
  induction j with
  | zero =>
    intro v p hp hp2 hv hj K
    refine b195_176 (d := d + 1) ?_
    rw [if_neg (by omega), if_neg (by omega)]
    exact K
  | succ j ih =>
    intro v p hp hp2 hv hj K
    have S' : rS0 T n p (zup f 50 14 p) := ⟨S.1, S.2.1, rfl⟩
    have B : ∀ {P : Int → zF → Prop}, P (rbt T n p) (zup f 50 14 p) → ∃ A : zQ, zR sc (d + 1) 186 0 [] [(0, zP 50)] 0 0 zSH (zup f 50 14 p) A ∧ ∀ (r : Int) (f1 : zF), zIn r → A (some (zI r)) zSH f1 → P r f1 := fun g => zcallE (s_byte (by omega) hn S' ⟨rfl, rfl⟩) g
    have hx := rbt_x (T := T) (n := n) (p := p) hp
    have hb := hT p
    refine b195_176 (d := d + 1) ?_
    rw [if_pos (by omega)]
    refine B ?_
    by_cases g : 48 ≤ nxt T n p ∧ nxt T n p ≤ 57
    · have g2 := nxt_lt (T := T) (n := n) (p := p) (by omega)
      have e : rbt T n p = nxt T n p := by omega
      rw [e, if_neg (by omega)]
      refine B ?_
      rw [e, if_neg (by omega)]
      refine B ?_
      rw [e]
      rw [pdg_s g] at K
      show zR sc (d + 1 + 1) 195 176 [] [(0, zP 50), (3, zI (w32 (w32 (w32 (10 * v) + nxt T n p) - 48))), (4, zI (w32 (4 - ((j + 1 : Nat) : Int) + 1)))] 0 0 zSH (zup (zup f 50 14 p) 50 14 (w32 (p + 1))) Q
      rw [w32_in (z := 10 * v) (by omega), w32_in (z := 10 * v + nxt T n p) (by omega), w32_in (z := 10 * v + nxt T n p - 48) (by omega), w32_in (z := p + 1) (by omega), w32_in (z := 4 - ((j + 1 : Nat) : Int) + 1) (by omega), zup_zup, show (4 : Int) - ((j + 1 : Nat) : Int) + 1 = 4 - (j : Int) by omega, show 10 * v + nxt T n p - 48 = v * 10 + (nxt T n p - 48) by omega]
      exact ih _ (p + 1) (by omega) (by omega) (by omega) (by omega) K
    · rw [pdg_e g] at K
      have hj4 : ¬ (4 : Int) - ((j + 1 : Nat) : Int) = 0 := by omega
      refine zit (fun h => ?_) (fun h => B ?_)
      · rw [if_neg hj4]
        exact K
      · rw [if_pos (by omega), if_neg hj4]
        exact K
/-- one that is opened -/
theorem rO_P {k : Nat} (hn : 0 ≤ n ∧ n ≤ 120) (hX : rHX sc T n nm k) (ho : 0 ≤ o ∧ o < 6) (hp : 0 ≤ p ∧ p < n) (hk : 20 * (n - p) + 2 ≤ ((k + 1 : Nat) : Int)) (hd : 12 * (6 - o) + 3 ≤ (d : Int)) (S : rS T n o p nm f) :
    (∀ {P : Int → zF → Prop}, (∀ v f1, rPo (zup (zup f 50 17 (f 50 17 + 1)) 50 14 (f 50 14 + 1)) (pps T n k 0 (o + 1) (p + 1)) f1 → rVl nm (pps T n k 0 (o + 1) (p + 1)) v → P v f1) → ∃ A : zQ, zR sc d 189 0 [] [(0, zP 50)] 0 0 zSH (zup (zup f 50 17 (f 50 17 + 1)) 50 14 (f 50 14 + 1)) A ∧ ∀ (r : Int) (f1 : zF), zIn r → A (some (zI r)) zSH f1 → P r f1) ∧
    (∀ {P : Int → zF → Prop}, (∀ v f1, rPo (zup (zup f 50 17 (f 50 17 + 1)) 50 14 (f 50 14 + 1)) (pps T n k 5 (o + 1) (p + 1)) f1 → rVl nm (pps T n k 5 (o + 1) (p + 1)) v → P v f1) → ∃ A : zQ, zR sc d 195 0 [] [(0, zP 50)] 0 0 zSH (zup (zup f 50 17 (f 50 17 + 1)) 50 14 (f 50 14 + 1)) A ∧ ∀ (r : Int) (f1 : zF), zIn r → A (some (zI r)) zSH f1 → P r f1) := by
  obtain ⟨S0, S1, S2, S3⟩ := id S
  have S' : rS T n (o + 1) (p + 1) nm (zup (zup f 50 17 (f 50 17 + 1)) 50 14 (f 50 14 + 1)) := ⟨⟨S0.1, S0.2.1, by have := S0.2.2; show f 50 14 + 1 = p + 1; omega⟩, S1, by show f 50 17 + 1 = o + 1; omega, S3⟩
  exact ⟨fun {P} g => zcall1 (fun v f1 => rPo _ _ f1 ∧ rVl nm _ v) (hX 0 (o + 1) (p + 1) d _ _ (by omega) (by omega) (by omega) (by omega) (by omega) (by omega) S' (fun v f1 h1 h2 => ⟨_, rfl, h1, h2⟩)) (fun v f1 _ h => g v f1 h.1 h.2),
    fun {P} g => zcall1 (fun v f1 => rPo _ _ f1 ∧ rVl nm _ v) (hX 5 (o + 1) (p + 1) d _ _ (by omega) (by omega) (by omega) (by omega) (by omega) (by omega) S' (fun v f1 h1 h2 => ⟨_, rfl, h1, h2⟩)) (fun v f1 _ h => g v f1 h.1 h.2)⟩
theorem rPo_op {a b : Int} (h : rPo (zup (zup f 50 17 b) 50 14 a) r f1) (hb : r.1 = true) (e : b = f 50 17 + 1) : rPo f r (zup f1 50 17 (f1 50 17 - 1)) := by
  obtain ⟨h1, h2, h3, h4⟩ := h
  refine ⟨fun c j hc => ?_, h2, fun _ => ⟨(h3 hb).1, ?_⟩, fun g => absurd hb g⟩
  · rw [zup_at]
    by_cases e : c = 50
    · rw [if_pos e, if_neg (by omega), h1 c j hc, zup_at, if_pos e, if_neg (by omega), zup_at, if_pos e, if_neg (by omega)]
    · rw [if_neg e, h1 c j hc, zup_at, if_neg e, zup_at, if_neg e]
  · have := (h3 hb).2
    show f1 50 17 - 1 = f 50 17
    have e2 : f1 50 17 = b := this
    omega
theorem rPo_of {a b : Int} (h : rPo (zup (zup f 50 17 b) 50 14 a) r f1) (hb : ¬ r.1 = true) : rPo f (pfl r) f1 := by
  obtain ⟨h1, h2, h3, h4⟩ := h
  refine ⟨fun c j hc => ?_, h2, (fun h => by cases h), fun _ => h4 hb⟩
  rw [h1 c j hc, zup_at]
  by_cases e : c = 50
  · rw [if_pos e, if_neg (by omega), zup_at, if_pos e, if_neg (by omega)]
  · rw [if_neg e, zup_at, if_neg e]
theorem fr50 {a : Nat} {v : Int} (h : ∀ c j, (c ≠ 50 ∨ (j ≠ 14 ∧ j ≠ 16 ∧ j ≠ 17)) → f1 c j = f c j) (ha : a = 14 ∨ a = 16 ∨ a = 17) : ∀ c j, (c ≠ 50 ∨ (j ≠ 14 ∧ j ≠ 16 ∧ j ≠ 17)) → zup f1 50 a v c j = f c j := by
  intro c j hc
  rw [zup_at]
  by_cases e : c = 50
  · rw [if_pos e, if_neg (by omega)]; exact h c j hc
  · rw [if_neg e]; exact h c j hc
theorem s_wrong2 (S : 0 ≤ f 50 16) (k : Q (some (zI 0)) zSH (zup f 50 16 (f 50 16))) (hd : 1 ≤ d := by omega) : zR sc d 187 0 [] [(0, zP 50)] 0 0 zSH f Q := by
  refine zR_le hd (b187_0 (d := 0) ?_)
  rw [if_neg (by omega)]
  exact k
theorem pdg_v : ∀ (j : Nat) (v p : Int), 0 ≤ v → 0 ≤ (pdg T n j v p).1
  | 0, v, p, h => h
  | j + 1, v, p, h => by
    by_cases g : 48 ≤ nxt T n p ∧ nxt T n p ≤ 57
    · rw [pdg_s g]
      exact pdg_v j _ _ (by omega)
    · rw [pdg_e g]
      exact h
set_option maxHeartbeats 4000000 in
theorem rO_R {k : Nat} (hn : 0 ≤ n ∧ n ≤ 120) (hT : ∀ p, -1 ≤ nxt T n p ∧ nxt T n p ≤ 255) (hX : rHX sc T n nm k) (ho : 0 ≤ o ∧ o ≤ 6) (hp : 0 ≤ p ∧ p ≤ n) (hk : 20 * (n - p) + 2 ≤ ((k + 1 : Nat) : Int)) (hd : 12 * (6 - o) + 4 ≤ (d : Int)) (S : rS T n o p nm f) (K : ∀ v f1, rPo f (pps T n (k + 1) 5 o p) f1 → rVl nm (pps T n (k + 1) 5 o p) v → Q (some (zI v)) zSH f1) : zR sc d 195 0 [] [(0, zP 50)] 0 0 zSH f Q := by
  obtain ⟨d, rfl⟩ : ∃ e, d = e + 3 := ⟨d - 3, by omega⟩
  obtain ⟨S0, S1, S2, S3⟩ := id S
  have S03 := S0.2.2
  rw [pps_O] at K
  have w1 : w32 (f 50 14 + 1) = f 50 14 + 1 := w32_in (by omega)
  have w2 : w32 (f 50 17 + 1) = f 50 17 + 1 := w32_in (by omega)
  have hx := rbt_x (T := T) (n := n) (p := p) hp.1
  have hb := hT p
  refine b195_0 (d := d + 2) ?_
  rw [if_pos (by omega)]
  refine zcallE (s_byte (by omega) hn.2 S0 ⟨rfl, rfl⟩) ?_
  by_cases c3 : nxt T n p = 33 ∨ nxt T n p = 45 ∨ nxt T n p = 40
  · have e : rbt T n p = nxt T n p := by omega
    have pn := nxt_lt (T := T) (n := n) (p := p) (by omega)
    have nnm : ¬ 0 < pnm (nxt T n p) := fun h => by have := pnm_b h; omega
    have E0 : pO T n (pps T n k) o p = if (nxt T n p = 40 ∨ nxt T n p = 33 ∨ nxt T n p = 45) ∧ o < 6 then pP T n (pps T n k) (nxt T n p) o p else (false, p, []) := by
      unfold pO
      rw [if_neg (by omega), if_neg nnm]
    rw [E0] at K
    clear E0
    rw [e]
    by_cases h6 : o = 6
    · -- no further one opens
      rw [if_neg (by omega)] at K
      have fin : Q (some (zI 0)) zSH (zup f 50 16 (f 50 14)) := K 0 _ ⟨fun c j hc => by
        rw [zup_at]
        by_cases e : c = 50
        · rw [if_pos e, if_neg (by omega)]
        · rw [if_neg e], S03, (fun h => by cases h), fun _ => S03⟩ (fun h => by cases h)
      have wr : ∃ A : zQ, zR sc (d + 2) 187 0 [] [(0, zP 50)] 0 0 zSH f A ∧ ∀ (r : Int) (f1 : zF), zIn r → A (some (zI r)) zSH f1 → Q (some (zI r)) zSH f1 := zcallE (s_wrong (by omega) ⟨rfl, rfl⟩) fin
      have h6' : f 50 17 = 6 := by omega
      rcases c3 with c3 | c3 | c3
      · rw [c3, if_pos rfl, if_pos h6']
        exact wr
      · rw [c3, if_neg (by decide), if_pos rfl, if_pos h6']
        exact wr
      · rw [c3, if_neg (by decide), if_neg (by decide), if_pos rfl, if_pos h6']
        exact wr
    · have h6' : ¬ f 50 17 = 6 := by omega
      rw [if_pos (by omega)] at K
      obtain ⟨P0, P5⟩ := rO_P hn hX (d := d + 2) (by omega) pn hk (by omega) S
      have G0 := (pps_at (T := T) (n := n) k).1 0 (o + 1) (p + 1) (by omega) (by omega) (by omega) (by omega) (by omega)
      have G5 := (pps_at (T := T) (n := n) k).1 5 (o + 1) (p + 1) (by omega) (by omega) (by omega) (by omega) (by omega)
      obtain ⟨G01, G02, G03⟩ := id G0
      -- a sign ahead of one
      have sg : ∀ (a : Int), nxt T n p ≠ 40 → a = (if nxt T n p = 45 then -126 else -(nxt T n p)) → (a = -33 ∨ a = -126) → ∀ (v : Int) (f1 : zF), rPo (zup (zup f 50 17 (f 50 17 + 1)) 50 14 (f 50 14 + 1)) (pps T n k 5 (o + 1) (p + 1)) f1 → rVl nm (pps T n k 5 (o + 1) (p + 1)) v → ∀ y, y = pjn 0 (-a) v → Q (some (zI y)) zSH (zup f1 50 17 (w32 (f1 50 17 - 1))) := by
        intro a h40 ha ha2 v f1 h hv y hy
        have E : pP T n (pps T n k) (nxt T n p) o p = if (pps T n k 5 (o + 1) (p + 1)).1 = true then pad (pps T n k 5 (o + 1) (p + 1)) a else pfl (pps T n k 5 (o + 1) (p + 1)) := by
          unfold pP
          rw [if_neg h40, ha]
        rw [E] at K
        by_cases hb : (pps T n k 5 (o + 1) (p + 1)).1 = true
        · rw [if_pos hb] at K
          have e17 : f1 50 17 = f 50 17 + 1 := (h.2.2.1 hb).2
          rw [w32_in (by omega), hy]
          exact K _ _ (rPo_pad (rPo_op h hb rfl) hb) (rVl_pad hv hb ha2)
        · rw [if_neg hb] at K
          have hz := rPo_of h hb
          refine K _ _ ⟨fun c j hc => ?_, hz.2.1, (fun h => by cases h), fun _ => hz.2.2.2 (fun h => by cases h)⟩ (fun h => by cases h)
          rw [zup_at]
          by_cases e : c = 50
          · rw [if_pos e, if_neg (by omega)]; exact hz.1 c j hc
          · rw [if_neg e]; exact hz.1 c j hc
      rcases c3 with c3 | c3 | c3
      · rw [c3, if_pos rfl, if_neg h6', if_neg (by decide), w1, w2]
        refine P5 (fun v f1 h hv => ?_)
        rw [if_neg (by decide), if_neg (by decide), if_neg (by decide)]
        have sg := sg (-33) (by omega) (by rw [if_neg (by omega), c3]) (Or.inl rfl) v f1 h hv
        exact zit (fun h1 => sg _ (by rw [show -(-33 : Int) = 33 from rfl, pjn_not, if_pos h1])) (fun h1 => sg _ (by rw [show -(-33 : Int) = 33 from rfl, pjn_not, if_neg h1]))
      · rw [c3, if_neg (by decide), if_pos rfl, if_neg h6', if_neg (by decide), w1, w2]
        refine P5 (fun v f1 h hv => ?_)
        rw [if_neg (by decide), if_neg (by decide), if_pos rfl]
        have sg := sg (-126) (by omega) (by rw [if_pos c3]) (Or.inr rfl) v f1 h hv
        exact sg _ (by rw [show -(-126 : Int) = 126 from rfl, pjn_neg])
      · rw [c3, if_neg (by decide), if_neg (by decide), if_pos rfl, if_neg h6', if_pos rfl, w1, w2]
        refine P0 (fun v f1 h hv => ?_)
        rw [if_pos rfl]
        have E : pP T n (pps T n k) (nxt T n p) o p = if (pps T n k 0 (o + 1) (p + 1)).1 = true then (if nxt T n (pps T n k 0 (o + 1) (p + 1)).2.1 = 41 then (true, (pps T n k 0 (o + 1) (p + 1)).2.1 + 1, (pps T n k 0 (o + 1) (p + 1)).2.2) else pfl (pps T n k 0 (o + 1) (p + 1))) else pfl (pps T n k 0 (o + 1) (p + 1)) := by
          unfold pP
          rw [if_pos c3]
        rw [E] at K
        have hfr : ∀ c j, (c ≠ 50 ∨ (j ≠ 14 ∧ j ≠ 16 ∧ j ≠ 17)) → f1 c j = f c j := fun c j hc => (h.1 c j hc).trans (fr50 (fr50 (fun _ _ _ => rfl) (Or.inr (Or.inr rfl))) (Or.inl rfl) c j hc)
        have S0' := rS0_of h.1 (S := (⟨S0.1, S0.2.1, rfl⟩ : rS0 T n (f 50 14 + 1) (zup (zup f 50 17 (f 50 17 + 1)) 50 14 (f 50 14 + 1)))) h.2.1
        by_cases hb : (pps T n k 0 (o + 1) (p + 1)).1 = true
        · rw [if_pos hb] at K
          have e17 : f1 50 17 = f 50 17 + 1 := (h.2.2.1 hb).2
          have e16 : f1 50 16 = f 50 16 := (h.2.2.1 hb).1
          have e14 := h.2.1
          by_cases h41 : nxt T n (pps T n k 0 (o + 1) (p + 1)).2.1 = 41
          · rw [if_pos h41] at K
            refine zcallB (s_tk1 (by omega) hn.2 S0' (by omega) (by decide) h41 ⟨rfl, rfl⟩) ?_
            rw [if_neg (by decide), if_pos rfl]
            refine K _ _ ⟨fr50 (fr50 hfr (Or.inl rfl)) (Or.inr (Or.inr rfl)), ?_, fun _ => ⟨e16, ?_⟩, fun h => absurd rfl h⟩ (fun _ st => hv hb st)
            · show f1 50 14 + 1 = (pps T n k 0 (o + 1) (p + 1)).2.1 + 1
              omega
            · show w32 (f1 50 17 - 1) = f 50 17
              rw [w32_in (by omega)]
              omega
          · rw [if_neg h41] at K
            refine zcallB (s_tk0 (by omega) hn.2 S0' (by decide) (Or.inr h41) ⟨rfl, rfl⟩) ?_
            rw [if_pos rfl]
            refine zcallE (s_wrong (by omega) ⟨rfl, rfl⟩) ?_
            exact K _ _ ⟨fr50 hfr (Or.inr (Or.inl rfl)), e14, (fun h => by cases h), fun _ => e14⟩ (fun h => by cases h)
        · rw [if_neg hb] at K
          have e16 := h.2.2.2 hb
          refine zcallB (s_tk0 (by omega) hn.2 S0' (by decide) (Or.inl (by omega)) ⟨rfl, rfl⟩) ?_
          rw [if_pos rfl]
          refine zcallE (s_wrong2 (by omega) ⟨rfl, rfl⟩) ?_
          exact K _ _ ⟨fr50 hfr (Or.inr (Or.inl rfl)), h.2.1, (fun h => by cases h), fun _ => e16⟩ (fun h => by cases h)
  · rw [if_neg (by omega), if_neg (by omega), if_neg (by omega)]
    refine zcallE (s_rnm ⟨rfl, rfl⟩) ?_
    have pe : pnm (rbt T n p) = pnm (nxt T n p) := by
      rcases hx with e | ⟨e1, e2⟩
      · rw [e]
      · rw [e1, e2]; decide
    rw [pe]
    by_cases hnm : 0 < pnm (nxt T n p)
    · have nb := pnm_b hnm
      have E0 : pO T n (pps T n k) o p = (true, p + 1, [-(pnm (nxt T n p))]) := by
        unfold pO
        rw [if_neg (by omega), if_pos hnm]
      rw [E0] at K
      rw [if_neg (by omega)]
      refine zix_p (by omega) ?_
      refine K _ _ ⟨fr50 (fun _ _ _ => rfl) (Or.inl rfl), ?_, fun _ => ⟨rfl, rfl⟩, fun h => absurd rfl h⟩ (fun _ st => ?_)
      · show w32 (f 50 14 + 1) = p + 1
        omega
      · show pst nm (-(pnm (nxt T n p))) st = _
        unfold pst
        rw [if_neg (by omega), if_pos (by omega), S3, Int.neg_neg]
    · rw [if_pos (by omega)]
      by_cases c1 : 48 ≤ nxt T n p ∧ nxt T n p ≤ 57
      · have E0 : pO T n (pps T n k) o p = (true, (pdg T n 4 0 p).2, [(pdg T n 4 0 p).1]) := if_pos c1
        rw [E0] at K
        have := r_nd (sc := sc) (d := d + 1) (Q := Q) hn.2 hT S0 (by omega) 4 0 p hp.1 hp.2 (Int.le_refl _) (by omega) (K _ _ ⟨fr50 (fun _ _ _ => rfl) (Or.inl rfl), rfl, fun _ => ⟨rfl, rfl⟩, fun h => absurd rfl h⟩ (fun _ st => by
          show pst nm (pdg T n 4 0 p).1 st = _
          unfold pst
          rw [if_pos (pdg_v 4 0 p (Int.le_refl _))]))
        rw [zup_id S03, show (4 : Int) - ((4 : Nat) : Int) = 0 from rfl] at this
        exact this
      · have E0 : pO T n (pps T n k) o p = (false, p, []) := by
          unfold pO
          rw [if_neg c1, if_neg hnm, if_neg (by omega)]
        rw [E0] at K
        have fin : Q (some (zI 0)) zSH (zup f 50 16 (f 50 14)) := K 0 _ ⟨fr50 (fun _ _ _ => rfl) (Or.inr (Or.inl rfl)), S03, (fun h => by cases h), fun _ => S03⟩ (fun h => by cases h)
        refine b195_176 (d := d + 2) ?_
        rw [if_pos (by decide)]
        refine zcallE (s_byte (by omega) hn.2 S0 ⟨rfl, rfl⟩) ?_
        refine zit (fun h => ?_) (fun h => ?_)
        · rw [if_pos rfl]
          exact zcallE (s_wrong (by omega) ⟨rfl, rfl⟩) fin
        · refine zcallE (s_byte (by omega) hn.2 S0 ⟨rfl, rfl⟩) ?_
          rw [if_pos (by omega), if_pos rfl]
          exact zcallE (s_wrong (by omega) ⟨rfl, rfl⟩) fin
theorem r_all (hn : 0 ≤ n ∧ n ≤ 120) (hT : ∀ p, -1 ≤ nxt T n p ∧ nxt T n p ≤ 255) : ∀ k, rHX sc T n nm k ∧ rHW sc T n nm k 0 (189, 5, lv1) ∧ rHW sc T n nm k 1 (190, 5, lv1) ∧ rHW sc T n nm k 2 (191, 5, lv1) ∧ rHW sc T n nm k 3 (192, 5, lv1) ∧ rHW sc T n nm k 4 (193, 10, lv2)
  | 0 => ⟨fun m o p d f Q h0 h5 ho hp hk => by omega, fun o p d f Q x ho hp hk => by omega, fun o p d f Q x ho hp hk => by omega, fun o p d f Q x ho hp hk => by omega, fun o p d f Q x ho hp hk => by omega, fun o p d f Q x ho hp hk => by omega⟩
  | k + 1 => by
    obtain ⟨hX, w0, w1, w2, w3, w4⟩ := r_all hn hT k
    refine ⟨?_, rW_189 hn hX w0, rW_190 hn hX w1, rW_191 hn hX, rW_192 hn hX w3, rW_193 hn hX w4⟩
    intro m o p d f Q h0 h5 ho hp hk hd S K
    have hm : m = 0 ∨ m = 1 ∨ m = 2 ∨ m = 3 ∨ m = 4 ∨ m = 5 := by omega
    rcases hm with rfl | rfl | rfl | rfl | rfl | rfl
    · exact rX_189 hn hX w0 ho hp (by omega) (by omega) S K
    · exact rX_190 hn hX w1 ho hp (by omega) (by omega) S K
    · exact rX_191 hn hX w2 ho hp (by omega) (by omega) S K
    · exact rX_192 hn hX w3 ho hp (by omega) (by omega) S K
    · exact rX_193 hn hX w4 ho hp (by omega) (by omega) S K
    · exact rO_R hn hT hX ho hp (by omega) (by omega) S K
end READR
end
