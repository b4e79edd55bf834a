noncomputable section
/-- the first of the days 0 .. 60 at which h holds -/
def fsD (h : Nat → Prop) (v : Int) : Prop := (∃ n : Nat, v = (n : Int) ∧ n ≤ 60 ∧ h n ∧ ∀ k, k < n → ¬ h k) ∨ (v = -2 ∧ ∀ k, k ≤ 60 → ¬ h k)
set_option maxRecDepth 4000 in
set_option maxHeartbeats 400000 in
theorem fsD_u {h : Nat → Prop} {v w : Int} (a : fsD h v) (b : fsD h w) : v = w := by
  rcases a with ⟨n, rfl, a1, a2, a3⟩ | ⟨rfl, a1⟩
  · rcases b with ⟨k, rfl, b1, b2, b3⟩ | ⟨rfl, b1⟩
    · rcases Nat.lt_trichotomy n k with h1 | h1 | h1
      · exact absurd a2 (b3 n h1)
      · rw [h1]
      · exact absurd b2 (a3 k h1)
    · exact absurd a2 (b1 n a1)
  · rcases b with ⟨k, rfl, b1, b2, b3⟩ | ⟨rfl, b1⟩
    · exact absurd b2 (a1 k b1)
    · rfl
/-- what a girl, a house, a hill has when it is full -/
def fsH (w : zLw) (P A : zF) (q : Nat) (c : Int) (n : Nat) : Prop := if c = 0 then P 0 q ≤ ld (dIt w P A n) q else if c = 1 then A 1 q < dIt w P A n 1 q else P 2 q ≤ dIt w P A n 2 q
set_option maxRecDepth 100000 in
theorem b128_0 {sc : zC} {a b : Int} {f : zF} {Q : zQ} (h : if b = 0 then (if a < 0 then (Q (some (zI (-1))) zSH f) else (if a < f (1) (1) then (if b = 0 then (zov ((30) + a) (zix ((30) + a) (60) (zR sc (199) 128 38 [] [(0, zP (0)), (1, zI a), (2, zI b), (3, zI (f (2) (((30) + a).toNat))), (4, zI (0))] 0 0 zSH (zcp (zcp (zcp (zcp (zup (zup f (7) (0) (f (1) (0))) (7) (1) (f (1) (1))) (2) (8) (0) (0) (60)) (3) (9) (0) (0) (168)) (4) (10) (0) (0) (7)) (5) (11) (0) (0) (6)) Q))) else if b = 1 then (zov ((24) + a) (zix ((24) + a) (60) (zov ((f (2) (((24) + a).toNat)) + (1)) (zR sc (199) 128 38 [] [(0, zP (0)), (1, zI a), (2, zI b), (3, zI ((f (2) (((24) + a).toNat)) + (1))), (4, zI (0))] 0 0 zSH (zcp (zcp (zcp (zcp (zup (zup f (7) (0) (f (1) (0))) (7) (1) (f (1) (1))) (2) (8) (0) (0) (60)) (3) (9) (0) (0) (168)) (4) (10) (0) (0) (7)) (5) (11) (0) (0) (6)) Q)))) else (zov ((51) + a) (zix ((51) + a) (60) (zR sc (199) 128 38 [] [(0, zP (0)), (1, zI a), (2, zI b), (3, zI (f (2) (((51) + a).toNat))), (4, zI (0))] 0 0 zSH (zcp (zcp (zcp (zcp (zup (zup f (7) (0) (f (1) (0))) (7) (1) (f (1) (1))) (2) (8) (0) (0) (60)) (3) (9) (0) (0) (168)) (4) (10) (0) (0) (7)) (5) (11) (0) (0) (6)) Q)))) else (Q (some (zI (-1))) zSH f))) else if b = 1 then (if a < 0 then (Q (some (zI (-1))) zSH f) else (if a < f (1) (0) then (if b = 0 then (zov ((30) + a) (zix ((30) + a) (60) (zR sc (199) 128 38 [] [(0, zP (0)), (1, zI a), (2, zI b), (3, zI (f (2) (((30) + a).toNat))), (4, zI (0))] 0 0 zSH (zcp (zcp (zcp (zcp (zup (zup f (7) (0) (f (1) (0))) (7) (1) (f (1) (1))) (2) (8) (0) (0) (60)) (3) (9) (0) (0) (168)) (4) (10) (0) (0) (7)) (5) (11) (0) (0) (6)) Q))) else if b = 1 then (zov ((24) + a) (zix ((24) + a) (60) (zov ((f (2) (((24) + a).toNat)) + (1)) (zR sc (199) 128 38 [] [(0, zP (0)), (1, zI a), (2, zI b), (3, zI ((f (2) (((24) + a).toNat)) + (1))), (4, zI (0))] 0 0 zSH (zcp (zcp (zcp (zcp (zup (zup f (7) (0) (f (1) (0))) (7) (1) (f (1) (1))) (2) (8) (0) (0) (60)) (3) (9) (0) (0) (168)) (4) (10) (0) (0) (7)) (5) (11) (0) (0) (6)) Q)))) else (zov ((51) + a) (zix ((51) + a) (60) (zR sc (199) 128 38 [] [(0, zP (0)), (1, zI a), (2, zI b), (3, zI (f (2) (((51) + a).toNat))), (4, zI (0))] 0 0 zSH (zcp (zcp (zcp (zcp (zup (zup f (7) (0) (f (1) (0))) (7) (1) (f (1) (1))) (2) (8) (0) (0) (60)) (3) (9) (0) (0) (168)) (4) (10) (0) (0) (7)) (5) (11) (0) (0) (6)) Q)))) else (Q (some (zI (-1))) zSH f))) else if b = 2 then (if a < 0 then (Q (some (zI (-1))) zSH f) else (if a < 4 then (if b = 0 then (zov ((30) + a) (zix ((30) + a) (60) (zR sc (199) 128 38 [] [(0, zP (0)), (1, zI a), (2, zI b), (3, zI (f (2) (((30) + a).toNat))), (4, zI (0))] 0 0 zSH (zcp (zcp (zcp (zcp (zup (zup f (7) (0) (f (1) (0))) (7) (1) (f (1) (1))) (2) (8) (0) (0) (60)) (3) (9) (0) (0) (168)) (4) (10) (0) (0) (7)) (5) (11) (0) (0) (6)) Q))) else if b = 1 then (zov ((24) + a) (zix ((24) + a) (60) (zov ((f (2) (((24) + a).toNat)) + (1)) (zR sc (199) 128 38 [] [(0, zP (0)), (1, zI a), (2, zI b), (3, zI ((f (2) (((24) + a).toNat)) + (1))), (4, zI (0))] 0 0 zSH (zcp (zcp (zcp (zcp (zup (zup f (7) (0) (f (1) (0))) (7) (1) (f (1) (1))) (2) (8) (0) (0) (60)) (3) (9) (0) (0) (168)) (4) (10) (0) (0) (7)) (5) (11) (0) (0) (6)) Q)))) else (zov ((51) + a) (zix ((51) + a) (60) (zR sc (199) 128 38 [] [(0, zP (0)), (1, zI a), (2, zI b), (3, zI (f (2) (((51) + a).toNat))), (4, zI (0))] 0 0 zSH (zcp (zcp (zcp (zcp (zup (zup f (7) (0) (f (1) (0))) (7) (1) (f (1) (1))) (2) (8) (0) (0) (60)) (3) (9) (0) (0) (168)) (4) (10) (0) (0) (7)) (5) (11) (0) (0) (6)) Q)))) else (Q (some (zI (-1))) zSH f))) else (Q (some (zI (-1))) zSH f)) : zR sc (199) 128 0 [] [(0, zP (0)), (1, zI a), (2, zI b)] 0 0 zSH f Q := zwn_R (stp := fun mi pc => bif Nat.beq mi 128 && Nat.beq pc 38 then some [0, 1, 2, 3, 4] else none) (inl := fun j => bif Nat.beq j 14 then true else bif Nat.beq j 15 then true else bif Nat.beq j 16 then true else bif Nat.beq j 17 then true else bif Nat.beq j 18 then true else bif Nat.beq j 19 then true else bif Nat.beq j 20 then true else bif Nat.beq j 22 then true else bif Nat.beq j 23 then true else bif Nat.beq j 25 then true else bif Nat.beq j 28 then true else bif Nat.beq j 50 then true else bif Nat.beq j 51 then true else bif Nat.beq j 52 then true else bif Nat.beq j 53 then true else bif Nat.beq j 54 then true else bif Nat.beq j 55 then true else bif Nat.beq j 56 then true else bif Nat.beq j 57 then true else bif Nat.beq j 58 then true else bif Nat.beq j 59 then true else bif Nat.beq j 60 then true else bif Nat.beq j 62 then true else bif Nat.beq j 63 then true else bif Nat.beq j 64 then true else bif Nat.beq j 65 then true else bif Nat.beq j 66 then true else bif Nat.beq j 67 then true else bif Nat.beq j 68 then true else bif Nat.beq j 69 then true else bif Nat.beq j 70 then true else bif Nat.beq j 71 then true else bif Nat.beq j 72 then true else bif Nat.beq j 73 then true else bif Nat.beq j 74 then true else bif Nat.beq j 75 then true else bif Nat.beq j 76 then true else bif Nat.beq j 77 then true else bif Nat.beq j 78 then true else bif Nat.beq j 79 then true else bif Nat.beq j 85 then true else bif Nat.beq j 86 then true else bif Nat.beq j 87 then true else bif Nat.beq j 92 then true else bif Nat.beq j 93 then true else bif Nat.beq j 95 then true else bif Nat.beq j 96 then true else bif Nat.beq j 97 then true else bif Nat.beq j 98 then true else bif Nat.beq j 99 then true else bif Nat.beq j 165 then true else bif Nat.beq j 166 then true else bif Nat.beq j 167 then true else bif Nat.beq j 170 then true else bif Nat.beq j 171 then true else bif Nat.beq j 172 then true else bif Nat.beq j 173 then true else bif Nat.beq j 174 then true else bif Nat.beq j 175 then true else bif Nat.beq j 176 then true else bif Nat.beq j 177 then true else bif Nat.beq j 178 then true else bif Nat.beq j 180 then true else bif Nat.beq j 181 then true else bif Nat.beq j 182 then true else bif Nat.beq j 183 then true else bif Nat.beq j 184 then true else bif Nat.beq j 185 then true else bif Nat.beq j 186 then true else bif Nat.beq j 187 then true else bif Nat.beq j 188 then true else bif Nat.beq j 191 then true else bif Nat.beq j 194 then true else bif Nat.beq j 200 then true else bif Nat.beq j 204 then true else bif Nat.beq j 205 then true else bif Nat.beq j 206 then true else bif Nat.beq j 209 then true else bif Nat.beq j 215 then true else bif Nat.beq j 220 then true else bif Nat.beq j 223 then true else bif Nat.beq j 224 then true else bif Nat.beq j 237 then true else bif Nat.beq j 238 then true else bif Nat.beq j 239 then true else bif Nat.beq j 240 then true else bif Nat.beq j 243 then true else bif Nat.beq j 244 then true else bif Nat.beq j 245 then true else bif Nat.beq j 246 then true else bif Nat.beq j 247 then true else bif Nat.beq j 252 then true else bif Nat.beq j 253 then true else bif Nat.beq j 254 then true else bif Nat.beq j 255 then true else bif Nat.beq j 257 then true else bif Nat.beq j 258 then true else bif Nat.beq j 259 then true else bif Nat.beq j 260 then true else bif Nat.beq j 263 then true else false) (nov := (fun j => bif Nat.beq j 143 then false else bif Nat.beq j 144 then false else bif Nat.beq j 242 then false else bif Nat.beq j 236 then false else bif Nat.beq j 237 then false else bif Nat.beq j 241 then false else bif Nat.beq j 239 then false else bif Nat.beq j 96 then false else true)) 616 h
set_option maxRecDepth 100000 in
theorem b128_38 {sc : zC} {x1 x2 x3 x4 : Int} {f : zF} {Q : zQ} (h : if 60 < x4 then (Q (some (zI (-2))) zSH f) else (if x2 = 0 then (zix x1 (7) (if f (10) (x1.toNat) < x3 then (∃ A2 : zQ, zR sc (198) 88 0 [] [(0, zP (7)), (1, zP (22)), (2, zI (1))] 0 0 zSH f A2 ∧ ∀ (r3 : Int) (f1 : zF), zIn r3 → A2 (some (zI r3)) zSH f1 → (zov (x4 + 1) (zR sc (199) 128 38 [] [(0, zP (0)), (1, zI x1), (2, zI x2), (3, zI x3), (4, zI (x4 + 1))] 0 0 zSH f1 Q))) else (Q (some (zI x4)) zSH f))) else if x2 = 1 then (zov ((24) + x1) (zix ((24) + x1) (60) (if f (8) (((24) + x1).toNat) < x3 then (∃ A5 : zQ, zR sc (198) 88 0 [] [(0, zP (7)), (1, zP (22)), (2, zI (1))] 0 0 zSH f A5 ∧ ∀ (r6 : Int) (f4 : zF), zIn r6 → A5 (some (zI r6)) zSH f4 → (zov (x4 + 1) (zR sc (199) 128 38 [] [(0, zP (0)), (1, zI x1), (2, zI x2), (3, zI x3), (4, zI (x4 + 1))] 0 0 zSH f4 Q))) else (Q (some (zI x4)) zSH f)))) else (zov ((55) + x1) (zix ((55) + x1) (60) (if f (8) (((55) + x1).toNat) < x3 then (∃ A8 : zQ, zR sc (198) 88 0 [] [(0, zP (7)), (1, zP (22)), (2, zI (1))] 0 0 zSH f A8 ∧ ∀ (r9 : Int) (f7 : zF), zIn r9 → A8 (some (zI r9)) zSH f7 → (zov (x4 + 1) (zR sc (199) 128 38 [] [(0, zP (0)), (1, zI x1), (2, zI x2), (3, zI x3), (4, zI (x4 + 1))] 0 0 zSH f7 Q))) else (Q (some (zI x4)) zSH f)))))) : zR sc (199) 128 38 [] [(0, zP (0)), (1, zI x1), (2, zI x2), (3, zI x3), (4, zI x4)] 0 0 zSH f Q := zwn_R (stp := fun mi pc => bif Nat.beq mi 128 && Nat.beq pc 38 then some [0, 1, 2, 3, 4] else none) (inl := fun j => bif Nat.beq j 14 then true else bif Nat.beq j 15 then true else bif Nat.beq j 16 then true else bif Nat.beq j 17 then true else bif Nat.beq j 18 then true else bif Nat.beq j 19 then true else bif Nat.beq j 20 then true else bif Nat.beq j 22 then true else bif Nat.beq j 23 then true else bif Nat.beq j 25 then true else bif Nat.beq j 28 then true else bif Nat.beq j 50 then true else bif Nat.beq j 51 then true else bif Nat.beq j 52 then true else bif Nat.beq j 53 then true else bif Nat.beq j 54 then true else bif Nat.beq j 55 then true else bif Nat.beq j 56 then true else bif Nat.beq j 57 then true else bif Nat.beq j 58 then true else bif Nat.beq j 59 then true else bif Nat.beq j 60 then true else bif Nat.beq j 62 then true else bif Nat.beq j 63 then true else bif Nat.beq j 64 then true else bif Nat.beq j 65 then true else bif Nat.beq j 66 then true else bif Nat.beq j 67 then true else bif Nat.beq j 68 then true else bif Nat.beq j 69 then true else bif Nat.beq j 70 then true else bif Nat.beq j 71 then true else bif Nat.beq j 72 then true else bif Nat.beq j 73 then true else bif Nat.beq j 74 then true else bif Nat.beq j 75 then true else bif Nat.beq j 76 then true else bif Nat.beq j 77 then true else bif Nat.beq j 78 then true else bif Nat.beq j 79 then true else bif Nat.beq j 85 then true else bif Nat.beq j 86 then true else bif Nat.beq j 87 then true else bif Nat.beq j 92 then true else bif Nat.beq j 93 then true else bif Nat.beq j 95 then true else bif Nat.beq j 96 then true else bif Nat.beq j 97 then true else bif Nat.beq j 98 then true else bif Nat.beq j 99 then true else bif Nat.beq j 165 then true else bif Nat.beq j 166 then true else bif Nat.beq j 167 then true else bif Nat.beq j 170 then true else bif Nat.beq j 171 then true else bif Nat.beq j 172 then true else bif Nat.beq j 173 then true else bif Nat.beq j 174 then true else bif Nat.beq j 175 then true else bif Nat.beq j 176 then true else bif Nat.beq j 177 then true else bif Nat.beq j 178 then true else bif Nat.beq j 180 then true else bif Nat.beq j 181 then true else bif Nat.beq j 182 then true else bif Nat.beq j 183 then true else bif Nat.beq j 184 then true else bif Nat.beq j 185 then true else bif Nat.beq j 186 then true else bif Nat.beq j 187 then true else bif Nat.beq j 188 then true else bif Nat.beq j 191 then true else bif Nat.beq j 194 then true else bif Nat.beq j 200 then true else bif Nat.beq j 204 then true else bif Nat.beq j 205 then true else bif Nat.beq j 206 then true else bif Nat.beq j 209 then true else bif Nat.beq j 215 then true else bif Nat.beq j 220 then true else bif Nat.beq j 223 then true else bif Nat.beq j 224 then true else bif Nat.beq j 237 then true else bif Nat.beq j 238 then true else bif Nat.beq j 239 then true else bif Nat.beq j 240 then true else bif Nat.beq j 243 then true else bif Nat.beq j 244 then true else bif Nat.beq j 245 then true else bif Nat.beq j 246 then true else bif Nat.beq j 247 then true else bif Nat.beq j 252 then true else bif Nat.beq j 253 then true else bif Nat.beq j 254 then true else bif Nat.beq j 255 then true else bif Nat.beq j 257 then true else bif Nat.beq j 258 then true else bif Nat.beq j 259 then true else bif Nat.beq j 260 then true else bif Nat.beq j 263 then true else false) (nov := (fun j => bif Nat.beq j 143 then false else bif Nat.beq j 144 then false else bif Nat.beq j 242 then false else bif Nat.beq j 236 then false else bif Nat.beq j 237 then false else bif Nat.beq j 241 then false else bif Nat.beq j 239 then false else bif Nat.beq j 96 then false else true)) 72 h
set_option maxRecDepth 100000 in
theorem b207_0 {sc : zC} {a b : Int} {f : zF} {Q : zQ} (h : if b = 0 then (zov ((f (50) (7)) - (1)) (if zlcmp a (0) < 0 then (Q (some (zI (-1))) zSH f) else (if 0 < zlcmp a ((f (50) (7)) - (1)) then (Q (some (zI (-1))) zSH f) else (∃ A2 : zQ, zR sc (198) 198 0 [] [(0, zP (50))] 0 0 zSH f A2 ∧ ∀ f1 : zF, A2 none zSH f1 → (zR sc (199) 207 63 [] [(0, zP (50)), (1, zI a), (2, zI b), (4, zI (0))] 0 0 zSH f1 Q))))) else (if b = 1 then (zov ((f (50) (6)) - (1)) (if zlcmp a (0) < 0 then (Q (some (zI (-1))) zSH f) else (if 0 < zlcmp a ((f (50) (6)) - (1)) then (Q (some (zI (-1))) zSH f) else (∃ A4 : zQ, zR sc (198) 198 0 [] [(0, zP (50))] 0 0 zSH f A4 ∧ ∀ f3 : zF, A4 none zSH f3 → (zR sc (199) 207 63 [] [(0, zP (50)), (1, zI a), (2, zI b), (4, zI (0))] 0 0 zSH f3 Q))))) else (if b = 2 then (if zlcmp a (0) < 0 then (Q (some (zI (-1))) zSH f) else (if 0 < zlcmp a (3) then (Q (some (zI (-1))) zSH f) else (∃ A6 : zQ, zR sc (198) 198 0 [] [(0, zP (50))] 0 0 zSH f A6 ∧ ∀ f5 : zF, A6 none zSH f5 → (zR sc (199) 207 63 [] [(0, zP (50)), (1, zI a), (2, zI b), (4, zI (0))] 0 0 zSH f5 Q)))) else (Q (some (zI (-1))) zSH f)))) : zR sc (199) 207 0 [] [(0, zP (50)), (1, zI a), (2, zI b)] 0 0 zSH f Q := zwn_R (stp := fun mi pc => bif Nat.beq mi 207 && Nat.beq pc 63 then some [0, 1, 2, 4] else none) (inl := fun j => bif Nat.beq j 14 then true else bif Nat.beq j 15 then true else bif Nat.beq j 16 then true else bif Nat.beq j 17 then true else bif Nat.beq j 18 then true else bif Nat.beq j 19 then true else bif Nat.beq j 20 then true else bif Nat.beq j 22 then true else bif Nat.beq j 23 then true else bif Nat.beq j 25 then true else bif Nat.beq j 28 then true else bif Nat.beq j 50 then true else bif Nat.beq j 51 then true else bif Nat.beq j 52 then true else bif Nat.beq j 53 then true else bif Nat.beq j 54 then true else bif Nat.beq j 55 then true else bif Nat.beq j 56 then true else bif Nat.beq j 57 then true else bif Nat.beq j 58 then true else bif Nat.beq j 59 then true else bif Nat.beq j 60 then true else bif Nat.beq j 62 then true else bif Nat.beq j 63 then true else bif Nat.beq j 64 then true else bif Nat.beq j 65 then true else bif Nat.beq j 66 then true else bif Nat.beq j 67 then true else bif Nat.beq j 68 then true else bif Nat.beq j 69 then true else bif Nat.beq j 70 then true else bif Nat.beq j 71 then true else bif Nat.beq j 72 then true else bif Nat.beq j 73 then true else bif Nat.beq j 74 then true else bif Nat.beq j 75 then true else bif Nat.beq j 76 then true else bif Nat.beq j 77 then true else bif Nat.beq j 78 then true else bif Nat.beq j 79 then true else bif Nat.beq j 85 then true else bif Nat.beq j 86 then true else bif Nat.beq j 87 then true else bif Nat.beq j 92 then true else bif Nat.beq j 93 then true else bif Nat.beq j 95 then true else bif Nat.beq j 96 then true else bif Nat.beq j 97 then true else bif Nat.beq j 98 then true else bif Nat.beq j 99 then true else bif Nat.beq j 165 then true else bif Nat.beq j 166 then true else bif Nat.beq j 167 then true else bif Nat.beq j 170 then true else bif Nat.beq j 171 then true else bif Nat.beq j 172 then true else bif Nat.beq j 173 then true else bif Nat.beq j 174 then true else bif Nat.beq j 175 then true else bif Nat.beq j 176 then true else bif Nat.beq j 177 then true else bif Nat.beq j 178 then true else bif Nat.beq j 180 then true else bif Nat.beq j 181 then true else bif Nat.beq j 182 then true else bif Nat.beq j 183 then true else bif Nat.beq j 184 then true else bif Nat.beq j 185 then true else bif Nat.beq j 186 then true else bif Nat.beq j 187 then true else bif Nat.beq j 188 then true else bif Nat.beq j 191 then true else bif Nat.beq j 194 then true else bif Nat.beq j 200 then true else bif Nat.beq j 204 then true else bif Nat.beq j 205 then true else bif Nat.beq j 206 then true else bif Nat.beq j 209 then true else bif Nat.beq j 215 then true else bif Nat.beq j 220 then true else bif Nat.beq j 223 then true else bif Nat.beq j 224 then true else bif Nat.beq j 237 then true else bif Nat.beq j 238 then true else bif Nat.beq j 239 then true else bif Nat.beq j 240 then true else bif Nat.beq j 243 then true else bif Nat.beq j 244 then true else bif Nat.beq j 245 then true else bif Nat.beq j 246 then true else bif Nat.beq j 247 then true else bif Nat.beq j 252 then true else bif Nat.beq j 253 then true else bif Nat.beq j 254 then true else bif Nat.beq j 255 then true else bif Nat.beq j 257 then true else bif Nat.beq j 258 then true else bif Nat.beq j 259 then true else bif Nat.beq j 260 then true else bif Nat.beq j 263 then true else false) (nov := (fun j => bif Nat.beq j 143 then false else bif Nat.beq j 144 then false else bif Nat.beq j 242 then false else bif Nat.beq j 236 then false else bif Nat.beq j 237 then false else bif Nat.beq j 241 then false else bif Nat.beq j 239 then false else bif Nat.beq j 96 then false else true)) 160 h
set_option maxRecDepth 100000 in
theorem b207_63 {sc : zC} {x1 x2 x4 : Int} {f : zF} {Q : zQ} (h : if 60 < x4 then (Q (some (zI (-2))) zSH f) else (if x2 = 0 then (∃ A2 : zQ, zR sc (198) 199 0 [] [(0, zP (50)), (1, zI x1)] 0 0 zSH f A2 ∧ ∀ (r3 : Int) (f1 : zF), zIn r3 → A2 (some (zI r3)) zSH f1 → (zov ((30) + x1) (zix ((30) + x1) (60) (if r3 < f1 (51) (((30) + x1).toNat) then (∃ A5 : zQ, zR sc (198) 202 0 [] [(0, zP (50))] 0 0 zSH f1 A5 ∧ ∀ f4 : zF, A5 none zSH f4 → (zov (x4 + 1) (zR sc (199) 207 63 [] [(0, zP (50)), (1, zI x1), (2, zI x2), (4, zI (x4 + 1))] 0 0 zSH f4 Q))) else (Q (some (zI x4)) zSH f1))))) else (if x2 = 1 then (zix x1 (6) (zov ((24) + x1) (zix ((24) + x1) (60) (if f (51) (((24) + x1).toNat) < f (60) (x1.toNat) then (Q (some (zI x4)) zSH f) else (∃ A7 : zQ, zR sc (198) 202 0 [] [(0, zP (50))] 0 0 zSH f A7 ∧ ∀ f6 : zF, A7 none zSH f6 → (zov (x4 + 1) (zR sc (199) 207 63 [] [(0, zP (50)), (1, zI x1), (2, zI x2), (4, zI (x4 + 1))] 0 0 zSH f6 Q))))))) else (zix x1 (4) (zov ((51) + x1) (zix ((51) + x1) (60) (if f (61) (x1.toNat) < f (51) (((51) + x1).toNat) then (∃ A9 : zQ, zR sc (198) 202 0 [] [(0, zP (50))] 0 0 zSH f A9 ∧ ∀ f8 : zF, A9 none zSH f8 → (zov (x4 + 1) (zR sc (199) 207 63 [] [(0, zP (50)), (1, zI x1), (2, zI x2), (4, zI (x4 + 1))] 0 0 zSH f8 Q))) else (Q (some (zI x4)) zSH f)))))))) : zR sc (199) 207 63 [] [(0, zP (50)), (1, zI x1), (2, zI x2), (4, zI x4)] 0 0 zSH f Q := zwn_R (stp := fun mi pc => bif Nat.beq mi 207 && Nat.beq pc 63 then some [0, 1, 2, 4] else none) (inl := fun j => bif Nat.beq j 14 then true else bif Nat.beq j 15 then true else bif Nat.beq j 16 then true else bif Nat.beq j 17 then true else bif Nat.beq j 18 then true else bif Nat.beq j 19 then true else bif Nat.beq j 20 then true else bif Nat.beq j 22 then true else bif Nat.beq j 23 then true else bif Nat.beq j 25 then true else bif Nat.beq j 28 then true else bif Nat.beq j 50 then true else bif Nat.beq j 51 then true else bif Nat.beq j 52 then true else bif Nat.beq j 53 then true else bif Nat.beq j 54 then true else bif Nat.beq j 55 then true else bif Nat.beq j 56 then true else bif Nat.beq j 57 then true else bif Nat.beq j 58 then true else bif Nat.beq j 59 then true else bif Nat.beq j 60 then true else bif Nat.beq j 62 then true else bif Nat.beq j 63 then true else bif Nat.beq j 64 then true else bif Nat.beq j 65 then true else bif Nat.beq j 66 then true else bif Nat.beq j 67 then true else bif Nat.beq j 68 then true else bif Nat.beq j 69 then true else bif Nat.beq j 70 then true else bif Nat.beq j 71 then true else bif Nat.beq j 72 then true else bif Nat.beq j 73 then true else bif Nat.beq j 74 then true else bif Nat.beq j 75 then true else bif Nat.beq j 76 then true else bif Nat.beq j 77 then true else bif Nat.beq j 78 then true else bif Nat.beq j 79 then true else bif Nat.beq j 85 then true else bif Nat.beq j 86 then true else bif Nat.beq j 87 then true else bif Nat.beq j 92 then true else bif Nat.beq j 93 then true else bif Nat.beq j 95 then true else bif Nat.beq j 96 then true else bif Nat.beq j 97 then true else bif Nat.beq j 98 then true else bif Nat.beq j 99 then true else bif Nat.beq j 165 then true else bif Nat.beq j 166 then true else bif Nat.beq j 167 then true else bif Nat.beq j 170 then true else bif Nat.beq j 171 then true else bif Nat.beq j 172 then true else bif Nat.beq j 173 then true else bif Nat.beq j 174 then true else bif Nat.beq j 175 then true else bif Nat.beq j 176 then true else bif Nat.beq j 177 then true else bif Nat.beq j 178 then true else bif Nat.beq j 180 then true else bif Nat.beq j 181 then true else bif Nat.beq j 182 then true else bif Nat.beq j 183 then true else bif Nat.beq j 184 then true else bif Nat.beq j 185 then true else bif Nat.beq j 186 then true else bif Nat.beq j 187 then true else bif Nat.beq j 188 then true else bif Nat.beq j 191 then true else bif Nat.beq j 194 then true else bif Nat.beq j 200 then true else bif Nat.beq j 204 then true else bif Nat.beq j 205 then true else bif Nat.beq j 206 then true else bif Nat.beq j 209 then true else bif Nat.beq j 215 then true else bif Nat.beq j 220 then true else bif Nat.beq j 223 then true else bif Nat.beq j 224 then true else bif Nat.beq j 237 then true else bif Nat.beq j 238 then true else bif Nat.beq j 239 then true else bif Nat.beq j 240 then true else bif Nat.beq j 243 then true else bif Nat.beq j 244 then true else bif Nat.beq j 245 then true else bif Nat.beq j 246 then true else bif Nat.beq j 247 then true else bif Nat.beq j 252 then true else bif Nat.beq j 253 then true else bif Nat.beq j 254 then true else bif Nat.beq j 255 then true else bif Nat.beq j 257 then true else bif Nat.beq j 258 then true else bif Nat.beq j 259 then true else bif Nat.beq j 260 then true else bif Nat.beq j 263 then true else false) (nov := (fun j => bif Nat.beq j 143 then false else bif Nat.beq j 144 then false else bif Nat.beq j 242 then false else bif Nat.beq j 236 then false else bif Nat.beq j 237 then false else bif Nat.beq j 241 then false else bif Nat.beq j 239 then false else bif Nat.beq j 96 then false else true)) 64 h
set_option maxRecDepth 4000 in
set_option maxHeartbeats 1000000 in
theorem c_fst {sc : zC} {f0 : zF} {w : zLw} {q : Nat} {c0 : Int} {Q : zQ} (g0 : aGok wG (afx sc f0)) (i0 : wD f0) (cw : cLw w f0) (hr : ((c0 = 0 ∧ (q : Int) < f0 1 1) ∨ (c0 = 1 ∧ (q : Int) < f0 1 0) ∨ (c0 = 2 ∧ q < 4))) (K : ∀ v f1, fsD (fsH w (sP f0) (sA f0) q c0) v → (∀ c j, 50 ≤ c → f1 c j = f0 c j) → Q (some (zI v)) zSH f1) : zR sc 199 128 38 [] [(0, zP 0), (1, zI (q : Int)), (2, zI c0), (3, zI (if c0 = 0 then f0 2 (30 + q) else if c0 = 1 then f0 2 (24 + q) + 1 else f0 2 (51 + q))), (4, zI 0)] 0 0 zSH (cpy f0) Q := by
  have p := wD_p g0 i0
  have e0 := g_10 g0
  have e1 := g_11 g0
  have L : ∀ n, n ≤ 61 → ∀ f1, cN7 w (sP f0) (dIt w (sP f0) (sA f0) n) f1 → cM7 (cpy f0) f1 → zIn (f1 11 1) → zIn (f1 11 3) → (∀ k, k < n → ¬ fsH w (sP f0) (sA f0) q c0 k) → zR sc 199 128 38 [] [(0, zP 0), (1, zI (q : Int)), (2, zI c0), (3, zI (if c0 = 0 then f0 2 (30 + q) else if c0 = 1 then f0 2 (24 + q) + 1 else f0 2 (51 + q))), (4, zI (n : Int))] 0 0 zSH f1 Q := by
    refine zloop 61 (fun n hn ih f1 n1 m1 z1 z3 hk => ?_) (fun f1 n1 m1 z1 z3 hk => ?_)
    · have stop : fsH w (sP f0) (sA f0) q c0 n → Q (some (zI (n : Int))) zSH f1 := fun h => K _ f1 (Or.inl ⟨n, rfl, by omega, h, hk⟩) (fun c j hc => t_hi m1 (by omega))
      have go : ¬ fsH w (sP f0) (sA f0) q c0 n → ∃ A2 : zQ, zR sc 198 88 0 [] [(0, zP 7), (1, zP 22), (2, zI 1)] 0 0 zSH f1 A2 ∧ ∀ (r3 : Int) (f2 : zF), zIn r3 → A2 (some (zI r3)) zSH f2 → (zov ((n : Int) + 1) (zR sc 199 128 38 [] [(0, zP 0), (1, zI (q : Int)), (2, zI c0), (3, zI (if c0 = 0 then f0 2 (30 + q) else if c0 = 1 then f0 2 (24 + q) + 1 else f0 2 (51 + q))), (4, zI ((n : Int) + 1))] 0 0 zSH f2 Q)) := by
        intro h
        refine zcall1 (fun _ f2 => cN7 w (sP f0) (dIt w (sP f0) (sA f0) (n + 1)) f2 ∧ cM7 f1 f2 ∧ zIn (f2 11 1) ∧ zIn (f2 11 3)) (c7_days (d := 191) (n := 1) (by decide) p (dIt_in p (wD_a i0) n) n1 z1 z3 (fun v f2 h1 h2 h3 h4 => ⟨v, rfl, h1, h2, h3, h4⟩)) (fun v f2 _ h5 => zov_p (by omega) ?_)
        obtain ⟨h1, h2, h3, h4⟩ := h5
        rw [show (n : Int) + 1 = ((n + 1 : Nat) : Int) by omega]
        refine ih f2 h1 (cM7_t m1 h2) h3 h4 (fun k hk2 => ?_)
        by_cases e : k = n
        · rw [e]; exact h
        · exact hk k (by omega)
      have v1 := n1.2.2.2.2.2.2.1 q
      have v2 := n1.2.2.2.1 q
      have v3 := n1.2.2.1 q
      unfold fsH at stop go
      refine b128_38 ?_
      rw [if_neg (by omega)]
      rcases hr with ⟨hc, hr⟩ | ⟨hc, hr⟩ | ⟨hc, hr⟩
      · rw [if_pos hc] at stop go ⊢
        have v1 := v1 (by omega)
        rw [if_pos hc] at go ⊢
        rw [Int.toNat_natCast, v1]
        refine zix_p (by omega) (zit (fun h => go ?_) (fun h => stop ?_))
        · show ¬ f0 2 (30 + q) ≤ _
          omega
        · show f0 2 (30 + q) ≤ _
          omega
      · have hc0 : ¬ c0 = 0 := by omega
        rw [if_neg hc0, if_pos hc] at stop go ⊢
        rw [if_neg hc0, if_pos hc] at go ⊢
        have v2 := v2 (by omega)
        rw [show (24 + (q : Int)).toNat = 24 + q by omega, v2]
        refine zov_p (by omega) (zix_p (by omega) (zit (fun h => go ?_) (fun h => stop ?_)))
        · show ¬ f0 2 (24 + q) < _
          omega
        · show f0 2 (24 + q) < _
          omega
      · have hc0 : ¬ c0 = 0 := by omega
        have hc1 : ¬ c0 = 1 := by omega
        rw [if_neg hc0, if_neg hc1] at stop go ⊢
        rw [if_neg hc0, if_neg hc1] at go ⊢
        have v3 := (v3 (by omega)).2
        rw [show (55 + (q : Int)).toNat = 55 + q by omega, v3]
        refine zov_p (by omega) (zix_p (by omega) (zit (fun h => go ?_) (fun h => stop ?_)))
        · show ¬ f0 2 (51 + q) ≤ _
          omega
        · show f0 2 (51 + q) ≤ _
          omega
    · refine b128_38 ?_
      rw [if_pos (by decide)]
      exact K _ f1 (Or.inr ⟨rfl, fun k hk2 => hk k (by omega)⟩) (fun c j hc => t_hi m1 (by omega))
  exact L 0 (by decide) (cpy f0) (wD_c7 i0 cw) (fun _ _ _ _ _ _ _ _ _ _ => rfl) (cpy_t g0).1 (cpy_t g0).2 (fun k hk => absurd hk (Nat.not_lt_zero k))
set_option maxRecDepth 4000 in
set_option maxHeartbeats 1000000 in
theorem r_fst {sc : zC} {f0 F : zF} {w : zLw} {q : Nat} {c0 : Int} {Q : zQ} (g0 : aGok wG (afx sc f0)) (i0 : wD f0) (rw1 : rLw w f0) (e : ∀ c j, 50 ≤ c → F c j = f0 c j) (hr : ((c0 = 0 ∧ (q : Int) < f0 1 1) ∨ (c0 = 1 ∧ (q : Int) < f0 1 0) ∨ (c0 = 2 ∧ q < 4))) (K : ∀ v f1, fsD (fsH w (sP f0) (sA f0) q c0) v → Q (some (zI v)) zSH f1) : zR sc 199 207 63 [] [(0, zP 50), (1, zI (q : Int)), (2, zI c0), (4, zI 0)] 0 0 zSH (zbeg F) Q := by
  have p := wD_p g0 i0
  have e0 := g_10 g0
  have e1 := g_11 g0
  have L : ∀ n, n ≤ 61 → ∀ f1, rB w (sP f0) (dIt w (sP f0) (sA f0) n) f1 → (∀ j, f1 51 j = f0 51 j) → (∀ k, k < n → ¬ fsH w (sP f0) (sA f0) q c0 k) → zR sc 199 207 63 [] [(0, zP 50), (1, zI (q : Int)), (2, zI c0), (4, zI (n : Int))] 0 0 zSH f1 Q := by
    refine zloop 61 (fun n hn ih f1 b1 m1 hk => ?_) (fun f1 b1 m1 hk => ?_)
    · have D := dIt_in (w := w) p (wD_a i0) n
      have stop : fsH w (sP f0) (sA f0) q c0 n → Q (some (zI (n : Int))) zSH f1 := fun h => K _ f1 (Or.inl ⟨n, rfl, by omega, h, hk⟩)
      have go : ¬ fsH w (sP f0) (sA f0) q c0 n → ∃ A2 : zQ, zR sc 198 202 0 [] [(0, zP 50)] 0 0 zSH f1 A2 ∧ ∀ f2 : zF, A2 none zSH f2 → (zov ((n : Int) + 1) (zR sc 199 207 63 [] [(0, zP 50), (1, zI (q : Int)), (2, zI c0), (4, zI ((n : Int) + 1))] 0 0 zSH f2 Q)) := by
        intro h
        refine zcall (fun f2 => rB w (sP f0) (dIt w (sP f0) (sA f0) (n + 1)) f2 ∧ rM f1 f2) (r_day (d := 104) p D b1 (fun f2 h1 _ h2 => ⟨h1, h2⟩)) (fun f2 h5 => zov_p (by omega) ?_)
        obtain ⟨h1, h2⟩ := h5
        rw [show (n : Int) + 1 = ((n + 1 : Nat) : Int) by omega]
        refine ih f2 h1 (fun j => (h2 51 j (by decide) (by decide) (by decide) (by decide) (Or.inl (by decide))).trans (m1 j)) (fun k hk2 => ?_)
        by_cases e : k = n
        · rw [e]; exact h
        · exact hk k (by omega)
      have v2 := b1.2.2.2.1 q
      have v3 := b1.2.2.1 q
      have v30 := b1.2.1 q
      have v24 : (q : Int) < f0 1 0 → f1 51 (24 + q) = f0 2 (24 + q) := fun h => (m1 _).trans ((i0.2.1 (24 + q) (by omega)).1.symm)
      unfold fsH at stop go
      refine b207_63 ?_
      rw [if_neg (by omega)]
      rcases hr with ⟨hc, hr⟩ | ⟨hc, hr⟩ | ⟨hc, hr⟩
      · rw [if_pos hc] at stop go ⊢
        refine zcallE (r_sum (d := 197) (by omega) D b1.2.2.2.2.2.1 ⟨rfl, rfl⟩) ?_
        rw [show (30 + (q : Int)).toNat = 30 + q by omega, (v30 (by omega)).1]
        refine zov_p (by omega) (zix_p (by omega) (zit (fun h => go (by omega)) (fun h => stop (by omega))))
      · have hc0 : ¬ c0 = 0 := by omega
        rw [if_neg hc0, if_pos hc] at stop go ⊢
        rw [show (24 + (q : Int)).toNat = 24 + q by omega, Int.toNat_natCast, v2 (by omega), v24 hr]
        refine zix_p (by omega) (zov_p (by omega) (zix_p (by omega) (zit (fun h => stop h) (fun h => go h))))
      · have hc0 : ¬ c0 = 0 := by omega
        have hc1 : ¬ c0 = 1 := by omega
        rw [if_neg hc0, if_neg hc1] at stop go ⊢
        rw [show (51 + (q : Int)).toNat = 51 + q by omega, Int.toNat_natCast, (v3 (by omega)).2, (v3 (by omega)).1]
        refine zix_p (by omega) (zov_p (by omega) (zix_p (by omega) (zit (fun h => go (by omega)) (fun h => stop (by omega)))))
    · refine b207_63 ?_
      rw [if_pos (by decide)]
      exact K _ f1 (Or.inr ⟨rfl, fun k hk2 => hk k (by omega)⟩)
  exact L 0 (by decide) (zbeg F) (wD_rb i0 e rw1) (fun j => e 51 j (by decide)) (fun k hk => absurd hk (Nat.not_lt_zero k))
set_option maxRecDepth 4000 in
set_option maxHeartbeats 1000000 in
theorem jq_10 {sc : zC} {f0 : zF} (g0 : aGok wG (afx sc f0)) (i0 : wD f0) {a b : Int} : zR sc 199 128 0 [] [(0, zP (0)), (1, zI a), (2, zI b)] 0 0 zSH f0 (fun r _ f1 => ∃ v, r = some (zI v) ∧ zR sc 199 207 0 [] [(0, zP (50)), (1, zI a), (2, zI b)] 0 0 zSH f1 (fun r _ f2 => ∃ w, r = some (zI w) ∧ v = w)) := by
  obtain ⟨⟨s1, s1'⟩, s2, s3, s5, ch, im, w, cw, rw1⟩ := id i0
  have e0 := g_10 g0
  have e1 := g_11 g0
  by_cases hv : (b = 0 ∧ 0 ≤ a ∧ a < f0 1 1) ∨ (b = 1 ∧ 0 ≤ a ∧ a < f0 1 0) ∨ (b = 2 ∧ 0 ≤ a ∧ a < 4)
  rotate_left
  · refine b128_0 ?_
    repeat' (first | (refine zix_p (by omega) ?_) | (refine zov_p (by omega) ?_) | (refine zit (fun h => ?_) (fun h => ?_)))
    all_goals try (exfalso; omega)
    all_goals refine ⟨_, rfl, b207_0 ?_⟩
    all_goals try simp only [zlc_lt, zlc_gt, zlc_eq]
    all_goals repeat' (first | (refine zix_p (by omega) ?_) | (refine zov_p (by omega) ?_) | (refine zit (fun h => ?_) (fun h => ?_)))
    all_goals try (exfalso; omega)
    all_goals exact ⟨_, rfl, rfl⟩
  obtain ⟨q, hq⟩ : ∃ q : Nat, a = (q : Int) := ⟨a.toNat, by omega⟩
  rcases hv with hc | hc | hc
  · have hc' := hc
    obtain ⟨hc, hb1, hb2⟩ := hc
    refine b128_0 ?_
    repeat' (first | (refine zix_p (by omega) ?_) | (refine zov_p (by omega) ?_) | (refine zit (fun h => ?_) (fun h => ?_)))
    all_goals try (exfalso; omega)
    have K : ∀ v f1, fsD (fsH w (sP f0) (sA f0) q b) v → (∀ c j, 50 ≤ c → f1 c j = f0 c j) → ∃ v', some (zI v) = some (zI v') ∧ zR sc 199 207 0 [] [(0, zP 50), (1, zI a), (2, zI b)] 0 0 zSH f1 (fun r _ f2 => ∃ w, r = some (zI w) ∧ v' = w) := by
      intro v f1 hv m1
      have k6 : f1 50 6 = f0 50 6 := m1 50 6 (by decide)
      have k7 : f1 50 7 = f0 50 7 := m1 50 7 (by decide)
      refine ⟨_, rfl, b207_0 ?_⟩
      simp only [zlc_lt, zlc_gt, zlc_eq, k6, k7]
      repeat' (first | (refine zix_p (by omega) ?_) | (refine zov_p (by omega) ?_) | (refine zit (fun h => ?_) (fun h => ?_)))
      all_goals try (exfalso; omega)
      refine zcall (fun f2 => f2 = zbeg f1) (s198 rfl) (fun f2 h2 => ?_)
      subst h2
      rw [hq]
      exact r_fst g0 i0 rw1 m1 (by omega) (fun v2 f2 hv2 => ⟨_, rfl, fsD_u hv hv2⟩)
    have h := c_fst (Q := fun r _ f1 => ∃ v, r = some (zI v) ∧ zR sc 199 207 0 [] [(0, zP 50), (1, zI a), (2, zI b)] 0 0 zSH f1 (fun r _ f2 => ∃ w, r = some (zI w) ∧ v = w)) g0 i0 cw (q := q) (c0 := b) (by omega) K
    rw [if_pos hc] at h
    rw [show (30 + a).toNat = 30 + q by omega]
    rw [hq]
    rw [hq] at h
    exact h
  · have hc' := hc
    obtain ⟨hc, hb1, hb2⟩ := hc
    refine b128_0 ?_
    repeat' (first | (refine zix_p (by omega) ?_) | (refine zov_p (by omega) ?_) | (refine zit (fun h => ?_) (fun h => ?_)))
    all_goals try (exfalso; omega)
    have K : ∀ v f1, fsD (fsH w (sP f0) (sA f0) q b) v → (∀ c j, 50 ≤ c → f1 c j = f0 c j) → ∃ v', some (zI v) = some (zI v') ∧ zR sc 199 207 0 [] [(0, zP 50), (1, zI a), (2, zI b)] 0 0 zSH f1 (fun r _ f2 => ∃ w, r = some (zI w) ∧ v' = w) := by
      intro v f1 hv m1
      have k6 : f1 50 6 = f0 50 6 := m1 50 6 (by decide)
      have k7 : f1 50 7 = f0 50 7 := m1 50 7 (by decide)
      refine ⟨_, rfl, b207_0 ?_⟩
      simp only [zlc_lt, zlc_gt, zlc_eq, k6, k7]
      repeat' (first | (refine zix_p (by omega) ?_) | (refine zov_p (by omega) ?_) | (refine zit (fun h => ?_) (fun h => ?_)))
      all_goals try (exfalso; omega)
      refine zcall (fun f2 => f2 = zbeg f1) (s198 rfl) (fun f2 h2 => ?_)
      subst h2
      rw [hq]
      exact r_fst g0 i0 rw1 m1 (by omega) (fun v2 f2 hv2 => ⟨_, rfl, fsD_u hv hv2⟩)
    have h := c_fst (Q := fun r _ f1 => ∃ v, r = some (zI v) ∧ zR sc 199 207 0 [] [(0, zP 50), (1, zI a), (2, zI b)] 0 0 zSH f1 (fun r _ f2 => ∃ w, r = some (zI w) ∧ v = w)) g0 i0 cw (q := q) (c0 := b) (by omega) K
    rw [if_neg (by omega), if_pos hc] at h
    rw [show (24 + a).toNat = 24 + q by omega]
    rw [hq]
    rw [hq] at h
    have b24 := (s2 (24 + q) (by omega)).2.2.1 (by omega) (by omega)
    exact zov_p (by omega) h
  · have hc' := hc
    obtain ⟨hc, hb1, hb2⟩ := hc
    refine b128_0 ?_
    repeat' (first | (refine zix_p (by omega) ?_) | (refine zov_p (by omega) ?_) | (refine zit (fun h => ?_) (fun h => ?_)))
    all_goals try (exfalso; omega)
    have K : ∀ v f1, fsD (fsH w (sP f0) (sA f0) q b) v → (∀ c j, 50 ≤ c → f1 c j = f0 c j) → ∃ v', some (zI v) = some (zI v') ∧ zR sc 199 207 0 [] [(0, zP 50), (1, zI a), (2, zI b)] 0 0 zSH f1 (fun r _ f2 => ∃ w, r = some (zI w) ∧ v' = w) := by
      intro v f1 hv m1
      have k6 : f1 50 6 = f0 50 6 := m1 50 6 (by decide)
      have k7 : f1 50 7 = f0 50 7 := m1 50 7 (by decide)
      refine ⟨_, rfl, b207_0 ?_⟩
      simp only [zlc_lt, zlc_gt, zlc_eq, k6, k7]
      repeat' (first | (refine zix_p (by omega) ?_) | (refine zov_p (by omega) ?_) | (refine zit (fun h => ?_) (fun h => ?_)))
      all_goals try (exfalso; omega)
      refine zcall (fun f2 => f2 = zbeg f1) (s198 rfl) (fun f2 h2 => ?_)
      subst h2
      rw [hq]
      exact r_fst g0 i0 rw1 m1 (by omega) (fun v2 f2 hv2 => ⟨_, rfl, fsD_u hv hv2⟩)
    have h := c_fst (Q := fun r _ f1 => ∃ v, r = some (zI v) ∧ zR sc 199 207 0 [] [(0, zP 50), (1, zI a), (2, zI b)] 0 0 zSH f1 (fun r _ f2 => ∃ w, r = some (zI w) ∧ v = w)) g0 i0 cw (q := q) (c0 := b) (by omega) K
    rw [if_neg (by omega), if_neg (by omega)] at h
    rw [show (51 + a).toNat = 51 + q by omega]
    rw [hq]
    rw [hq] at h
    exact h
end
