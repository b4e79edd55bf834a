noncomputable section
/-! joint runs: girls out of a row, the law's text -/
def gAdd (f : zF) (r h : Int) : zF := zup (zup (zup (zup f 2 (30 + f 1 1).toNat r) 2 (37 + f 1 1).toNat h) 2 (44 + f 1 1).toNat (-1)) 1 1 (f 1 1 + 1)
def rAdd (f : zF) (r h : Int) : zF := zup (zup (zup (zup f 51 (30 + f 50 7).toNat r) 51 (37 + f 50 7).toNat h) 51 (44 + f 50 7).toNat (-1)) 50 7 (f 50 7 + 1)
def gN (f : zF) (q p : Nat → Int) : Nat → zF
  | 0 => f
  | t + 1 => gAdd (gN f q p t) (q t) (p t)
def rN (f : zF) (q p : Nat → Int) : Nat → zF
  | 0 => f
  | t + 1 => rAdd (rN f q p t) (q t) (p t)
section GN
variable {f : zF} {q p : Nat → Int}
theorem gN_o {c : Nat} (h1 : c ≠ 1) (h2 : c ≠ 2) : ∀ t, gN f q p t c = f c
  | 0 => rfl
  | t + 1 => by
    funext j
    show gAdd (gN f q p t) (q t) (p t) c j = f c j
    unfold gAdd
    simp only [zup_at, if_neg h1, if_neg h2]
    rw [gN_o h1 h2 t]
theorem gN_1 : ∀ t, gN f q p t 1 1 = f 1 1 + (t : Int)
  | 0 => (Int.add_zero _).symm
  | t + 1 => by
    show gN f q p t 1 1 + 1 = _
    rw [gN_1 t]
    omega
theorem gN_1o {j : Nat} (h : j ≠ 1) : ∀ t, gN f q p t 1 j = f 1 j
  | 0 => rfl
  | t + 1 => by
    show gAdd (gN f q p t) (q t) (p t) 1 j = f 1 j
    unfold gAdd
    simp only [zup_at, if_neg h, Nat.reduceEqDiff, reduceIte]
    exact gN_1o h t
theorem rN_o {c : Nat} (h1 : c ≠ 50) (h2 : c ≠ 51) : ∀ t, rN f q p t c = f c
  | 0 => rfl
  | t + 1 => by
    funext j
    show rAdd (rN f q p t) (q t) (p t) c j = f c j
    unfold rAdd
    simp only [zup_at, if_neg h1, if_neg h2]
    rw [rN_o h1 h2 t]
theorem rN_7 : ∀ t, rN f q p t 50 7 = f 50 7 + (t : Int)
  | 0 => (Int.add_zero _).symm
  | t + 1 => by
    show rN f q p t 50 7 + 1 = _
    rw [rN_7 t]
    omega
theorem rN_50 {j : Nat} (h : j ≠ 7) : ∀ t, rN f q p t 50 j = f 50 j
  | 0 => rfl
  | t + 1 => by
    show rAdd (rN f q p t) (q t) (p t) 50 j = f 50 j
    unfold rAdd
    simp only [zup_at, if_neg h, Nat.reduceEqDiff, reduceIte]
    exact rN_50 h t
end GN
/-- the t-th girl of a row may come -/
def gvd (len g b : Int) (q p : Nat → Int) (t : Nat) : Prop := 0 ≤ b ∧ b + 2 * (t : Int) + 2 ≤ len ∧ (1 ≤ q t ∧ q t ≤ 99) ∧ (0 ≤ p t ∧ p t ≤ 3) ∧ g + (t : Int) < 7

set_option maxRecDepth 100000 in
theorem b120_0 {sc : zC} {a b c : Int} {f : zF} {Q : zQ} (h : if a < 0 then (Q (some (zI (-1))) zSH f) else (if a < 6 then (if c < 1 then (Q (some (zI (-1))) zSH f) else (if 7 < c then (Q (some (zI (-1))) zSH f) else (zix a (6) (if f (46) (a.toNat) = (-2) then (Q (some (zI (0))) zSH f) else (zix a (6) (if f (46) (a.toNat) = 0 then (zR sc (199) 120 58 [] [(0, zP (0)), (1, zI a), (3, zI c), (4, zI (0)), (5, zI b)] 0 0 zSH f Q) else (Q (some (zI (-12))) zSH f))))))) else (Q (some (zI (-1))) zSH f))) : zR sc (199) 120 0 [] [(0, zP (0)), (1, zI a), (2, zI b), (3, zI c)] 0 0 zSH f Q := zwn_R (stp := fun mi pc => bif Nat.beq mi 120 && Nat.beq pc 58 then some [0, 1, 3, 4, 5] else none) (inl := fun j => bif Nat.beq j 17 then true else bif Nat.beq j 18 then true else bif Nat.beq j 19 then true else bif Nat.beq j 20 then true else bif Nat.beq j 22 then true else bif Nat.beq j 23 then true else bif Nat.beq j 25 then true else bif Nat.beq j 28 then true else bif Nat.beq j 50 then true else bif Nat.beq j 51 then true else bif Nat.beq j 52 then true else bif Nat.beq j 53 then true else bif Nat.beq j 54 then true else bif Nat.beq j 55 then true else bif Nat.beq j 56 then true else bif Nat.beq j 57 then true else bif Nat.beq j 58 then true else bif Nat.beq j 59 then true else bif Nat.beq j 60 then true else bif Nat.beq j 62 then true else bif Nat.beq j 63 then true else bif Nat.beq j 64 then true else bif Nat.beq j 65 then true else bif Nat.beq j 66 then true else bif Nat.beq j 67 then true else bif Nat.beq j 68 then true else bif Nat.beq j 69 then true else bif Nat.beq j 70 then true else bif Nat.beq j 71 then true else bif Nat.beq j 72 then true else bif Nat.beq j 73 then true else bif Nat.beq j 74 then true else bif Nat.beq j 75 then true else bif Nat.beq j 76 then true else bif Nat.beq j 77 then true else bif Nat.beq j 78 then true else bif Nat.beq j 79 then true else bif Nat.beq j 85 then true else bif Nat.beq j 86 then true else bif Nat.beq j 87 then true else bif Nat.beq j 92 then true else bif Nat.beq j 93 then true else bif Nat.beq j 95 then true else bif Nat.beq j 96 then true else bif Nat.beq j 97 then true else bif Nat.beq j 98 then true else bif Nat.beq j 99 then true else bif Nat.beq j 165 then true else bif Nat.beq j 166 then true else bif Nat.beq j 167 then true else bif Nat.beq j 170 then true else bif Nat.beq j 171 then true else bif Nat.beq j 172 then true else bif Nat.beq j 173 then true else bif Nat.beq j 174 then true else bif Nat.beq j 175 then true else bif Nat.beq j 176 then true else bif Nat.beq j 177 then true else bif Nat.beq j 178 then true else bif Nat.beq j 180 then true else bif Nat.beq j 181 then true else bif Nat.beq j 182 then true else bif Nat.beq j 183 then true else bif Nat.beq j 184 then true else bif Nat.beq j 185 then true else bif Nat.beq j 186 then true else bif Nat.beq j 187 then true else bif Nat.beq j 188 then true else bif Nat.beq j 191 then true else bif Nat.beq j 194 then true else bif Nat.beq j 200 then true else bif Nat.beq j 204 then true else bif Nat.beq j 205 then true else bif Nat.beq j 206 then true else bif Nat.beq j 209 then true else bif Nat.beq j 215 then true else bif Nat.beq j 220 then true else bif Nat.beq j 223 then true else bif Nat.beq j 224 then true else bif Nat.beq j 237 then true else bif Nat.beq j 238 then true else bif Nat.beq j 239 then true else bif Nat.beq j 240 then true else bif Nat.beq j 243 then true else bif Nat.beq j 244 then true else bif Nat.beq j 245 then true else bif Nat.beq j 246 then true else bif Nat.beq j 247 then true else bif Nat.beq j 252 then true else bif Nat.beq j 253 then true else bif Nat.beq j 254 then true else bif Nat.beq j 255 then true else bif Nat.beq j 257 then true else bif Nat.beq j 258 then true else bif Nat.beq j 259 then true else bif Nat.beq j 260 then true else bif Nat.beq j 263 then true else false) (nov := fun _ => true) 78 h
set_option maxRecDepth 100000 in
theorem b120_58 {sc : zC} {x1 x3 x4 x5 : Int} {f : zF} {Q : zQ} (h : if x4 < x3 then (if x5 < 0 then (Q (some (zI x4)) zSH f) else (zix x1 (6) (if x5 < f (48) (x1.toNat) then (zov (x5 + (1)) (if x5 + (1) < 0 then (Q (some (zI x4)) zSH f) else (zix x1 (6) (if x5 + (1) < f (48) (x1.toNat) then (zov (x1 * (60)) (zov ((x1 * (60)) + x5) (zix ((x1 * (60)) + x5) (360) (zov (f (49) (((x1 * (60)) + x5).toNat)) (zov (x5 + (1)) (zov (x1 * (60)) (zov ((x1 * (60)) + (x5 + (1))) (zix ((x1 * (60)) + (x5 + (1))) (360) (zov (f (49) (((x1 * (60)) + (x5 + (1))).toNat)) (if f (49) (((x1 * (60)) + x5).toNat) < 1 then (Q (some (zI x4)) zSH f) else (if 99 < f (49) (((x1 * (60)) + x5).toNat) then (Q (some (zI x4)) zSH f) else (if f (49) (((x1 * (60)) + (x5 + (1))).toNat) < 0 then (Q (some (zI x4)) zSH f) else (if f (49) (((x1 * (60)) + (x5 + (1))).toNat) < 4 then (if f (1) (1) < 7 then (zov ((30) + (f (1) (1))) (zix ((30) + (f (1) (1))) (60) (zov ((37) + (f (1) (1))) (zix ((37) + (f (1) (1))) (60) (zov ((44) + (f (1) (1))) (zix ((44) + (f (1) (1))) (60) (zov ((f (1) (1)) + (1)) (zov (((f (1) (1)) + (1)) - (1)) (if ((f (1) (1)) + (1)) - (1) < 0 then (Q (some (zI x4)) zSH (zup (zup (zup (zup f (2) (((30) + (f (1) (1))).toNat) (f (49) (((x1 * (60)) + x5).toNat))) (2) (((37) + (f (1) (1))).toNat) (f (49) (((x1 * (60)) + (x5 + (1))).toNat))) (2) (((44) + (f (1) (1))).toNat) (-1)) (1) (1) ((f (1) (1)) + (1)))) else (zov (x4 + 1) (zov (x5 + 2) (zR sc (199) 120 58 [] [(0, zP (0)), (1, zI x1), (3, zI x3), (4, zI (x4 + 1)), (5, zI (x5 + 2))] 0 0 zSH (zup (zup (zup (zup f (2) (((30) + (f (1) (1))).toNat) (f (49) (((x1 * (60)) + x5).toNat))) (2) (((37) + (f (1) (1))).toNat) (f (49) (((x1 * (60)) + (x5 + (1))).toNat))) (2) (((44) + (f (1) (1))).toNat) (-1)) (1) (1) ((f (1) (1)) + (1))) Q)))))))))))) else (Q (some (zI x4)) zSH f)) else (Q (some (zI x4)) zSH f)))))))))))))) else (Q (some (zI x4)) zSH f))))) else (Q (some (zI x4)) zSH f)))) else (Q (some (zI x4)) zSH f)) : zR sc (199) 120 58 [] [(0, zP (0)), (1, zI x1), (3, zI x3), (4, zI x4), (5, zI x5)] 0 0 zSH f Q := zwn_R (stp := fun mi pc => bif Nat.beq mi 120 && Nat.beq pc 58 then some [0, 1, 3, 4, 5] else none) (inl := fun j => bif Nat.beq j 17 then true else bif Nat.beq j 18 then true else bif Nat.beq j 19 then true else bif Nat.beq j 20 then true else bif Nat.beq j 22 then true else bif Nat.beq j 23 then true else bif Nat.beq j 25 then true else bif Nat.beq j 28 then true else bif Nat.beq j 50 then true else bif Nat.beq j 51 then true else bif Nat.beq j 52 then true else bif Nat.beq j 53 then true else bif Nat.beq j 54 then true else bif Nat.beq j 55 then true else bif Nat.beq j 56 then true else bif Nat.beq j 57 then true else bif Nat.beq j 58 then true else bif Nat.beq j 59 then true else bif Nat.beq j 60 then true else bif Nat.beq j 62 then true else bif Nat.beq j 63 then true else bif Nat.beq j 64 then true else bif Nat.beq j 65 then true else bif Nat.beq j 66 then true else bif Nat.beq j 67 then true else bif Nat.beq j 68 then true else bif Nat.beq j 69 then true else bif Nat.beq j 70 then true else bif Nat.beq j 71 then true else bif Nat.beq j 72 then true else bif Nat.beq j 73 then true else bif Nat.beq j 74 then true else bif Nat.beq j 75 then true else bif Nat.beq j 76 then true else bif Nat.beq j 77 then true else bif Nat.beq j 78 then true else bif Nat.beq j 79 then true else bif Nat.beq j 85 then true else bif Nat.beq j 86 then true else bif Nat.beq j 87 then true else bif Nat.beq j 92 then true else bif Nat.beq j 93 then true else bif Nat.beq j 95 then true else bif Nat.beq j 96 then true else bif Nat.beq j 97 then true else bif Nat.beq j 98 then true else bif Nat.beq j 99 then true else bif Nat.beq j 165 then true else bif Nat.beq j 166 then true else bif Nat.beq j 167 then true else bif Nat.beq j 170 then true else bif Nat.beq j 171 then true else bif Nat.beq j 172 then true else bif Nat.beq j 173 then true else bif Nat.beq j 174 then true else bif Nat.beq j 175 then true else bif Nat.beq j 176 then true else bif Nat.beq j 177 then true else bif Nat.beq j 178 then true else bif Nat.beq j 180 then true else bif Nat.beq j 181 then true else bif Nat.beq j 182 then true else bif Nat.beq j 183 then true else bif Nat.beq j 184 then true else bif Nat.beq j 185 then true else bif Nat.beq j 186 then true else bif Nat.beq j 187 then true else bif Nat.beq j 188 then true else bif Nat.beq j 191 then true else bif Nat.beq j 194 then true else bif Nat.beq j 200 then true else bif Nat.beq j 204 then true else bif Nat.beq j 205 then true else bif Nat.beq j 206 then true else bif Nat.beq j 209 then true else bif Nat.beq j 215 then true else bif Nat.beq j 220 then true else bif Nat.beq j 223 then true else bif Nat.beq j 224 then true else bif Nat.beq j 237 then true else bif Nat.beq j 238 then true else bif Nat.beq j 239 then true else bif Nat.beq j 240 then true else bif Nat.beq j 243 then true else bif Nat.beq j 244 then true else bif Nat.beq j 245 then true else bif Nat.beq j 246 then true else bif Nat.beq j 247 then true else bif Nat.beq j 252 then true else bif Nat.beq j 253 then true else bif Nat.beq j 254 then true else bif Nat.beq j 255 then true else bif Nat.beq j 257 then true else bif Nat.beq j 258 then true else bif Nat.beq j 259 then true else bif Nat.beq j 260 then true else bif Nat.beq j 263 then true else false) (nov := fun _ => true) 183 h
set_option maxRecDepth 100000 in
theorem b179_0 {sc : zC} {a b c : Int} {f : zF} {Q : zQ} (h : if zlcmp a (0) < 0 then (Q (some (zI (-1))) zSH f) else (if 0 < zlcmp a (5) then (Q (some (zI (-1))) zSH f) else (if zlcmp c (1) < 0 then (Q (some (zI (-1))) zSH f) else (if 0 < zlcmp c (7) then (Q (some (zI (-1))) zSH f) else (zix a (6) (if f (74) (a.toNat) < 0 then (zix a (6) (if f (74) (a.toNat) = 50 then (if b < 0 then (zR sc (199) 179 69 [] [(0, zP (50)), (1, zI a), (2, zI b), (3, zI c), (4, zI (0)), (5, zI (0))] 0 0 zSH f Q) else (zR sc (199) 179 69 [] [(0, zP (50)), (1, zI a), (2, zI b), (3, zI c), (4, zI (0)), (5, zI (1))] 0 0 zSH f Q)) else (zR sc (199) 179 69 [] [(0, zP (50)), (1, zI a), (2, zI b), (3, zI c), (4, zI (0)), (5, zI (0))] 0 0 zSH f Q))) else (zix a (6) (if f (74) (a.toNat) = 50 then (zix a (6) (if f (74) (a.toNat) = 50 then (if b < 0 then (zR sc (199) 179 69 [] [(0, zP (50)), (1, zI a), (2, zI b), (3, zI c), (4, zI (0)), (5, zI (0))] 0 0 zSH f Q) else (zR sc (199) 179 69 [] [(0, zP (50)), (1, zI a), (2, zI b), (3, zI c), (4, zI (0)), (5, zI (1))] 0 0 zSH f Q)) else (zR sc (199) 179 69 [] [(0, zP (50)), (1, zI a), (2, zI b), (3, zI c), (4, zI (0)), (5, zI (0))] 0 0 zSH f Q))) else (Q (some (zI (-12))) zSH f))))))))) : zR sc (199) 179 0 [] [(0, zP (50)), (1, zI a), (2, zI b), (3, zI c)] 0 0 zSH f Q := zwn_R (stp := fun mi pc => bif Nat.beq mi 179 && Nat.beq pc 69 then some [0, 1, 2, 3, 4, 5] else none) (inl := fun j => bif Nat.beq j 17 then true else bif Nat.beq j 18 then true else bif Nat.beq j 19 then true else bif Nat.beq j 20 then true else bif Nat.beq j 22 then true else bif Nat.beq j 23 then true else bif Nat.beq j 25 then true else bif Nat.beq j 28 then true else bif Nat.beq j 50 then true else bif Nat.beq j 51 then true else bif Nat.beq j 52 then true else bif Nat.beq j 53 then true else bif Nat.beq j 54 then true else bif Nat.beq j 55 then true else bif Nat.beq j 56 then true else bif Nat.beq j 57 then true else bif Nat.beq j 58 then true else bif Nat.beq j 59 then true else bif Nat.beq j 60 then true else bif Nat.beq j 62 then true else bif Nat.beq j 63 then true else bif Nat.beq j 64 then true else bif Nat.beq j 65 then true else bif Nat.beq j 66 then true else bif Nat.beq j 67 then true else bif Nat.beq j 68 then true else bif Nat.beq j 69 then true else bif Nat.beq j 70 then true else bif Nat.beq j 71 then true else bif Nat.beq j 72 then true else bif Nat.beq j 73 then true else bif Nat.beq j 74 then true else bif Nat.beq j 75 then true else bif Nat.beq j 76 then true else bif Nat.beq j 77 then true else bif Nat.beq j 78 then true else bif Nat.beq j 79 then true else bif Nat.beq j 85 then true else bif Nat.beq j 86 then true else bif Nat.beq j 87 then true else bif Nat.beq j 92 then true else bif Nat.beq j 93 then true else bif Nat.beq j 95 then true else bif Nat.beq j 96 then true else bif Nat.beq j 97 then true else bif Nat.beq j 98 then true else bif Nat.beq j 99 then true else bif Nat.beq j 165 then true else bif Nat.beq j 166 then true else bif Nat.beq j 167 then true else bif Nat.beq j 170 then true else bif Nat.beq j 171 then true else bif Nat.beq j 172 then true else bif Nat.beq j 173 then true else bif Nat.beq j 174 then true else bif Nat.beq j 175 then true else bif Nat.beq j 176 then true else bif Nat.beq j 177 then true else bif Nat.beq j 178 then true else bif Nat.beq j 180 then true else bif Nat.beq j 181 then true else bif Nat.beq j 182 then true else bif Nat.beq j 183 then true else bif Nat.beq j 184 then true else bif Nat.beq j 185 then true else bif Nat.beq j 186 then true else bif Nat.beq j 187 then true else bif Nat.beq j 188 then true else bif Nat.beq j 191 then true else bif Nat.beq j 194 then true else bif Nat.beq j 200 then true else bif Nat.beq j 204 then true else bif Nat.beq j 205 then true else bif Nat.beq j 206 then true else bif Nat.beq j 209 then true else bif Nat.beq j 215 then true else bif Nat.beq j 220 then true else bif Nat.beq j 223 then true else bif Nat.beq j 224 then true else bif Nat.beq j 237 then true else bif Nat.beq j 238 then true else bif Nat.beq j 239 then true else bif Nat.beq j 240 then true else bif Nat.beq j 243 then true else bif Nat.beq j 244 then true else bif Nat.beq j 245 then true else bif Nat.beq j 246 then true else bif Nat.beq j 247 then true else bif Nat.beq j 252 then true else bif Nat.beq j 253 then true else bif Nat.beq j 254 then true else bif Nat.beq j 255 then true else bif Nat.beq j 257 then true else bif Nat.beq j 258 then true else bif Nat.beq j 259 then true else bif Nat.beq j 260 then true else bif Nat.beq j 263 then true else false) (nov := (fun j => bif Nat.beq j 179 then false else true)) 108 h
set_option maxRecDepth 100000 in
theorem b179_69 {sc : zC} {x1 x2 x3 x4 x5 : Int} {f : zF} {Q : zQ} (h : if x5 = 0 then (Q (some (zI x4)) zSH f) else (if x4 < x3 then (zix x1 (6) (if w32 ((w32 ((f (75) (x1.toNat)) - (2))) - (w32 ((2) * x4))) < x2 then (zR sc (199) 179 69 [] [(0, zP (50)), (1, zI x1), (2, zI x2), (3, zI x3), (4, zI x4), (5, zI (0))] 0 0 zSH f Q) else (if f (50) (7) < 7 then (zix (w32 ((w32 ((w32 ((60) * x1)) + x2)) + (w32 ((2) * x4)))) (360) (zix (w32 ((w32 ((w32 ((w32 ((60) * x1)) + x2)) + (w32 ((2) * x4)))) + (1))) (360) (if zlcmp (f (76) ((w32 ((w32 ((w32 ((60) * x1)) + x2)) + (w32 ((2) * x4)))).toNat)) (1) < 0 then (zR sc (199) 179 69 [] [(0, zP (50)), (1, zI x1), (2, zI x2), (3, zI x3), (4, zI x4), (5, zI (0))] 0 0 zSH f Q) else (if 0 < zlcmp (f (76) ((w32 ((w32 ((w32 ((60) * x1)) + x2)) + (w32 ((2) * x4)))).toNat)) (99) then (zR sc (199) 179 69 [] [(0, zP (50)), (1, zI x1), (2, zI x2), (3, zI x3), (4, zI x4), (5, zI (0))] 0 0 zSH f Q) else (if zlcmp (f (76) ((w32 ((w32 ((w32 ((w32 ((60) * x1)) + x2)) + (w32 ((2) * x4)))) + (1))).toNat)) (0) < 0 then (zR sc (199) 179 69 [] [(0, zP (50)), (1, zI x1), (2, zI x2), (3, zI x3), (4, zI x4), (5, zI (0))] 0 0 zSH f Q) else (if 0 < zlcmp (f (76) ((w32 ((w32 ((w32 ((w32 ((60) * x1)) + x2)) + (w32 ((2) * x4)))) + (1))).toNat)) (3) then (zR sc (199) 179 69 [] [(0, zP (50)), (1, zI x1), (2, zI x2), (3, zI x3), (4, zI x4), (5, zI (0))] 0 0 zSH f Q) else (zix (w32 ((w32 ((w32 ((60) * x1)) + x2)) + (w32 ((2) * x4)))) (360) (zix (w32 ((w32 ((w32 ((w32 ((60) * x1)) + x2)) + (w32 ((2) * x4)))) + (1))) (360) (zov ((30) + (f (50) (7))) (zix ((30) + (f (50) (7))) (60) (zov ((37) + (f (50) (7))) (zix ((37) + (f (50) (7))) (60) (zov ((44) + (f (50) (7))) (zix ((44) + (f (50) (7))) (60) (zov ((f (50) (7)) + (1)) (zR sc (199) 179 69 [] [(0, zP (50)), (1, zI x1), (2, zI x2), (3, zI x3), (4, zI (w32 (x4 + 1))), (5, zI (1))] 0 0 zSH (zup (zup (zup (zup f (51) (((30) + (f (50) (7))).toNat) (w32 (f (76) ((w32 ((w32 ((w32 ((60) * x1)) + x2)) + (w32 ((2) * x4)))).toNat)))) (51) (((37) + (f (50) (7))).toNat) (w32 (f (76) ((w32 ((w32 ((w32 ((w32 ((60) * x1)) + x2)) + (w32 ((2) * x4)))) + (1))).toNat)))) (51) (((44) + (f (50) (7))).toNat) (-1)) (50) (7) ((f (50) (7)) + (1))) Q)))))))))))))))) else (zR sc (199) 179 69 [] [(0, zP (50)), (1, zI x1), (2, zI x2), (3, zI x3), (4, zI x4), (5, zI (0))] 0 0 zSH f Q)))) else (Q (some (zI x4)) zSH f))) : zR sc (199) 179 69 [] [(0, zP (50)), (1, zI x1), (2, zI x2), (3, zI x3), (4, zI x4), (5, zI x5)] 0 0 zSH f Q := zwn_R (stp := fun mi pc => bif Nat.beq mi 179 && Nat.beq pc 69 then some [0, 1, 2, 3, 4, 5] else none) (inl := fun j => bif Nat.beq j 17 then true else bif Nat.beq j 18 then true else bif Nat.beq j 19 then true else bif Nat.beq j 20 then true else bif Nat.beq j 22 then true else bif Nat.beq j 23 then true else bif Nat.beq j 25 then true else bif Nat.beq j 28 then true else bif Nat.beq j 50 then true else bif Nat.beq j 51 then true else bif Nat.beq j 52 then true else bif Nat.beq j 53 then true else bif Nat.beq j 54 then true else bif Nat.beq j 55 then true else bif Nat.beq j 56 then true else bif Nat.beq j 57 then true else bif Nat.beq j 58 then true else bif Nat.beq j 59 then true else bif Nat.beq j 60 then true else bif Nat.beq j 62 then true else bif Nat.beq j 63 then true else bif Nat.beq j 64 then true else bif Nat.beq j 65 then true else bif Nat.beq j 66 then true else bif Nat.beq j 67 then true else bif Nat.beq j 68 then true else bif Nat.beq j 69 then true else bif Nat.beq j 70 then true else bif Nat.beq j 71 then true else bif Nat.beq j 72 then true else bif Nat.beq j 73 then true else bif Nat.beq j 74 then true else bif Nat.beq j 75 then true else bif Nat.beq j 76 then true else bif Nat.beq j 77 then true else bif Nat.beq j 78 then true else bif Nat.beq j 79 then true else bif Nat.beq j 85 then true else bif Nat.beq j 86 then true else bif Nat.beq j 87 then true else bif Nat.beq j 92 then true else bif Nat.beq j 93 then true else bif Nat.beq j 95 then true else bif Nat.beq j 96 then true else bif Nat.beq j 97 then true else bif Nat.beq j 98 then true else bif Nat.beq j 99 then true else bif Nat.beq j 165 then true else bif Nat.beq j 166 then true else bif Nat.beq j 167 then true else bif Nat.beq j 170 then true else bif Nat.beq j 171 then true else bif Nat.beq j 172 then true else bif Nat.beq j 173 then true else bif Nat.beq j 174 then true else bif Nat.beq j 175 then true else bif Nat.beq j 176 then true else bif Nat.beq j 177 then true else bif Nat.beq j 178 then true else bif Nat.beq j 180 then true else bif Nat.beq j 181 then true else bif Nat.beq j 182 then true else bif Nat.beq j 183 then true else bif Nat.beq j 184 then true else bif Nat.beq j 185 then true else bif Nat.beq j 186 then true else bif Nat.beq j 187 then true else bif Nat.beq j 188 then true else bif Nat.beq j 191 then true else bif Nat.beq j 194 then true else bif Nat.beq j 200 then true else bif Nat.beq j 204 then true else bif Nat.beq j 205 then true else bif Nat.beq j 206 then true else bif Nat.beq j 209 then true else bif Nat.beq j 215 then true else bif Nat.beq j 220 then true else bif Nat.beq j 223 then true else bif Nat.beq j 224 then true else bif Nat.beq j 237 then true else bif Nat.beq j 238 then true else bif Nat.beq j 239 then true else bif Nat.beq j 240 then true else bif Nat.beq j 243 then true else bif Nat.beq j 244 then true else bif Nat.beq j 245 then true else bif Nat.beq j 246 then true else bif Nat.beq j 247 then true else bif Nat.beq j 252 then true else bif Nat.beq j 253 then true else bif Nat.beq j 254 then true else bif Nat.beq j 255 then true else bif Nat.beq j 257 then true else bif Nat.beq j 258 then true else bif Nat.beq j 259 then true else bif Nat.beq j 260 then true else bif Nat.beq j 263 then true else false) (nov := (fun j => bif Nat.beq j 179 then false else true)) 223 h
set_option maxHeartbeats 4000000 in
theorem jg_1 {sc : zC} {f : zF} {Q : zQ} {a b c : Int} {q p : Nat → Int} (ha : 0 ≤ a ∧ a < 6) (hc : 1 ≤ c ∧ c ≤ 7) (hb : zIn b) (l1 : 0 ≤ f 48 a.toNat ∧ f 48 a.toNat ≤ 60) (e1 : 0 ≤ f 1 1 ∧ f 1 1 ≤ 7) (hz : ∀ j, 60 * a.toNat ≤ j → j < 60 * a.toNat + 60 → zIn (f 49 j)) (hq : ∀ t : Nat, q t = f 49 (a * 60 + (b + 2 * (t : Int))).toNat) (hp : ∀ t : Nat, p t = f 49 (a * 60 + (b + 2 * (t : Int) + 1)).toNat) (hQ : ∀ m : Nat, (∀ u, u < m → gvd (f 48 a.toNat) (f 1 1) b q p u) → ((m : Int) = c ∨ ¬ gvd (f 48 a.toNat) (f 1 1) b q p m) → (m : Int) ≤ c → Q (some (zI m)) zSH (gN f q p m)) : zR sc 199 120 58 [] [(0, zP 0), (1, zI a), (3, zI c), (4, zI 0), (5, zI b)] 0 0 zSH f Q := by
  unfold zIn at hb
  have L : ∀ (n t : Nat), (t : Int) + (n : Int) = c → (∀ u, u < t → gvd (f 48 a.toNat) (f 1 1) b q p u) → zR sc 199 120 58 [] [(0, zP 0), (1, zI a), (3, zI c), (4, zI (t : Int)), (5, zI (b + 2 * (t : Int)))] 0 0 zSH (gN f q p t) Q := by
    intro n
    induction n with
    | zero =>
      intro t ht hu
      refine b120_58 ?_
      rw [if_neg (by omega)]
      exact hQ t hu (Or.inl (by omega)) (by omega)
    | succ n ih =>
      intro t ht hu
      have e48 : gN f q p t 48 a.toNat = f 48 a.toNat := congrFun (gN_o (by decide) (by decide) t) _
      have e11 : gN f q p t 1 1 = f 1 1 + (t : Int) := gN_1 t
      have eq1 : gN f q p t 49 (a * 60 + (b + 2 * (t : Int))).toNat = q t := by rw [gN_o (by decide) (by decide)]; exact (hq t).symm
      have ep1 : gN f q p t 49 (a * 60 + (b + 2 * (t : Int) + 1)).toNat = p t := by rw [gN_o (by decide) (by decide)]; exact (hp t).symm
      have zq : b + 2 * (t : Int) < 0 ∨ f 48 a.toNat ≤ b + 2 * (t : Int) ∨ (-2147483648 ≤ q t ∧ q t ≤ 2147483647) := by
        by_cases h1 : b + 2 * (t : Int) < 0
        · exact Or.inl h1
        · by_cases h2 : f 48 a.toNat ≤ b + 2 * (t : Int)
          · exact Or.inr (Or.inl h2)
          · rw [hq t]
            exact Or.inr (Or.inr (hz _ (by omega) (by omega)))
      have zp : b + 2 * (t : Int) < 0 ∨ f 48 a.toNat ≤ b + 2 * (t : Int) + 1 ∨ (-2147483648 ≤ p t ∧ p t ≤ 2147483647) := by
        by_cases h1 : b + 2 * (t : Int) < 0
        · exact Or.inl h1
        · by_cases h2 : f 48 a.toNat ≤ b + 2 * (t : Int) + 1
          · exact Or.inr (Or.inl h2)
          · rw [hp t]
            exact Or.inr (Or.inr (hz _ (by omega) (by omega)))
      have hn := hQ t hu
      have hs := ih (t + 1) (by omega)
      have hx : gN f q p (t + 1) = gAdd (gN f q p t) (gN f q p t 49 (a * 60 + (b + 2 * (t : Int))).toNat) (gN f q p t 49 (a * 60 + (b + 2 * (t : Int) + 1)).toNat) := by rw [eq1, ep1]; rfl
      rw [hx, show b + 2 * ((t + 1 : Nat) : Int) = b + 2 * (t : Int) + 2 by omega] at hs
      have hv : (∀ u, u < t + 1 → gvd (f 48 a.toNat) (f 1 1) b q p u) ∨ ¬ gvd (f 48 a.toNat) (f 1 1) b q p t := by
        by_cases hg : gvd (f 48 a.toNat) (f 1 1) b q p t
        · refine Or.inl (fun u hu2 => ?_)
          rcases Nat.lt_or_ge u t with h | h
          · exact hu u h
          · rw [show u = t by omega]; exact hg
        · exact Or.inr hg
      have hb0 : t = 0 ∨ 0 ≤ b := by
        rcases Nat.eq_zero_or_pos t with h | h
        · exact Or.inl h
        · exact Or.inr (hu 0 h).1
      refine b120_58 ?_
      clear hQ hu ih hz hx
      generalize gN f q p t = G at *
      repeat' (first | (refine zix_p (by omega) ?_) | (refine zov_p (by omega) ?_) | (refine zit (fun h => ?_) (fun h => ?_)))
      all_goals try (exfalso; omega)
      all_goals try exact hn (Or.inr (fun hv => by unfold gvd at hv; omega)) (by omega)
      rcases hv with hv | hv
      · exact hs hv
      · exfalso
        apply hv
        unfold gvd
        omega
  have := L c.toNat 0 (by omega) (fun u hu => by omega)
  rw [show b + 2 * ((0 : Nat) : Int) = b by omega] at this
  exact this
theorem jg_0 {sc : zC} {f : zF} {Q : zQ} {a b c x : Int} (hQ : Q (some (zI x)) zSH f) : zR sc 199 179 69 [] [(0, zP 50), (1, zI a), (2, zI b), (3, zI c), (4, zI x), (5, zI 0)] 0 0 zSH f Q := by
  refine b179_69 ?_
  rw [if_pos rfl]
  exact hQ
set_option maxHeartbeats 4000000 in
theorem jg_2 {sc : zC} {f : zF} {Q : zQ} {a b c : Int} {q p : Nat → Int} (ha : 0 ≤ a ∧ a < 6) (hc : 1 ≤ c ∧ c ≤ 7) (hb : 0 ≤ b ∧ b ≤ 2147483647) (l1 : 0 ≤ f 75 a.toNat ∧ f 75 a.toNat ≤ 60) (e1 : 0 ≤ f 50 7 ∧ f 50 7 ≤ 7) (hz : ∀ j, 60 * a.toNat ≤ j → j < 60 * a.toNat + 60 → zIn (f 76 j)) (hq : ∀ t : Nat, q t = f 76 (60 * a + b + 2 * (t : Int)).toNat) (hp : ∀ t : Nat, p t = f 76 (60 * a + b + 2 * (t : Int) + 1).toNat) (hQ : ∀ m : Nat, (∀ u, u < m → gvd (f 75 a.toNat) (f 50 7) b q p u) → ((m : Int) = c ∨ ¬ gvd (f 75 a.toNat) (f 50 7) b q p m) → (m : Int) ≤ c → Q (some (zI m)) zSH (rN f q p m)) : zR sc 199 179 69 [] [(0, zP 50), (1, zI a), (2, zI b), (3, zI c), (4, zI 0), (5, zI 1)] 0 0 zSH f Q := by
  have L : ∀ (n t : Nat), (t : Int) + (n : Int) = c → (∀ u, u < t → gvd (f 75 a.toNat) (f 50 7) b q p u) → zR sc 199 179 69 [] [(0, zP 50), (1, zI a), (2, zI b), (3, zI c), (4, zI (t : Int)), (5, zI 1)] 0 0 zSH (rN f q p t) Q := by
    intro n
    induction n with
    | zero =>
      intro t ht hu
      refine b179_69 ?_
      rw [if_neg (by omega), if_neg (by omega)]
      exact hQ t hu (Or.inl (by omega)) (by omega)
    | succ n ih =>
      intro t ht hu
      have e48 : rN f q p t 75 a.toNat = f 75 a.toNat := congrFun (rN_o (by decide) (by decide) t) _
      have e11 : rN f q p t 50 7 = f 50 7 + (t : Int) := rN_7 t
      have eq1 : rN f q p t 76 (60 * a + b + 2 * (t : Int)).toNat = q t := by rw [rN_o (by decide) (by decide)]; exact (hq t).symm
      have ep1 : rN f q p t 76 (60 * a + b + 2 * (t : Int) + 1).toNat = p t := by rw [rN_o (by decide) (by decide)]; exact (hp t).symm
      have hn := hQ t hu
      have hs := ih (t + 1) (by omega)
      have hx : rN f q p (t + 1) = rAdd (rN f q p t) (rN f q p t 76 (60 * a + b + 2 * (t : Int)).toNat) (rN f q p t 76 (60 * a + b + 2 * (t : Int) + 1).toNat) := by rw [eq1, ep1]; rfl
      rw [hx, show ((t + 1 : Nat) : Int) = (t : Int) + 1 by omega] at hs
      have hv : (∀ u, u < t + 1 → gvd (f 75 a.toNat) (f 50 7) b q p u) ∨ ¬ gvd (f 75 a.toNat) (f 50 7) b q p t := by
        by_cases hg : gvd (f 75 a.toNat) (f 50 7) b q p t
        · refine Or.inl (fun u hu2 => ?_)
          rcases Nat.lt_or_ge u t with h | h
          · exact hu u h
          · rw [show u = t by omega]; exact hg
        · exact Or.inr hg
      have zq : f 75 a.toNat < b + 2 * (t : Int) + 2 ∨ ((-2147483648 ≤ q t ∧ q t ≤ 2147483647) ∧ (-2147483648 ≤ p t ∧ p t ≤ 2147483647)) := by
        by_cases h2 : f 75 a.toNat < b + 2 * (t : Int) + 2
        · exact Or.inl h2
        · rw [hp t, hq t]
          exact Or.inr ⟨hz _ (by omega) (by omega), hz _ (by omega) (by omega)⟩
      refine b179_69 ?_
      clear hQ hu ih hz hx
      generalize rN f q p t = G at *
      rw [if_neg (by omega), if_pos (by omega)]
      refine zix_p (by omega) ?_
      rw [w32_in (z := G 75 a.toNat - 2) (by omega), w32_in (z := 2 * (t : Int)) (by omega), w32_in (z := G 75 a.toNat - 2 - 2 * (t : Int)) (by omega)]
      refine zit (fun h1 => jg_0 (hn (Or.inr (fun hv => by unfold gvd at hv; omega)) (by omega))) (fun h1 => ?_)
      refine zit (fun h2 => ?_) (fun h2 => jg_0 (hn (Or.inr (fun hv => by unfold gvd at hv; omega)) (by omega)))
      rw [w32_in (z := 60 * a) (by omega), w32_in (z := 60 * a + b) (by omega), w32_in (z := 60 * a + b + 2 * (t : Int)) (by omega), w32_in (z := 60 * a + b + 2 * (t : Int) + 1) (by omega), w32_in (z := G 76 (60 * a + b + 2 * (t : Int)).toNat) (by omega), w32_in (z := G 76 (60 * a + b + 2 * (t : Int) + 1).toNat) (by omega), w32_in (z := (t : Int) + 1) (by omega)]
      simp only [zlc_lt, zlc_gt]
      repeat' (first | (refine zix_p (by omega) ?_) | (refine zov_p (by omega) ?_) | (refine zit (fun h => ?_) (fun h => ?_)))
      all_goals try (exfalso; omega)
      all_goals try exact jg_0 (hn (Or.inr (fun hv => by unfold gvd at hv; omega)) (by omega))
      rcases hv with hv | hv
      · exact hs hv
      · exfalso
        apply hv
        unfold gvd
        omega
  exact L c.toNat 0 (by omega) (fun u hu => by omega)
theorem gvd_u {len len' g g' b c : Int} {q p q' p' : Nat → Int} (h1 : len = len') (h2 : g = g') (h3 : q = q') (h4 : p = p') {m n : Nat} (a1 : ∀ u, u < m → gvd len g b q p u) (a2 : (m : Int) = c ∨ ¬ gvd len g b q p m) (a3 : (m : Int) ≤ c) (b1 : ∀ u, u < n → gvd len' g' b q' p' u) (b2 : (n : Int) = c ∨ ¬ gvd len' g' b q' p' n) (b3 : (n : Int) ≤ c) : m = n := by
  subst h1 h2 h3 h4
  rcases Nat.lt_trichotomy m n with h | h | h
  · rcases a2 with a2 | a2
    · omega
    · exact absurd (b1 m h) a2
  · exact h
  · rcases b2 with b2 | b2
    · omega
    · exact absurd (a1 n h) b2
theorem wI_gr {f : zF} {q p q' p' : Nat → Int} (i : wI f) (m : Nat) : wI (rN (gN f q p m) q' p' m) := by
  have o : ∀ {c : Nat}, c ≠ 1 → c ≠ 2 → c ≠ 50 → c ≠ 51 → ∀ j, rN (gN f q p m) q' p' m c j = f c j := fun h1 h2 h3 h4 j => by rw [rN_o h3 h4, gN_o h1 h2]
  refine wI_tp i (fun {a b} hp j hj => ?_) ?_ ?_ (fun j => ?_)
  · by_cases h : a = 50
    · subst h
      have hb : b = 40 ∨ b = 43 := (show ∀ q ∈ wKt, q.1 = 50 → q.2 = 40 ∨ q.2 = 43 by decide) (50, b) hp rfl
      rw [rN_50 (by omega), gN_o (by decide) (by decide)]
    · have ha : a ≠ 1 ∧ a ≠ 2 ∧ a ≠ 51 := (show ∀ q ∈ wKt, q.1 ≠ 1 ∧ q.1 ≠ 2 ∧ q.1 ≠ 51 by decide) (a, b) hp
      exact o ha.1 ha.2.1 h ha.2.2 j
  · rw [rN_7, rN_o (by decide) (by decide), gN_1, gN_o (by decide) (by decide), i.1.1]
  · rw [rN_50 (by decide), rN_o (by decide) (by decide), gN_o (by decide) (by decide), gN_o (by decide) (by decide)]; exact i.1.2.2.2
  · rw [o (by decide) (by decide) (by decide) (by decide), o (by decide) (by decide) (by decide) (by decide)]; exact i.2.1.2.2.2 j
set_option maxHeartbeats 4000000 in
theorem jk_2 {sc : zC} {f0 : zF} (g0 : aGok wG (afx sc f0)) (i0 : wI f0) {a b c : Int} (hb : zIn b) : zR sc 199 120 0 [] [(0, zP (0)), (1, zI a), (2, zI b), (3, zI c)] 0 0 zSH f0 (fun r _ f1 => ∃ v, r = some (zI v) ∧ zR sc 199 179 0 [] [(0, zP (50)), (1, zI a), (2, zI b), (3, zI c)] 0 0 zSH f1 (fun r _ f2 => ∃ w, r = some (zI w) ∧ wI f2 ∧ v = w)) := by
  obtain ⟨⟨i1, i2, i3, i4⟩, ⟨k1, k2, k3, k4⟩, s⟩ := id i0
  unfold zIn at hb
  have e1 : (0 : Int) ≤ f0 1 1 ∧ f0 1 1 ≤ 7 := wG_at (F := afx sc f0) (c := 1) (j := 1) (I := (.ofNat 0, .ofNat 7)) g0.1 rfl
  have e2 : (0 : Int) ≤ f0 42 1 ∧ f0 42 1 ≤ 50 := wG_at (F := afx sc f0) (c := 42) (j := 1) (I := (.ofNat 0, .ofNat 50)) g0.1 rfl
  by_cases ha : 0 ≤ a ∧ a < 6
  rotate_left
  · refine b120_0 ?_
    repeat' (first | (refine zix_p (by omega) ?_) | (refine zov_p (by omega) ?_) | (refine zit (fun h => ?_) (fun h => ?_)))
    all_goals try (exfalso; omega)
    all_goals refine ⟨_, rfl, b179_0 ?_⟩
    all_goals simp only [zlc_lt, zlc_gt]
    all_goals repeat' (first | (refine zix_p (by omega) ?_) | (refine zov_p (by omega) ?_) | (refine zit (fun h => ?_) (fun h => ?_)))
    all_goals try (exfalso; omega)
    all_goals exact ⟨_, rfl, i0, rfl⟩
  have sd := (s a.toNat (by omega)).1
  have sz := (s a.toNat (by omega)).2
  have l1 : (0 : Int) ≤ f0 48 a.toNat ∧ f0 48 a.toNat ≤ 60 := wG_rd (F := afx sc f0) (c := 48) (b := 6) (I := (.ofNat 0, .ofNat 60)) g0.1 rfl (by omega)
  have l2 : (-2 : Int) ≤ f0 46 a.toNat ∧ f0 46 a.toNat ≤ 4 := wG_rd (F := afx sc f0) (c := 46) (b := 6) (I := (.negSucc 1, .ofNat 4)) g0.1 rfl (by omega)
  refine b120_0 ?_
  repeat' (first | (refine zix_p (by omega) ?_) | (refine zov_p (by omega) ?_) | (refine zit (fun h => ?_) (fun h => ?_)))
  all_goals try (exfalso; omega)
  all_goals try (refine ⟨_, rfl, b179_0 ?_⟩; (try simp only [zlc_lt, zlc_gt]); repeat' (first | (refine zix_p (by omega) ?_) | (refine zov_p (by omega) ?_) | (refine zit (fun h => ?_) (fun h => ?_))))
  all_goals try (exfalso; omega)
  all_goals try exact ⟨_, rfl, i0, rfl⟩
  all_goals try exact jg_0 ⟨_, rfl, i0, rfl⟩
  refine jg_1 (q := fun t => f0 49 (a * 60 + (b + 2 * (t : Int))).toNat) (p := fun t => f0 49 (a * 60 + (b + 2 * (t : Int) + 1)).toNat) ha (by omega) hb l1 e1 (sz (by omega)) (fun _ => rfl) (fun _ => rfl) (fun m m1 m2 m3 => ⟨_, rfl, b179_0 ?_⟩)
  have h74 : gN f0 (fun t => f0 49 (a * 60 + (b + 2 * (t : Int))).toNat) (fun t => f0 49 (a * 60 + (b + 2 * (t : Int) + 1)).toNat) m 74 a.toNat = f0 74 a.toNat := congrFun (gN_o (by decide) (by decide) m) _
  have h75 : gN f0 (fun t => f0 49 (a * 60 + (b + 2 * (t : Int))).toNat) (fun t => f0 49 (a * 60 + (b + 2 * (t : Int) + 1)).toNat) m 75 a.toNat = f0 75 a.toNat := congrFun (gN_o (by decide) (by decide) m) _
  have h76 : gN f0 (fun t => f0 49 (a * 60 + (b + 2 * (t : Int))).toNat) (fun t => f0 49 (a * 60 + (b + 2 * (t : Int) + 1)).toNat) m 76 = f0 76 := gN_o (by decide) (by decide) m
  have h507 : gN f0 (fun t => f0 49 (a * 60 + (b + 2 * (t : Int))).toNat) (fun t => f0 49 (a * 60 + (b + 2 * (t : Int) + 1)).toNat) m 50 7 = f0 50 7 := congrFun (gN_o (by decide) (by decide) m) _
  have hw := fun q' p' => wI_gr (q := fun t => f0 49 (a * 60 + (b + 2 * (t : Int))).toNat) (p := fun t => f0 49 (a * 60 + (b + 2 * (t : Int) + 1)).toNat) (q' := q') (p' := p') i0 m
  have hm0 : b < 0 → m = 0 := fun hb => by
    rcases Nat.eq_zero_or_pos m with h | h
    · exact h
    · exact absurd (m1 0 h).1 (by omega)
  simp only [zlc_lt, zlc_gt]
  repeat' (first | (refine zix_p (by omega) ?_) | (refine zov_p (by omega) ?_) | (refine zit (fun h => ?_) (fun h => ?_)))
  all_goals try (exfalso; omega)
  · have := hm0 (by assumption)
    subst this
    exact jg_0 ⟨_, rfl, i0, rfl⟩
  · refine jg_2 (q := fun t => f0 49 (a * 60 + (b + 2 * (t : Int))).toNat) (p := fun t => f0 49 (a * 60 + (b + 2 * (t : Int) + 1)).toNat) ha (by omega) (by omega) (by omega) (by omega) (fun j j1 j2 => by rw [h76, ← k3]; exact sz (by omega) j j1 j2) (fun t => by rw [h76, ← k3]; exact congrArg (f0 49) (by omega)) (fun t => by rw [h76, ← k3]; exact congrArg (f0 49) (by omega)) (fun n n1 n2 n3 => ?_)
    have e := gvd_u (by omega) (by omega) rfl rfl m1 m2 m3 n1 n2 n3
    subst e
    exact ⟨_, rfl, hw _ _, rfl⟩
set_option maxRecDepth 100000 in
theorem b125_0 {sc : zC} {f : zF} {Q : zQ} (h : ∃ A2 : zQ, zR sc (198) 100 0 [] [(0, zP (19))] 0 0 zSH f A2 ∧ ∀ (r3 : Int) (f1 : zF), zIn r3 → A2 (some (zI r3)) zSH f1 → (if r3 < 0 then (if 0 ≤ (0 : Int) ∧ 0 ≤ (0 : Int) ∧ 0 ≤ (if 121 < f1 (19) (3) then 121 else f1 (19) (3) : Int) ∧ (0 : Int) + (if 121 < f1 (19) (3) then 121 else f1 (19) (3) : Int) ≤ (121 : Int) ∧ (0 : Int) + (if 121 < f1 (19) (3) then 121 else f1 (19) (3) : Int) ≤ (121 : Int) then (if r3 < 0 then (Q (some (zI (1))) zSH (zup (zup (zcp f1 (21) (23) (0) (0) ((if 121 < f1 (19) (3) then 121 else f1 (19) (3)).toNat)) (22) (1) (if 121 < f1 (19) (3) then 121 else f1 (19) (3))) (19) (1) (0))) else (Q (some (zI (w32 ((-100) - r3)))) zSH (zup (zup (zcp f1 (21) (23) (0) (0) ((if 121 < f1 (19) (3) then 121 else f1 (19) (3)).toNat)) (22) (1) (if 121 < f1 (19) (3) then 121 else f1 (19) (3))) (19) (1) (0)))) else False) else (if r3 < 0 then (Q (some (zI (1))) zSH (zup f1 (19) (1) (0))) else (Q (some (zI (w32 ((-100) - r3)))) zSH (zup f1 (19) (1) (0)))))) : zR sc (199) 125 0 [] [(0, zP (0))] 0 0 zSH f Q := zwn_R (stp := fun _ _ => none) (inl := fun j => bif Nat.beq j 28 then true else bif Nat.beq j 99 then true else bif Nat.beq j 98 then true else false) (nov := (fun j => bif Nat.beq j 125 then false else true)) 67 h
set_option maxRecDepth 100000 in
theorem b197_0 {sc : zC} {f : zF} {Q : zQ} (h : ∃ A2 : zQ, zR sc (198) 196 0 [] [(0, zP (50)), (1, zI (-1)), (2, zI (f (50) (10)))] 0 0 zSH f A2 ∧ ∀ (r3 : Int) (f1 : zF), zIn r3 → A2 (some (zI r3)) zSH f1 → (if f1 (50) (16) < 0 then (zR sc (199) 197 37 [] [(0, zP (50)), (2, zI (f1 (50) (10))), (3, zI (0))] 0 0 zSH (zup f1 (50) (10) (0)) Q) else (zov ((-100) - (f1 (50) (16))) (Q (some (zI ((-100) - (f1 (50) (16))))) zSH (zup f1 (50) (10) (0)))))) : zR sc (199) 197 0 [] [(0, zP (50))] 0 0 zSH f Q := zwn_R (stp := fun mi pc => bif Nat.beq mi 197 && Nat.beq pc 37 then some [0, 2, 3] else none) (inl := fun j => bif Nat.beq j 17 then true else bif Nat.beq j 18 then true else bif Nat.beq j 19 then true else bif Nat.beq j 20 then true else bif Nat.beq j 22 then true else bif Nat.beq j 23 then true else bif Nat.beq j 25 then true else bif Nat.beq j 28 then true else bif Nat.beq j 50 then true else bif Nat.beq j 51 then true else bif Nat.beq j 52 then true else bif Nat.beq j 53 then true else bif Nat.beq j 54 then true else bif Nat.beq j 55 then true else bif Nat.beq j 56 then true else bif Nat.beq j 57 then true else bif Nat.beq j 58 then true else bif Nat.beq j 59 then true else bif Nat.beq j 60 then true else bif Nat.beq j 62 then true else bif Nat.beq j 63 then true else bif Nat.beq j 64 then true else bif Nat.beq j 65 then true else bif Nat.beq j 66 then true else bif Nat.beq j 67 then true else bif Nat.beq j 68 then true else bif Nat.beq j 69 then true else bif Nat.beq j 70 then true else bif Nat.beq j 71 then true else bif Nat.beq j 72 then true else bif Nat.beq j 73 then true else bif Nat.beq j 74 then true else bif Nat.beq j 75 then true else bif Nat.beq j 76 then true else bif Nat.beq j 77 then true else bif Nat.beq j 78 then true else bif Nat.beq j 79 then true else bif Nat.beq j 85 then true else bif Nat.beq j 86 then true else bif Nat.beq j 87 then true else bif Nat.beq j 92 then true else bif Nat.beq j 93 then true else bif Nat.beq j 95 then true else bif Nat.beq j 96 then true else bif Nat.beq j 97 then true else bif Nat.beq j 98 then true else bif Nat.beq j 99 then true else bif Nat.beq j 165 then true else bif Nat.beq j 166 then true else bif Nat.beq j 167 then true else bif Nat.beq j 170 then true else bif Nat.beq j 171 then true else bif Nat.beq j 172 then true else bif Nat.beq j 173 then true else bif Nat.beq j 174 then true else bif Nat.beq j 175 then true else bif Nat.beq j 176 then true else bif Nat.beq j 177 then true else bif Nat.beq j 178 then true else bif Nat.beq j 180 then true else bif Nat.beq j 181 then true else bif Nat.beq j 182 then true else bif Nat.beq j 183 then true else bif Nat.beq j 184 then true else bif Nat.beq j 185 then true else bif Nat.beq j 186 then true else bif Nat.beq j 187 then true else bif Nat.beq j 188 then true else bif Nat.beq j 191 then true else bif Nat.beq j 194 then true else bif Nat.beq j 200 then true else bif Nat.beq j 204 then true else bif Nat.beq j 205 then true else bif Nat.beq j 206 then true else bif Nat.beq j 209 then true else bif Nat.beq j 215 then true else bif Nat.beq j 220 then true else bif Nat.beq j 223 then true else bif Nat.beq j 224 then true else bif Nat.beq j 237 then true else bif Nat.beq j 238 then true else bif Nat.beq j 239 then true else bif Nat.beq j 240 then true else bif Nat.beq j 243 then true else bif Nat.beq j 244 then true else bif Nat.beq j 245 then true else bif Nat.beq j 246 then true else bif Nat.beq j 247 then true else bif Nat.beq j 252 then true else bif Nat.beq j 253 then true else bif Nat.beq j 254 then true else bif Nat.beq j 255 then true else bif Nat.beq j 257 then true else bif Nat.beq j 258 then true else bif Nat.beq j 259 then true else bif Nat.beq j 260 then true else bif Nat.beq j 263 then true else false) (nov := fun _ => true) 24 h
set_option maxRecDepth 100000 in
theorem b197_37 {sc : zC} {x2 x3 : Int} {f : zF} {Q : zQ} (h : if x3 < x2 then (zix x3 (120) (zix x3 (120) (zov (x3 + 1) (zR sc (199) 197 37 [] [(0, zP (50)), (2, zI x2), (3, zI (x3 + 1))] 0 0 zSH (zup f (57) (x3.toNat) (f (56) (x3.toNat))) Q)))) else (Q (some (zI (1))) zSH (zup f (50) (12) x2))) : zR sc (199) 197 37 [] [(0, zP (50)), (2, zI x2), (3, zI x3)] 0 0 zSH f Q := zwn_R (stp := fun mi pc => bif Nat.beq mi 197 && Nat.beq pc 37 then some [0, 2, 3] else none) (inl := fun j => bif Nat.beq j 17 then true else bif Nat.beq j 18 then true else bif Nat.beq j 19 then true else bif Nat.beq j 20 then true else bif Nat.beq j 22 then true else bif Nat.beq j 23 then true else bif Nat.beq j 25 then true else bif Nat.beq j 28 then true else bif Nat.beq j 50 then true else bif Nat.beq j 51 then true else bif Nat.beq j 52 then true else bif Nat.beq j 53 then true else bif Nat.beq j 54 then true else bif Nat.beq j 55 then true else bif Nat.beq j 56 then true else bif Nat.beq j 57 then true else bif Nat.beq j 58 then true else bif Nat.beq j 59 then true else bif Nat.beq j 60 then true else bif Nat.beq j 62 then true else bif Nat.beq j 63 then true else bif Nat.beq j 64 then true else bif Nat.beq j 65 then true else bif Nat.beq j 66 then true else bif Nat.beq j 67 then true else bif Nat.beq j 68 then true else bif Nat.beq j 69 then true else bif Nat.beq j 70 then true else bif Nat.beq j 71 then true else bif Nat.beq j 72 then true else bif Nat.beq j 73 then true else bif Nat.beq j 74 then true else bif Nat.beq j 75 then true else bif Nat.beq j 76 then true else bif Nat.beq j 77 then true else bif Nat.beq j 78 then true else bif Nat.beq j 79 then true else bif Nat.beq j 85 then true else bif Nat.beq j 86 then true else bif Nat.beq j 87 then true else bif Nat.beq j 92 then true else bif Nat.beq j 93 then true else bif Nat.beq j 95 then true else bif Nat.beq j 96 then true else bif Nat.beq j 97 then true else bif Nat.beq j 98 then true else bif Nat.beq j 99 then true else bif Nat.beq j 165 then true else bif Nat.beq j 166 then true else bif Nat.beq j 167 then true else bif Nat.beq j 170 then true else bif Nat.beq j 171 then true else bif Nat.beq j 172 then true else bif Nat.beq j 173 then true else bif Nat.beq j 174 then true else bif Nat.beq j 175 then true else bif Nat.beq j 176 then true else bif Nat.beq j 177 then true else bif Nat.beq j 178 then true else bif Nat.beq j 180 then true else bif Nat.beq j 181 then true else bif Nat.beq j 182 then true else bif Nat.beq j 183 then true else bif Nat.beq j 184 then true else bif Nat.beq j 185 then true else bif Nat.beq j 186 then true else bif Nat.beq j 187 then true else bif Nat.beq j 188 then true else bif Nat.beq j 191 then true else bif Nat.beq j 194 then true else bif Nat.beq j 200 then true else bif Nat.beq j 204 then true else bif Nat.beq j 205 then true else bif Nat.beq j 206 then true else bif Nat.beq j 209 then true else bif Nat.beq j 215 then true else bif Nat.beq j 220 then true else bif Nat.beq j 223 then true else bif Nat.beq j 224 then true else bif Nat.beq j 237 then true else bif Nat.beq j 238 then true else bif Nat.beq j 239 then true else bif Nat.beq j 240 then true else bif Nat.beq j 243 then true else bif Nat.beq j 244 then true else bif Nat.beq j 245 then true else bif Nat.beq j 246 then true else bif Nat.beq j 247 then true else bif Nat.beq j 252 then true else bif Nat.beq j 253 then true else bif Nat.beq j 254 then true else bif Nat.beq j 255 then true else bif Nat.beq j 257 then true else bif Nat.beq j 258 then true else bif Nat.beq j 259 then true else bif Nat.beq j 260 then true else bif Nat.beq j 263 then true else false) (nov := fun _ => true) 20 h
theorem jc_7 {sc : zC} {f0 : zF} (g0 : aGok wG (afx sc f0)) : zR sc 199 125 0 [] [(0, zP 0)] 0 0 zSH f0 (fun r _ f1 => ∃ v, r = some (zI v) ∧ f1 19 1 = 0) := by
  refine b125_0 ?_
  refine wcallI wS_96_ok (wr 0 0 0 0 0) (by decide) rfl rfl (aNm_c ⟨Int.le_refl _, Int.le_refl _⟩ aNm_n) rfl rfl g0 (fun z f1 g1 w1 => ?_)
  have e : (0 : Int) ≤ f1 19 3 ∧ f1 19 3 ≤ 121 := wG_at (F := afx sc f1) (c := 19) (j := 3) (I := (.ofNat 0, .ofNat 121)) g1.1 rfl
  have hn : (if 121 < f1 19 3 then 121 else f1 19 3) = f1 19 3 := if_neg (by omega)
  simp only [hn]
  repeat' (first | (refine zix_p (by omega) ?_) | (refine zov_p (by omega) ?_) | (refine zit (fun h => ?_) (fun h => ?_)))
  all_goals try (exfalso; omega)
  all_goals exact ⟨_, rfl, rfl⟩
set_option maxRecDepth 10000 in
theorem jr_7 {sc : zC} {f : zF} (g : aGok wG (afx sc f)) : zR sc 199 197 0 [] [(0, zP 50)] 0 0 zSH f (fun r _ f2 => ∃ w, r = some (zI w) ∧ f2 50 10 = 0) := by
  have e : (0 : Int) ≤ f 50 10 ∧ f 50 10 ≤ 120 := wG_at (F := afx sc f) (c := 50) (j := 10) (I := (.ofNat 0, .ofNat 120)) g.1 rfl
  refine b197_0 ?_
  refine wcallI wS_140_ok (wr (f 50 10) 0 0 0 0) (by decide) rfl rfl (aNm_c ⟨Int.le_refl _, Int.le_refl _⟩ (aNm_c e aNm_n)) rfl (by
    show [(0, zP 50), (1, zI (0 + -1)), (2, zI (f 50 10 + 0))] = _
    rw [Int.add_zero]
    rfl) g (fun z f1 g1 w1 => ?_)
  have e2 : (0 : Int) ≤ f1 50 10 ∧ f1 50 10 ≤ 120 := wG_at (F := afx sc f1) (c := 50) (j := 10) (I := (.ofNat 0, .ofNat 120)) g1.1 rfl
  have e3 : (-1 : Int) ≤ f1 50 16 ∧ f1 50 16 ≤ 120 := wG_at (F := afx sc f1) (c := 50) (j := 16) (I := (.negSucc 0, .ofNat 120)) g1.1 rfl
  have L : ∀ k, k ≤ (f1 50 10).toNat → zR sc 199 197 37 [] [(0, zP 50), (2, zI (f1 50 10)), (3, zI ((k : Nat) : Int))] 0 0 zSH (zfl (zup f1 50 10 0) 57 0 k (fun j => f1 56 j)) (fun r _ f2 => ∃ w, r = some (zI w) ∧ f2 50 10 = 0) := by
    refine zloop (f1 50 10).toNat (fun k hk h => b197_37 ?_) (b197_37 ?_)
    · rw [if_pos (by omega)]
      refine zix_p (by omega) (zix_p (by omega) (zov_p (by omega) ?_))
      rw [zfl_s (by omega) (by rfl)]
      exact h
    · rw [if_neg (by omega)]
      exact ⟨_, rfl, rfl⟩
  refine zit (fun h => ?_) (fun h => zov_p (by omega) ⟨_, rfl, rfl⟩)
  have := L 0 (by omega)
  rw [zfl_0] at this
  exact this
theorem jw_7 {f0 f1 f2 : zF} (i : wI f0) (w0 : aFr wS_97.2.2.2.2.2.1 f0 f1) (w1 : aFr wS_141.2.2.2.2.2.1 f1 f2) (h1 : f1 19 1 = 0) (h2 : f2 50 10 = 0) : wI f2 := by
  refine wI_tp i (fun {a b} hp j hj => ?_) ?_ ?_ (fun j => ?_)
  · rw [w1 _ _ (wav_ok (K := wKt) (by decide) hp hj), w0 _ _ (wav_ok (K := wKt) (by decide) hp hj)]
  · rw [w1 1 1 rfl, w1 50 7 rfl, w0 1 1 rfl, w0 50 7 rfl]; exact i.1.1
  · rw [w1 19 1 rfl, h1, h2]
  · rw [w1 20 j rfl, w1 56 j rfl, w0 20 j rfl, w0 56 j rfl]; exact i.2.1.2.2.2 j
end
