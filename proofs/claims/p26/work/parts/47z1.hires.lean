noncomputable section
/-! clutter of all, by who is hired: both -/
set_option maxRecDepth 4000 in
set_option maxHeartbeats 400000 in
theorem sN_c {F : Nat → Int} : ∀ n : Nat, (∀ k, k < n → F k ≤ 9999) → sN F n ≤ 9999 * (n : Int)
  | 0, _ => Int.le_refl _
  | n + 1, h => by
    have h1 := sN_c n (fun k hk => h k (by omega))
    have h2 := h n (by omega)
    show sN F n + F n ≤ 9999 * ((n + 1 : Nat) : Int)
    omega
set_option maxRecDepth 100000 in
theorem t83_0 {sc : zC} {d : Nat} {f : zF} {Q : zQ} (h : zR sc (d + 1) 83 4 [] [(0, zP (7)), (1, zI (0)), (2, zI (0))] 0 0 zSH f Q) : zR sc (d + 1) 83 0 [] [(0, zP (7))] 0 0 zSH f Q := zwn_R (stp := fun mi pc => bif Nat.beq mi 83 && Nat.beq pc 4 then some [0, 1, 2] else none) (inl := fun j => bif Nat.beq j 14 then true else bif Nat.beq j 15 then true else bif Nat.beq j 16 then true else bif Nat.beq j 17 then true else bif Nat.beq j 18 then true else bif Nat.beq j 19 then true else bif Nat.beq j 20 then true else bif Nat.beq j 22 then true else bif Nat.beq j 23 then true else bif Nat.beq j 25 then true else bif Nat.beq j 28 then true else bif Nat.beq j 50 then true else bif Nat.beq j 51 then true else bif Nat.beq j 52 then true else bif Nat.beq j 53 then true else bif Nat.beq j 54 then true else bif Nat.beq j 55 then true else bif Nat.beq j 56 then true else bif Nat.beq j 57 then true else bif Nat.beq j 58 then true else bif Nat.beq j 59 then true else bif Nat.beq j 60 then true else bif Nat.beq j 62 then true else bif Nat.beq j 63 then true else bif Nat.beq j 64 then true else bif Nat.beq j 65 then true else bif Nat.beq j 66 then true else bif Nat.beq j 67 then true else bif Nat.beq j 68 then true else bif Nat.beq j 69 then true else bif Nat.beq j 70 then true else bif Nat.beq j 71 then true else bif Nat.beq j 72 then true else bif Nat.beq j 73 then true else bif Nat.beq j 74 then true else bif Nat.beq j 75 then true else bif Nat.beq j 76 then true else bif Nat.beq j 77 then true else bif Nat.beq j 78 then true else bif Nat.beq j 79 then true else bif Nat.beq j 85 then true else bif Nat.beq j 86 then true else bif Nat.beq j 87 then true else bif Nat.beq j 92 then true else bif Nat.beq j 93 then true else bif Nat.beq j 95 then true else bif Nat.beq j 96 then true else bif Nat.beq j 97 then true else bif Nat.beq j 98 then true else bif Nat.beq j 99 then true else bif Nat.beq j 165 then true else bif Nat.beq j 166 then true else bif Nat.beq j 167 then true else bif Nat.beq j 170 then true else bif Nat.beq j 171 then true else bif Nat.beq j 172 then true else bif Nat.beq j 173 then true else bif Nat.beq j 174 then true else bif Nat.beq j 175 then true else bif Nat.beq j 176 then true else bif Nat.beq j 177 then true else bif Nat.beq j 178 then true else bif Nat.beq j 180 then true else bif Nat.beq j 181 then true else bif Nat.beq j 182 then true else bif Nat.beq j 183 then true else bif Nat.beq j 184 then true else bif Nat.beq j 185 then true else bif Nat.beq j 186 then true else bif Nat.beq j 187 then true else bif Nat.beq j 188 then true else bif Nat.beq j 191 then true else bif Nat.beq j 194 then true else bif Nat.beq j 200 then true else bif Nat.beq j 204 then true else bif Nat.beq j 205 then true else bif Nat.beq j 206 then true else bif Nat.beq j 209 then true else bif Nat.beq j 215 then true else bif Nat.beq j 220 then true else bif Nat.beq j 223 then true else bif Nat.beq j 224 then true else bif Nat.beq j 237 then true else bif Nat.beq j 238 then true else bif Nat.beq j 239 then true else bif Nat.beq j 240 then true else bif Nat.beq j 243 then true else bif Nat.beq j 244 then true else bif Nat.beq j 245 then true else bif Nat.beq j 246 then true else bif Nat.beq j 247 then true else bif Nat.beq j 252 then true else bif Nat.beq j 253 then true else bif Nat.beq j 254 then true else bif Nat.beq j 255 then true else bif Nat.beq j 257 then true else bif Nat.beq j 258 then true else bif Nat.beq j 259 then true else bif Nat.beq j 260 then true else bif Nat.beq j 263 then true else false) (nov := (fun j => bif Nat.beq j 143 then false else bif Nat.beq j 144 then false else bif Nat.beq j 242 then false else bif Nat.beq j 236 then false else bif Nat.beq j 237 then false else bif Nat.beq j 241 then false else bif Nat.beq j 239 then false else bif Nat.beq j 96 then false else true)) 6 h
set_option maxRecDepth 100000 in
theorem t83_4 {sc : zC} {d : Nat} {x1 x2 : Int} {f : zF} {Q : zQ} (h : if x2 < f (7) (0) then (zov ((24) + x2) (zix ((24) + x2) (60) (zov (x1 + (f (8) (((24) + x2).toNat))) (zov (x2 + 1) (zR sc (d + 1) 83 4 [] [(0, zP (7)), (1, zI (x1 + (f (8) (((24) + x2).toNat)))), (2, zI (x2 + 1))] 0 0 zSH f Q))))) else (Q (some (zI x1)) zSH f)) : zR sc (d + 1) 83 4 [] [(0, zP (7)), (1, zI x1), (2, zI x2)] 0 0 zSH f Q := zwn_R (stp := fun mi pc => bif Nat.beq mi 83 && Nat.beq pc 4 then some [0, 1, 2] else none) (inl := fun j => bif Nat.beq j 14 then true else bif Nat.beq j 15 then true else bif Nat.beq j 16 then true else bif Nat.beq j 17 then true else bif Nat.beq j 18 then true else bif Nat.beq j 19 then true else bif Nat.beq j 20 then true else bif Nat.beq j 22 then true else bif Nat.beq j 23 then true else bif Nat.beq j 25 then true else bif Nat.beq j 28 then true else bif Nat.beq j 50 then true else bif Nat.beq j 51 then true else bif Nat.beq j 52 then true else bif Nat.beq j 53 then true else bif Nat.beq j 54 then true else bif Nat.beq j 55 then true else bif Nat.beq j 56 then true else bif Nat.beq j 57 then true else bif Nat.beq j 58 then true else bif Nat.beq j 59 then true else bif Nat.beq j 60 then true else bif Nat.beq j 62 then true else bif Nat.beq j 63 then true else bif Nat.beq j 64 then true else bif Nat.beq j 65 then true else bif Nat.beq j 66 then true else bif Nat.beq j 67 then true else bif Nat.beq j 68 then true else bif Nat.beq j 69 then true else bif Nat.beq j 70 then true else bif Nat.beq j 71 then true else bif Nat.beq j 72 then true else bif Nat.beq j 73 then true else bif Nat.beq j 74 then true else bif Nat.beq j 75 then true else bif Nat.beq j 76 then true else bif Nat.beq j 77 then true else bif Nat.beq j 78 then true else bif Nat.beq j 79 then true else bif Nat.beq j 85 then true else bif Nat.beq j 86 then true else bif Nat.beq j 87 then true else bif Nat.beq j 92 then true else bif Nat.beq j 93 then true else bif Nat.beq j 95 then true else bif Nat.beq j 96 then true else bif Nat.beq j 97 then true else bif Nat.beq j 98 then true else bif Nat.beq j 99 then true else bif Nat.beq j 165 then true else bif Nat.beq j 166 then true else bif Nat.beq j 167 then true else bif Nat.beq j 170 then true else bif Nat.beq j 171 then true else bif Nat.beq j 172 then true else bif Nat.beq j 173 then true else bif Nat.beq j 174 then true else bif Nat.beq j 175 then true else bif Nat.beq j 176 then true else bif Nat.beq j 177 then true else bif Nat.beq j 178 then true else bif Nat.beq j 180 then true else bif Nat.beq j 181 then true else bif Nat.beq j 182 then true else bif Nat.beq j 183 then true else bif Nat.beq j 184 then true else bif Nat.beq j 185 then true else bif Nat.beq j 186 then true else bif Nat.beq j 187 then true else bif Nat.beq j 188 then true else bif Nat.beq j 191 then true else bif Nat.beq j 194 then true else bif Nat.beq j 200 then true else bif Nat.beq j 204 then true else bif Nat.beq j 205 then true else bif Nat.beq j 206 then true else bif Nat.beq j 209 then true else bif Nat.beq j 215 then true else bif Nat.beq j 220 then true else bif Nat.beq j 223 then true else bif Nat.beq j 224 then true else bif Nat.beq j 237 then true else bif Nat.beq j 238 then true else bif Nat.beq j 239 then true else bif Nat.beq j 240 then true else bif Nat.beq j 243 then true else bif Nat.beq j 244 then true else bif Nat.beq j 245 then true else bif Nat.beq j 246 then true else bif Nat.beq j 247 then true else bif Nat.beq j 252 then true else bif Nat.beq j 253 then true else bif Nat.beq j 254 then true else bif Nat.beq j 255 then true else bif Nat.beq j 257 then true else bif Nat.beq j 258 then true else bif Nat.beq j 259 then true else bif Nat.beq j 260 then true else bif Nat.beq j 263 then true else false) (nov := (fun j => bif Nat.beq j 143 then false else bif Nat.beq j 144 then false else bif Nat.beq j 242 then false else bif Nat.beq j 236 then false else bif Nat.beq j 237 then false else bif Nat.beq j 241 then false else bif Nat.beq j 239 then false else bif Nat.beq j 96 then false else true)) 19 h
set_option maxRecDepth 100000 in
theorem t214_0 {sc : zC} {d : Nat} {f : zF} {Q : zQ} (h : zR sc (d + 1) 214 4 [] [(0, zP (50)), (1, zI (0)), (2, zI (0))] 0 0 zSH f Q) : zR sc (d + 1) 214 0 [] [(0, zP (50))] 0 0 zSH f Q := zwn_R (stp := fun mi pc => bif Nat.beq mi 214 && Nat.beq pc 4 then some [0, 1, 2] else none) (inl := fun j => bif Nat.beq j 14 then true else bif Nat.beq j 15 then true else bif Nat.beq j 16 then true else bif Nat.beq j 17 then true else bif Nat.beq j 18 then true else bif Nat.beq j 19 then true else bif Nat.beq j 20 then true else bif Nat.beq j 22 then true else bif Nat.beq j 23 then true else bif Nat.beq j 25 then true else bif Nat.beq j 28 then true else bif Nat.beq j 50 then true else bif Nat.beq j 51 then true else bif Nat.beq j 52 then true else bif Nat.beq j 53 then true else bif Nat.beq j 54 then true else bif Nat.beq j 55 then true else bif Nat.beq j 56 then true else bif Nat.beq j 57 then true else bif Nat.beq j 58 then true else bif Nat.beq j 59 then true else bif Nat.beq j 60 then true else bif Nat.beq j 62 then true else bif Nat.beq j 63 then true else bif Nat.beq j 64 then true else bif Nat.beq j 65 then true else bif Nat.beq j 66 then true else bif Nat.beq j 67 then true else bif Nat.beq j 68 then true else bif Nat.beq j 69 then true else bif Nat.beq j 70 then true else bif Nat.beq j 71 then true else bif Nat.beq j 72 then true else bif Nat.beq j 73 then true else bif Nat.beq j 74 then true else bif Nat.beq j 75 then true else bif Nat.beq j 76 then true else bif Nat.beq j 77 then true else bif Nat.beq j 78 then true else bif Nat.beq j 79 then true else bif Nat.beq j 85 then true else bif Nat.beq j 86 then true else bif Nat.beq j 87 then true else bif Nat.beq j 92 then true else bif Nat.beq j 93 then true else bif Nat.beq j 95 then true else bif Nat.beq j 96 then true else bif Nat.beq j 97 then true else bif Nat.beq j 98 then true else bif Nat.beq j 99 then true else bif Nat.beq j 165 then true else bif Nat.beq j 166 then true else bif Nat.beq j 167 then true else bif Nat.beq j 170 then true else bif Nat.beq j 171 then true else bif Nat.beq j 172 then true else bif Nat.beq j 173 then true else bif Nat.beq j 174 then true else bif Nat.beq j 175 then true else bif Nat.beq j 176 then true else bif Nat.beq j 177 then true else bif Nat.beq j 178 then true else bif Nat.beq j 180 then true else bif Nat.beq j 181 then true else bif Nat.beq j 182 then true else bif Nat.beq j 183 then true else bif Nat.beq j 184 then true else bif Nat.beq j 185 then true else bif Nat.beq j 186 then true else bif Nat.beq j 187 then true else bif Nat.beq j 188 then true else bif Nat.beq j 191 then true else bif Nat.beq j 194 then true else bif Nat.beq j 200 then true else bif Nat.beq j 204 then true else bif Nat.beq j 205 then true else bif Nat.beq j 206 then true else bif Nat.beq j 209 then true else bif Nat.beq j 215 then true else bif Nat.beq j 220 then true else bif Nat.beq j 223 then true else bif Nat.beq j 224 then true else bif Nat.beq j 237 then true else bif Nat.beq j 238 then true else bif Nat.beq j 239 then true else bif Nat.beq j 240 then true else bif Nat.beq j 243 then true else bif Nat.beq j 244 then true else bif Nat.beq j 245 then true else bif Nat.beq j 246 then true else bif Nat.beq j 247 then true else bif Nat.beq j 252 then true else bif Nat.beq j 253 then true else bif Nat.beq j 254 then true else bif Nat.beq j 255 then true else bif Nat.beq j 257 then true else bif Nat.beq j 258 then true else bif Nat.beq j 259 then true else bif Nat.beq j 260 then true else bif Nat.beq j 263 then true else false) (nov := (fun j => bif Nat.beq j 143 then false else bif Nat.beq j 144 then false else bif Nat.beq j 242 then false else bif Nat.beq j 236 then false else bif Nat.beq j 237 then false else bif Nat.beq j 241 then false else bif Nat.beq j 239 then false else bif Nat.beq j 96 then false else true)) 6 h
set_option maxRecDepth 100000 in
theorem t214_4 {sc : zC} {d : Nat} {x1 x2 : Int} {f : zF} {Q : zQ} (h : if x2 < f (50) (6) then (zix x2 (6) (zov (x1 + (f (60) (x2.toNat))) (zov (x2 + 1) (zR sc (d + 1) 214 4 [] [(0, zP (50)), (1, zI (x1 + (f (60) (x2.toNat)))), (2, zI (x2 + 1))] 0 0 zSH f Q)))) else (Q (some (zI x1)) zSH f)) : zR sc (d + 1) 214 4 [] [(0, zP (50)), (1, zI x1), (2, zI x2)] 0 0 zSH f Q := zwn_R (stp := fun mi pc => bif Nat.beq mi 214 && Nat.beq pc 4 then some [0, 1, 2] else none) (inl := fun j => bif Nat.beq j 14 then true else bif Nat.beq j 15 then true else bif Nat.beq j 16 then true else bif Nat.beq j 17 then true else bif Nat.beq j 18 then true else bif Nat.beq j 19 then true else bif Nat.beq j 20 then true else bif Nat.beq j 22 then true else bif Nat.beq j 23 then true else bif Nat.beq j 25 then true else bif Nat.beq j 28 then true else bif Nat.beq j 50 then true else bif Nat.beq j 51 then true else bif Nat.beq j 52 then true else bif Nat.beq j 53 then true else bif Nat.beq j 54 then true else bif Nat.beq j 55 then true else bif Nat.beq j 56 then true else bif Nat.beq j 57 then true else bif Nat.beq j 58 then true else bif Nat.beq j 59 then true else bif Nat.beq j 60 then true else bif Nat.beq j 62 then true else bif Nat.beq j 63 then true else bif Nat.beq j 64 then true else bif Nat.beq j 65 then true else bif Nat.beq j 66 then true else bif Nat.beq j 67 then true else bif Nat.beq j 68 then true else bif Nat.beq j 69 then true else bif Nat.beq j 70 then true else bif Nat.beq j 71 then true else bif Nat.beq j 72 then true else bif Nat.beq j 73 then true else bif Nat.beq j 74 then true else bif Nat.beq j 75 then true else bif Nat.beq j 76 then true else bif Nat.beq j 77 then true else bif Nat.beq j 78 then true else bif Nat.beq j 79 then true else bif Nat.beq j 85 then true else bif Nat.beq j 86 then true else bif Nat.beq j 87 then true else bif Nat.beq j 92 then true else bif Nat.beq j 93 then true else bif Nat.beq j 95 then true else bif Nat.beq j 96 then true else bif Nat.beq j 97 then true else bif Nat.beq j 98 then true else bif Nat.beq j 99 then true else bif Nat.beq j 165 then true else bif Nat.beq j 166 then true else bif Nat.beq j 167 then true else bif Nat.beq j 170 then true else bif Nat.beq j 171 then true else bif Nat.beq j 172 then true else bif Nat.beq j 173 then true else bif Nat.beq j 174 then true else bif Nat.beq j 175 then true else bif Nat.beq j 176 then true else bif Nat.beq j 177 then true else bif Nat.beq j 178 then true else bif Nat.beq j 180 then true else bif Nat.beq j 181 then true else bif Nat.beq j 182 then true else bif Nat.beq j 183 then true else bif Nat.beq j 184 then true else bif Nat.beq j 185 then true else bif Nat.beq j 186 then true else bif Nat.beq j 187 then true else bif Nat.beq j 188 then true else bif Nat.beq j 191 then true else bif Nat.beq j 194 then true else bif Nat.beq j 200 then true else bif Nat.beq j 204 then true else bif Nat.beq j 205 then true else bif Nat.beq j 206 then true else bif Nat.beq j 209 then true else bif Nat.beq j 215 then true else bif Nat.beq j 220 then true else bif Nat.beq j 223 then true else bif Nat.beq j 224 then true else bif Nat.beq j 237 then true else bif Nat.beq j 238 then true else bif Nat.beq j 239 then true else bif Nat.beq j 240 then true else bif Nat.beq j 243 then true else bif Nat.beq j 244 then true else bif Nat.beq j 245 then true else bif Nat.beq j 246 then true else bif Nat.beq j 247 then true else bif Nat.beq j 252 then true else bif Nat.beq j 253 then true else bif Nat.beq j 254 then true else bif Nat.beq j 255 then true else bif Nat.beq j 257 then true else bif Nat.beq j 258 then true else bif Nat.beq j 259 then true else bif Nat.beq j 260 then true else bif Nat.beq j 263 then true else false) (nov := (fun j => bif Nat.beq j 143 then false else bif Nat.beq j 144 then false else bif Nat.beq j 242 then false else bif Nat.beq j 236 then false else bif Nat.beq j 237 then false else bif Nat.beq j 241 then false else bif Nat.beq j 239 then false else bif Nat.beq j 96 then false else true)) 17 h
set_option maxRecDepth 4000 in
set_option maxHeartbeats 400000 in
theorem c7_cl {sc : zC} {d : Nat} {f D : zF} {H : Nat} {Q : zQ} (hH : H ≤ 6) (h0 : f 7 0 = (H : Int)) (h : ∀ k, k < 6 → f 8 (24 + k) = D 1 k) (hb : ∀ k, k < 6 → 0 ≤ D 1 k ∧ D 1 k ≤ 9999) (K : Q (some (zI (sN (fun k => D 1 k) H))) zSH f) : zR sc (d + 1) 83 0 [] [(0, zP 7)] 0 0 zSH f Q := by
  refine t83_0 (d := d) ?_
  have L : ∀ n, n ≤ H → zR sc (d + 1) 83 4 [] [(0, zP 7), (1, zI (sN (fun k => D 1 k) n)), (2, zI (n : Int))] 0 0 zSH f Q := by
    refine zloop H (fun n hn ih => ?_) ?_
    · refine t83_4 (d := d) ?_
      have b0 := sN_0 (F := fun k => D 1 k) n (fun k hk => (hb k (by omega)).1)
      have b1 := sN_c (F := fun k => D 1 k) n (fun k hk => (hb k (by omega)).2)
      have b2 := hb n (by omega)
      rw [h0, if_pos (by omega), show (24 + (n : Int)).toNat = 24 + n by omega, h n (by omega)]
      repeat' (first | (refine zix_p (by omega) ?_) | (refine zov_p (by omega) ?_))
      rw [show (n : Int) + 1 = ((n + 1 : Nat) : Int) by omega]
      exact ih
    · refine t83_4 (d := d) ?_
      rw [h0, if_neg (by omega)]
      exact K
  exact L 0 (Nat.zero_le _)
set_option maxRecDepth 4000 in
set_option maxHeartbeats 400000 in
theorem r_cla {sc : zC} {d : Nat} {f D : zF} {H : Nat} {Q : zQ} (hH : H ≤ 6) (h0 : f 50 6 = (H : Int)) (h : ∀ k, k < 6 → f 60 k = D 1 k) (hb : ∀ k, k < 6 → 0 ≤ D 1 k ∧ D 1 k ≤ 9999) (K : Q (some (zI (sN (fun k => D 1 k) H))) zSH f) : zR sc (d + 1) 214 0 [] [(0, zP 50)] 0 0 zSH f Q := by
  refine t214_0 (d := d) ?_
  have L : ∀ n, n ≤ H → zR sc (d + 1) 214 4 [] [(0, zP 50), (1, zI (sN (fun k => D 1 k) n)), (2, zI (n : Int))] 0 0 zSH f Q := by
    refine zloop H (fun n hn ih => ?_) ?_
    · refine t214_4 (d := d) ?_
      have b0 := sN_0 (F := fun k => D 1 k) n (fun k hk => (hb k (by omega)).1)
      have b1 := sN_c (F := fun k => D 1 k) n (fun k hk => (hb k (by omega)).2)
      have b2 := hb n (by omega)
      rw [h0, if_pos (by omega), Int.toNat_natCast, h n (by omega)]
      repeat' (first | (refine zix_p (by omega) ?_) | (refine zov_p (by omega) ?_))
      rw [show (n : Int) + 1 = ((n + 1 : Nat) : Int) by omega]
      exact ih
    · refine t214_4 (d := d) ?_
      rw [h0, if_neg (by omega)]
      exact K
  exact L 0 (Nat.zero_le _)
/-- cells that thinking of the class may write; of the reference -/
def wk7 (f f1 : zF) : Prop := ∀ c j, c ≠ 7 → c ≠ 8 → c ≠ 9 → c ≠ 10 → c ≠ 11 → c ≠ 12 → c ≠ 24 → c ≠ 25 → (c ≠ 22 ∨ j ≠ 4) → f1 c j = f c j
def wk5 (f f1 : zF) : Prop := ∀ c j, 50 ≤ c → c ≠ 58 → c ≠ 59 → c ≠ 60 → c ≠ 61 → c ≠ 62 → c ≠ 63 → (c ≠ 50 ∨ ¬ ((13 ≤ j ∧ j ≤ 17) ∨ (24 ≤ j ∧ j ≤ 27))) → f1 c j = f c j
section TI
variable {sc : zC} {f0 f f1 F : zF} {w : zLw} {n g : Nat} {h : Int} {P A : zF}
set_option maxRecDepth 4000 in
set_option maxHeartbeats 400000 in
theorem wk7_hi (k : wk7 f f1) {c j : Nat} (hc : 26 ≤ c) : f1 c j = f c j := k c j (by omega) (by omega) (by omega) (by omega) (by omega) (by omega) (by omega) (by omega) (Or.inl (by omega))
set_option maxRecDepth 4000 in
set_option maxHeartbeats 400000 in
theorem wk7_lo (k : wk7 f f1) {c j : Nat} (hc : c < 7) : f1 c j = f c j := k c j (by omega) (by omega) (by omega) (by omega) (by omega) (by omega) (by omega) (by omega) (Or.inl (by omega))
set_option maxRecDepth 4000 in
set_option maxHeartbeats 400000 in
theorem wk7_m (k : wk7 f0 f) (m : cM7 (cpy f) f1) : wk7 f0 f1 := fun c j a1 a2 a3 a4 a5 a6 a7 a8 a9 => by
  rw [m c j a3 a4 a5 a6 a7 a8 a9 (Or.inl a2), cpy_o ⟨a1, a2, a3, a4, a5⟩]
  exact k c j a1 a2 a3 a4 a5 a6 a7 a8 a9
set_option maxRecDepth 4000 in
set_option maxHeartbeats 400000 in
theorem wk7_mu {i : Nat} {v : Int} (k : wk7 f0 f) (m : cM7 (zup (cpy f) 8 i v) f1) : wk7 f0 f1 := fun c j a1 a2 a3 a4 a5 a6 a7 a8 a9 => by
  rw [m c j a3 a4 a5 a6 a7 a8 a9 (Or.inl a2), zup_at, if_neg a2, cpy_o ⟨a1, a2, a3, a4, a5⟩]
  exact k c j a1 a2 a3 a4 a5 a6 a7 a8 a9
set_option maxRecDepth 4000 in
set_option maxHeartbeats 400000 in
theorem wk_c7 (i0 : wD f0) (cw : cLw w f0) (k : wk7 f0 f) : cN7 w (sP f0) (sA f0) (cpy f) :=
  ⟨⟨wk7_lo k (by decide), wk7_lo k (by decide)⟩, fun q hq => ⟨(cpy_8 (by omega)).trans (wk7_lo k (by decide)), (cpy_8 (by omega)).trans (wk7_lo k (by decide)), (cpy_8 (by omega)).trans (wk7_lo k (by decide))⟩, fun q hq => ⟨(cpy_8 (by omega)).trans (wk7_lo k (by decide)), (cpy_8 (by omega)).trans (wk7_lo k (by decide))⟩, fun q hq => (cpy_8 (by omega)).trans (wk7_lo k (by decide)), (cpy_8 (by decide)).trans (wk7_lo k (by decide)), fun q hq => (cpy_9 hq).trans (wk7_lo k (by decide)), fun q hq => ((cpy_10 hq).trans (wk7_lo k (by decide))).trans (i0.2.2.1.2.1 q hq), fun q hq => (cpy_8 (by omega)).trans (wk7_lo k (by decide)), cLw_l (f := f0) (fun j => (cpy_o (by decide)).trans (k 23 j (by decide) (by decide) (by decide) (by decide) (by decide) (by decide) (by decide) (by decide) (Or.inl (by decide)))) ((cpy_o (by decide)).trans (k 22 1 (by decide) (by decide) (by decide) (by decide) (by decide) (by decide) (by decide) (by decide) (Or.inr (by decide)))) cw⟩
set_option maxRecDepth 4000 in
set_option maxHeartbeats 400000 in
theorem wk_t (g0 : aGok wG (afx sc f0)) (k : wk7 f0 f) : zIn (cpy f 11 1) ∧ zIn (cpy f 11 3) := by
  rw [cpy_11 (by decide), cpy_11 (by decide), wk7_lo k (by decide), wk7_lo k (by decide)]
  exact ⟨g_51 g0, g_53 g0⟩
/-- clutter of all behind n days, a girl hired otherwise; as they are -/
def clS (f : zF) (w : zLw) (n g : Nat) (h : Int) : Int := sN (fun k => dIt w (zup (sP f) 3 g h) (sA f) n 1 k) (f 1 0).toNat
def clN (f : zF) (w : zLw) (n : Nat) : Int := sN (fun k => dIt w (sP f) (sA f) n 1 k) (f 1 0).toNat
set_option maxRecDepth 100000 in
theorem b164_0 {sc : zC} {a b c : Int} {f : zF} {Q : zQ} (h : zov ((44) + a) (zix ((44) + a) (60) (∃ A2 : zQ, zR sc (197) 88 0 [] [(0, zP (7)), (1, zP (22)), (2, zI c)] 0 0 zSH (zup (zcp (zcp (zcp (zcp (zup (zup f (7) (0) (f (1) (0))) (7) (1) (f (1) (1))) (2) (8) (0) (0) (60)) (3) (9) (0) (0) (168)) (4) (10) (0) (0) (7)) (5) (11) (0) (0) (6)) (8) (((44) + a).toNat) b) A2 ∧ ∀ (r3 : Int) (f1 : zF), zIn r3 → A2 (some (zI r3)) zSH f1 → (∃ A5 : zQ, zR sc (197) 83 0 [] [(0, zP (7))] 0 0 zSH f1 A5 ∧ ∀ (r6 : Int) (f4 : zF), zIn r6 → A5 (some (zI r6)) zSH f4 → (Q (some (zI r6)) zSH f4))))) : zR sc (198) 164 0 [] [(0, zP (0)), (1, zI a), (2, zI b), (3, zI c)] 0 0 zSH f Q := zwn_R (stp := fun _ _ => none) (inl := fun j => bif Nat.beq j 14 then true else bif Nat.beq j 15 then true else bif Nat.beq j 16 then true else bif Nat.beq j 17 then true else bif Nat.beq j 18 then true else bif Nat.beq j 19 then true else bif Nat.beq j 20 then true else bif Nat.beq j 22 then true else bif Nat.beq j 23 then true else bif Nat.beq j 25 then true else bif Nat.beq j 28 then true else bif Nat.beq j 50 then true else bif Nat.beq j 51 then true else bif Nat.beq j 52 then true else bif Nat.beq j 53 then true else bif Nat.beq j 54 then true else bif Nat.beq j 55 then true else bif Nat.beq j 56 then true else bif Nat.beq j 57 then true else bif Nat.beq j 58 then true else bif Nat.beq j 59 then true else bif Nat.beq j 60 then true else bif Nat.beq j 62 then true else bif Nat.beq j 63 then true else bif Nat.beq j 64 then true else bif Nat.beq j 65 then true else bif Nat.beq j 66 then true else bif Nat.beq j 67 then true else bif Nat.beq j 68 then true else bif Nat.beq j 69 then true else bif Nat.beq j 70 then true else bif Nat.beq j 71 then true else bif Nat.beq j 72 then true else bif Nat.beq j 73 then true else bif Nat.beq j 74 then true else bif Nat.beq j 75 then true else bif Nat.beq j 76 then true else bif Nat.beq j 77 then true else bif Nat.beq j 78 then true else bif Nat.beq j 79 then true else bif Nat.beq j 85 then true else bif Nat.beq j 86 then true else bif Nat.beq j 87 then true else bif Nat.beq j 92 then true else bif Nat.beq j 93 then true else bif Nat.beq j 95 then true else bif Nat.beq j 96 then true else bif Nat.beq j 97 then true else bif Nat.beq j 98 then true else bif Nat.beq j 99 then true else bif Nat.beq j 165 then true else bif Nat.beq j 166 then true else bif Nat.beq j 167 then true else bif Nat.beq j 170 then true else bif Nat.beq j 171 then true else bif Nat.beq j 172 then true else bif Nat.beq j 173 then true else bif Nat.beq j 174 then true else bif Nat.beq j 175 then true else bif Nat.beq j 176 then true else bif Nat.beq j 177 then true else bif Nat.beq j 178 then true else bif Nat.beq j 180 then true else bif Nat.beq j 181 then true else bif Nat.beq j 182 then true else bif Nat.beq j 183 then true else bif Nat.beq j 184 then true else bif Nat.beq j 185 then true else bif Nat.beq j 186 then true else bif Nat.beq j 187 then true else bif Nat.beq j 188 then true else bif Nat.beq j 191 then true else bif Nat.beq j 194 then true else bif Nat.beq j 200 then true else bif Nat.beq j 204 then true else bif Nat.beq j 205 then true else bif Nat.beq j 206 then true else bif Nat.beq j 209 then true else bif Nat.beq j 215 then true else bif Nat.beq j 220 then true else bif Nat.beq j 223 then true else bif Nat.beq j 224 then true else bif Nat.beq j 237 then true else bif Nat.beq j 238 then true else bif Nat.beq j 239 then true else bif Nat.beq j 240 then true else bif Nat.beq j 243 then true else bif Nat.beq j 244 then true else bif Nat.beq j 245 then true else bif Nat.beq j 246 then true else bif Nat.beq j 247 then true else bif Nat.beq j 252 then true else bif Nat.beq j 253 then true else bif Nat.beq j 254 then true else bif Nat.beq j 255 then true else bif Nat.beq j 257 then true else bif Nat.beq j 258 then true else bif Nat.beq j 259 then true else bif Nat.beq j 260 then true else bif Nat.beq j 263 then true else false) (nov := (fun j => bif Nat.beq j 143 then false else bif Nat.beq j 144 then false else bif Nat.beq j 242 then false else bif Nat.beq j 236 then false else bif Nat.beq j 237 then false else bif Nat.beq j 241 then false else bif Nat.beq j 239 then false else bif Nat.beq j 96 then false else true)) 72 h
set_option maxRecDepth 100000 in
theorem b215_0 {sc : zC} {a b c : Int} {f : zF} {Q : zQ} (h : ∃ A2 : zQ, zR sc (197) 198 0 [] [(0, zP (50))] 0 0 zSH f A2 ∧ ∀ f1 : zF, A2 none zSH f1 → (if b < 0 then (∃ A4 : zQ, zR sc (197) 203 0 [] [(0, zP (50)), (1, zI a)] 0 0 zSH f1 A4 ∧ ∀ f3 : zF, A4 none zSH f3 → (∃ A6 : zQ, zR sc (197) 214 0 [] [(0, zP (50))] 0 0 zSH f3 A6 ∧ ∀ (r7 : Int) (f5 : zF), zIn r7 → A6 (some (zI r7)) zSH f5 → (Q (some (zI r7)) zSH f5))) else (zix b (7) (∃ A9 : zQ, zR sc (197) 203 0 [] [(0, zP (50)), (1, zI a)] 0 0 zSH (zup f1 (63) (b.toNat) c) A9 ∧ ∀ f8 : zF, A9 none zSH f8 → (∃ A11 : zQ, zR sc (197) 214 0 [] [(0, zP (50))] 0 0 zSH f8 A11 ∧ ∀ (r12 : Int) (f10 : zF), zIn r12 → A11 (some (zI r12)) zSH f10 → (Q (some (zI r12)) zSH f10)))))) : zR sc (198) 215 0 [] [(0, zP (50)), (1, zI a), (2, zI b), (3, zI c)] 0 0 zSH f Q := zwn_R (stp := fun _ _ => none) (inl := fun j => bif Nat.beq j 14 then true else bif Nat.beq j 15 then true else bif Nat.beq j 16 then true else bif Nat.beq j 17 then true else bif Nat.beq j 18 then true else bif Nat.beq j 19 then true else bif Nat.beq j 20 then true else bif Nat.beq j 22 then true else bif Nat.beq j 23 then true else bif Nat.beq j 25 then true else bif Nat.beq j 28 then true else bif Nat.beq j 50 then true else bif Nat.beq j 51 then true else bif Nat.beq j 52 then true else bif Nat.beq j 53 then true else bif Nat.beq j 54 then true else bif Nat.beq j 55 then true else bif Nat.beq j 56 then true else bif Nat.beq j 57 then true else bif Nat.beq j 58 then true else bif Nat.beq j 59 then true else bif Nat.beq j 60 then true else bif Nat.beq j 62 then true else bif Nat.beq j 63 then true else bif Nat.beq j 64 then true else bif Nat.beq j 65 then true else bif Nat.beq j 66 then true else bif Nat.beq j 67 then true else bif Nat.beq j 68 then true else bif Nat.beq j 69 then true else bif Nat.beq j 70 then true else bif Nat.beq j 71 then true else bif Nat.beq j 72 then true else bif Nat.beq j 73 then true else bif Nat.beq j 74 then true else bif Nat.beq j 75 then true else bif Nat.beq j 76 then true else bif Nat.beq j 77 then true else bif Nat.beq j 78 then true else bif Nat.beq j 79 then true else bif Nat.beq j 85 then true else bif Nat.beq j 86 then true else bif Nat.beq j 87 then true else bif Nat.beq j 92 then true else bif Nat.beq j 93 then true else bif Nat.beq j 95 then true else bif Nat.beq j 96 then true else bif Nat.beq j 97 then true else bif Nat.beq j 98 then true else bif Nat.beq j 99 then true else bif Nat.beq j 165 then true else bif Nat.beq j 166 then true else bif Nat.beq j 167 then true else bif Nat.beq j 170 then true else bif Nat.beq j 171 then true else bif Nat.beq j 172 then true else bif Nat.beq j 173 then true else bif Nat.beq j 174 then true else bif Nat.beq j 175 then true else bif Nat.beq j 176 then true else bif Nat.beq j 177 then true else bif Nat.beq j 178 then true else bif Nat.beq j 180 then true else bif Nat.beq j 181 then true else bif Nat.beq j 182 then true else bif Nat.beq j 183 then true else bif Nat.beq j 184 then true else bif Nat.beq j 185 then true else bif Nat.beq j 186 then true else bif Nat.beq j 187 then true else bif Nat.beq j 188 then true else bif Nat.beq j 191 then true else bif Nat.beq j 194 then true else bif Nat.beq j 200 then true else bif Nat.beq j 204 then true else bif Nat.beq j 205 then true else bif Nat.beq j 206 then true else bif Nat.beq j 209 then true else bif Nat.beq j 220 then true else bif Nat.beq j 223 then true else bif Nat.beq j 224 then true else bif Nat.beq j 237 then true else bif Nat.beq j 238 then true else bif Nat.beq j 239 then true else bif Nat.beq j 240 then true else bif Nat.beq j 243 then true else bif Nat.beq j 244 then true else bif Nat.beq j 245 then true else bif Nat.beq j 246 then true else bif Nat.beq j 247 then true else bif Nat.beq j 252 then true else bif Nat.beq j 253 then true else bif Nat.beq j 254 then true else bif Nat.beq j 255 then true else bif Nat.beq j 257 then true else bif Nat.beq j 258 then true else bif Nat.beq j 259 then true else bif Nat.beq j 260 then true else bif Nat.beq j 263 then true else false) (nov := (fun j => bif Nat.beq j 143 then false else bif Nat.beq j 144 then false else bif Nat.beq j 242 then false else bif Nat.beq j 236 then false else bif Nat.beq j 237 then false else bif Nat.beq j 241 then false else bif Nat.beq j 239 then false else bif Nat.beq j 96 then false else true)) 23 h
set_option maxRecDepth 4000 in
set_option maxHeartbeats 400000 in
theorem t_if (g0 : aGok wG (afx sc f0)) (i0 : wD f0) (cw : cLw w f0) (k : wk7 f0 f) (hg : g < 7) (hn : n ≤ 60) : zR sc 198 164 0 [] [(0, zP 0), (1, zI (g : Int)), (2, zI h), (3, zI (n : Int))] 0 0 zSH f (fun r _ f1 => r = some (zI (clS f0 w n g h)) ∧ wk7 f0 f1) := by
  have p : pIn (zup (sP f0) 3 g h) := wD_p g0 i0
  have a : dIn (zup (sP f0) 3 g h) (sA f0) := wD_a i0
  have e0 := g_10 g0
  obtain ⟨⟨u1, u2⟩, u3, u4, u5, u6, u7, u8, u9, u10⟩ := wk_c7 i0 cw k
  have n7 : cN7 w (zup (sP f0) 3 g h) (sA f0) (zup (cpy f) 8 (44 + g) h) := by
    refine ⟨⟨u1, u2⟩, fun q hq => ⟨?_, ?_, ?_⟩, fun q hq => ⟨?_, ?_⟩, fun q hq => ?_, ?_, u7, u8, fun q hq => ?_, cLw_k u10 (fun _ => rfl) rfl⟩
    · show (if 30 + q = 44 + g then h else cpy f 8 (30 + q)) = _
      rw [if_neg (by omega)]
      exact (u3 q hq).1
    · show (if 37 + q = 44 + g then h else cpy f 8 (37 + q)) = _
      rw [if_neg (by omega)]
      exact (u3 q hq).2.1
    · show (if 44 + q = 44 + g then h else cpy f 8 (44 + q)) = (if q = g then h else sP f0 3 q)
      by_cases e : q = g
      · rw [if_pos e, if_pos (by omega)]
      · rw [if_neg e, if_neg (by omega)]
        exact (u3 q hq).2.2
    · show (if 51 + q = 44 + g then h else cpy f 8 (51 + q)) = _
      rw [if_neg (by omega)]
      exact (u4 q hq).1
    · show (if 55 + q = 44 + g then h else cpy f 8 (55 + q)) = _
      rw [if_neg (by omega)]
      exact (u4 q hq).2
    · show (if 24 + q = 44 + g then h else cpy f 8 (24 + q)) = _
      rw [if_neg (by omega)]
      exact u5 q hq
    · show (if 59 = 44 + g then h else cpy f 8 59) = _
      rw [if_neg (by omega)]
      exact u6
    · show (if q = 44 + g then h else cpy f 8 q) = _
      rw [if_neg (by omega)]
      exact u9 q hq
  refine b164_0 ?_
  rw [show (44 + (g : Int)).toNat = 44 + g by omega]
  refine zov_p (by omega) (zix_p (by omega) ?_)
  refine zcall1 (fun _ f1 => cN7 w (zup (sP f0) 3 g h) (dIt w (zup (sP f0) 3 g h) (sA f0) n) f1 ∧ cM7 (zup (cpy f) 8 (44 + g) h) f1) (c7_days (d := 190) hn p a n7 (wk_t g0 k).1 (wk_t g0 k).2 (fun v f1 h1 h2 _ _ => ⟨v, rfl, h1, h2⟩)) (fun v f1 _ hh => ?_)
  obtain ⟨n1, m1⟩ := hh
  have D := dIt_in (w := w) p a n
  have h10 : f1 7 0 = (((f0 1 0).toNat : Nat) : Int) := by
    have := n1.1.1
    have : f1 7 0 = f0 1 0 := this
    omega
  exact zcallE (c7_cl (d := 196) (D := dIt w (zup (sP f0) 3 g h) (sA f0) n) (by omega) h10 n1.2.2.2.1 (fun k hk => D.2.2.1 k hk) ⟨rfl, rfl⟩) ⟨rfl, wk7_mu k m1⟩
set_option maxRecDepth 4000 in
set_option maxHeartbeats 400000 in
theorem t_now (g0 : aGok wG (afx sc f0)) (i0 : wD f0) (cw : cLw w f0) {a : Int} {R : Int → zF → Prop} (hn : n ≤ 60) (ha : a = (n : Int)) (K : ∀ f1, wk7 f0 f1 → R (clN f0 w n) f1) : ∃ A : zQ, zR sc 197 88 0 [] [(0, zP 7), (1, zP 22), (2, zI a)] 0 0 zSH (cpy f0) A ∧ ∀ (r3 : Int) (f1 : zF), zIn r3 → A (some (zI r3)) zSH f1 → (∃ A5 : zQ, zR sc 198 83 0 [] [(0, zP 7)] 0 0 zSH f1 A5 ∧ ∀ (r6 : Int) (f4 : zF), zIn r6 → A5 (some (zI r6)) zSH f4 → R r6 f4) := by
  have e0 := g_10 g0
  refine t_days g0 i0 cw hn ha (fun v f1 n1 m1 => ?_)
  have D := dIt_in (w := w) (wD_p g0 i0) (wD_a i0) n
  have h10 : f1 7 0 = (((f0 1 0).toNat : Nat) : Int) := by
    have := n1.1.1
    have : f1 7 0 = f0 1 0 := this
    omega
  exact zcallE (c7_cl (d := 197) (D := dIt w (sP f0) (sA f0) n) (by omega) h10 n1.2.2.2.1 (fun k hk => D.2.2.1 k hk) ⟨rfl, rfl⟩) (K f1 (wk7_m (fun _ _ _ _ _ _ _ _ _ _ _ => rfl) m1))
set_option maxRecDepth 4000 in
set_option maxHeartbeats 400000 in
/-- the reference's days begin, from where thinking has been -/
theorem wD_rb2 (i : wD f0) (k : wk5 f0 F) (r : rLw w f0) : rB w (sP f0) (sA f0) (zbeg F) := by
  have e : ∀ c j, (c = 51 ∨ c = 55 ∨ c = 57) → F c j = f0 c j := fun c j h => k c j (by omega) (by omega) (by omega) (by omega) (by omega) (by omega) (by omega) (Or.inl (by omega))
  have x : ∀ j, j < 13 → F 50 j = f0 50 j := fun j h => k 50 j (by decide) (by decide) (by decide) (by decide) (by decide) (by decide) (by decide) (Or.inr (by omega))
  obtain ⟨i1, i2, i3, i5, ic, im, la⟩ := i
  refine ⟨⟨(x 6 (by decide)).trans i1.1.symm, (x 7 (by decide)).trans i1.2.symm⟩, fun q hq => ⟨(e 51 _ (by decide)).trans (i2 (30 + q) (by omega)).1.symm, (e 51 _ (by decide)).trans (i2 (37 + q) (by omega)).1.symm, fun h => ?_⟩, fun q hq => ⟨(e 51 _ (by decide)).trans (i2 (51 + q) (by omega)).1.symm, ?_⟩, fun q hq => ?_, (e 51 _ (by decide)).trans (i2 59 (by omega)).1.symm, fun q hq => ?_, fun q hq => ?_, rLw_l (fun j => e 57 j (by decide)) (x 12 (by decide)) r⟩
  · show (if 0 ≤ q ∧ q < 0 + 7 then (if (q : Int) < F 50 7 then F 51 (44 + q) else -1) else F 63 q) = f0 2 (44 + q)
    have h : (q : Int) < f0 1 1 := h
    rw [if_pos (by omega), if_pos (by rw [x 7 (by decide), ← i1.2]; exact h), e 51 _ (by decide)]
    exact (i2 (44 + q) (by omega)).1.symm
  · show (if 0 ≤ q ∧ q < 0 + 4 then F 51 (55 + q) else F 61 q) = f0 2 (55 + q)
    rw [if_pos (by omega), e 51 _ (by decide)]
    exact (i2 (55 + q) (by omega)).1.symm
  · show (if 0 ≤ q ∧ q < 0 + 6 then F 51 (24 + q) else F 60 q) = f0 2 (24 + q)
    rw [if_pos (by omega), e 51 _ (by decide)]
    exact (i2 (24 + q) (by omega)).1.symm
  · show (if 0 ≤ q ∧ q < 0 + 168 then F 55 q else F 59 q) = f0 3 q
    rw [if_pos (by omega), e 55 _ (by decide)]
    exact (i3.1 q hq).symm
  · show (if 0 ≤ q ∧ q < 0 + 24 then F 51 q else F 62 q) = f0 2 q
    rw [if_pos (by omega), e 51 _ (by decide)]
    exact (i2 q (by omega)).1.symm
set_option maxRecDepth 4000 in
set_option maxHeartbeats 400000 in
theorem wk5_z (k : wk5 f0 F) : wk5 f0 (zbeg F) := fun c j a0 a1 a2 a3 a4 a5 a6 a7 => (zbeg_o ⟨a2, a3, a4, a5, a6⟩ (by omega)).trans (k c j a0 a1 a2 a3 a4 a5 a6 a7)
set_option maxRecDepth 4000 in
set_option maxHeartbeats 400000 in
theorem wk5_m (k : wk5 f0 F) (m : rM F f1) : wk5 f0 f1 := fun c j a0 a1 a2 a3 a4 a5 a6 a7 => (m c j a1 a2 a3 a4 a7).trans (k c j a0 a1 a2 a3 a4 a5 a6 a7)
set_option maxRecDepth 4000 in
set_option maxHeartbeats 400000 in
theorem u_if (g0 : aGok wG (afx sc f0)) (i0 : wD f0) (rw1 : rLw w f0) (k : wk5 f0 F) (hg : g < 7) (hn : n ≤ 60) : zR sc 198 215 0 [] [(0, zP 50), (1, zI (n : Int)), (2, zI (g : Int)), (3, zI h)] 0 0 zSH F (fun r _ f1 => r = some (zI (clS f0 w n g h)) ∧ wk5 f0 f1) := by
  have p : pIn (zup (sP f0) 3 g h) := wD_p g0 i0
  have a : dIn (zup (sP f0) 3 g h) (sA f0) := wD_a i0
  have e0 := g_10 g0
  obtain ⟨⟨u1, u2⟩, u3, u4, u5, u6, u7, u8, u9⟩ := wD_rb2 i0 k rw1
  have n5 : rB w (zup (sP f0) 3 g h) (sA f0) (zup (zbeg F) 63 g h) := by
    refine ⟨⟨u1, u2⟩, fun q hq => ⟨(u3 q hq).1, (u3 q hq).2.1, fun hq2 => ?_⟩, u4, u5, u6, u7, u8, rLw_k u9 (fun _ => rfl) rfl⟩
    show (if q = g then h else zbeg F 63 q) = (if q = g then h else sP f0 3 q)
    by_cases e : q = g
    · rw [if_pos e, if_pos e]
    · rw [if_neg e, if_neg e]
      exact (u3 q hq).2.2 hq2
  refine b215_0 ?_
  refine zcall (fun f2 => f2 = zbeg F) (s198 rfl) (fun f2 h2 => ?_)
  subst h2
  rw [if_neg (by omega), Int.toNat_natCast]
  refine zix_p (by omega) ?_
  refine zcall (fun f3 => rB w (zup (sP f0) 3 g h) (dIt w (zup (sP f0) 3 g h) (sA f0) n) f3 ∧ rM (zup (zbeg F) 63 g h) f3) (r_days (d := 102) hn p a n5 (fun f3 h1 h2 => ⟨h1, h2⟩)) (fun f3 h5 => ?_)
  obtain ⟨b1, m1⟩ := h5
  have D := dIt_in (w := w) p a n
  have h10 : f3 50 6 = (((f0 1 0).toNat : Nat) : Int) := by
    have := b1.1.1
    have : f3 50 6 = f0 1 0 := this
    omega
  refine zcallE (r_cla (d := 196) (D := dIt w (zup (sP f0) 3 g h) (sA f0) n) (by omega) h10 b1.2.2.2.1 (fun k hk => D.2.2.1 k hk) ⟨rfl, rfl⟩) ⟨rfl, fun c j a0 a1 a2 a3 a4 a5 a6 a7 => ?_⟩
  rw [m1 c j a1 a2 a3 a4 a7, zup_at, if_neg a6]
  exact wk5_z k c j a0 a1 a2 a3 a4 a5 a6 a7
set_option maxRecDepth 4000 in
set_option maxHeartbeats 400000 in
theorem u_now (g0 : aGok wG (afx sc f0)) (i0 : wD f0) (rw1 : rLw w f0) (k : wk5 f0 F) {b c : Int} (hb : b < 0) (hn : n ≤ 60) : zR sc 198 215 0 [] [(0, zP 50), (1, zI (n : Int)), (2, zI b), (3, zI c)] 0 0 zSH F (fun r _ f1 => r = some (zI (clN f0 w n)) ∧ wk5 f0 f1) := by
  have p := wD_p g0 i0
  have a := wD_a i0
  have e0 := g_10 g0
  refine b215_0 ?_
  refine zcall (fun f2 => f2 = zbeg F) (s198 rfl) (fun f2 h2 => ?_)
  subst h2
  rw [if_pos hb]
  refine zcall (fun f3 => rB w (sP f0) (dIt w (sP f0) (sA f0) n) f3 ∧ rM (zbeg F) f3) (r_days (d := 102) hn p a (wD_rb2 i0 k rw1) (fun f3 h1 h2 => ⟨h1, h2⟩)) (fun f3 h5 => ?_)
  obtain ⟨b1, m1⟩ := h5
  have D := dIt_in (w := w) p a n
  have h10 : f3 50 6 = (((f0 1 0).toNat : Nat) : Int) := by
    have := b1.1.1
    have : f3 50 6 = f0 1 0 := this
    omega
  exact zcallE (r_cla (d := 196) (D := dIt w (sP f0) (sA f0) n) (by omega) h10 b1.2.2.2.1 (fun k hk => D.2.2.1 k hk) ⟨rfl, rfl⟩) ⟨rfl, wk5_m (wk5_z k) m1⟩
end TI
/-- whom to hire: who, by how much, of the girls ahead of g -/
def hrL (H v : Nat → Int) : Nat → Int × Int
  | 0 => (-2, -2)
  | g + 1 => if H g < 0 then (if (hrL H v g).1 = -2 then ((g : Int), v g) else if v g < (hrL H v g).2 then ((g : Int), v g) else hrL H v g) else hrL H v g
set_option maxRecDepth 4000 in
set_option maxHeartbeats 400000 in
theorem hrL_b {H v : Nat → Int} : ∀ g, (hrL H v g).1 = -2 ∨ 0 ≤ (hrL H v g).1
  | 0 => Or.inl rfl
  | g + 1 => by
    have ih := hrL_b (H := H) (v := v) g
    show (if H g < 0 then (if (hrL H v g).1 = -2 then ((g : Int), v g) else if v g < (hrL H v g).2 then ((g : Int), v g) else hrL H v g) else hrL H v g).1 = -2 ∨ 0 ≤ (if H g < 0 then (if (hrL H v g).1 = -2 then ((g : Int), v g) else if v g < (hrL H v g).2 then ((g : Int), v g) else hrL H v g) else hrL H v g).1
    by_cases c1 : H g < 0
    · rw [if_pos c1]
      by_cases c2 : (hrL H v g).1 = -2
      · rw [if_pos c2]; exact Or.inr (Int.natCast_nonneg g)
      · rw [if_neg c2]
        by_cases c3 : v g < (hrL H v g).2
        · rw [if_pos c3]; exact Or.inr (Int.natCast_nonneg g)
        · rw [if_neg c3]; exact ih
    · rw [if_neg c1]; exact ih
set_option maxRecDepth 4000 in
set_option maxHeartbeats 400000 in
theorem hrL_n {H v : Nat → Int} {g : Nat} (h : ¬ H g < 0) : hrL H v (g + 1) = hrL H v g := if_neg h
set_option maxRecDepth 4000 in
set_option maxHeartbeats 400000 in
theorem hrL_0 {H v : Nat → Int} {g : Nat} (h : H g < 0) (k : (hrL H v g).1 = -2) : hrL H v (g + 1) = ((g : Int), v g) := (if_pos h).trans (if_pos k)
set_option maxRecDepth 4000 in
set_option maxHeartbeats 400000 in
theorem hrL_1 {H v : Nat → Int} {g : Nat} (h : H g < 0) (k : ¬ (hrL H v g).1 = -2) (l : v g < (hrL H v g).2) : hrL H v (g + 1) = ((g : Int), v g) := (if_pos h).trans ((if_neg k).trans (if_pos l))
set_option maxRecDepth 4000 in
set_option maxHeartbeats 400000 in
theorem hrL_2 {H v : Nat → Int} {g : Nat} (h : H g < 0) (k : ¬ (hrL H v g).1 = -2) (l : ¬ v g < (hrL H v g).2) : hrL H v (g + 1) = hrL H v g := (if_pos h).trans ((if_neg k).trans (if_neg l))
set_option maxRecDepth 100000 in
theorem b132_0 {sc : zC} {a b c : Int} {f : zF} {Q : zQ} (h : if a < 0 then (Q (some (zI (-1))) zSH f) else (if a < f (1) (0) then (if b < 0 then (Q (some (zI (-1))) zSH f) else (if 60 < b then (Q (some (zI (-1))) zSH f) else (if c < 0 then (Q (some (zI (-1))) zSH f) else (if 1 < c then (Q (some (zI (-1))) zSH f) else (zR sc (199) 132 40 [] [(0, zP (0)), (1, zI a), (2, zI b), (3, zI c), (4, zI (-2)), (5, zI (-2)), (6, zI (0))] 0 0 zSH f Q))))) else (Q (some (zI (-1))) zSH f))) : zR sc (199) 132 0 [] [(0, zP (0)), (1, zI a), (2, zI b), (3, zI c)] 0 0 zSH f Q := zwn_R (stp := fun mi pc => bif Nat.beq mi 132 && Nat.beq pc 40 then some [0, 1, 2, 3, 4, 5, 6] else none) (inl := fun j => bif Nat.beq j 14 then true else bif Nat.beq j 15 then true else bif Nat.beq j 16 then true else bif Nat.beq j 17 then true else bif Nat.beq j 18 then true else bif Nat.beq j 19 then true else bif Nat.beq j 20 then true else bif Nat.beq j 22 then true else bif Nat.beq j 23 then true else bif Nat.beq j 25 then true else bif Nat.beq j 28 then true else bif Nat.beq j 50 then true else bif Nat.beq j 51 then true else bif Nat.beq j 52 then true else bif Nat.beq j 53 then true else bif Nat.beq j 54 then true else bif Nat.beq j 55 then true else bif Nat.beq j 56 then true else bif Nat.beq j 57 then true else bif Nat.beq j 58 then true else bif Nat.beq j 59 then true else bif Nat.beq j 60 then true else bif Nat.beq j 62 then true else bif Nat.beq j 63 then true else bif Nat.beq j 64 then true else bif Nat.beq j 65 then true else bif Nat.beq j 66 then true else bif Nat.beq j 67 then true else bif Nat.beq j 68 then true else bif Nat.beq j 69 then true else bif Nat.beq j 70 then true else bif Nat.beq j 71 then true else bif Nat.beq j 72 then true else bif Nat.beq j 73 then true else bif Nat.beq j 74 then true else bif Nat.beq j 75 then true else bif Nat.beq j 76 then true else bif Nat.beq j 77 then true else bif Nat.beq j 78 then true else bif Nat.beq j 79 then true else bif Nat.beq j 85 then true else bif Nat.beq j 86 then true else bif Nat.beq j 87 then true else bif Nat.beq j 92 then true else bif Nat.beq j 93 then true else bif Nat.beq j 95 then true else bif Nat.beq j 96 then true else bif Nat.beq j 97 then true else bif Nat.beq j 98 then true else bif Nat.beq j 99 then true else bif Nat.beq j 165 then true else bif Nat.beq j 166 then true else bif Nat.beq j 167 then true else bif Nat.beq j 170 then true else bif Nat.beq j 171 then true else bif Nat.beq j 172 then true else bif Nat.beq j 173 then true else bif Nat.beq j 174 then true else bif Nat.beq j 175 then true else bif Nat.beq j 176 then true else bif Nat.beq j 177 then true else bif Nat.beq j 178 then true else bif Nat.beq j 180 then true else bif Nat.beq j 181 then true else bif Nat.beq j 182 then true else bif Nat.beq j 183 then true else bif Nat.beq j 184 then true else bif Nat.beq j 185 then true else bif Nat.beq j 186 then true else bif Nat.beq j 187 then true else bif Nat.beq j 188 then true else bif Nat.beq j 191 then true else bif Nat.beq j 194 then true else bif Nat.beq j 200 then true else bif Nat.beq j 204 then true else bif Nat.beq j 205 then true else bif Nat.beq j 206 then true else bif Nat.beq j 209 then true else bif Nat.beq j 215 then true else bif Nat.beq j 220 then true else bif Nat.beq j 223 then true else bif Nat.beq j 224 then true else bif Nat.beq j 237 then true else bif Nat.beq j 238 then true else bif Nat.beq j 239 then true else bif Nat.beq j 240 then true else bif Nat.beq j 243 then true else bif Nat.beq j 244 then true else bif Nat.beq j 245 then true else bif Nat.beq j 246 then true else bif Nat.beq j 247 then true else bif Nat.beq j 252 then true else bif Nat.beq j 253 then true else bif Nat.beq j 254 then true else bif Nat.beq j 255 then true else bif Nat.beq j 257 then true else bif Nat.beq j 258 then true else bif Nat.beq j 259 then true else bif Nat.beq j 260 then true else bif Nat.beq j 263 then true else bif Nat.beq j 162 then true else bif Nat.beq j 163 then true else false) (nov := (fun j => bif Nat.beq j 143 then false else bif Nat.beq j 144 then false else bif Nat.beq j 242 then false else bif Nat.beq j 236 then false else bif Nat.beq j 237 then false else bif Nat.beq j 241 then false else bif Nat.beq j 239 then false else bif Nat.beq j 96 then false else true)) 62 h
set_option maxRecDepth 100000 in
theorem b132_40 {sc : zC} {x1 x2 x3 x4 x5 x6 : Int} {f : zF} {Q : zQ} (h : if x6 < f (1) (1) then (zov ((44) + x6) (zix ((44) + x6) (60) (if f (2) (((44) + x6).toNat) < 0 then (∃ A2 : zQ, zR sc (198) 164 0 [] [(0, zP (0)), (1, zI x6), (2, zI x1), (3, zI x2)] 0 0 zSH f A2 ∧ ∀ (r3 : Int) (f1 : zF), zIn r3 → A2 (some (zI r3)) zSH f1 → (if x4 = (-2) then (zov (x6 + 1) (zR sc (199) 132 40 [] [(0, zP (0)), (1, zI x1), (2, zI x2), (3, zI x3), (4, zI x6), (5, zI r3), (6, zI (x6 + 1))] 0 0 zSH f1 Q)) else (if r3 < x5 then (zov (x6 + 1) (zR sc (199) 132 40 [] [(0, zP (0)), (1, zI x1), (2, zI x2), (3, zI x3), (4, zI x6), (5, zI r3), (6, zI (x6 + 1))] 0 0 zSH f1 Q)) else (zov (x6 + 1) (zR sc (199) 132 40 [] [(0, zP (0)), (1, zI x1), (2, zI x2), (3, zI x3), (4, zI x4), (5, zI x5), (6, zI (x6 + 1))] 0 0 zSH f1 Q))))) else (zov (x6 + 1) (zR sc (199) 132 40 [] [(0, zP (0)), (1, zI x1), (2, zI x2), (3, zI x3), (4, zI x4), (5, zI x5), (6, zI (x6 + 1))] 0 0 zSH f Q))))) else (if x3 = 0 then (Q (some (zI x4)) zSH f) else (Q (some (zI x5)) zSH f))) : zR sc (199) 132 40 [] [(0, zP (0)), (1, zI x1), (2, zI x2), (3, zI x3), (4, zI x4), (5, zI x5), (6, zI x6)] 0 0 zSH f Q := zwn_R (stp := fun mi pc => bif Nat.beq mi 132 && Nat.beq pc 40 then some [0, 1, 2, 3, 4, 5, 6] else none) (inl := fun j => bif Nat.beq j 14 then true else bif Nat.beq j 15 then true else bif Nat.beq j 16 then true else bif Nat.beq j 17 then true else bif Nat.beq j 18 then true else bif Nat.beq j 19 then true else bif Nat.beq j 20 then true else bif Nat.beq j 22 then true else bif Nat.beq j 23 then true else bif Nat.beq j 25 then true else bif Nat.beq j 28 then true else bif Nat.beq j 50 then true else bif Nat.beq j 51 then true else bif Nat.beq j 52 then true else bif Nat.beq j 53 then true else bif Nat.beq j 54 then true else bif Nat.beq j 55 then true else bif Nat.beq j 56 then true else bif Nat.beq j 57 then true else bif Nat.beq j 58 then true else bif Nat.beq j 59 then true else bif Nat.beq j 60 then true else bif Nat.beq j 62 then true else bif Nat.beq j 63 then true else bif Nat.beq j 64 then true else bif Nat.beq j 65 then true else bif Nat.beq j 66 then true else bif Nat.beq j 67 then true else bif Nat.beq j 68 then true else bif Nat.beq j 69 then true else bif Nat.beq j 70 then true else bif Nat.beq j 71 then true else bif Nat.beq j 72 then true else bif Nat.beq j 73 then true else bif Nat.beq j 74 then true else bif Nat.beq j 75 then true else bif Nat.beq j 76 then true else bif Nat.beq j 77 then true else bif Nat.beq j 78 then true else bif Nat.beq j 79 then true else bif Nat.beq j 85 then true else bif Nat.beq j 86 then true else bif Nat.beq j 87 then true else bif Nat.beq j 92 then true else bif Nat.beq j 93 then true else bif Nat.beq j 95 then true else bif Nat.beq j 96 then true else bif Nat.beq j 97 then true else bif Nat.beq j 98 then true else bif Nat.beq j 99 then true else bif Nat.beq j 165 then true else bif Nat.beq j 166 then true else bif Nat.beq j 167 then true else bif Nat.beq j 170 then true else bif Nat.beq j 171 then true else bif Nat.beq j 172 then true else bif Nat.beq j 173 then true else bif Nat.beq j 174 then true else bif Nat.beq j 175 then true else bif Nat.beq j 176 then true else bif Nat.beq j 177 then true else bif Nat.beq j 178 then true else bif Nat.beq j 180 then true else bif Nat.beq j 181 then true else bif Nat.beq j 182 then true else bif Nat.beq j 183 then true else bif Nat.beq j 184 then true else bif Nat.beq j 185 then true else bif Nat.beq j 186 then true else bif Nat.beq j 187 then true else bif Nat.beq j 188 then true else bif Nat.beq j 191 then true else bif Nat.beq j 194 then true else bif Nat.beq j 200 then true else bif Nat.beq j 204 then true else bif Nat.beq j 205 then true else bif Nat.beq j 206 then true else bif Nat.beq j 209 then true else bif Nat.beq j 215 then true else bif Nat.beq j 220 then true else bif Nat.beq j 223 then true else bif Nat.beq j 224 then true else bif Nat.beq j 237 then true else bif Nat.beq j 238 then true else bif Nat.beq j 239 then true else bif Nat.beq j 240 then true else bif Nat.beq j 243 then true else bif Nat.beq j 244 then true else bif Nat.beq j 245 then true else bif Nat.beq j 246 then true else bif Nat.beq j 247 then true else bif Nat.beq j 252 then true else bif Nat.beq j 253 then true else bif Nat.beq j 254 then true else bif Nat.beq j 255 then true else bif Nat.beq j 257 then true else bif Nat.beq j 258 then true else bif Nat.beq j 259 then true else bif Nat.beq j 260 then true else bif Nat.beq j 263 then true else bif Nat.beq j 162 then true else bif Nat.beq j 163 then true else false) (nov := (fun j => bif Nat.beq j 143 then false else bif Nat.beq j 144 then false else bif Nat.beq j 242 then false else bif Nat.beq j 236 then false else bif Nat.beq j 237 then false else bif Nat.beq j 241 then false else bif Nat.beq j 239 then false else bif Nat.beq j 96 then false else true)) 54 h
set_option maxRecDepth 100000 in
theorem b216_0 {sc : zC} {a b c : Int} {f : zF} {Q : zQ} (h : zov ((f (50) (6)) - (1)) (if zlcmp a (0) < 0 then (Q (some (zI (-1))) zSH f) else (if 0 < zlcmp a ((f (50) (6)) - (1)) then (Q (some (zI (-1))) zSH f) else (if zlcmp b (0) < 0 then (Q (some (zI (-1))) zSH f) else (if 0 < zlcmp b (60) then (Q (some (zI (-1))) zSH f) else (if zlcmp c (0) < 0 then (Q (some (zI (-1))) zSH f) else (if 0 < zlcmp c (1) then (Q (some (zI (-1))) zSH f) else (zR sc (199) 216 39 [] [(0, zP (50)), (1, zI a), (2, zI b), (3, zI c), (4, zI (-2)), (5, zI (-2)), (6, zI (0))] 0 0 zSH f Q)))))))) : zR sc (199) 216 0 [] [(0, zP (50)), (1, zI a), (2, zI b), (3, zI c)] 0 0 zSH f Q := zwn_R (stp := fun mi pc => bif Nat.beq mi 216 && Nat.beq pc 39 then some [0, 1, 2, 3, 4, 5, 6] else none) (inl := fun j => bif Nat.beq j 14 then true else bif Nat.beq j 15 then true else bif Nat.beq j 16 then true else bif Nat.beq j 17 then true else bif Nat.beq j 18 then true else bif Nat.beq j 19 then true else bif Nat.beq j 20 then true else bif Nat.beq j 22 then true else bif Nat.beq j 23 then true else bif Nat.beq j 25 then true else bif Nat.beq j 28 then true else bif Nat.beq j 50 then true else bif Nat.beq j 51 then true else bif Nat.beq j 52 then true else bif Nat.beq j 53 then true else bif Nat.beq j 54 then true else bif Nat.beq j 55 then true else bif Nat.beq j 56 then true else bif Nat.beq j 57 then true else bif Nat.beq j 58 then true else bif Nat.beq j 59 then true else bif Nat.beq j 60 then true else bif Nat.beq j 62 then true else bif Nat.beq j 63 then true else bif Nat.beq j 64 then true else bif Nat.beq j 65 then true else bif Nat.beq j 66 then true else bif Nat.beq j 67 then true else bif Nat.beq j 68 then true else bif Nat.beq j 69 then true else bif Nat.beq j 70 then true else bif Nat.beq j 71 then true else bif Nat.beq j 72 then true else bif Nat.beq j 73 then true else bif Nat.beq j 74 then true else bif Nat.beq j 75 then true else bif Nat.beq j 76 then true else bif Nat.beq j 77 then true else bif Nat.beq j 78 then true else bif Nat.beq j 79 then true else bif Nat.beq j 85 then true else bif Nat.beq j 86 then true else bif Nat.beq j 87 then true else bif Nat.beq j 92 then true else bif Nat.beq j 93 then true else bif Nat.beq j 95 then true else bif Nat.beq j 96 then true else bif Nat.beq j 97 then true else bif Nat.beq j 98 then true else bif Nat.beq j 99 then true else bif Nat.beq j 165 then true else bif Nat.beq j 166 then true else bif Nat.beq j 167 then true else bif Nat.beq j 170 then true else bif Nat.beq j 171 then true else bif Nat.beq j 172 then true else bif Nat.beq j 173 then true else bif Nat.beq j 174 then true else bif Nat.beq j 175 then true else bif Nat.beq j 176 then true else bif Nat.beq j 177 then true else bif Nat.beq j 178 then true else bif Nat.beq j 180 then true else bif Nat.beq j 181 then true else bif Nat.beq j 182 then true else bif Nat.beq j 183 then true else bif Nat.beq j 184 then true else bif Nat.beq j 185 then true else bif Nat.beq j 186 then true else bif Nat.beq j 187 then true else bif Nat.beq j 188 then true else bif Nat.beq j 191 then true else bif Nat.beq j 194 then true else bif Nat.beq j 200 then true else bif Nat.beq j 204 then true else bif Nat.beq j 205 then true else bif Nat.beq j 206 then true else bif Nat.beq j 209 then true else bif Nat.beq j 220 then true else bif Nat.beq j 223 then true else bif Nat.beq j 224 then true else bif Nat.beq j 237 then true else bif Nat.beq j 238 then true else bif Nat.beq j 239 then true else bif Nat.beq j 240 then true else bif Nat.beq j 243 then true else bif Nat.beq j 244 then true else bif Nat.beq j 245 then true else bif Nat.beq j 246 then true else bif Nat.beq j 247 then true else bif Nat.beq j 252 then true else bif Nat.beq j 253 then true else bif Nat.beq j 254 then true else bif Nat.beq j 255 then true else bif Nat.beq j 257 then true else bif Nat.beq j 258 then true else bif Nat.beq j 259 then true else bif Nat.beq j 260 then true else bif Nat.beq j 263 then true else false) (nov := (fun j => bif Nat.beq j 143 then false else bif Nat.beq j 144 then false else bif Nat.beq j 242 then false else bif Nat.beq j 236 then false else bif Nat.beq j 237 then false else bif Nat.beq j 241 then false else bif Nat.beq j 239 then false else bif Nat.beq j 96 then false else true)) 104 h
set_option maxRecDepth 100000 in
theorem b216_39 {sc : zC} {x1 x2 x3 x4 x5 x6 : Int} {f : zF} {Q : zQ} (h : if x6 < f (50) (7) then (zov ((44) + x6) (zix ((44) + x6) (60) (if f (51) (((44) + x6).toNat) < 0 then (∃ A2 : zQ, zR sc (198) 215 0 [] [(0, zP (50)), (1, zI x2), (2, zI x6), (3, zI x1)] 0 0 zSH f A2 ∧ ∀ (r3 : Int) (f1 : zF), zIn r3 → A2 (some (zI r3)) zSH f1 → (if x4 < 0 then (zov (x6 + 1) (zR sc (199) 216 39 [] [(0, zP (50)), (1, zI x1), (2, zI x2), (3, zI x3), (4, zI x6), (5, zI r3), (6, zI (x6 + 1))] 0 0 zSH f1 Q)) else (if r3 < x5 then (zov (x6 + 1) (zR sc (199) 216 39 [] [(0, zP (50)), (1, zI x1), (2, zI x2), (3, zI x3), (4, zI x6), (5, zI r3), (6, zI (x6 + 1))] 0 0 zSH f1 Q)) else (zov (x6 + 1) (zR sc (199) 216 39 [] [(0, zP (50)), (1, zI x1), (2, zI x2), (3, zI x3), (4, zI x4), (5, zI x5), (6, zI (x6 + 1))] 0 0 zSH f1 Q))))) else (zov (x6 + 1) (zR sc (199) 216 39 [] [(0, zP (50)), (1, zI x1), (2, zI x2), (3, zI x3), (4, zI x4), (5, zI x5), (6, zI (x6 + 1))] 0 0 zSH f Q))))) else (if x3 = 0 then (Q (some (zI x4)) zSH f) else (Q (some (zI x5)) zSH f))) : zR sc (199) 216 39 [] [(0, zP (50)), (1, zI x1), (2, zI x2), (3, zI x3), (4, zI x4), (5, zI x5), (6, zI x6)] 0 0 zSH f Q := zwn_R (stp := fun mi pc => bif Nat.beq mi 216 && Nat.beq pc 39 then some [0, 1, 2, 3, 4, 5, 6] else none) (inl := fun j => bif Nat.beq j 14 then true else bif Nat.beq j 15 then true else bif Nat.beq j 16 then true else bif Nat.beq j 17 then true else bif Nat.beq j 18 then true else bif Nat.beq j 19 then true else bif Nat.beq j 20 then true else bif Nat.beq j 22 then true else bif Nat.beq j 23 then true else bif Nat.beq j 25 then true else bif Nat.beq j 28 then true else bif Nat.beq j 50 then true else bif Nat.beq j 51 then true else bif Nat.beq j 52 then true else bif Nat.beq j 53 then true else bif Nat.beq j 54 then true else bif Nat.beq j 55 then true else bif Nat.beq j 56 then true else bif Nat.beq j 57 then true else bif Nat.beq j 58 then true else bif Nat.beq j 59 then true else bif Nat.beq j 60 then true else bif Nat.beq j 62 then true else bif Nat.beq j 63 then true else bif Nat.beq j 64 then true else bif Nat.beq j 65 then true else bif Nat.beq j 66 then true else bif Nat.beq j 67 then true else bif Nat.beq j 68 then true else bif Nat.beq j 69 then true else bif Nat.beq j 70 then true else bif Nat.beq j 71 then true else bif Nat.beq j 72 then true else bif Nat.beq j 73 then true else bif Nat.beq j 74 then true else bif Nat.beq j 75 then true else bif Nat.beq j 76 then true else bif Nat.beq j 77 then true else bif Nat.beq j 78 then true else bif Nat.beq j 79 then true else bif Nat.beq j 85 then true else bif Nat.beq j 86 then true else bif Nat.beq j 87 then true else bif Nat.beq j 92 then true else bif Nat.beq j 93 then true else bif Nat.beq j 95 then true else bif Nat.beq j 96 then true else bif Nat.beq j 97 then true else bif Nat.beq j 98 then true else bif Nat.beq j 99 then true else bif Nat.beq j 165 then true else bif Nat.beq j 166 then true else bif Nat.beq j 167 then true else bif Nat.beq j 170 then true else bif Nat.beq j 171 then true else bif Nat.beq j 172 then true else bif Nat.beq j 173 then true else bif Nat.beq j 174 then true else bif Nat.beq j 175 then true else bif Nat.beq j 176 then true else bif Nat.beq j 177 then true else bif Nat.beq j 178 then true else bif Nat.beq j 180 then true else bif Nat.beq j 181 then true else bif Nat.beq j 182 then true else bif Nat.beq j 183 then true else bif Nat.beq j 184 then true else bif Nat.beq j 185 then true else bif Nat.beq j 186 then true else bif Nat.beq j 187 then true else bif Nat.beq j 188 then true else bif Nat.beq j 191 then true else bif Nat.beq j 194 then true else bif Nat.beq j 200 then true else bif Nat.beq j 204 then true else bif Nat.beq j 205 then true else bif Nat.beq j 206 then true else bif Nat.beq j 209 then true else bif Nat.beq j 220 then true else bif Nat.beq j 223 then true else bif Nat.beq j 224 then true else bif Nat.beq j 237 then true else bif Nat.beq j 238 then true else bif Nat.beq j 239 then true else bif Nat.beq j 240 then true else bif Nat.beq j 243 then true else bif Nat.beq j 244 then true else bif Nat.beq j 245 then true else bif Nat.beq j 246 then true else bif Nat.beq j 247 then true else bif Nat.beq j 252 then true else bif Nat.beq j 253 then true else bif Nat.beq j 254 then true else bif Nat.beq j 255 then true else bif Nat.beq j 257 then true else bif Nat.beq j 258 then true else bif Nat.beq j 259 then true else bif Nat.beq j 260 then true else bif Nat.beq j 263 then true else false) (nov := (fun j => bif Nat.beq j 143 then false else bif Nat.beq j 144 then false else bif Nat.beq j 242 then false else bif Nat.beq j 236 then false else bif Nat.beq j 237 then false else bif Nat.beq j 241 then false else bif Nat.beq j 239 then false else bif Nat.beq j 96 then false else true)) 47 h
set_option maxRecDepth 4000 in
set_option maxHeartbeats 1000000 in
theorem c_hrs {sc : zC} {f0 f : zF} {w : zLw} {n q : Nat} {c : Int} {Q : zQ} (g0 : aGok wG (afx sc f0)) (i0 : wD f0) (cw : cLw w f0) (k : wk7 f0 f) (hn : n ≤ 60) (hq : q < 6) (K : ∀ f1, wk7 f0 f1 → Q (some (zI (if c = 0 then (hrL (fun k => f0 2 (44 + k)) (fun k => clS f0 w n k (q : Int)) (f0 1 1).toNat).1 else (hrL (fun k => f0 2 (44 + k)) (fun k => clS f0 w n k (q : Int)) (f0 1 1).toNat).2))) zSH f1) : zR sc 199 132 40 [] [(0, zP 0), (1, zI (q : Int)), (2, zI (n : Int)), (3, zI c), (4, zI (-2)), (5, zI (-2)), (6, zI 0)] 0 0 zSH f Q := by
  have e1 := g_11 g0
  obtain ⟨i1, i2, i3, i5, ic, im, la⟩ := id i0
  have L : ∀ g, g ≤ (f0 1 1).toNat → ∀ f1, wk7 f0 f1 → zR sc 199 132 40 [] [(0, zP 0), (1, zI (q : Int)), (2, zI (n : Int)), (3, zI c), (4, zI (hrL (fun k => f0 2 (44 + k)) (fun k => clS f0 w n k (q : Int)) g).1), (5, zI (hrL (fun k => f0 2 (44 + k)) (fun k => clS f0 w n k (q : Int)) g).2), (6, zI (g : Int))] 0 0 zSH f1 Q := by
    refine zloop (f0 1 1).toNat (fun g hg ih f1 k1 => ?_) (fun f1 k1 => ?_)
    · have kc1 : f1 1 1 = f0 1 1 := wk7_lo k1 (by decide)
      have kc2 : f1 2 (44 + g) = f0 2 (44 + g) := wk7_lo k1 (by decide)
      have hb := hrL_b (H := fun k => f0 2 (44 + k)) (v := fun k => clS f0 w n k (q : Int)) g
      refine b132_40 ?_
      rw [kc1, if_pos (by omega), show (44 + (g : Int)).toNat = 44 + g by omega, kc2]
      refine zov_p (by omega) (zix_p (by omega) (zit (fun h => ?_) (fun h => ?_)))
      · refine zcall1 (fun v f2 => v = clS f0 w n g (q : Int) ∧ wk7 f0 f2) (zR_imp (t_if g0 i0 cw k1 (by omega) hn) (fun r _ f2 hh => ⟨_, hh.1, rfl, hh.2⟩)) (fun v f2 _ hh => ?_)
        obtain ⟨rfl, k2⟩ := hh
        have ih := ih f2 k2
        refine zit (fun h2 => zov_p (by omega) ?_) (fun h2 => zit (fun h3 => zov_p (by omega) ?_) (fun h3 => zov_p (by omega) ?_))
        · rw [hrL_0 (H := fun k => f0 2 (44 + k)) (v := fun k => clS f0 w n k (q : Int)) h (by omega)] at ih
          exact ih
        · rw [hrL_1 (H := fun k => f0 2 (44 + k)) (v := fun k => clS f0 w n k (q : Int)) h (by omega) h3] at ih
          exact ih
        · rw [hrL_2 (H := fun k => f0 2 (44 + k)) (v := fun k => clS f0 w n k (q : Int)) h (by omega) h3] at ih
          exact ih
      · have ih := ih f1 k1
        rw [hrL_n (H := fun k => f0 2 (44 + k)) (v := fun k => clS f0 w n k (q : Int)) h] at ih
        exact zov_p (by omega) ih
    · have kc1 : f1 1 1 = f0 1 1 := wk7_lo k1 (by decide)
      refine b132_40 ?_
      rw [kc1, if_neg (by omega)]
      refine zit (fun h => ?_) (fun h => ?_)
      · have K := K f1 k1
        rw [if_pos h] at K
        exact K
      · have K := K f1 k1
        rw [if_neg h] at K
        exact K
  exact L 0 (Nat.zero_le _) f k
set_option maxRecDepth 4000 in
set_option maxHeartbeats 1000000 in
theorem r_hrs {sc : zC} {f0 f : zF} {w : zLw} {n q : Nat} {c : Int} {Q : zQ} (g0 : aGok wG (afx sc f0)) (i0 : wD f0) (rw1 : rLw w f0) (k : wk5 f0 f) (hn : n ≤ 60) (hq : q < 6) (K : ∀ f1, wk5 f0 f1 → Q (some (zI (if c = 0 then (hrL (fun k => f0 2 (44 + k)) (fun k => clS f0 w n k (q : Int)) (f0 1 1).toNat).1 else (hrL (fun k => f0 2 (44 + k)) (fun k => clS f0 w n k (q : Int)) (f0 1 1).toNat).2))) zSH f1) : zR sc 199 216 39 [] [(0, zP 50), (1, zI (q : Int)), (2, zI (n : Int)), (3, zI c), (4, zI (-2)), (5, zI (-2)), (6, zI 0)] 0 0 zSH f Q := by
  have e1 := g_11 g0
  obtain ⟨i1, i2, i3, i5, ic, im, la⟩ := id i0
  have L : ∀ g, g ≤ (f0 1 1).toNat → ∀ f1, wk5 f0 f1 → zR sc 199 216 39 [] [(0, zP 50), (1, zI (q : Int)), (2, zI (n : Int)), (3, zI c), (4, zI (hrL (fun k => f0 2 (44 + k)) (fun k => clS f0 w n k (q : Int)) g).1), (5, zI (hrL (fun k => f0 2 (44 + k)) (fun k => clS f0 w n k (q : Int)) g).2), (6, zI (g : Int))] 0 0 zSH f1 Q := by
    refine zloop (f0 1 1).toNat (fun g hg ih f1 k1 => ?_) (fun f1 k1 => ?_)
    · have kc1 : f1 50 7 = f0 1 1 := (k1 50 7 (by decide) (by decide) (by decide) (by decide) (by decide) (by decide) (by decide) (Or.inr (by decide))).trans i1.2.symm
      have kc2 : f1 51 (44 + g) = f0 2 (44 + g) := (k1 51 _ (by decide) (by decide) (by decide) (by decide) (by decide) (by decide) (by decide) (Or.inl (by decide))).trans (i2 (44 + g) (by omega)).1.symm
      have hb := hrL_b (H := fun k => f0 2 (44 + k)) (v := fun k => clS f0 w n k (q : Int)) g
      refine b216_39 ?_
      rw [kc1, if_pos (by omega), show (44 + (g : Int)).toNat = 44 + g by omega, kc2]
      refine zov_p (by omega) (zix_p (by omega) (zit (fun h => ?_) (fun h => ?_)))
      · refine zcall1 (fun v f2 => v = clS f0 w n g (q : Int) ∧ wk5 f0 f2) (zR_imp (u_if g0 i0 rw1 k1 (by omega) hn) (fun r _ f2 hh => ⟨_, hh.1, rfl, hh.2⟩)) (fun v f2 _ hh => ?_)
        obtain ⟨rfl, k2⟩ := hh
        have ih := ih f2 k2
        refine zit (fun h2 => zov_p (by omega) ?_) (fun h2 => zit (fun h3 => zov_p (by omega) ?_) (fun h3 => zov_p (by omega) ?_))
        · rw [hrL_0 (H := fun k => f0 2 (44 + k)) (v := fun k => clS f0 w n k (q : Int)) h (by omega)] at ih
          exact ih
        · rw [hrL_1 (H := fun k => f0 2 (44 + k)) (v := fun k => clS f0 w n k (q : Int)) h (by omega) h3] at ih
          exact ih
        · rw [hrL_2 (H := fun k => f0 2 (44 + k)) (v := fun k => clS f0 w n k (q : Int)) h (by omega) h3] at ih
          exact ih
      · have ih := ih f1 k1
        rw [hrL_n (H := fun k => f0 2 (44 + k)) (v := fun k => clS f0 w n k (q : Int)) h] at ih
        exact zov_p (by omega) ih
    · have kc1 : f1 50 7 = f0 1 1 := (k1 50 7 (by decide) (by decide) (by decide) (by decide) (by decide) (by decide) (by decide) (Or.inr (by decide))).trans i1.2.symm
      refine b216_39 ?_
      rw [kc1, if_neg (by omega)]
      refine zit (fun h => ?_) (fun h => ?_)
      · have K := K f1 k1
        rw [if_pos h] at K
        exact K
      · have K := K f1 k1
        rw [if_neg h] at K
        exact K
  exact L 0 (Nat.zero_le _) f k
set_option maxRecDepth 4000 in
set_option maxHeartbeats 1000000 in
theorem jq_14 {sc : zC} {f0 : zF} (g0 : aGok wG (afx sc f0)) (i0 : wD f0) {a b c : Int} : zR sc 199 132 0 [] [(0, zP (0)), (1, zI a), (2, zI b), (3, zI c)] 0 0 zSH f0 (fun r _ f1 => ∃ v, r = some (zI v) ∧ zR sc 199 216 0 [] [(0, zP (50)), (1, zI a), (2, zI b), (3, zI c)] 0 0 zSH f1 (fun r _ f2 => ∃ w, r = some (zI w) ∧ v = w)) := by
  obtain ⟨⟨s1, s1'⟩, s2, s3, s5, ch, im, w, cw, rw1⟩ := id i0
  have e0 := g_10 g0
  have e1 := g_11 g0
  by_cases hv : (0 ≤ a ∧ a < f0 1 0) ∧ (0 ≤ b ∧ b ≤ 60) ∧ (0 ≤ c ∧ c ≤ 1)
  rotate_left
  · refine b132_0 ?_
    repeat' (first | (refine zix_p (by omega) ?_) | (refine zov_p (by omega) ?_) | (refine zit (fun h => ?_) (fun h => ?_)))
    all_goals try (exfalso; omega)
    all_goals refine ⟨_, rfl, b216_0 ?_⟩
    all_goals try simp only [zlc_lt, zlc_gt, zlc_eq]
    all_goals repeat' (first | (refine zix_p (by omega) ?_) | (refine zov_p (by omega) ?_) | (refine zit (fun h => ?_) (fun h => ?_)))
    all_goals try (exfalso; omega)
    all_goals exact ⟨_, rfl, rfl⟩
  obtain ⟨q, rfl⟩ : ∃ q : Nat, a = (q : Int) := ⟨a.toNat, by omega⟩
  obtain ⟨n, rfl⟩ : ∃ n : Nat, b = (n : Int) := ⟨b.toNat, by omega⟩
  refine b132_0 ?_
  repeat' (first | (refine zix_p (by omega) ?_) | (refine zov_p (by omega) ?_) | (refine zit (fun h => ?_) (fun h => ?_)))
  all_goals try (exfalso; omega)
  refine c_hrs g0 i0 cw (fun _ _ _ _ _ _ _ _ _ _ _ => rfl) (by omega) (by omega) (fun f1 k1 => ?_)
  have k6 : f1 50 6 = f0 50 6 := wk7_hi k1 (by decide)
  refine ⟨_, rfl, b216_0 ?_⟩
  simp only [zlc_lt, zlc_gt, zlc_eq, k6]
  repeat' (first | (refine zix_p (by omega) ?_) | (refine zov_p (by omega) ?_) | (refine zit (fun h => ?_) (fun h => ?_)))
  all_goals try (exfalso; omega)
  exact r_hrs (f0 := f0) g0 i0 rw1 (fun c j h _ _ _ _ _ _ _ => wk7_hi k1 (by omega)) (by omega) (by omega) (fun f2 k2 => ⟨_, rfl, rfl⟩)
def spL (H v : Nat → Int) (t : Int) : Nat → Int
  | 0 => 0
  | g + 1 => if H g < 0 then spL H v t g else if v g = t then zor (spL H v t g) (zshl 1 (g : Int)) else spL H v t g
set_option maxRecDepth 4000 in
set_option maxHeartbeats 400000 in
theorem spL_i {H v : Nat → Int} {t : Int} : ∀ g, zIn (spL H v t g)
  | 0 => zin_0
  | g + 1 => by
    show zIn (if H g < 0 then spL H v t g else if v g = t then zor (spL H v t g) (zshl 1 (g : Int)) else spL H v t g)
    split
    · exact spL_i g
    · split
      · exact zin_t _
      · exact spL_i g
set_option maxRecDepth 4000 in
set_option maxHeartbeats 400000 in
theorem spL_n {H v : Nat → Int} {t : Int} {g : Nat} (h : H g < 0) : spL H v t (g + 1) = spL H v t g := if_pos h
set_option maxRecDepth 4000 in
set_option maxHeartbeats 400000 in
theorem spL_1 {H v : Nat → Int} {t : Int} {g : Nat} (h : ¬ H g < 0) (k : v g = t) : spL H v t (g + 1) = zor (spL H v t g) (zshl 1 (g : Int)) := (if_neg h).trans (if_pos k)
set_option maxRecDepth 4000 in
set_option maxHeartbeats 400000 in
theorem spL_0 {H v : Nat → Int} {t : Int} {g : Nat} (h : ¬ H g < 0) (k : ¬ v g = t) : spL H v t (g + 1) = spL H v t g := (if_neg h).trans (if_neg k)
set_option maxRecDepth 4000 in
set_option maxHeartbeats 400000 in
theorem zor_0 {x : Int} (h : zIn x) : zor x 0 = x := by
  unfold zor
  rw [zo_0, Int32.or_zero, zo_t h]
set_option maxRecDepth 100000 in
theorem b133_0 {sc : zC} {a : Int} {f : zF} {Q : zQ} (h : if a < 0 then (Q (some (zI (-1))) zSH f) else (if 60 < a then (Q (some (zI (-1))) zSH f) else (∃ A2 : zQ, zR sc (197) 88 0 [] [(0, zP (7)), (1, zP (22)), (2, zI a)] 0 0 zSH (zcp (zcp (zcp (zcp (zup (zup f (7) (0) (f (1) (0))) (7) (1) (f (1) (1))) (2) (8) (0) (0) (60)) (3) (9) (0) (0) (168)) (4) (10) (0) (0) (7)) (5) (11) (0) (0) (6)) A2 ∧ ∀ (r3 : Int) (f1 : zF), zIn r3 → A2 (some (zI r3)) zSH f1 → (∃ A5 : zQ, zR sc (198) 83 0 [] [(0, zP (7))] 0 0 zSH f1 A5 ∧ ∀ (r6 : Int) (f4 : zF), zIn r6 → A5 (some (zI r6)) zSH f4 → (zR sc (199) 133 27 [] [(0, zP (0)), (1, zI a), (2, zI r6), (3, zI (0)), (4, zI (0))] 0 0 zSH f4 Q))))) : zR sc (199) 133 0 [] [(0, zP (0)), (1, zI a)] 0 0 zSH f Q := zwn_R (stp := fun mi pc => bif Nat.beq mi 133 && Nat.beq pc 27 then some [0, 1, 2, 3, 4] else none) (inl := fun j => bif Nat.beq j 14 then true else bif Nat.beq j 15 then true else bif Nat.beq j 16 then true else bif Nat.beq j 17 then true else bif Nat.beq j 18 then true else bif Nat.beq j 19 then true else bif Nat.beq j 20 then true else bif Nat.beq j 22 then true else bif Nat.beq j 23 then true else bif Nat.beq j 25 then true else bif Nat.beq j 28 then true else bif Nat.beq j 50 then true else bif Nat.beq j 51 then true else bif Nat.beq j 52 then true else bif Nat.beq j 53 then true else bif Nat.beq j 54 then true else bif Nat.beq j 55 then true else bif Nat.beq j 56 then true else bif Nat.beq j 57 then true else bif Nat.beq j 58 then true else bif Nat.beq j 59 then true else bif Nat.beq j 60 then true else bif Nat.beq j 62 then true else bif Nat.beq j 63 then true else bif Nat.beq j 64 then true else bif Nat.beq j 65 then true else bif Nat.beq j 66 then true else bif Nat.beq j 67 then true else bif Nat.beq j 68 then true else bif Nat.beq j 69 then true else bif Nat.beq j 70 then true else bif Nat.beq j 71 then true else bif Nat.beq j 72 then true else bif Nat.beq j 73 then true else bif Nat.beq j 74 then true else bif Nat.beq j 75 then true else bif Nat.beq j 76 then true else bif Nat.beq j 77 then true else bif Nat.beq j 78 then true else bif Nat.beq j 79 then true else bif Nat.beq j 85 then true else bif Nat.beq j 86 then true else bif Nat.beq j 87 then true else bif Nat.beq j 92 then true else bif Nat.beq j 93 then true else bif Nat.beq j 95 then true else bif Nat.beq j 96 then true else bif Nat.beq j 97 then true else bif Nat.beq j 98 then true else bif Nat.beq j 99 then true else bif Nat.beq j 165 then true else bif Nat.beq j 166 then true else bif Nat.beq j 167 then true else bif Nat.beq j 170 then true else bif Nat.beq j 171 then true else bif Nat.beq j 172 then true else bif Nat.beq j 173 then true else bif Nat.beq j 174 then true else bif Nat.beq j 175 then true else bif Nat.beq j 176 then true else bif Nat.beq j 177 then true else bif Nat.beq j 178 then true else bif Nat.beq j 180 then true else bif Nat.beq j 181 then true else bif Nat.beq j 182 then true else bif Nat.beq j 183 then true else bif Nat.beq j 184 then true else bif Nat.beq j 185 then true else bif Nat.beq j 186 then true else bif Nat.beq j 187 then true else bif Nat.beq j 188 then true else bif Nat.beq j 191 then true else bif Nat.beq j 194 then true else bif Nat.beq j 200 then true else bif Nat.beq j 204 then true else bif Nat.beq j 205 then true else bif Nat.beq j 206 then true else bif Nat.beq j 209 then true else bif Nat.beq j 215 then true else bif Nat.beq j 220 then true else bif Nat.beq j 223 then true else bif Nat.beq j 224 then true else bif Nat.beq j 237 then true else bif Nat.beq j 238 then true else bif Nat.beq j 239 then true else bif Nat.beq j 240 then true else bif Nat.beq j 243 then true else bif Nat.beq j 244 then true else bif Nat.beq j 245 then true else bif Nat.beq j 246 then true else bif Nat.beq j 247 then true else bif Nat.beq j 252 then true else bif Nat.beq j 253 then true else bif Nat.beq j 254 then true else bif Nat.beq j 255 then true else bif Nat.beq j 257 then true else bif Nat.beq j 258 then true else bif Nat.beq j 259 then true else bif Nat.beq j 260 then true else bif Nat.beq j 263 then true else bif Nat.beq j 162 then true else bif Nat.beq j 163 then true else false) (nov := (fun j => bif Nat.beq j 143 then false else bif Nat.beq j 144 then false else bif Nat.beq j 242 then false else bif Nat.beq j 236 then false else bif Nat.beq j 237 then false else bif Nat.beq j 241 then false else bif Nat.beq j 239 then false else bif Nat.beq j 96 then false else true)) 88 h
set_option maxRecDepth 100000 in
theorem b133_27 {sc : zC} {x1 x2 x3 x4 : Int} {f : zF} {Q : zQ} (h : if x4 < f (1) (1) then (zov ((44) + x4) (zix ((44) + x4) (60) (if f (2) (((44) + x4).toNat) < 0 then (zov (x4 + 1) (zR sc (199) 133 27 [] [(0, zP (0)), (1, zI x1), (2, zI x2), (3, zI x3), (4, zI (x4 + 1))] 0 0 zSH f Q)) else (∃ A2 : zQ, zR sc (198) 164 0 [] [(0, zP (0)), (1, zI x4), (2, zI (-1)), (3, zI x1)] 0 0 zSH f A2 ∧ ∀ (r3 : Int) (f1 : zF), zIn r3 → A2 (some (zI r3)) zSH f1 → (if r3 = x2 then (zov (x4 + 1) (zR sc (199) 133 27 [] [(0, zP (0)), (1, zI x1), (2, zI x2), (3, zI (zor x3 (zshl (1) x4))), (4, zI (x4 + 1))] 0 0 zSH f1 Q)) else (zov (x4 + 1) (zR sc (199) 133 27 [] [(0, zP (0)), (1, zI x1), (2, zI x2), (3, zI x3), (4, zI (x4 + 1))] 0 0 zSH f1 Q))))))) else (Q (some (zI x3)) zSH f)) : zR sc (199) 133 27 [] [(0, zP (0)), (1, zI x1), (2, zI x2), (3, zI x3), (4, zI x4)] 0 0 zSH f Q := zwn_R (stp := fun mi pc => bif Nat.beq mi 133 && Nat.beq pc 27 then some [0, 1, 2, 3, 4] else none) (inl := fun j => bif Nat.beq j 14 then true else bif Nat.beq j 15 then true else bif Nat.beq j 16 then true else bif Nat.beq j 17 then true else bif Nat.beq j 18 then true else bif Nat.beq j 19 then true else bif Nat.beq j 20 then true else bif Nat.beq j 22 then true else bif Nat.beq j 23 then true else bif Nat.beq j 25 then true else bif Nat.beq j 28 then true else bif Nat.beq j 50 then true else bif Nat.beq j 51 then true else bif Nat.beq j 52 then true else bif Nat.beq j 53 then true else bif Nat.beq j 54 then true else bif Nat.beq j 55 then true else bif Nat.beq j 56 then true else bif Nat.beq j 57 then true else bif Nat.beq j 58 then true else bif Nat.beq j 59 then true else bif Nat.beq j 60 then true else bif Nat.beq j 62 then true else bif Nat.beq j 63 then true else bif Nat.beq j 64 then true else bif Nat.beq j 65 then true else bif Nat.beq j 66 then true else bif Nat.beq j 67 then true else bif Nat.beq j 68 then true else bif Nat.beq j 69 then true else bif Nat.beq j 70 then true else bif Nat.beq j 71 then true else bif Nat.beq j 72 then true else bif Nat.beq j 73 then true else bif Nat.beq j 74 then true else bif Nat.beq j 75 then true else bif Nat.beq j 76 then true else bif Nat.beq j 77 then true else bif Nat.beq j 78 then true else bif Nat.beq j 79 then true else bif Nat.beq j 85 then true else bif Nat.beq j 86 then true else bif Nat.beq j 87 then true else bif Nat.beq j 92 then true else bif Nat.beq j 93 then true else bif Nat.beq j 95 then true else bif Nat.beq j 96 then true else bif Nat.beq j 97 then true else bif Nat.beq j 98 then true else bif Nat.beq j 99 then true else bif Nat.beq j 165 then true else bif Nat.beq j 166 then true else bif Nat.beq j 167 then true else bif Nat.beq j 170 then true else bif Nat.beq j 171 then true else bif Nat.beq j 172 then true else bif Nat.beq j 173 then true else bif Nat.beq j 174 then true else bif Nat.beq j 175 then true else bif Nat.beq j 176 then true else bif Nat.beq j 177 then true else bif Nat.beq j 178 then true else bif Nat.beq j 180 then true else bif Nat.beq j 181 then true else bif Nat.beq j 182 then true else bif Nat.beq j 183 then true else bif Nat.beq j 184 then true else bif Nat.beq j 185 then true else bif Nat.beq j 186 then true else bif Nat.beq j 187 then true else bif Nat.beq j 188 then true else bif Nat.beq j 191 then true else bif Nat.beq j 194 then true else bif Nat.beq j 200 then true else bif Nat.beq j 204 then true else bif Nat.beq j 205 then true else bif Nat.beq j 206 then true else bif Nat.beq j 209 then true else bif Nat.beq j 215 then true else bif Nat.beq j 220 then true else bif Nat.beq j 223 then true else bif Nat.beq j 224 then true else bif Nat.beq j 237 then true else bif Nat.beq j 238 then true else bif Nat.beq j 239 then true else bif Nat.beq j 240 then true else bif Nat.beq j 243 then true else bif Nat.beq j 244 then true else bif Nat.beq j 245 then true else bif Nat.beq j 246 then true else bif Nat.beq j 247 then true else bif Nat.beq j 252 then true else bif Nat.beq j 253 then true else bif Nat.beq j 254 then true else bif Nat.beq j 255 then true else bif Nat.beq j 257 then true else bif Nat.beq j 258 then true else bif Nat.beq j 259 then true else bif Nat.beq j 260 then true else bif Nat.beq j 263 then true else bif Nat.beq j 162 then true else bif Nat.beq j 163 then true else false) (nov := (fun j => bif Nat.beq j 143 then false else bif Nat.beq j 144 then false else bif Nat.beq j 242 then false else bif Nat.beq j 236 then false else bif Nat.beq j 237 then false else bif Nat.beq j 241 then false else bif Nat.beq j 239 then false else bif Nat.beq j 96 then false else true)) 40 h
set_option maxRecDepth 100000 in
theorem b217_0 {sc : zC} {a : Int} {f : zF} {Q : zQ} (h : if zlcmp a (0) < 0 then (Q (some (zI (-1))) zSH f) else (if 0 < zlcmp a (60) then (Q (some (zI (-1))) zSH f) else (∃ A2 : zQ, zR sc (198) 215 0 [] [(0, zP (50)), (1, zI a), (2, zI (-1)), (3, zI (0))] 0 0 zSH f A2 ∧ ∀ (r3 : Int) (f1 : zF), zIn r3 → A2 (some (zI r3)) zSH f1 → (zR sc (199) 217 22 [] [(0, zP (50)), (1, zI a), (2, zI r3), (3, zI (0)), (4, zI (0))] 0 0 zSH f1 Q)))) : zR sc (199) 217 0 [] [(0, zP (50)), (1, zI a)] 0 0 zSH f Q := zwn_R (stp := fun mi pc => bif Nat.beq mi 217 && Nat.beq pc 22 then some [0, 1, 2, 3, 4] else none) (inl := fun j => bif Nat.beq j 14 then true else bif Nat.beq j 15 then true else bif Nat.beq j 16 then true else bif Nat.beq j 17 then true else bif Nat.beq j 18 then true else bif Nat.beq j 19 then true else bif Nat.beq j 20 then true else bif Nat.beq j 22 then true else bif Nat.beq j 23 then true else bif Nat.beq j 25 then true else bif Nat.beq j 28 then true else bif Nat.beq j 50 then true else bif Nat.beq j 51 then true else bif Nat.beq j 52 then true else bif Nat.beq j 53 then true else bif Nat.beq j 54 then true else bif Nat.beq j 55 then true else bif Nat.beq j 56 then true else bif Nat.beq j 57 then true else bif Nat.beq j 58 then true else bif Nat.beq j 59 then true else bif Nat.beq j 60 then true else bif Nat.beq j 62 then true else bif Nat.beq j 63 then true else bif Nat.beq j 64 then true else bif Nat.beq j 65 then true else bif Nat.beq j 66 then true else bif Nat.beq j 67 then true else bif Nat.beq j 68 then true else bif Nat.beq j 69 then true else bif Nat.beq j 70 then true else bif Nat.beq j 71 then true else bif Nat.beq j 72 then true else bif Nat.beq j 73 then true else bif Nat.beq j 74 then true else bif Nat.beq j 75 then true else bif Nat.beq j 76 then true else bif Nat.beq j 77 then true else bif Nat.beq j 78 then true else bif Nat.beq j 79 then true else bif Nat.beq j 85 then true else bif Nat.beq j 86 then true else bif Nat.beq j 87 then true else bif Nat.beq j 92 then true else bif Nat.beq j 93 then true else bif Nat.beq j 95 then true else bif Nat.beq j 96 then true else bif Nat.beq j 97 then true else bif Nat.beq j 98 then true else bif Nat.beq j 99 then true else bif Nat.beq j 165 then true else bif Nat.beq j 166 then true else bif Nat.beq j 167 then true else bif Nat.beq j 170 then true else bif Nat.beq j 171 then true else bif Nat.beq j 172 then true else bif Nat.beq j 173 then true else bif Nat.beq j 174 then true else bif Nat.beq j 175 then true else bif Nat.beq j 176 then true else bif Nat.beq j 177 then true else bif Nat.beq j 178 then true else bif Nat.beq j 180 then true else bif Nat.beq j 181 then true else bif Nat.beq j 182 then true else bif Nat.beq j 183 then true else bif Nat.beq j 184 then true else bif Nat.beq j 185 then true else bif Nat.beq j 186 then true else bif Nat.beq j 187 then true else bif Nat.beq j 188 then true else bif Nat.beq j 191 then true else bif Nat.beq j 194 then true else bif Nat.beq j 200 then true else bif Nat.beq j 204 then true else bif Nat.beq j 205 then true else bif Nat.beq j 206 then true else bif Nat.beq j 209 then true else bif Nat.beq j 220 then true else bif Nat.beq j 223 then true else bif Nat.beq j 224 then true else bif Nat.beq j 237 then true else bif Nat.beq j 238 then true else bif Nat.beq j 239 then true else bif Nat.beq j 240 then true else bif Nat.beq j 243 then true else bif Nat.beq j 244 then true else bif Nat.beq j 245 then true else bif Nat.beq j 246 then true else bif Nat.beq j 247 then true else bif Nat.beq j 252 then true else bif Nat.beq j 253 then true else bif Nat.beq j 254 then true else bif Nat.beq j 255 then true else bif Nat.beq j 257 then true else bif Nat.beq j 258 then true else bif Nat.beq j 259 then true else bif Nat.beq j 260 then true else bif Nat.beq j 263 then true else false) (nov := (fun j => bif Nat.beq j 143 then false else bif Nat.beq j 144 then false else bif Nat.beq j 242 then false else bif Nat.beq j 236 then false else bif Nat.beq j 237 then false else bif Nat.beq j 241 then false else bif Nat.beq j 239 then false else bif Nat.beq j 96 then false else true)) 44 h
set_option maxRecDepth 100000 in
theorem b217_22 {sc : zC} {x1 x2 x3 x4 : Int} {f : zF} {Q : zQ} (h : if x4 < f (50) (7) then (zov ((44) + x4) (zix ((44) + x4) (60) (if f (51) (((44) + x4).toNat) < 0 then (zov (x4 + 1) (zR sc (199) 217 22 [] [(0, zP (50)), (1, zI x1), (2, zI x2), (3, zI (zor x3 (0))), (4, zI (x4 + 1))] 0 0 zSH f Q)) else (∃ A2 : zQ, zR sc (198) 215 0 [] [(0, zP (50)), (1, zI x1), (2, zI x4), (3, zI (-1))] 0 0 zSH f A2 ∧ ∀ (r3 : Int) (f1 : zF), zIn r3 → A2 (some (zI r3)) zSH f1 → (if r3 = x2 then (zov (x4 + 1) (zR sc (199) 217 22 [] [(0, zP (50)), (1, zI x1), (2, zI x2), (3, zI (zor x3 (zshl (1) x4))), (4, zI (x4 + 1))] 0 0 zSH f1 Q)) else (zov (x4 + 1) (zR sc (199) 217 22 [] [(0, zP (50)), (1, zI x1), (2, zI x2), (3, zI (zor x3 (0))), (4, zI (x4 + 1))] 0 0 zSH f1 Q))))))) else (Q (some (zI x3)) zSH f)) : zR sc (199) 217 22 [] [(0, zP (50)), (1, zI x1), (2, zI x2), (3, zI x3), (4, zI x4)] 0 0 zSH f Q := zwn_R (stp := fun mi pc => bif Nat.beq mi 217 && Nat.beq pc 22 then some [0, 1, 2, 3, 4] else none) (inl := fun j => bif Nat.beq j 14 then true else bif Nat.beq j 15 then true else bif Nat.beq j 16 then true else bif Nat.beq j 17 then true else bif Nat.beq j 18 then true else bif Nat.beq j 19 then true else bif Nat.beq j 20 then true else bif Nat.beq j 22 then true else bif Nat.beq j 23 then true else bif Nat.beq j 25 then true else bif Nat.beq j 28 then true else bif Nat.beq j 50 then true else bif Nat.beq j 51 then true else bif Nat.beq j 52 then true else bif Nat.beq j 53 then true else bif Nat.beq j 54 then true else bif Nat.beq j 55 then true else bif Nat.beq j 56 then true else bif Nat.beq j 57 then true else bif Nat.beq j 58 then true else bif Nat.beq j 59 then true else bif Nat.beq j 60 then true else bif Nat.beq j 62 then true else bif Nat.beq j 63 then true else bif Nat.beq j 64 then true else bif Nat.beq j 65 then true else bif Nat.beq j 66 then true else bif Nat.beq j 67 then true else bif Nat.beq j 68 then true else bif Nat.beq j 69 then true else bif Nat.beq j 70 then true else bif Nat.beq j 71 then true else bif Nat.beq j 72 then true else bif Nat.beq j 73 then true else bif Nat.beq j 74 then true else bif Nat.beq j 75 then true else bif Nat.beq j 76 then true else bif Nat.beq j 77 then true else bif Nat.beq j 78 then true else bif Nat.beq j 79 then true else bif Nat.beq j 85 then true else bif Nat.beq j 86 then true else bif Nat.beq j 87 then true else bif Nat.beq j 92 then true else bif Nat.beq j 93 then true else bif Nat.beq j 95 then true else bif Nat.beq j 96 then true else bif Nat.beq j 97 then true else bif Nat.beq j 98 then true else bif Nat.beq j 99 then true else bif Nat.beq j 165 then true else bif Nat.beq j 166 then true else bif Nat.beq j 167 then true else bif Nat.beq j 170 then true else bif Nat.beq j 171 then true else bif Nat.beq j 172 then true else bif Nat.beq j 173 then true else bif Nat.beq j 174 then true else bif Nat.beq j 175 then true else bif Nat.beq j 176 then true else bif Nat.beq j 177 then true else bif Nat.beq j 178 then true else bif Nat.beq j 180 then true else bif Nat.beq j 181 then true else bif Nat.beq j 182 then true else bif Nat.beq j 183 then true else bif Nat.beq j 184 then true else bif Nat.beq j 185 then true else bif Nat.beq j 186 then true else bif Nat.beq j 187 then true else bif Nat.beq j 188 then true else bif Nat.beq j 191 then true else bif Nat.beq j 194 then true else bif Nat.beq j 200 then true else bif Nat.beq j 204 then true else bif Nat.beq j 205 then true else bif Nat.beq j 206 then true else bif Nat.beq j 209 then true else bif Nat.beq j 220 then true else bif Nat.beq j 223 then true else bif Nat.beq j 224 then true else bif Nat.beq j 237 then true else bif Nat.beq j 238 then true else bif Nat.beq j 239 then true else bif Nat.beq j 240 then true else bif Nat.beq j 243 then true else bif Nat.beq j 244 then true else bif Nat.beq j 245 then true else bif Nat.beq j 246 then true else bif Nat.beq j 247 then true else bif Nat.beq j 252 then true else bif Nat.beq j 253 then true else bif Nat.beq j 254 then true else bif Nat.beq j 255 then true else bif Nat.beq j 257 then true else bif Nat.beq j 258 then true else bif Nat.beq j 259 then true else bif Nat.beq j 260 then true else bif Nat.beq j 263 then true else false) (nov := (fun j => bif Nat.beq j 143 then false else bif Nat.beq j 144 then false else bif Nat.beq j 242 then false else bif Nat.beq j 236 then false else bif Nat.beq j 237 then false else bif Nat.beq j 241 then false else bif Nat.beq j 239 then false else bif Nat.beq j 96 then false else true)) 41 h
set_option maxRecDepth 4000 in
set_option maxHeartbeats 1000000 in
theorem c_spr {sc : zC} {f0 f : zF} {w : zLw} {n : Nat} {Q : zQ} (g0 : aGok wG (afx sc f0)) (i0 : wD f0) (cw : cLw w f0) (k : wk7 f0 f) (hn : n ≤ 60) (K : ∀ f1, wk7 f0 f1 → Q (some (zI (spL (fun k => f0 2 (44 + k)) (fun k => clS f0 w n k (-1)) (clN f0 w n) (f0 1 1).toNat))) zSH f1) : zR sc 199 133 27 [] [(0, zP 0), (1, zI (n : Int)), (2, zI (clN f0 w n)), (3, zI 0), (4, zI 0)] 0 0 zSH f Q := by
  have e1 := g_11 g0
  obtain ⟨i1, i2, i3, i5, ic, im, la⟩ := id i0
  have L : ∀ g, g ≤ (f0 1 1).toNat → ∀ f1, wk7 f0 f1 → zR sc 199 133 27 [] [(0, zP 0), (1, zI (n : Int)), (2, zI (clN f0 w n)), (3, zI (spL (fun k => f0 2 (44 + k)) (fun k => clS f0 w n k (-1)) (clN f0 w n) g)), (4, zI (g : Int))] 0 0 zSH f1 Q := by
    refine zloop (f0 1 1).toNat (fun g hg ih f1 k1 => ?_) (fun f1 k1 => ?_)
    · have kc1 : f1 1 1 = f0 1 1 := wk7_lo k1 (by decide)
      have kc2 : f1 2 (44 + g) = f0 2 (44 + g) := wk7_lo k1 (by decide)
      have hz := spL_i (H := fun k => f0 2 (44 + k)) (v := fun k => clS f0 w n k (-1)) (t := clN f0 w n) g
      refine b133_27 ?_
      rw [kc1, if_pos (by omega), show (44 + (g : Int)).toNat = 44 + g by omega, kc2]
      refine zov_p (by omega) (zix_p (by omega) (zit (fun h => ?_) (fun h => ?_)))
      · have ih := ih f1 k1
        rw [spL_n (H := fun k => f0 2 (44 + k)) (v := fun k => clS f0 w n k (-1)) (t := clN f0 w n) h] at ih
        refine zov_p (by omega) ?_
        exact ih
      · refine zcall1 (fun v f2 => v = clS f0 w n g (-1) ∧ wk7 f0 f2) (zR_imp (t_if g0 i0 cw k1 (by omega) hn) (fun r _ f2 hh => ⟨_, hh.1, rfl, hh.2⟩)) (fun v f2 _ hh => ?_)
        obtain ⟨rfl, k2⟩ := hh
        have ih := ih f2 k2
        refine zit (fun h2 => ?_) (fun h2 => ?_)
        · rw [spL_1 (H := fun k => f0 2 (44 + k)) (v := fun k => clS f0 w n k (-1)) (t := clN f0 w n) h h2] at ih
          exact zov_p (by omega) ih
        · rw [spL_0 (H := fun k => f0 2 (44 + k)) (v := fun k => clS f0 w n k (-1)) (t := clN f0 w n) h h2] at ih
          refine zov_p (by omega) ?_
          exact ih
    · have kc1 : f1 1 1 = f0 1 1 := wk7_lo k1 (by decide)
      refine b133_27 ?_
      rw [kc1, if_neg (by omega)]
      exact K f1 k1
  exact L 0 (Nat.zero_le _) f k
set_option maxRecDepth 4000 in
set_option maxHeartbeats 1000000 in
theorem r_spr {sc : zC} {f0 f : zF} {w : zLw} {n : Nat} {Q : zQ} (g0 : aGok wG (afx sc f0)) (i0 : wD f0) (rw1 : rLw w f0) (k : wk5 f0 f) (hn : n ≤ 60) (K : ∀ f1, wk5 f0 f1 → Q (some (zI (spL (fun k => f0 2 (44 + k)) (fun k => clS f0 w n k (-1)) (clN f0 w n) (f0 1 1).toNat))) zSH f1) : zR sc 199 217 22 [] [(0, zP 50), (1, zI (n : Int)), (2, zI (clN f0 w n)), (3, zI 0), (4, zI 0)] 0 0 zSH f Q := by
  have e1 := g_11 g0
  obtain ⟨i1, i2, i3, i5, ic, im, la⟩ := id i0
  have L : ∀ g, g ≤ (f0 1 1).toNat → ∀ f1, wk5 f0 f1 → zR sc 199 217 22 [] [(0, zP 50), (1, zI (n : Int)), (2, zI (clN f0 w n)), (3, zI (spL (fun k => f0 2 (44 + k)) (fun k => clS f0 w n k (-1)) (clN f0 w n) g)), (4, zI (g : Int))] 0 0 zSH f1 Q := by
    refine zloop (f0 1 1).toNat (fun g hg ih f1 k1 => ?_) (fun f1 k1 => ?_)
    · have kc1 : f1 50 7 = f0 1 1 := (k1 50 7 (by decide) (by decide) (by decide) (by decide) (by decide) (by decide) (by decide) (Or.inr (by decide))).trans i1.2.symm
      have kc2 : f1 51 (44 + g) = f0 2 (44 + g) := (k1 51 _ (by decide) (by decide) (by decide) (by decide) (by decide) (by decide) (by decide) (Or.inl (by decide))).trans (i2 (44 + g) (by omega)).1.symm
      have hz := spL_i (H := fun k => f0 2 (44 + k)) (v := fun k => clS f0 w n k (-1)) (t := clN f0 w n) g
      refine b217_22 ?_
      rw [kc1, if_pos (by omega), show (44 + (g : Int)).toNat = 44 + g by omega, kc2]
      refine zov_p (by omega) (zix_p (by omega) (zit (fun h => ?_) (fun h => ?_)))
      · have ih := ih f1 k1
        rw [spL_n (H := fun k => f0 2 (44 + k)) (v := fun k => clS f0 w n k (-1)) (t := clN f0 w n) h] at ih
        rw [zor_0 hz]
        refine zov_p (by omega) ?_
        exact ih
      · refine zcall1 (fun v f2 => v = clS f0 w n g (-1) ∧ wk5 f0 f2) (zR_imp (u_if g0 i0 rw1 k1 (by omega) hn) (fun r _ f2 hh => ⟨_, hh.1, rfl, hh.2⟩)) (fun v f2 _ hh => ?_)
        obtain ⟨rfl, k2⟩ := hh
        have ih := ih f2 k2
        refine zit (fun h2 => ?_) (fun h2 => ?_)
        · rw [spL_1 (H := fun k => f0 2 (44 + k)) (v := fun k => clS f0 w n k (-1)) (t := clN f0 w n) h h2] at ih
          exact zov_p (by omega) ih
        · rw [spL_0 (H := fun k => f0 2 (44 + k)) (v := fun k => clS f0 w n k (-1)) (t := clN f0 w n) h h2] at ih
          rw [zor_0 hz]
          refine zov_p (by omega) ?_
          exact ih
    · have kc1 : f1 50 7 = f0 1 1 := (k1 50 7 (by decide) (by decide) (by decide) (by decide) (by decide) (by decide) (by decide) (Or.inr (by decide))).trans i1.2.symm
      refine b217_22 ?_
      rw [kc1, if_neg (by omega)]
      exact K f1 k1
  exact L 0 (Nat.zero_le _) f k
set_option maxRecDepth 4000 in
set_option maxHeartbeats 1000000 in
theorem jq_15 {sc : zC} {f0 : zF} (g0 : aGok wG (afx sc f0)) (i0 : wD f0) {a : Int} : zR sc 199 133 0 [] [(0, zP (0)), (1, zI a)] 0 0 zSH f0 (fun r _ f1 => ∃ v, r = some (zI v) ∧ zR sc 199 217 0 [] [(0, zP (50)), (1, zI a)] 0 0 zSH f1 (fun r _ f2 => ∃ w, r = some (zI w) ∧ v = w)) := by
  obtain ⟨⟨s1, s1'⟩, s2, s3, s5, ch, im, w, cw, rw1⟩ := id i0
  have e0 := g_10 g0
  have e1 := g_11 g0
  by_cases hv : 0 ≤ a ∧ a ≤ 60
  rotate_left
  · refine b133_0 ?_
    repeat' (first | (refine zix_p (by omega) ?_) | (refine zov_p (by omega) ?_) | (refine zit (fun h => ?_) (fun h => ?_)))
    all_goals try (exfalso; omega)
    all_goals refine ⟨_, rfl, b217_0 ?_⟩
    all_goals try simp only [zlc_lt, zlc_gt, zlc_eq]
    all_goals repeat' (first | (refine zix_p (by omega) ?_) | (refine zov_p (by omega) ?_) | (refine zit (fun h => ?_) (fun h => ?_)))
    all_goals try (exfalso; omega)
    all_goals exact ⟨_, rfl, rfl⟩
  obtain ⟨n, rfl⟩ : ∃ n : Nat, a = (n : Int) := ⟨a.toNat, by omega⟩
  refine b133_0 ?_
  repeat' (first | (refine zix_p (by omega) ?_) | (refine zov_p (by omega) ?_) | (refine zit (fun h => ?_) (fun h => ?_)))
  all_goals try (exfalso; omega)
  refine t_now g0 i0 cw (by omega) rfl (fun f1 k1 => c_spr g0 i0 cw k1 (by omega) (fun f2 k2 => ⟨_, rfl, b217_0 ?_⟩))
  simp only [zlc_lt, zlc_gt, zlc_eq]
  repeat' (first | (refine zix_p (by omega) ?_) | (refine zov_p (by omega) ?_) | (refine zit (fun h => ?_) (fun h => ?_)))
  all_goals try (exfalso; omega)
  refine zcall1 (fun v f3 => v = clN f0 w n ∧ wk5 f0 f3) (zR_imp (u_now (F := f2) g0 i0 rw1 (fun c j h _ _ _ _ _ _ _ => wk7_hi k2 (by omega)) (by decide) (by omega)) (fun r _ f3 hh => ⟨_, hh.1, rfl, hh.2⟩)) (fun v f3 _ hh => ?_)
  obtain ⟨rfl, k3⟩ := hh
  exact r_spr g0 i0 rw1 k3 (by omega) (fun f4 k4 => ⟨_, rfl, rfl⟩)
end
