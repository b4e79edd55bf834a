noncomputable section
/-! trains: the first of the least, by one search -/
section TRAIN
/-- the first way by at most K trains, girls g on, u trains in use, c who is on a train -/
def cSet (c : Nat → Int) (t g : Nat) : Nat → Int := fun i => if i = t then zor (c t) (zshl 1 (g : Int)) else c i
def nxU (u t : Nat) : Nat := if t = u then u + 1 else u
/-- the first success of F ahead of n -/
def fsT (F : Nat → Option (List Nat)) : Nat → Option (List Nat)
  | 0 => none
  | t + 1 => match fsT F t with
    | some l => some l
    | none => (F t).map (fun l => t :: l)
def sCh (gv : Int → Int) (K : Nat) : Nat → Nat → Nat → (Nat → Int) → Option (List Nat)
  | 0, _, u, _ => if u ≤ K then some [] else none
  | r + 1, g, u, c => fsT (fun t => if gv (zor (c t) (zshl 1 (g : Int))) = 0 then sCh gv K r (g + 1) (nxU u t) (cSet c t g) else none) (u + 1)
variable {gv : Int → Int} {K : Nat}
set_option maxRecDepth 100000 in
theorem fsT_n {F : Nat → Option (List Nat)} : ∀ n, (∀ t, t < n → F t = none) → fsT F n = none
  | 0, _ => rfl
  | n + 1, h => by
    have ih := fsT_n n (fun t ht => h t (by omega))
    show (match fsT F n with | some l => some l | none => (F n).map (fun l => n :: l)) = none
    rw [ih, h n (by omega)]
    rfl
set_option maxRecDepth 100000 in
theorem fsT_e {F H : Nat → Option (List Nat)} : ∀ n, (∀ t, t < n → F t = H t) → fsT F n = fsT H n
  | 0, _ => rfl
  | n + 1, h => by
    have ih := fsT_e n (fun t ht => h t (by omega))
    show (match fsT F n with | some l => some l | none => (F n).map (fun l => n :: l)) = (match fsT H n with | some l => some l | none => (H n).map (fun l => n :: l))
    rw [ih, h n (by omega)]
set_option maxRecDepth 100000 in
theorem sCh_lt : ∀ (r g u : Nat) (c : Nat → Int), K < u → sCh gv K r g u c = none
  | 0, g, u, c, h => if_neg (by omega)
  | r + 1, g, u, c, h => fsT_n _ (fun t _ => by
      show (if gv (zor (c t) (zshl 1 (g : Int))) = 0 then sCh gv K r (g + 1) (nxU u t) (cSet c t g) else none) = none
      rw [sCh_lt r (g + 1) (nxU u t) (cSet c t g) (by unfold nxU; split <;> omega)]
      split <;> rfl)
set_option maxRecDepth 100000 in
theorem sCh_ge {L : Nat} : ∀ (r g u : Nat) (c : Nat → Int), u ≤ g → g + r ≤ K → g + r ≤ L → sCh gv K r g u c = sCh gv L r g u c
  | 0, g, u, c, h, a, b => by
    show (if u ≤ K then some [] else none) = (if u ≤ L then some [] else none)
    rw [if_pos (by omega), if_pos (by omega)]
  | r + 1, g, u, c, h, a, b => fsT_e _ (fun t _ => by
      show (if gv (zor (c t) (zshl 1 (g : Int))) = 0 then sCh gv K r (g + 1) (nxU u t) (cSet c t g) else none) = (if gv (zor (c t) (zshl 1 (g : Int))) = 0 then sCh gv L r (g + 1) (nxU u t) (cSet c t g) else none)
      rw [sCh_ge (L := L) r (g + 1) (nxU u t) (cSet c t g) (by unfold nxU; split <;> omega) (by omega) (by omega)])
/-- the best of what F finds by fewer than b, by the least number; else what was -/
def bst (F : Nat → Option (List Nat)) (b : Nat) (v w : Nat × List Nat) : Prop :=
  (w = v ∧ ∀ K, K < b → F K = none) ∨ (∃ l, w = (w.1, l) ∧ w.1 < b ∧ F w.1 = some l ∧ ∀ K, K < w.1 → F K = none)
set_option maxRecDepth 100000 in
theorem bst_u {F : Nat → Option (List Nat)} {b : Nat} {v w x : Nat × List Nat} (h : bst F b v w) (k : bst F b v x) : w = x := by
  rcases h with ⟨h1, h2⟩ | ⟨l, h1, h2, h3, h4⟩
  · rcases k with ⟨k1, k2⟩ | ⟨m, k1, k2, k3, k4⟩
    · rw [h1, k1]
    · rw [h2 _ k2] at k3
      exact absurd k3 (by simp)
  · rcases k with ⟨k1, k2⟩ | ⟨m, k1, k2, k3, k4⟩
    · rw [k2 _ h2] at h3
      exact absurd h3 (by simp)
    · have e : w.1 = x.1 := by
        rcases Nat.lt_trichotomy w.1 x.1 with a | a | a
        · rw [k4 _ a] at h3; exact absurd h3 (by simp)
        · exact a
        · rw [h4 _ a] at k3; exact absurd k3 (by simp)
      rw [e, k3] at h3
      have h3 : m = l := by injection h3
      rw [h1, k1, e, h3]
def orF (F H : Nat → Option (List Nat)) (K : Nat) : Option (List Nat) := match F K with
  | some l => some l
  | none => H K
set_option maxRecDepth 100000 in
theorem orF_n {F H : Nat → Option (List Nat)} {K : Nat} (h : F K = none) : orF F H K = H K := by
  unfold orF
  rw [h]
set_option maxRecDepth 100000 in
theorem orF_s {F H : Nat → Option (List Nat)} {K : Nat} {l : List Nat} (h : F K = some l) : orF F H K = some l := by
  unfold orF
  rw [h]
set_option maxRecDepth 100000 in
theorem bst_or {F H : Nat → Option (List Nat)} {v w x : Nat × List Nat} (h : bst F v.1 v w) (k : bst H w.1 w x) : bst (orF F H) v.1 v x := by
  rcases h with ⟨h1, h2⟩ | ⟨l, h1, h2, h3, h4⟩
  · subst h1
    rcases k with ⟨k1, k2⟩ | ⟨m, k1, k2, k3, k4⟩
    · exact Or.inl ⟨k1, fun K hK => (orF_n (h2 K hK)).trans (k2 K hK)⟩
    · exact Or.inr ⟨m, k1, k2, (orF_n (h2 _ k2)).trans k3, fun K hK => (orF_n (h2 K (by omega))).trans (k4 K hK)⟩
  · rcases k with ⟨k1, k2⟩ | ⟨m, k1, k2, k3, k4⟩
    · subst k1
      exact Or.inr ⟨l, h1, h2, orF_s h3, fun K hK => (orF_n (h4 K hK)).trans (k2 K hK)⟩
    · exact Or.inr ⟨m, k1, by omega, (orF_n (h4 _ k2)).trans k3, fun K hK => (orF_n (h4 K (by omega))).trans (k4 K hK)⟩
set_option maxRecDepth 100000 in
theorem bst_e {F H : Nat → Option (List Nat)} {b : Nat} {v w : Nat × List Nat} (e : ∀ K, F K = H K) (h : bst F b v w) : bst H b v w := by
  rw [show H = F from (funext e).symm]
  exact h
set_option maxRecDepth 100000 in
/-- nothing found ahead of the first -/
theorem bst_0 {v : Nat × List Nat} : bst (fun _ => none) v.1 v v := Or.inl ⟨rfl, fun _ _ => rfl⟩
set_option maxRecDepth 100000 in
/-- all girls on trains -/
theorem bst_l {u : Nat} {pre : List Nat} {v : Nat × List Nat} : bst (fun K => (if u ≤ K then some ([] : List Nat) else none).map (fun l => pre ++ l)) v.1 v (if u < v.1 then (u, pre) else v) := by
  by_cases c : u < v.1
  · rw [if_pos c]
    refine Or.inr ⟨pre, rfl, c, ?_, fun K hK => ?_⟩
    · show (if u ≤ u then some ([] : List Nat) else none).map (fun l => pre ++ l) = some pre
      rw [if_pos (Nat.le_refl u)]
      show some (pre ++ []) = some pre
      rw [List.append_nil]
    · have hK : K < u := hK
      show (if u ≤ K then some ([] : List Nat) else none).map (fun l => pre ++ l) = none
      rw [if_neg (by omega)]
      rfl
  · rw [if_neg c]
    refine Or.inl ⟨rfl, fun K hK => ?_⟩
    show (if u ≤ K then some ([] : List Nat) else none).map (fun l => pre ++ l) = none
    rw [if_neg (by omega)]
    rfl
set_option maxRecDepth 100000 in
/-- one train more looked at -/
theorem fsT_s {F : Nat → Option (List Nat)} {pre : List Nat} {n : Nat} : (fsT F (n + 1)).map (fun l => pre ++ l) = (match (fsT F n).map (fun l => pre ++ l) with | some l => some l | none => (F n).map (fun l => (pre ++ [n]) ++ l)) := by
  show (match fsT F n with | some l => some l | none => (F n).map (fun l => n :: l)).map (fun l => pre ++ l) = _
  cases fsT F n with
  | some l => rfl
  | none =>
    cases F n with
    | none => rfl
    | some l =>
      show some (pre ++ (n :: l)) = some ((pre ++ [n]) ++ l)
      rw [List.append_assoc]
      rfl
end TRAIN
set_option maxRecDepth 100000 in
theorem b222_0 {sc : zC} {d : Nat} {a b : Int} {f : zF} {Q : zQ} (h : if a = f (50) (7) then (if b < f (50) (32) then (zR sc (d + 1) 222 23 [] [(0, zP (50)), (3, zI (0))] 0 0 zSH (zup f (50) (32) b) Q) else (Q none zSH f)) else (zR sc (d + 1) 222 52 [] [(0, zP (50)), (1, zI a), (2, zI b), (3, zI (0))] 0 0 zSH f Q)) : zR sc (d + 1) 222 0 [] [(0, zP (50)), (1, zI a), (2, zI b)] 0 0 zSH f Q := zwn_R (stp := fun mi pc => bif Nat.beq mi 222 && Nat.beq pc 23 then some [0, 3] else bif Nat.beq mi 222 && Nat.beq pc 52 then some [0, 1, 2, 3] else none) (inl := fun j => bif Nat.beq j 14 then true else bif Nat.beq j 15 then true else bif Nat.beq j 16 then true else bif Nat.beq j 17 then true else bif Nat.beq j 18 then true else bif Nat.beq j 19 then true else bif Nat.beq j 20 then true else bif Nat.beq j 22 then true else bif Nat.beq j 23 then true else bif Nat.beq j 25 then true else bif Nat.beq j 28 then true else bif Nat.beq j 50 then true else bif Nat.beq j 51 then true else bif Nat.beq j 52 then true else bif Nat.beq j 53 then true else bif Nat.beq j 54 then true else bif Nat.beq j 55 then true else bif Nat.beq j 56 then true else bif Nat.beq j 57 then true else bif Nat.beq j 58 then true else bif Nat.beq j 59 then true else bif Nat.beq j 60 then true else bif Nat.beq j 62 then true else bif Nat.beq j 63 then true else bif Nat.beq j 64 then true else bif Nat.beq j 65 then true else bif Nat.beq j 66 then true else bif Nat.beq j 67 then true else bif Nat.beq j 68 then true else bif Nat.beq j 69 then true else bif Nat.beq j 70 then true else bif Nat.beq j 71 then true else bif Nat.beq j 72 then true else bif Nat.beq j 73 then true else bif Nat.beq j 74 then true else bif Nat.beq j 75 then true else bif Nat.beq j 76 then true else bif Nat.beq j 77 then true else bif Nat.beq j 78 then true else bif Nat.beq j 79 then true else bif Nat.beq j 85 then true else bif Nat.beq j 86 then true else bif Nat.beq j 87 then true else bif Nat.beq j 92 then true else bif Nat.beq j 93 then true else bif Nat.beq j 95 then true else bif Nat.beq j 96 then true else bif Nat.beq j 97 then true else bif Nat.beq j 98 then true else bif Nat.beq j 99 then true else bif Nat.beq j 165 then true else bif Nat.beq j 166 then true else bif Nat.beq j 167 then true else bif Nat.beq j 170 then true else bif Nat.beq j 171 then true else bif Nat.beq j 172 then true else bif Nat.beq j 173 then true else bif Nat.beq j 174 then true else bif Nat.beq j 175 then true else bif Nat.beq j 176 then true else bif Nat.beq j 177 then true else bif Nat.beq j 178 then true else bif Nat.beq j 180 then true else bif Nat.beq j 181 then true else bif Nat.beq j 182 then true else bif Nat.beq j 183 then true else bif Nat.beq j 184 then true else bif Nat.beq j 185 then true else bif Nat.beq j 186 then true else bif Nat.beq j 187 then true else bif Nat.beq j 188 then true else bif Nat.beq j 191 then true else bif Nat.beq j 194 then true else bif Nat.beq j 200 then true else bif Nat.beq j 204 then true else bif Nat.beq j 205 then true else bif Nat.beq j 206 then true else bif Nat.beq j 209 then true else bif Nat.beq j 215 then true else bif Nat.beq j 220 then true else bif Nat.beq j 223 then true else bif Nat.beq j 224 then true else bif Nat.beq j 237 then true else bif Nat.beq j 238 then true else bif Nat.beq j 239 then true else bif Nat.beq j 240 then true else bif Nat.beq j 243 then true else bif Nat.beq j 244 then true else bif Nat.beq j 245 then true else bif Nat.beq j 246 then true else bif Nat.beq j 247 then true else bif Nat.beq j 252 then true else bif Nat.beq j 253 then true else bif Nat.beq j 254 then true else bif Nat.beq j 255 then true else bif Nat.beq j 257 then true else bif Nat.beq j 258 then true else bif Nat.beq j 259 then true else bif Nat.beq j 260 then true else bif Nat.beq j 263 then true else false) (nov := (fun j => bif Nat.beq j 143 then false else bif Nat.beq j 144 then false else bif Nat.beq j 242 then false else bif Nat.beq j 236 then false else bif Nat.beq j 237 then false else bif Nat.beq j 241 then false else bif Nat.beq j 239 then false else bif Nat.beq j 96 then false else true)) 18 h
set_option maxRecDepth 100000 in
theorem b222_23 {sc : zC} {d : Nat} {x3 : Int} {f : zF} {Q : zQ} (h : if x3 < f (50) (7) then (zix x3 (7) (zix x3 (7) (zov (x3 + 1) (zR sc (d + 1) 222 23 [] [(0, zP (50)), (3, zI (x3 + 1))] 0 0 zSH (zup f (66) (x3.toNat) (f (67) (x3.toNat))) Q)))) else (Q none zSH f)) : zR sc (d + 1) 222 23 [] [(0, zP (50)), (3, zI x3)] 0 0 zSH f Q := zwn_R (stp := fun mi pc => bif Nat.beq mi 222 && Nat.beq pc 23 then some [0, 3] else none) (inl := fun j => bif Nat.beq j 14 then true else bif Nat.beq j 15 then true else bif Nat.beq j 16 then true else bif Nat.beq j 17 then true else bif Nat.beq j 18 then true else bif Nat.beq j 19 then true else bif Nat.beq j 20 then true else bif Nat.beq j 22 then true else bif Nat.beq j 23 then true else bif Nat.beq j 25 then true else bif Nat.beq j 28 then true else bif Nat.beq j 50 then true else bif Nat.beq j 51 then true else bif Nat.beq j 52 then true else bif Nat.beq j 53 then true else bif Nat.beq j 54 then true else bif Nat.beq j 55 then true else bif Nat.beq j 56 then true else bif Nat.beq j 57 then true else bif Nat.beq j 58 then true else bif Nat.beq j 59 then true else bif Nat.beq j 60 then true else bif Nat.beq j 62 then true else bif Nat.beq j 63 then true else bif Nat.beq j 64 then true else bif Nat.beq j 65 then true else bif Nat.beq j 66 then true else bif Nat.beq j 67 then true else bif Nat.beq j 68 then true else bif Nat.beq j 69 then true else bif Nat.beq j 70 then true else bif Nat.beq j 71 then true else bif Nat.beq j 72 then true else bif Nat.beq j 73 then true else bif Nat.beq j 74 then true else bif Nat.beq j 75 then true else bif Nat.beq j 76 then true else bif Nat.beq j 77 then true else bif Nat.beq j 78 then true else bif Nat.beq j 79 then true else bif Nat.beq j 85 then true else bif Nat.beq j 86 then true else bif Nat.beq j 87 then true else bif Nat.beq j 92 then true else bif Nat.beq j 93 then true else bif Nat.beq j 95 then true else bif Nat.beq j 96 then true else bif Nat.beq j 97 then true else bif Nat.beq j 98 then true else bif Nat.beq j 99 then true else bif Nat.beq j 165 then true else bif Nat.beq j 166 then true else bif Nat.beq j 167 then true else bif Nat.beq j 170 then true else bif Nat.beq j 171 then true else bif Nat.beq j 172 then true else bif Nat.beq j 173 then true else bif Nat.beq j 174 then true else bif Nat.beq j 175 then true else bif Nat.beq j 176 then true else bif Nat.beq j 177 then true else bif Nat.beq j 178 then true else bif Nat.beq j 180 then true else bif Nat.beq j 181 then true else bif Nat.beq j 182 then true else bif Nat.beq j 183 then true else bif Nat.beq j 184 then true else bif Nat.beq j 185 then true else bif Nat.beq j 186 then true else bif Nat.beq j 187 then true else bif Nat.beq j 188 then true else bif Nat.beq j 191 then true else bif Nat.beq j 194 then true else bif Nat.beq j 200 then true else bif Nat.beq j 204 then true else bif Nat.beq j 205 then true else bif Nat.beq j 206 then true else bif Nat.beq j 209 then true else bif Nat.beq j 215 then true else bif Nat.beq j 220 then true else bif Nat.beq j 223 then true else bif Nat.beq j 224 then true else bif Nat.beq j 237 then true else bif Nat.beq j 238 then true else bif Nat.beq j 239 then true else bif Nat.beq j 240 then true else bif Nat.beq j 243 then true else bif Nat.beq j 244 then true else bif Nat.beq j 245 then true else bif Nat.beq j 246 then true else bif Nat.beq j 247 then true else bif Nat.beq j 252 then true else bif Nat.beq j 253 then true else bif Nat.beq j 254 then true else bif Nat.beq j 255 then true else bif Nat.beq j 257 then true else bif Nat.beq j 258 then true else bif Nat.beq j 259 then true else bif Nat.beq j 260 then true else bif Nat.beq j 263 then true else false) (nov := (fun j => bif Nat.beq j 143 then false else bif Nat.beq j 144 then false else bif Nat.beq j 242 then false else bif Nat.beq j 236 then false else bif Nat.beq j 237 then false else bif Nat.beq j 241 then false else bif Nat.beq j 239 then false else bif Nat.beq j 96 then false else true)) 17 h
set_option maxRecDepth 100000 in
theorem b222_52 {sc : zC} {d : Nat} {x1 x2 x3 : Int} {f : zF} {Q : zQ} (h : if x2 < x3 then (Q none zSH f) else (if x3 = x2 then (∃ A2 : zQ, zR sc d 219 0 [] [(0, zP (50)), (1, zI (zor (0) (zshl (1) x1)))] 0 0 zSH f A2 ∧ ∀ (r3 : Int) (f1 : zF), zIn r3 → A2 (some (zI r3)) zSH f1 → (if r3 = 0 then (if x3 = x2 then (zix x3 (7) (zix x1 (7) (zov (x1 + (1)) (if x3 = x2 then (zov (x2 + (1)) (∃ A5 : zQ, zR sc d 222 0 [] [(0, zP (50)), (1, zI (x1 + (1))), (2, zI (x2 + (1)))] 0 0 zSH (zup (zup f1 (65) (x3.toNat) (zor (0) (zshl (1) x1))) (67) (x1.toNat) x3) A5 ∧ ∀ f4 : zF, A5 none zSH f4 → (zix x3 (7) (zov (x3 + 1) (zR sc (d + 1) 222 52 [] [(0, zP (50)), (1, zI x1), (2, zI x2), (3, zI (x3 + 1))] 0 0 zSH (zup f4 (65) (x3.toNat) (0)) Q))))) else (∃ A7 : zQ, zR sc d 222 0 [] [(0, zP (50)), (1, zI (x1 + (1))), (2, zI x2)] 0 0 zSH (zup (zup f1 (65) (x3.toNat) (zor (0) (zshl (1) x1))) (67) (x1.toNat) x3) A7 ∧ ∀ f6 : zF, A7 none zSH f6 → (zix x3 (7) (zov (x3 + 1) (zR sc (d + 1) 222 52 [] [(0, zP (50)), (1, zI x1), (2, zI x2), (3, zI (x3 + 1))] 0 0 zSH (zup f6 (65) (x3.toNat) (0)) Q)))))))) else (zix x3 (7) (zix x3 (7) (zix x1 (7) (zov (x1 + (1)) (if x3 = x2 then (zov (x2 + (1)) (∃ A9 : zQ, zR sc d 222 0 [] [(0, zP (50)), (1, zI (x1 + (1))), (2, zI (x2 + (1)))] 0 0 zSH (zup (zup f1 (65) (x3.toNat) (zor (0) (zshl (1) x1))) (67) (x1.toNat) x3) A9 ∧ ∀ f8 : zF, A9 none zSH f8 → (zix x3 (7) (zov (x3 + 1) (zR sc (d + 1) 222 52 [] [(0, zP (50)), (1, zI x1), (2, zI x2), (3, zI (x3 + 1))] 0 0 zSH (zup f8 (65) (x3.toNat) (f1 (65) (x3.toNat))) Q))))) else (∃ A11 : zQ, zR sc d 222 0 [] [(0, zP (50)), (1, zI (x1 + (1))), (2, zI x2)] 0 0 zSH (zup (zup f1 (65) (x3.toNat) (zor (0) (zshl (1) x1))) (67) (x1.toNat) x3) A11 ∧ ∀ f10 : zF, A11 none zSH f10 → (zix x3 (7) (zov (x3 + 1) (zR sc (d + 1) 222 52 [] [(0, zP (50)), (1, zI x1), (2, zI x2), (3, zI (x3 + 1))] 0 0 zSH (zup f10 (65) (x3.toNat) (f1 (65) (x3.toNat))) Q)))))))))) else (zov (x3 + 1) (zR sc (d + 1) 222 52 [] [(0, zP (50)), (1, zI x1), (2, zI x2), (3, zI (x3 + 1))] 0 0 zSH f1 Q)))) else (zix x3 (7) (∃ A13 : zQ, zR sc d 219 0 [] [(0, zP (50)), (1, zI (zor (f (65) (x3.toNat)) (zshl (1) x1)))] 0 0 zSH f A13 ∧ ∀ (r14 : Int) (f12 : zF), zIn r14 → A13 (some (zI r14)) zSH f12 → (if r14 = 0 then (if x3 = x2 then (zix x3 (7) (zix x1 (7) (zov (x1 + (1)) (if x3 = x2 then (zov (x2 + (1)) (∃ A16 : zQ, zR sc d 222 0 [] [(0, zP (50)), (1, zI (x1 + (1))), (2, zI (x2 + (1)))] 0 0 zSH (zup (zup f12 (65) (x3.toNat) (zor (f (65) (x3.toNat)) (zshl (1) x1))) (67) (x1.toNat) x3) A16 ∧ ∀ f15 : zF, A16 none zSH f15 → (zix x3 (7) (zov (x3 + 1) (zR sc (d + 1) 222 52 [] [(0, zP (50)), (1, zI x1), (2, zI x2), (3, zI (x3 + 1))] 0 0 zSH (zup f15 (65) (x3.toNat) (0)) Q))))) else (∃ A18 : zQ, zR sc d 222 0 [] [(0, zP (50)), (1, zI (x1 + (1))), (2, zI x2)] 0 0 zSH (zup (zup f12 (65) (x3.toNat) (zor (f (65) (x3.toNat)) (zshl (1) x1))) (67) (x1.toNat) x3) A18 ∧ ∀ f17 : zF, A18 none zSH f17 → (zix x3 (7) (zov (x3 + 1) (zR sc (d + 1) 222 52 [] [(0, zP (50)), (1, zI x1), (2, zI x2), (3, zI (x3 + 1))] 0 0 zSH (zup f17 (65) (x3.toNat) (0)) Q)))))))) else (zix x3 (7) (zix x3 (7) (zix x1 (7) (zov (x1 + (1)) (if x3 = x2 then (zov (x2 + (1)) (∃ A20 : zQ, zR sc d 222 0 [] [(0, zP (50)), (1, zI (x1 + (1))), (2, zI (x2 + (1)))] 0 0 zSH (zup (zup f12 (65) (x3.toNat) (zor (f (65) (x3.toNat)) (zshl (1) x1))) (67) (x1.toNat) x3) A20 ∧ ∀ f19 : zF, A20 none zSH f19 → (zix x3 (7) (zov (x3 + 1) (zR sc (d + 1) 222 52 [] [(0, zP (50)), (1, zI x1), (2, zI x2), (3, zI (x3 + 1))] 0 0 zSH (zup f19 (65) (x3.toNat) (f12 (65) (x3.toNat))) Q))))) else (∃ A22 : zQ, zR sc d 222 0 [] [(0, zP (50)), (1, zI (x1 + (1))), (2, zI x2)] 0 0 zSH (zup (zup f12 (65) (x3.toNat) (zor (f (65) (x3.toNat)) (zshl (1) x1))) (67) (x1.toNat) x3) A22 ∧ ∀ f21 : zF, A22 none zSH f21 → (zix x3 (7) (zov (x3 + 1) (zR sc (d + 1) 222 52 [] [(0, zP (50)), (1, zI x1), (2, zI x2), (3, zI (x3 + 1))] 0 0 zSH (zup f21 (65) (x3.toNat) (f12 (65) (x3.toNat))) Q)))))))))) else (zov (x3 + 1) (zR sc (d + 1) 222 52 [] [(0, zP (50)), (1, zI x1), (2, zI x2), (3, zI (x3 + 1))] 0 0 zSH f12 Q))))))) : zR sc (d + 1) 222 52 [] [(0, zP (50)), (1, zI x1), (2, zI x2), (3, zI x3)] 0 0 zSH f Q := zwn_R (stp := fun mi pc => bif Nat.beq mi 222 && Nat.beq pc 52 then some [0, 1, 2, 3] else none) (inl := fun j => bif Nat.beq j 14 then true else bif Nat.beq j 15 then true else bif Nat.beq j 16 then true else bif Nat.beq j 17 then true else bif Nat.beq j 18 then true else bif Nat.beq j 19 then true else bif Nat.beq j 20 then true else bif Nat.beq j 22 then true else bif Nat.beq j 23 then true else bif Nat.beq j 25 then true else bif Nat.beq j 28 then true else bif Nat.beq j 50 then true else bif Nat.beq j 51 then true else bif Nat.beq j 52 then true else bif Nat.beq j 53 then true else bif Nat.beq j 54 then true else bif Nat.beq j 55 then true else bif Nat.beq j 56 then true else bif Nat.beq j 57 then true else bif Nat.beq j 58 then true else bif Nat.beq j 59 then true else bif Nat.beq j 60 then true else bif Nat.beq j 62 then true else bif Nat.beq j 63 then true else bif Nat.beq j 64 then true else bif Nat.beq j 65 then true else bif Nat.beq j 66 then true else bif Nat.beq j 67 then true else bif Nat.beq j 68 then true else bif Nat.beq j 69 then true else bif Nat.beq j 70 then true else bif Nat.beq j 71 then true else bif Nat.beq j 72 then true else bif Nat.beq j 73 then true else bif Nat.beq j 74 then true else bif Nat.beq j 75 then true else bif Nat.beq j 76 then true else bif Nat.beq j 77 then true else bif Nat.beq j 78 then true else bif Nat.beq j 79 then true else bif Nat.beq j 85 then true else bif Nat.beq j 86 then true else bif Nat.beq j 87 then true else bif Nat.beq j 92 then true else bif Nat.beq j 93 then true else bif Nat.beq j 95 then true else bif Nat.beq j 96 then true else bif Nat.beq j 97 then true else bif Nat.beq j 98 then true else bif Nat.beq j 99 then true else bif Nat.beq j 165 then true else bif Nat.beq j 166 then true else bif Nat.beq j 167 then true else bif Nat.beq j 170 then true else bif Nat.beq j 171 then true else bif Nat.beq j 172 then true else bif Nat.beq j 173 then true else bif Nat.beq j 174 then true else bif Nat.beq j 175 then true else bif Nat.beq j 176 then true else bif Nat.beq j 177 then true else bif Nat.beq j 178 then true else bif Nat.beq j 180 then true else bif Nat.beq j 181 then true else bif Nat.beq j 182 then true else bif Nat.beq j 183 then true else bif Nat.beq j 184 then true else bif Nat.beq j 185 then true else bif Nat.beq j 186 then true else bif Nat.beq j 187 then true else bif Nat.beq j 188 then true else bif Nat.beq j 191 then true else bif Nat.beq j 194 then true else bif Nat.beq j 200 then true else bif Nat.beq j 204 then true else bif Nat.beq j 205 then true else bif Nat.beq j 206 then true else bif Nat.beq j 209 then true else bif Nat.beq j 215 then true else bif Nat.beq j 220 then true else bif Nat.beq j 223 then true else bif Nat.beq j 224 then true else bif Nat.beq j 237 then true else bif Nat.beq j 238 then true else bif Nat.beq j 239 then true else bif Nat.beq j 240 then true else bif Nat.beq j 243 then true else bif Nat.beq j 244 then true else bif Nat.beq j 245 then true else bif Nat.beq j 246 then true else bif Nat.beq j 247 then true else bif Nat.beq j 252 then true else bif Nat.beq j 253 then true else bif Nat.beq j 254 then true else bif Nat.beq j 255 then true else bif Nat.beq j 257 then true else bif Nat.beq j 258 then true else bif Nat.beq j 259 then true else bif Nat.beq j 260 then true else bif Nat.beq j 263 then true else false) (nov := (fun j => bif Nat.beq j 143 then false else bif Nat.beq j 144 then false else bif Nat.beq j 242 then false else bif Nat.beq j 236 then false else bif Nat.beq j 237 then false else bif Nat.beq j 241 then false else bif Nat.beq j 239 then false else bif Nat.beq j 96 then false else true)) 211 h
set_option maxRecDepth 100000 in
theorem b47_0 {sc : zC} {d : Nat} {f : zF} {Q : zQ} (h : zR sc (d + 1) 47 2 [] [(0, zP (33)), (1, zI (0))] 0 0 zSH f Q) : zR sc (d + 1) 47 0 [] [(0, zP (33))] 0 0 zSH f Q := zwn_R (stp := fun mi pc => bif Nat.beq mi 47 && Nat.beq pc 2 then some [0, 1] else none) (inl := fun _ => false) (nov := (fun j => bif Nat.beq j 143 then false else bif Nat.beq j 144 then false else bif Nat.beq j 242 then false else bif Nat.beq j 236 then false else bif Nat.beq j 237 then false else bif Nat.beq j 241 then false else bif Nat.beq j 239 then false else bif Nat.beq j 96 then false else true)) 4 h
set_option maxRecDepth 100000 in
theorem b47_2 {sc : zC} {d : Nat} {x1 : Int} {f : zF} {Q : zQ} (h : if f (33) (1) < x1 then (Q (some (zI (-2))) zSH f) else (zR sc (d + 1) 47 12 [] [(0, zP (33)), (1, zI x1), (2, zI (0))] 0 0 zSH f Q)) : zR sc (d + 1) 47 2 [] [(0, zP (33)), (1, zI x1)] 0 0 zSH f Q := zwn_R (stp := fun mi pc => bif Nat.beq mi 47 && Nat.beq pc 12 then some [0, 1, 2] else none) (inl := fun _ => false) (nov := (fun j => bif Nat.beq j 143 then false else bif Nat.beq j 144 then false else bif Nat.beq j 242 then false else bif Nat.beq j 236 then false else bif Nat.beq j 237 then false else bif Nat.beq j 241 then false else bif Nat.beq j 239 then false else bif Nat.beq j 96 then false else true)) 10 h
set_option maxRecDepth 100000 in
theorem b47_12 {sc : zC} {d : Nat} {x1 x2 : Int} {f : zF} {Q : zQ} (h : if x2 < 7 then (zix x2 (7) (zov (x2 + 1) (zR sc (d + 1) 47 12 [] [(0, zP (33)), (1, zI x1), (2, zI (x2 + 1))] 0 0 zSH (zup f (37) (x2.toNat) (0)) Q))) else (∃ A2 : zQ, zR sc d 49 0 [] [(0, zP (33)), (1, zI (0)), (2, zI (0)), (3, zI x1)] 0 0 zSH f A2 ∧ ∀ (r3 : Int) (f1 : zF), (r3 = 0 ∨ r3 = 1) → A2 (some (zI r3)) zSH f1 → (if r3 = 0 then (zov (x1 + 1) (zR sc (d + 1) 47 2 [] [(0, zP (33)), (1, zI (x1 + 1))] 0 0 zSH f1 Q)) else (Q (some (zI x1)) zSH f1)))) : zR sc (d + 1) 47 12 [] [(0, zP (33)), (1, zI x1), (2, zI x2)] 0 0 zSH f Q := zwn_R (stp := fun mi pc => bif Nat.beq mi 47 && Nat.beq pc 2 then some [0, 1] else bif Nat.beq mi 47 && Nat.beq pc 12 then some [0, 1, 2] else none) (inl := fun _ => false) (nov := (fun j => bif Nat.beq j 143 then false else bif Nat.beq j 144 then false else bif Nat.beq j 242 then false else bif Nat.beq j 236 then false else bif Nat.beq j 237 then false else bif Nat.beq j 241 then false else bif Nat.beq j 239 then false else bif Nat.beq j 96 then false else true)) 22 h
set_option maxRecDepth 100000 in
theorem b49_0 {sc : zC} {d : Nat} {a b c : Int} {f : zF} {Q : zQ} (h : if a < f (33) (1) then (if a < 7 then (zR sc (d + 1) 49 19 [] [(0, zP (33)), (1, zI a), (2, zI b), (3, zI c), (4, zI (0))] 0 0 zSH f Q) else (Q (some (zI (1))) zSH f)) else (Q (some (zI (1))) zSH f)) : zR sc (d + 1) 49 0 [] [(0, zP (33)), (1, zI a), (2, zI b), (3, zI c)] 0 0 zSH f Q := zwn_R (stp := fun mi pc => bif Nat.beq mi 49 && Nat.beq pc 19 then some [0, 1, 2, 3, 4] else none) (inl := fun _ => false) (nov := (fun j => bif Nat.beq j 143 then false else bif Nat.beq j 144 then false else bif Nat.beq j 242 then false else bif Nat.beq j 236 then false else bif Nat.beq j 237 then false else bif Nat.beq j 241 then false else bif Nat.beq j 239 then false else bif Nat.beq j 96 then false else true)) 15 h
set_option maxRecDepth 100000 in
theorem b49_19 {sc : zC} {d : Nat} {x1 x2 x3 x4 : Int} {f : zF} {Q : zQ} (h : if x2 < x4 then (Q (some (zI (0))) zSH f) else (if x4 < x3 then (if x4 < 7 then (zix x4 (7) (zix x4 (7) (zix x1 (7) (zix x4 (7) (∃ A2 : zQ, zR sc d 45 0 [] [(0, zP (33)), (1, zI ((zup (zup f (37) (x4.toNat) (zor (f (37) (x4.toNat)) (zshl (1) x1))) (36) (x1.toNat) x4) (37) (x4.toNat)))] 0 0 zSH (zup (zup f (37) (x4.toNat) (zor (f (37) (x4.toNat)) (zshl (1) x1))) (36) (x1.toNat) x4) A2 ∧ ∀ (r3 : Int) (f1 : zF), zIn r3 → A2 (some (zI r3)) zSH f1 → (if r3 = 0 then (zov (x1 + (1)) (zov (x4 + (1)) (∃ A5 : zQ, zR sc d 49 0 [] [(0, zP (33)), (1, zI (x1 + (1))), (2, zI (if x2 < x4 + (1) then x4 + (1) else x2)), (3, zI x3)] 0 0 zSH f1 A5 ∧ ∀ (r6 : Int) (f4 : zF), (r6 = 0 ∨ r6 = 1) → A5 (some (zI r6)) zSH f4 → (if r6 = 0 then (zix x4 (7) (zov (x4 + 1) (zR sc (d + 1) 49 19 [] [(0, zP (33)), (1, zI x1), (2, zI x2), (3, zI x3), (4, zI (x4 + 1))] 0 0 zSH (zup f4 (37) (x4.toNat) (f (37) (x4.toNat))) Q))) else (Q (some (zI (1))) zSH f4))))) else (zix x4 (7) (zov (x4 + 1) (zR sc (d + 1) 49 19 [] [(0, zP (33)), (1, zI x1), (2, zI x2), (3, zI x3), (4, zI (x4 + 1))] 0 0 zSH (zup f1 (37) (x4.toNat) (f (37) (x4.toNat))) Q))))))))) else (Q (some (zI (0))) zSH f)) else (Q (some (zI (0))) zSH f))) : zR sc (d + 1) 49 19 [] [(0, zP (33)), (1, zI x1), (2, zI x2), (3, zI x3), (4, zI x4)] 0 0 zSH f Q := zwn_R (stp := fun mi pc => bif Nat.beq mi 49 && Nat.beq pc 19 then some [0, 1, 2, 3, 4] else none) (inl := fun _ => false) (nov := (fun j => bif Nat.beq j 143 then false else bif Nat.beq j 144 then false else bif Nat.beq j 242 then false else bif Nat.beq j 236 then false else bif Nat.beq j 237 then false else bif Nat.beq j 241 then false else bif Nat.beq j 239 then false else bif Nat.beq j 96 then false else true)) 71 h
set_option maxRecDepth 100000 in
theorem b48_0 {sc : zC} {d : Nat} {a : Int} {f : zF} {Q : zQ} (h : zix a (7) (Q (some (zI (f (36) (a.toNat)))) zSH f)) : zR sc (d + 1) 48 0 [] [(0, zP (33)), (1, zI a)] 0 0 zSH f Q := zwn_R (stp := fun _ _ => none) (inl := fun _ => false) (nov := (fun j => bif Nat.beq j 143 then false else bif Nat.beq j 144 then false else bif Nat.beq j 242 then false else bif Nat.beq j 236 then false else bif Nat.beq j 237 then false else bif Nat.beq j 241 then false else bif Nat.beq j 239 then false else bif Nat.beq j 96 then false else true)) 7 h
set_option maxRecDepth 100000 in
theorem tr_k : (List.range 128).all (fun s => (List.range 7).all (fun g => decide (0 ≤ zor (s : Int) (zshl 1 (g : Int))) && decide (zor (s : Int) (zshl 1 (g : Int)) < 128))) = true := by decide +kernel
set_option maxRecDepth 100000 in
theorem tr_b {x : Int} {g : Nat} (h : 0 ≤ x ∧ x < 128) (hg : g < 7) : 0 ≤ zor x (zshl 1 (g : Int)) ∧ zor x (zshl 1 (g : Int)) < 128 := by
  obtain ⟨s, rfl⟩ : ∃ s : Nat, x = (s : Int) := ⟨x.toNat, by omega⟩
  have := List.all_eq_true.1 (List.all_eq_true.1 tr_k s (List.mem_range.2 (by omega))) g (List.mem_range.2 hg)
  rw [Bool.and_eq_true] at this
  exact ⟨of_decide_eq_true this.1, of_decide_eq_true this.2⟩
/-- what is kept of the best; where the search stands -/
def svd (G : Nat) (f : zF) (w : Nat × List Nat) : Prop := f 50 32 = (w.1 : Int) ∧ w.1 ≤ 1000000 ∧ (w.1 < 1000000 → ∀ i, i < G → f 66 i = ((w.2.getD i 0 : Nat) : Int))
def tSt (f0 : zF) (g u : Nat) (c : Nat → Int) (pre : List Nat) (f : zF) : Prop := (∀ t, t < u → f 65 t = c t) ∧ (∀ i, i < g → f 67 i = ((pre.getD i 0 : Nat) : Int)) ∧ ∀ p j, p ≠ 65 → p ≠ 66 → p ≠ 67 → (p ≠ 50 ∨ j ≠ 32) → f p j = f0 p j
section RTRY
variable {PU M : Nat → Int} {sc : zC} {f0 : zF} {G H : Nat}
set_option maxRecDepth 100000 in
theorem getD_a {pre : List Nat} {t i : Nat} : (pre ++ [t]).getD i 0 = if i = pre.length then t else pre.getD i 0 := by
  rw [List.getD_eq_getElem?_getD, List.getD_eq_getElem?_getD]
  rcases Nat.lt_trichotomy i pre.length with h | h | h
  · rw [if_neg (by omega), List.getElem?_append_left h]
  · rw [if_pos h, List.getElem?_append_right (by omega), h, Nat.sub_self]
    rfl
  · rw [if_neg (by omega), List.getElem?_eq_none (by simp; omega), List.getElem?_eq_none (by omega)]
set_option maxRecDepth 100000 in
theorem r_try (eP : ∀ j, j < 24 → f0 51 j = PU j) (eM : ∀ j, j < 168 → f0 55 j = M j) (b : hB M) (h0 : f0 50 6 = (H : Int)) (h1 : f0 50 7 = (G : Int)) (hG : G ≤ 7) (hH : H ≤ 6) : ∀ (r g u : Nat) (c : Nat → Int) (pre : List Nat) (v : Nat × List Nat) (f : zF) (Q : zQ), g + r = G → u ≤ g → pre.length = g → (∀ t, u ≤ t → c t = 0) → (∀ t, 0 ≤ c t ∧ c t < 128) → tSt f0 g u c pre f → svd G f v → (∀ f1 w, bst (fun K => (sCh (fun x => gvR PU M G x H) K r g u c).map (fun l => pre ++ l)) v.1 v w → svd G f1 w → tSt f0 g u c pre f1 → Q none zSH f1) → zR sc (r + 3) 222 0 [] [(0, zP 50), (1, zI (g : Int)), (2, zI (u : Int))] 0 0 zSH f Q := by
  intro r
  induction r with
  | zero =>
    intro g u c pre v f Q hg hu hp hc cb S V K
    obtain ⟨q1, q2, q3⟩ := S
    obtain ⟨v1, v2, v3⟩ := V
    refine b222_0 (d := 2) ?_
    rw [q3 50 7 (by decide) (by decide) (by decide) (Or.inr (by decide)), h1, if_pos (by omega), v1]
    have B := bst_l (u := u) (pre := pre) (v := v)
    refine zit (fun c1 => ?_) (fun c1 => ?_)
    · rw [if_pos (by omega)] at B
      have L : ∀ n, n ≤ G → ∀ f1 : zF, (∀ i, i < n → f1 66 i = f 67 i) → (∀ p j, p ≠ 66 → f1 p j = zup f 50 32 (u : Int) p j) → zR sc 3 222 23 [] [(0, zP 50), (3, zI (n : Int))] 0 0 zSH f1 Q := by
        refine zloop G (fun n hn ih f1 a1 a2 => ?_) (fun f1 a1 a2 => ?_)
        · refine b222_23 (d := 2) ?_
          have e7 : f1 50 7 = (G : Int) := (a2 50 7 (by decide)).trans ((q3 50 7 (by decide) (by decide) (by decide) (Or.inr (by decide))).trans h1)
          rw [e7, if_pos (by omega), Int.toNat_natCast]
          refine zix_p (by omega) (zix_p (by omega) (zov_p (by omega) ?_))
          rw [show (n : Int) + 1 = ((n + 1 : Nat) : Int) by omega]
          refine ih _ (fun i hi => ?_) (fun p j hpj => ?_)
          · rw [zup_at, if_pos rfl]
            by_cases e : i = n
            · rw [if_pos e, e]
              exact a2 67 n (by decide)
            · rw [if_neg e]
              exact a1 i (by omega)
          · rw [zup_at, if_neg hpj]
            exact a2 p j hpj
        · refine b222_23 (d := 2) ?_
          have e7 : f1 50 7 = (G : Int) := (a2 50 7 (by decide)).trans ((q3 50 7 (by decide) (by decide) (by decide) (Or.inr (by decide))).trans h1)
          rw [e7, if_neg (by omega)]
          refine K f1 (u, pre) B ⟨(a2 50 32 (by decide)).trans rfl, by show u ≤ 1000000; omega, fun _ i hi => (a1 i hi).trans (q2 i (by omega))⟩ ⟨fun t ht => (a2 65 t (by decide)).trans (q1 t ht), fun i hi => (a2 67 i (by decide)).trans (q2 i hi), fun p j x1 x2 x3 x4 => ?_⟩
          rw [a2 p j x2, zup_at]
          by_cases e : p = 50
          · rw [if_pos e, if_neg (by omega)]
            exact q3 p j x1 x2 x3 x4
          · rw [if_neg e]
            exact q3 p j x1 x2 x3 x4
      exact L 0 (Nat.zero_le _) _ (fun i hi => absurd hi (Nat.not_lt_zero i)) (fun _ _ _ => rfl)
    · rw [if_neg (by omega)] at B
      exact K f v B ⟨v1, v2, v3⟩ ⟨q1, q2, q3⟩
  | succ r ih =>
    intro g u c pre v f Q hg hu hp hc cb S V K
    refine b222_0 (d := r + 3) ?_
    rw [S.2.2 50 7 (by decide) (by decide) (by decide) (Or.inr (by decide)), h1, if_neg (by omega)]
    have L : ∀ t, t ≤ u + 1 → ∀ (w : Nat × List Nat) (f1 : zF), bst (fun K => (fsT (fun t => if gvR PU M G (zor (c t) (zshl 1 (g : Int))) H = 0 then sCh (fun x => gvR PU M G x H) K r (g + 1) (nxU u t) (cSet c t g) else none) t).map (fun l => pre ++ l)) v.1 v w → svd G f1 w → tSt f0 g u c pre f1 → zR sc (r + 4) 222 52 [] [(0, zP 50), (1, zI (g : Int)), (2, zI (u : Int)), (3, zI (t : Int))] 0 0 zSH f1 Q := by
      refine zloop (u + 1) (fun t ht ihl w f1 B W T => ?_) (fun w f1 B W T => ?_)
      · have G1 : ∀ f1, tSt f0 g u c pre f1 → ∀ {Q : zQ}, Q (some (zI (gvR PU M G (zor (c t) (zshl 1 (g : Int))) H))) zSH f1 → zR sc (r + 3) 219 0 [] [(0, zP 50), (1, zI (zor (c t) (zshl 1 (g : Int))))] 0 0 zSH f1 Q := fun f1 T Q k =>
          r_gvn (d := r + 1) (fun j hj => (T.2.2 51 j (by decide) (by decide) (by decide) (Or.inl (by decide))).trans (eP j hj)) (fun j hj => (T.2.2 55 j (by decide) (by decide) (by decide) (Or.inl (by decide))).trans (eM j hj)) b ((T.2.2 50 6 (by decide) (by decide) (by decide) (Or.inr (by decide))).trans h0) ((T.2.2 50 7 (by decide) (by decide) (by decide) (Or.inr (by decide))).trans h1) hG hH (tr_b (cb t) (by omega)) k
        -- not looked at: given away
        have no : ¬ gvR PU M G (zor (c t) (zshl 1 (g : Int))) H = 0 → zR sc (r + 4) 222 52 [] [(0, zP 50), (1, zI (g : Int)), (2, zI (u : Int)), (3, zI ((t : Int) + 1))] 0 0 zSH f1 Q := fun hn => by
          rw [show (t : Int) + 1 = ((t + 1 : Nat) : Int) by omega]
          refine ihl w f1 (bst_e (fun K => ?_) (bst_or B bst_0)) W T
          rw [fsT_s, if_neg hn]
          rfl
        -- looked at
        have yes : ∀ x : Int, (t < u → x = c t) → gvR PU M G (zor (c t) (zshl 1 (g : Int))) H = 0 → ∀ uu : Nat, uu = nxU u t → ∃ A : zQ, zR sc (r + 3) 222 0 [] [(0, zP 50), (1, zI ((g + 1 : Nat) : Int)), (2, zI (uu : Int))] 0 0 zSH (zup (zup f1 65 t (zor (c t) (zshl 1 (g : Int)))) 67 g (t : Int)) A ∧ ∀ f4 : zF, A none zSH f4 → (zix (t : Int) 7 (zov ((t : Int) + 1) (zR sc (r + 4) 222 52 [] [(0, zP 50), (1, zI (g : Int)), (2, zI (u : Int)), (3, zI ((t : Int) + 1))] 0 0 zSH (zup f4 65 t x) Q))) := fun x hx hy uu huu => by
          subst huu
          refine ⟨fun _ _ f4 => ∃ w', bst (fun K => (sCh (fun x => gvR PU M G x H) K r (g + 1) (nxU u t) (cSet c t g)).map (fun l => (pre ++ [t]) ++ l)) w.1 w w' ∧ svd G f4 w' ∧ tSt f0 (g + 1) (nxU u t) (cSet c t g) (pre ++ [t]) f4, ?_, fun f4 h => ?_⟩
          · refine ih (g + 1) (nxU u t) (cSet c t g) (pre ++ [t]) w _ _ (by omega) (by unfold nxU; split <;> omega) (by simp; omega) (fun i hi => ?_) (fun i => ?_) ⟨fun i hi => ?_, fun i hi => ?_, fun p j a1 a2 a3 a4 => ?_⟩ ?_ (fun f4 w' h2 h3 h4 => ⟨w', h2, h3, h4⟩)
            · unfold nxU at hi
              unfold cSet
              split at hi
              · rw [if_neg (by omega)]; exact hc i (by omega)
              · rw [if_neg (by omega)]; exact hc i (by omega)
            · unfold cSet
              split
              · exact tr_b (cb t) (by omega)
              · exact cb i
            · rw [zup_at, if_neg (by decide), zup_at, if_pos rfl]
              unfold cSet
              by_cases e : i = t
              · rw [if_pos e, if_pos e]
              · rw [if_neg e, if_neg e]
                unfold nxU at hi
                exact T.1 i (by split at hi <;> omega)
            · rw [zup_at, if_pos rfl, getD_a, hp]
              by_cases e : i = g
              · rw [if_pos e, if_pos e]
              · rw [if_neg e, if_neg e, zup_at, if_neg (by decide)]
                exact T.2.1 i (by omega)
            · rw [zup_at, if_neg a3, zup_at, if_neg a1]
              exact T.2.2 p j a1 a2 a3 a4
            · exact W
          · obtain ⟨w', k1, k2, k3⟩ := h
            refine zix_p (by omega) (zov_p (by omega) ?_)
            rw [show (t : Int) + 1 = ((t + 1 : Nat) : Int) by omega]
            refine ihl w' _ (bst_e (fun K => ?_) (bst_or B k1)) ⟨k2.1, k2.2.1, k2.2.2⟩ ⟨fun i hi => ?_, fun i hi => ?_, fun p j a1 a2 a3 a4 => ?_⟩
            · rw [fsT_s, if_pos hy]
              rfl
            · rw [zup_at, if_pos rfl]
              by_cases e : i = t
              · rw [if_pos e, e]
                exact hx (by omega)
              · rw [if_neg e]
                have := k3.1 i (by unfold nxU; split <;> omega)
                unfold cSet at this
                rw [if_neg e] at this
                exact this
            · rw [zup_at, if_neg (by decide)]
              have := k3.2.1 i (by omega)
              rw [getD_a, hp, if_neg (by omega)] at this
              exact this
            · rw [zup_at, if_neg a1]
              exact k3.2.2 p j a1 a2 a3 a4
        refine b222_52 (d := r + 3) ?_
        rw [if_neg (by omega)]
        by_cases e : t = u
        · have c0 := hc t (by omega)
          have e' : (t : Int) = (u : Int) := by omega
          rw [if_pos e', show zor 0 (zshl 1 (g : Int)) = zor (c t) (zshl 1 (g : Int)) by rw [c0]]
          refine zcallE (G1 f1 T ⟨rfl, rfl⟩) (zit (fun hy => ?_) (fun hn => zov_p (by omega) (no hn)))
          rw [if_pos e', if_pos e', Int.toNat_natCast, Int.toNat_natCast, show (g : Int) + 1 = ((g + 1 : Nat) : Int) by omega, show (u : Int) + 1 = ((u + 1 : Nat) : Int) by omega]
          exact zix_p (by omega) (zix_p (by omega) (zov_p (by omega) (zov_p (by omega) (yes 0 (fun h => absurd h (by omega)) hy (u + 1) (by unfold nxU; rw [if_pos e])))))
        · have e' : ¬ (t : Int) = (u : Int) := by omega
          have et := T.1 t (by omega)
          rw [if_neg e', Int.toNat_natCast, et]
          refine zix_p (by omega) (zcallE (G1 f1 T ⟨rfl, rfl⟩) (zit (fun hy => ?_) (fun hn => zov_p (by omega) (no hn))))
          rw [if_neg e', if_neg e', Int.toNat_natCast, et, show (g : Int) + 1 = ((g + 1 : Nat) : Int) by omega]
          exact zix_p (by omega) (zix_p (by omega) (zix_p (by omega) (zov_p (by omega) (yes (c t) (fun _ => rfl) hy u (by unfold nxU; rw [if_neg e])))))
      · refine b222_52 (d := r + 3) ?_
        rw [if_pos (by omega)]
        exact K f1 w B W T
    exact L 0 (Nat.zero_le _) v f bst_0 V S
end RTRY
section CTRY
variable {PU M : Nat → Int} {sc : zC} {G H K : Nat}
set_option maxRecDepth 100000 in
theorem fsT_m {F : Nat → Option (List Nat)} {l : List Nat} {n : Nat} (h : fsT F n = some l) : ∀ m, fsT F (n + m) = some l
  | 0 => h
  | m + 1 => by
    have ih := fsT_m h m
    show (match fsT F (n + m) with | some l => some l | none => (F (n + m)).map (fun l => (n + m) :: l)) = some l
    rw [ih]
set_option maxRecDepth 100000 in
theorem fsT_1 {F : Nat → Option (List Nat)} {n : Nat} (h : fsT F n = none) : fsT F (n + 1) = (F n).map (fun l => n :: l) := by
  show (match fsT F n with | some l => some l | none => (F n).map (fun l => n :: l)) = _
  rw [h]
def bFr (f f1 : zF) (g : Nat) : Prop := ∀ p j, p ≠ 37 → (p ≠ 36 ∨ j < g) → f1 p j = f p j
set_option maxRecDepth 100000 in
theorem c_brd (hG : G ≤ 7) (hH : H ≤ 6) (hK : K ≤ 7) : ∀ (r g u : Nat) (c : Nat → Int) (f : zF) (Q : zQ), g + r = G → u ≤ g → u ≤ K → (∀ t, u ≤ t → c t = 0) → (∀ t, t < 7 → f 37 t = c t) → hrd PU M G H f → (∀ f1 v, bFr f f1 g → ((v = 0 ∧ sCh (fun x => gvR PU M G x H) K r g u c = none ∧ ∀ t, t < 7 → f1 37 t = c t) ∨ (v = 1 ∧ ∃ l, sCh (fun x => gvR PU M G x H) K r g u c = some l ∧ ∀ i, i < r → f1 36 (g + i) = ((l.getD i 0 : Nat) : Int))) → Q (some (zI v)) zSH f1) → zR sc (r + 2) 49 0 [] [(0, zP 33), (1, zI (g : Int)), (2, zI (u : Int)), (3, zI (K : Int))] 0 0 zSH f Q := by
  intro r
  induction r with
  | zero =>
    intro g u c f Q hg hu huK hc hf k KQ
    refine b49_0 (d := 1) ?_
    rw [k.1.2, if_neg (by omega)]
    exact KQ f 1 (fun _ _ _ _ => rfl) (Or.inr ⟨rfl, [], if_pos huK, fun i hi => absurd hi (Nat.not_lt_zero i)⟩)
  | succ r ih =>
    intro g u c f Q hg hu huK hc hf k KQ
    refine b49_0 (d := r + 2) ?_
    rw [k.1.2, if_pos (by omega), if_pos (by omega)]
    obtain ⟨F, hF⟩ : ∃ F : Nat → Option (List Nat), F = fun t => if gvR PU M G (zor (c t) (zshl 1 (g : Int))) H = 0 then sCh (fun x => gvR PU M G x H) K r (g + 1) (nxU u t) (cSet c t g) else none := ⟨_, rfl⟩
    have sF : sCh (fun x => gvR PU M G x H) K (r + 1) g u c = fsT F (u + 1) := by rw [hF]; rfl
    rw [sF] at KQ
    have L : ∀ t, t ≤ u + 1 → ∀ f1, fsT F t = none → bFr f f1 g → (∀ t, t < 7 → f1 37 t = c t) → zR sc (r + 3) 49 19 [] [(0, zP 33), (1, zI (g : Int)), (2, zI (u : Int)), (3, zI (K : Int)), (4, zI (t : Int))] 0 0 zSH f1 Q := by
      refine zloop (u + 1) (fun t ht ihl f1 n1 fr1 a1 => ?_) (fun f1 n1 fr1 a1 => ?_)
      · refine b49_19 (d := r + 2) ?_
        rw [if_neg (by omega)]
        by_cases hk : t < K
        · rw [if_pos (by omega), if_pos (by omega), Int.toNat_natCast, Int.toNat_natCast, a1 t (by omega)]
          refine zix_p (by omega) (zix_p (by omega) (zix_p (by omega) (zix_p (by omega) ?_)))
          rw [show (zup (zup f1 37 t (zor (c t) (zshl 1 (g : Int)))) 36 g (t : Int)) 37 t = zor (c t) (zshl 1 (g : Int)) by rw [zup_at, if_neg (by decide), zup_at, if_pos rfl, if_pos rfl]]
          have kk : hrd PU M G H f1 := by
            obtain ⟨⟨k1, k2⟩, k3⟩ := k
            exact ⟨⟨(fr1 33 0 (by decide) (Or.inl (by decide))).trans k1, (fr1 33 1 (by decide) (Or.inl (by decide))).trans k2⟩, fun h hh => ⟨(fr1 34 h (by decide) (Or.inl (by decide))).trans (k3 h hh).1, fun q hq => (fr1 35 _ (by decide) (Or.inl (by decide))).trans ((k3 h hh).2 q hq)⟩⟩
          -- on with the next train
          have nx : ∀ f4 : zF, F t = none → bFr f f4 g → (∀ i, i < 7 → ¬ i = t → f4 37 i = c i) → zix (t : Int) 7 (zov ((t : Int) + 1) (zR sc (r + 3) 49 19 [] [(0, zP 33), (1, zI (g : Int)), (2, zI (u : Int)), (3, zI (K : Int)), (4, zI ((t : Int) + 1))] 0 0 zSH (zup f4 37 t (c t)) Q)) := fun f4 hn b4 a4 => by
            refine zix_p (by omega) (zov_p (by omega) ?_)
            rw [show (t : Int) + 1 = ((t + 1 : Nat) : Int) by omega]
            refine ihl _ (by rw [fsT_1 n1, hn]; rfl) (fun p j x y => ?_) (fun i hi => ?_)
            · rw [zup_at, if_neg x]
              exact b4 p j x y
            · rw [zup_at, if_pos rfl]
              by_cases e : i = t
              · rw [if_pos e, e]
              · rw [if_neg e]
                exact a4 i hi e
          have b2 : bFr f (zup (zup f1 37 t (zor (c t) (zshl 1 (g : Int)))) 36 g (t : Int)) g := fun p j x y => by
            rw [zup_at]
            by_cases e : p = 36
            · rw [if_pos e, if_neg (by omega), zup_at, if_neg x]
              exact fr1 p j x y
            · rw [if_neg e, zup_at, if_neg x]
              exact fr1 p j x y
          have a2 : ∀ i, i < 7 → (zup (zup f1 37 t (zor (c t) (zshl 1 (g : Int)))) 36 g (t : Int)) 37 i = cSet c t g i := fun i hi => by
            rw [zup_at, if_neg (by decide), zup_at, if_pos rfl]
            unfold cSet
            by_cases e : i = t
            · rw [if_pos e, if_pos e]
            · rw [if_neg e, if_neg e]
              exact a1 i hi
          refine zcallE (c_gvn (d := r + 1) (PU := PU) (M := M) (H := H) ⟨kk.1, kk.2⟩ hH hG ⟨rfl, rfl⟩) (zit (fun hy => ?_) (fun hn => ?_))
          · refine zov_p (by omega) (zov_p (by omega) ?_)
            have eF : F t = sCh (fun x => gvR PU M G x H) K r (g + 1) (nxU u t) (cSet c t g) := by rw [hF]; exact if_pos hy
            rw [show (if (u : Int) < (t : Int) + 1 then (t : Int) + 1 else (u : Int)) = ((nxU u t : Nat) : Int) by unfold nxU; split <;> split <;> omega, show (g : Int) + 1 = ((g + 1 : Nat) : Int) by omega]
            refine zcall3 (fun v f4 => bFr (zup (zup f1 37 t (zor (c t) (zshl 1 (g : Int)))) 36 g (t : Int)) f4 (g + 1) ∧ ((v = 0 ∧ F t = none ∧ ∀ i, i < 7 → f4 37 i = cSet c t g i) ∨ (v = 1 ∧ ∃ l, F t = some l ∧ ∀ i, i < r → f4 36 (g + 1 + i) = ((l.getD i 0 : Nat) : Int)))) (ih (g + 1) (nxU u t) (cSet c t g) _ _ (by omega) (by unfold nxU; split <;> omega) (by unfold nxU; split <;> omega) (fun i hi => ?_) a2 ⟨kk.1, kk.2⟩ (fun f4 v x y => ⟨v, rfl, x, by rw [eF]; exact y⟩)) (fun v f4 _ h => ?_)
            · unfold nxU at hi
              unfold cSet
              split at hi
              · rw [if_neg (by omega)]; exact hc i (by omega)
              · rw [if_neg (by omega)]; exact hc i (by omega)
            · obtain ⟨x, y⟩ := h
              have b4 : bFr f f4 g := fun p j p1 p2 => (x p j p1 (by omega)).trans (b2 p j p1 p2)
              rcases y with ⟨rfl, y2, y3⟩ | ⟨rfl, l, y2, y3⟩
              · rw [if_pos rfl]
                refine nx f4 y2 b4 (fun i hi e => (y3 i hi).trans ?_)
                unfold cSet
                rw [if_neg e]
              · rw [if_neg (by decide)]
                have e1 : fsT F (t + 1) = some (t :: l) := by rw [fsT_1 n1, y2]; rfl
                have e2 := fsT_m e1 (u - t)
                rw [show t + 1 + (u - t) = u + 1 by omega] at e2
                refine KQ f4 1 b4 (Or.inr ⟨rfl, t :: l, e2, fun i hi => ?_⟩)
                cases i with
                | zero =>
                  show f4 36 g = (t : Int)
                  rw [x 36 g (by decide) (Or.inr (by omega)), zup_at, if_pos rfl, if_pos rfl]
                | succ i =>
                  rw [show g + (i + 1) = g + 1 + i by omega]
                  exact y3 i (by omega)
          · have eF : F t = none := by rw [hF]; exact if_neg hn
            refine nx _ eF b2 (fun i hi e => (a2 i hi).trans ?_)
            unfold cSet
            rw [if_neg e]
        · rw [if_neg (by omega)]
          refine KQ f1 0 fr1 (Or.inl ⟨rfl, ?_, a1⟩)
          have e : t = u := by omega
          have eF : F u = none := by
            rw [hF]
            show (if gvR PU M G (zor (c u) (zshl 1 (g : Int))) H = 0 then sCh (fun x => gvR PU M G x H) K r (g + 1) (nxU u u) (cSet c u g) else none) = none
            rw [sCh_lt _ _ _ _ (by unfold nxU; rw [if_pos rfl]; omega)]
            split <;> rfl
          rw [e] at n1
          rw [fsT_1 n1, eF]
          rfl
      · refine b49_19 (d := r + 2) ?_
        rw [if_pos (by omega)]
        exact KQ f1 0 fr1 (Or.inl ⟨rfl, n1, a1⟩)
    exact L 0 (Nat.zero_le _) f rfl (fun _ _ _ _ => rfl) hf
def trS (PU M : Nat → Int) (G H K : Nat) : Option (List Nat) := sCh (fun x => gvR PU M G x H) K G 0 0 (fun _ => 0)
set_option maxRecDepth 100000 in
theorem c_bd {f : zF} {Q : zQ} {d : Nat} (hG : G ≤ 7) (hH : H ≤ 6) (k : hrd PU M G H f) (hd : 12 ≤ d) (KQ : ∀ f1 v, (∀ p j, p ≠ 36 → p ≠ 37 → f1 p j = f p j) → ((v = -2 ∧ ∀ K, K ≤ G → trS PU M G H K = none) ∨ (∃ (K : Nat) (l : List Nat), v = (K : Int) ∧ K ≤ G ∧ trS PU M G H K = some l ∧ (∀ K', K' < K → trS PU M G H K' = none) ∧ ∀ i, i < G → f1 36 i = ((l.getD i 0 : Nat) : Int))) → Q (some (zI v)) zSH f1) : zR sc (d + 1) 47 0 [] [(0, zP 33)] 0 0 zSH f Q := by
  refine b47_0 (d := d) ?_
  have L : ∀ n, n ≤ G + 1 → ∀ f1 : zF, (∀ p j, p ≠ 36 → p ≠ 37 → f1 p j = f p j) → (∀ K, K < n → trS PU M G H K = none) → zR sc (d + 1) 47 2 [] [(0, zP 33), (1, zI (n : Int))] 0 0 zSH f1 Q := by
    refine zloop (G + 1) (fun n hn ih f1 m hk => ?_) (fun f1 m hk => ?_)
    · refine b47_2 (d := d) ?_
      rw [m 33 1 (by decide) (by decide), k.1.2, if_neg (by omega)]
      have N : ∀ i, i ≤ 7 → ∀ f2 : zF, (∀ p j, p ≠ 36 → p ≠ 37 → f2 p j = f p j) → (∀ q, q < i → f2 37 q = 0) → zR sc (d + 1) 47 12 [] [(0, zP 33), (1, zI (n : Int)), (2, zI (i : Int))] 0 0 zSH f2 Q := by
        refine zloop 7 (fun i hi ih2 f2 m2 z2 => ?_) (fun f2 m2 z2 => ?_)
        · refine b47_12 (d := d) ?_
          rw [if_pos (by omega), Int.toNat_natCast]
          refine zix_p (by omega) (zov_p (by omega) ?_)
          rw [show (i : Int) + 1 = ((i + 1 : Nat) : Int) by omega]
          refine ih2 _ (fun p j x y => ?_) (fun q hq => ?_)
          · rw [zup_at, if_neg y]
            exact m2 p j x y
          · rw [zup_at, if_pos rfl]
            by_cases e : q = i
            · rw [if_pos e]
            · rw [if_neg e]
              exact z2 q (by omega)
        · refine b47_12 (d := d) ?_
          rw [if_neg (by omega)]
          have kk : hrd PU M G H f2 := by
            obtain ⟨⟨k1, k2⟩, k3⟩ := k
            exact ⟨⟨(m2 33 0 (by decide) (by decide)).trans k1, (m2 33 1 (by decide) (by decide)).trans k2⟩, fun h hh => ⟨(m2 34 h (by decide) (by decide)).trans (k3 h hh).1, fun q hq => (m2 35 _ (by decide) (by decide)).trans ((k3 h hh).2 q hq)⟩⟩
          refine zcall3 (fun v f4 => bFr f2 f4 0 ∧ ((v = 0 ∧ trS PU M G H n = none ∧ ∀ t, t < 7 → f4 37 t = 0) ∨ (v = 1 ∧ ∃ l, trS PU M G H n = some l ∧ ∀ i, i < G → f4 36 (0 + i) = ((l.getD i 0 : Nat) : Int)))) (zR_le (show G + 2 ≤ d by omega) (c_brd hG hH (K := n) (by omega) G 0 0 (fun _ => 0) f2 _ (by omega) (Nat.le_refl _) (Nat.zero_le _) (fun _ _ => rfl) z2 kk (fun f4 v x y => ⟨v, rfl, x, y⟩))) (fun v f4 _ h => ?_)
          obtain ⟨x, y⟩ := h
          have m4 : ∀ p j, p ≠ 36 → p ≠ 37 → f4 p j = f p j := fun p j a b => (x p j b (Or.inl a)).trans (m2 p j a b)
          rcases y with ⟨rfl, y2, y3⟩ | ⟨rfl, l, y2, y3⟩
          · rw [if_pos rfl]
            refine zov_p (by omega) ?_
            rw [show (n : Int) + 1 = ((n + 1 : Nat) : Int) by omega]
            refine ih f4 m4 (fun K hK => ?_)
            by_cases e : K = n
            · rw [e]; exact y2
            · exact hk K (by omega)
          · rw [if_neg (by decide)]
            refine KQ f4 (n : Int) m4 (Or.inr ⟨n, l, rfl, by omega, y2, hk, fun i hi => ?_⟩)
            have := y3 i hi
            rw [Nat.zero_add] at this
            exact this
      exact N 0 (Nat.zero_le _) f1 m (fun q hq => absurd hq (Nat.not_lt_zero q))
    · refine b47_2 (d := d) ?_
      rw [m 33 1 (by decide) (by decide), k.1.2, if_pos (by omega)]
      exact KQ f1 (-2) m (Or.inl ⟨rfl, fun K hK => hk K (by omega)⟩)
  exact L 0 (Nat.zero_le _) f (fun _ _ _ _ => rfl) (fun K hK => absurd hK (Nat.not_lt_zero K))
end CTRY
set_option maxRecDepth 100000 in
theorem b136_0 {sc : zC} {a : Int} {f : zF} {Q : zQ} (h : if a = (-1) then (∃ A2 : zQ, zR sc (198) 42 0 [] [(0, zP (33)), (1, zP (1))] 0 0 zSH f A2 ∧ ∀ f1 : zF, A2 none zSH f1 → (∃ A4 : zQ, zR sc (198) 47 0 [] [(0, zP (33))] 0 0 zSH f1 A4 ∧ ∀ (r5 : Int) (f3 : zF), zIn r5 → A4 (some (zI r5)) zSH f3 → (if r5 < 0 then (Q (some (zI r5)) zSH f3) else (if a = (-1) then (Q (some (zI r5)) zSH f3) else (∃ A7 : zQ, zR sc (198) 48 0 [] [(0, zP (33)), (1, zI a)] 0 0 zSH f3 A7 ∧ ∀ (r8 : Int) (f6 : zF), zIn r8 → A7 (some (zI r8)) zSH f6 → (Q (some (zI r8)) zSH f6)))))) else (if a < 0 then (Q (some (zI (-1))) zSH f) else (if a < f (1) (1) then (∃ A10 : zQ, zR sc (198) 42 0 [] [(0, zP (33)), (1, zP (1))] 0 0 zSH f A10 ∧ ∀ f9 : zF, A10 none zSH f9 → (∃ A12 : zQ, zR sc (198) 47 0 [] [(0, zP (33))] 0 0 zSH f9 A12 ∧ ∀ (r13 : Int) (f11 : zF), zIn r13 → A12 (some (zI r13)) zSH f11 → (if r13 < 0 then (Q (some (zI r13)) zSH f11) else (if a = (-1) then (Q (some (zI r13)) zSH f11) else (∃ A15 : zQ, zR sc (198) 48 0 [] [(0, zP (33)), (1, zI a)] 0 0 zSH f11 A15 ∧ ∀ (r16 : Int) (f14 : zF), zIn r16 → A15 (some (zI r16)) zSH f14 → (Q (some (zI r16)) zSH f14)))))) else (Q (some (zI (-1))) zSH f)))) : zR sc (199) 136 0 [] [(0, zP (0)), (1, zI a)] 0 0 zSH f Q := zwn_R (stp := fun _ _ => none) (inl := fun j => bif Nat.beq j 14 then true else bif Nat.beq j 15 then true else bif Nat.beq j 16 then true else bif Nat.beq j 17 then true else bif Nat.beq j 18 then true else bif Nat.beq j 19 then true else bif Nat.beq j 20 then true else bif Nat.beq j 22 then true else bif Nat.beq j 23 then true else bif Nat.beq j 25 then true else bif Nat.beq j 28 then true else bif Nat.beq j 50 then true else bif Nat.beq j 51 then true else bif Nat.beq j 52 then true else bif Nat.beq j 53 then true else bif Nat.beq j 54 then true else bif Nat.beq j 55 then true else bif Nat.beq j 56 then true else bif Nat.beq j 57 then true else bif Nat.beq j 58 then true else bif Nat.beq j 59 then true else bif Nat.beq j 60 then true else bif Nat.beq j 62 then true else bif Nat.beq j 63 then true else bif Nat.beq j 64 then true else bif Nat.beq j 65 then true else bif Nat.beq j 66 then true else bif Nat.beq j 67 then true else bif Nat.beq j 68 then true else bif Nat.beq j 69 then true else bif Nat.beq j 70 then true else bif Nat.beq j 71 then true else bif Nat.beq j 72 then true else bif Nat.beq j 73 then true else bif Nat.beq j 74 then true else bif Nat.beq j 75 then true else bif Nat.beq j 76 then true else bif Nat.beq j 77 then true else bif Nat.beq j 78 then true else bif Nat.beq j 79 then true else bif Nat.beq j 85 then true else bif Nat.beq j 86 then true else bif Nat.beq j 87 then true else bif Nat.beq j 92 then true else bif Nat.beq j 93 then true else bif Nat.beq j 95 then true else bif Nat.beq j 96 then true else bif Nat.beq j 97 then true else bif Nat.beq j 98 then true else bif Nat.beq j 99 then true else bif Nat.beq j 165 then true else bif Nat.beq j 166 then true else bif Nat.beq j 167 then true else bif Nat.beq j 170 then true else bif Nat.beq j 171 then true else bif Nat.beq j 172 then true else bif Nat.beq j 173 then true else bif Nat.beq j 174 then true else bif Nat.beq j 175 then true else bif Nat.beq j 176 then true else bif Nat.beq j 177 then true else bif Nat.beq j 178 then true else bif Nat.beq j 180 then true else bif Nat.beq j 181 then true else bif Nat.beq j 182 then true else bif Nat.beq j 183 then true else bif Nat.beq j 184 then true else bif Nat.beq j 185 then true else bif Nat.beq j 186 then true else bif Nat.beq j 187 then true else bif Nat.beq j 188 then true else bif Nat.beq j 191 then true else bif Nat.beq j 194 then true else bif Nat.beq j 200 then true else bif Nat.beq j 204 then true else bif Nat.beq j 205 then true else bif Nat.beq j 206 then true else bif Nat.beq j 209 then true else bif Nat.beq j 215 then true else bif Nat.beq j 220 then true else bif Nat.beq j 223 then true else bif Nat.beq j 224 then true else bif Nat.beq j 237 then true else bif Nat.beq j 238 then true else bif Nat.beq j 239 then true else bif Nat.beq j 240 then true else bif Nat.beq j 243 then true else bif Nat.beq j 244 then true else bif Nat.beq j 245 then true else bif Nat.beq j 246 then true else bif Nat.beq j 247 then true else bif Nat.beq j 252 then true else bif Nat.beq j 253 then true else bif Nat.beq j 254 then true else bif Nat.beq j 255 then true else bif Nat.beq j 257 then true else bif Nat.beq j 258 then true else bif Nat.beq j 259 then true else bif Nat.beq j 260 then true else bif Nat.beq j 263 then true else false) (nov := (fun j => bif Nat.beq j 143 then false else bif Nat.beq j 144 then false else bif Nat.beq j 242 then false else bif Nat.beq j 236 then false else bif Nat.beq j 237 then false else bif Nat.beq j 241 then false else bif Nat.beq j 239 then false else bif Nat.beq j 96 then false else true)) 79 h
set_option maxRecDepth 100000 in
theorem b223_0 {sc : zC} {a : Int} {f : zF} {Q : zQ} (h : zov ((f (50) (7)) - (1)) (if zlcmp a (-1) < 0 then (Q (some (zI (-1))) zSH f) else (if 0 < zlcmp a ((f (50) (7)) - (1)) then (Q (some (zI (-1))) zSH f) else (∃ A2 : zQ, zR sc (198) 222 0 [] [(0, zP (50)), (1, zI (0)), (2, zI (0))] 0 0 zSH (zup f (50) (32) (1000000)) A2 ∧ ∀ f1 : zF, A2 none zSH f1 → (if f1 (50) (32) = 1000000 then (Q (some (zI (-2))) zSH f1) else (if a = (-1) then (Q (some (zI (f1 (50) (32)))) zSH f1) else (zix a (7) (Q (some (zI (f1 (66) (a.toNat)))) zSH f1)))))))) : zR sc (199) 223 0 [] [(0, zP (50)), (1, zI a)] 0 0 zSH f Q := zwn_R (stp := fun _ _ => none) (inl := fun j => bif Nat.beq j 14 then true else bif Nat.beq j 15 then true else bif Nat.beq j 16 then true else bif Nat.beq j 17 then true else bif Nat.beq j 18 then true else bif Nat.beq j 19 then true else bif Nat.beq j 20 then true else bif Nat.beq j 22 then true else bif Nat.beq j 23 then true else bif Nat.beq j 25 then true else bif Nat.beq j 28 then true else bif Nat.beq j 50 then true else bif Nat.beq j 51 then true else bif Nat.beq j 52 then true else bif Nat.beq j 53 then true else bif Nat.beq j 54 then true else bif Nat.beq j 55 then true else bif Nat.beq j 56 then true else bif Nat.beq j 57 then true else bif Nat.beq j 58 then true else bif Nat.beq j 59 then true else bif Nat.beq j 60 then true else bif Nat.beq j 62 then true else bif Nat.beq j 63 then true else bif Nat.beq j 64 then true else bif Nat.beq j 65 then true else bif Nat.beq j 66 then true else bif Nat.beq j 67 then true else bif Nat.beq j 68 then true else bif Nat.beq j 69 then true else bif Nat.beq j 70 then true else bif Nat.beq j 71 then true else bif Nat.beq j 72 then true else bif Nat.beq j 73 then true else bif Nat.beq j 74 then true else bif Nat.beq j 75 then true else bif Nat.beq j 76 then true else bif Nat.beq j 77 then true else bif Nat.beq j 78 then true else bif Nat.beq j 79 then true else bif Nat.beq j 85 then true else bif Nat.beq j 86 then true else bif Nat.beq j 87 then true else bif Nat.beq j 92 then true else bif Nat.beq j 93 then true else bif Nat.beq j 95 then true else bif Nat.beq j 96 then true else bif Nat.beq j 97 then true else bif Nat.beq j 98 then true else bif Nat.beq j 99 then true else bif Nat.beq j 165 then true else bif Nat.beq j 166 then true else bif Nat.beq j 167 then true else bif Nat.beq j 170 then true else bif Nat.beq j 171 then true else bif Nat.beq j 172 then true else bif Nat.beq j 173 then true else bif Nat.beq j 174 then true else bif Nat.beq j 175 then true else bif Nat.beq j 176 then true else bif Nat.beq j 177 then true else bif Nat.beq j 178 then true else bif Nat.beq j 180 then true else bif Nat.beq j 181 then true else bif Nat.beq j 182 then true else bif Nat.beq j 183 then true else bif Nat.beq j 184 then true else bif Nat.beq j 185 then true else bif Nat.beq j 186 then true else bif Nat.beq j 187 then true else bif Nat.beq j 188 then true else bif Nat.beq j 191 then true else bif Nat.beq j 194 then true else bif Nat.beq j 200 then true else bif Nat.beq j 204 then true else bif Nat.beq j 205 then true else bif Nat.beq j 206 then true else bif Nat.beq j 209 then true else bif Nat.beq j 215 then true else bif Nat.beq j 220 then true else bif Nat.beq j 224 then true else bif Nat.beq j 237 then true else bif Nat.beq j 238 then true else bif Nat.beq j 239 then true else bif Nat.beq j 240 then true else bif Nat.beq j 243 then true else bif Nat.beq j 244 then true else bif Nat.beq j 245 then true else bif Nat.beq j 246 then true else bif Nat.beq j 247 then true else bif Nat.beq j 252 then true else bif Nat.beq j 253 then true else bif Nat.beq j 254 then true else bif Nat.beq j 255 then true else bif Nat.beq j 257 then true else bif Nat.beq j 258 then true else bif Nat.beq j 259 then true else bif Nat.beq j 260 then true else bif Nat.beq j 263 then true else false) (nov := (fun j => bif Nat.beq j 143 then false else bif Nat.beq j 144 then false else bif Nat.beq j 242 then false else bif Nat.beq j 236 then false else bif Nat.beq j 237 then false else bif Nat.beq j 241 then false else bif Nat.beq j 239 then false else bif Nat.beq j 96 then false else true)) 59 h
set_option maxRecDepth 100000 in
set_option maxHeartbeats 1000000 in
theorem jq_18 {sc : zC} {f0 : zF} (g0 : aGok wG (afx sc f0)) (i0 : wD f0) {a : Int} : zR sc 199 136 0 [] [(0, zP (0)), (1, zI a)] 0 0 zSH f0 (fun r _ f1 => ∃ v, r = some (zI v) ∧ zR sc 199 223 0 [] [(0, zP (50)), (1, zI a)] 0 0 zSH f1 (fun r _ f2 => ∃ w, r = some (zI w) ∧ v = w)) := by
  obtain ⟨⟨s1, s1'⟩, s2, s3, s5, ch, im, la⟩ := id i0
  have e0 := g_10 g0
  have e1 := g_11 g0
  obtain ⟨H, hH⟩ : ∃ H : Nat, f0 1 0 = (H : Int) := ⟨(f0 1 0).toNat, by omega⟩
  obtain ⟨G, hG⟩ : ∃ G : Nat, f0 1 1 = (G : Int) := ⟨(f0 1 1).toNat, by omega⟩
  have b := hB_of s3.2.2
  by_cases hv : a = -1 ∨ (0 ≤ a ∧ a < f0 1 1)
  rotate_left
  · refine b136_0 ?_
    repeat' (first | (refine zix_p (by omega) ?_) | (refine zov_p (by omega) ?_) | (refine zit (fun h => ?_) (fun h => ?_)))
    all_goals try (exfalso; omega)
    all_goals refine ⟨_, rfl, b223_0 ?_⟩
    all_goals try simp only [zlc_lt, zlc_gt, zlc_eq]
    all_goals repeat' (first | (refine zix_p (by omega) ?_) | (refine zov_p (by omega) ?_) | (refine zit (fun h => ?_) (fun h => ?_)))
    all_goals try (exfalso; omega)
    all_goals exact ⟨_, rfl, rfl⟩
  have R18 : ∀ (f1 : zF) (v : Int), (∀ p j, 50 ≤ p → f1 p j = f0 p j) → ((v = -2 ∧ ∀ K, K ≤ G → trS (f0 2) (f0 3) G H K = none) ∨ (∃ (K : Nat) (l : List Nat), v = (if a = -1 then (K : Int) else ((l.getD a.toNat 0 : Nat) : Int)) ∧ K ≤ G ∧ trS (f0 2) (f0 3) G H K = some l ∧ ∀ K', K' < K → trS (f0 2) (f0 3) G H K' = none)) → zR sc 199 223 0 [] [(0, zP 50), (1, zI a)] 0 0 zSH f1 (fun r _ f2 => ∃ w, r = some (zI w) ∧ v = w) := by
    intro f1 v m ev
    have k6 : f1 50 6 = (H : Int) := (m 50 6 (by decide)).trans (s1.symm.trans hH)
    have k7 : f1 50 7 = (G : Int) := (m 50 7 (by decide)).trans (s1'.symm.trans hG)
    refine b223_0 ?_
    rw [k7]
    simp only [zlc_lt, zlc_gt, zlc_eq]
    refine zov_p (by omega) ?_
    rw [if_neg (by omega), if_neg (by omega)]
    refine zcall (fun f2 => ∃ w, bst (fun K => (trS (f0 2) (f0 3) G H K).map (fun l => [] ++ l)) 1000000 (1000000, []) w ∧ svd G f2 w) (zR_le (show G + 3 ≤ 198 by omega) (r_try (PU := f0 2) (M := f0 3) (f0 := f1) (fun j hj => (m 51 j (by decide)).trans (s2 j (by omega)).1.symm) (fun j hj => (m 55 j (by decide)).trans (s3.1 j hj).symm) b k6 k7 (by omega) (by omega) G 0 0 (fun _ => 0) [] (1000000, []) _ _ (by omega) (Nat.le_refl _) rfl (fun _ _ => rfl) (fun _ => ⟨Int.le_refl _, by decide⟩) ⟨fun t ht => absurd ht (Nat.not_lt_zero t), fun t ht => absurd ht (Nat.not_lt_zero t), fun p j a1 a2 a3 a4 => ?_⟩ ⟨rfl, Nat.le_refl _, fun h => absurd h (Nat.lt_irrefl _)⟩ (fun f2 w h2 h3 _ => ⟨w, h2, h3⟩))) (fun f2 h => ?_)
    · rw [zup_at]
      by_cases e : p = 50
      · rw [if_pos e, if_neg (by omega)]
      · rw [if_neg e]
    · obtain ⟨w, h2, h3, h4, h5⟩ := h
      have mp : ∀ K, (trS (f0 2) (f0 3) G H K).map (fun l => [] ++ l) = trS (f0 2) (f0 3) G H K := fun K => by
        cases trS (f0 2) (f0 3) G H K <;> rfl
      have h2 := bst_e mp h2
      rw [h3]
      rcases h2 with ⟨g1, g2⟩ | ⟨l, g1, g2, g3, g4⟩
      · have g1' : w.1 = 1000000 := by rw [g1]
        rw [if_pos (by omega)]
        rcases ev with ⟨e1, e2⟩ | ⟨K, l, e1, e2, e3, e4⟩
        · exact ⟨_, rfl, e1⟩
        · rw [g2 K (by omega)] at e3
          exact absurd e3 (by simp)
      · rw [if_neg (by omega)]
        rcases ev with ⟨e1, e2⟩ | ⟨K, l2, e1, e2, e3, e4⟩
        · exfalso
          by_cases c : w.1 ≤ G
          · rw [e2 _ c] at g3
            exact absurd g3 (by simp)
          · have := e2 G (Nat.le_refl _)
            unfold trS at this g3
            rw [sCh_ge (L := G) G 0 0 _ (Nat.le_refl _) (by omega) (by omega), this] at g3
            exact absurd g3 (by simp)
        · have eK : w.1 = K := by
            rcases Nat.lt_trichotomy w.1 K with x | x | x
            · rw [e4 _ x] at g3; exact absurd g3 (by simp)
            · exact x
            · rw [g4 _ x] at e3; exact absurd e3 (by simp)
          rw [eK, e3] at g3
          have g3 : l2 = l := by injection g3
          have h6 := h5 g2
          rw [g1] at h6
          refine zit (fun c => ?_) (fun c => ?_)
          · rw [if_pos c] at e1
            exact ⟨_, rfl, by rw [e1, eK]⟩
          · rw [if_neg c] at e1
            refine zix_p (by omega) ?_
            refine ⟨_, rfl, ?_⟩
            rw [e1, h6 a.toNat (by omega), g3]
  have CL : zR sc 198 42 0 [] [(0, zP 33), (1, zP 1)] 0 0 zSH f0 (fun _ _ f1 => hrd (f0 2) (f0 3) G H f1 ∧ hrF f0 f1) := c_hear (d := 196) (PU := f0 2) (M := f0 3) (fun _ _ => rfl) (fun _ _ => rfl) (by omega) (by omega) hH hG (fun f1 x y => ⟨x, y⟩)
  have BD : ∀ f1, hrd (f0 2) (f0 3) G H f1 → hrF f0 f1 → zR sc 198 47 0 [] [(0, zP 33)] 0 0 zSH f1 (fun r _ f2 => ∃ v, r = some (zI v) ∧ (∀ p j, 50 ≤ p → f2 p j = f0 p j) ∧ ((v = -2 ∧ ∀ K, K ≤ G → trS (f0 2) (f0 3) G H K = none) ∨ (∃ (K : Nat) (l : List Nat), v = (K : Int) ∧ K ≤ G ∧ trS (f0 2) (f0 3) G H K = some l ∧ (∀ K', K' < K → trS (f0 2) (f0 3) G H K' = none) ∧ ∀ i, i < G → f2 36 i = ((l.getD i 0 : Nat) : Int)))) := fun f1 x y => c_bd (d := 197) (by omega) (by omega) x (by omega) (fun f2 v m e => ⟨v, rfl, fun p j hp => (m p j (by omega) (by omega)).trans (y p j (by omega) (by omega) (by omega)), e⟩)
  refine b136_0 ?_
  refine zit (fun c => ?_) (fun c => ?_)
  · refine zcall (fun f1 => hrd (f0 2) (f0 3) G H f1 ∧ hrF f0 f1) CL (fun f1 h => ?_)
    refine zcall1 _ (BD f1 h.1 h.2) (fun v f2 _ e => ?_)
    obtain ⟨m, e⟩ := e
    rcases e with ⟨e1, e2⟩ | ⟨K, l, e1, e2, e3, e4, e5⟩
    · rw [if_pos (by omega)]
      exact ⟨_, rfl, R18 f2 _ m (Or.inl ⟨e1, e2⟩)⟩
    · rw [if_neg (by omega), if_pos c]
      exact ⟨_, rfl, R18 f2 _ m (Or.inr ⟨K, l, by rw [if_pos c]; exact e1, e2, e3, e4⟩)⟩
  · rw [if_neg (by omega), if_pos (by omega)]
    refine zcall (fun f1 => hrd (f0 2) (f0 3) G H f1 ∧ hrF f0 f1) CL (fun f1 h => ?_)
    refine zcall1 _ (BD f1 h.1 h.2) (fun v f2 _ e => ?_)
    obtain ⟨m, e⟩ := e
    rcases e with ⟨e1, e2⟩ | ⟨K, l, e1, e2, e3, e4, e5⟩
    · rw [if_pos (by omega)]
      exact ⟨_, rfl, R18 f2 _ m (Or.inl ⟨e1, e2⟩)⟩
    · rw [if_neg (by omega), if_neg c]
      refine zcallE (f' := f2) (b48_0 (d := 197) (zix_p (by omega) ⟨rfl, rfl⟩)) ?_
      exact ⟨_, rfl, R18 f2 _ m (Or.inr ⟨K, l, by rw [if_neg c]; exact e5 a.toNat (by omega), e2, e3, e4⟩)⟩
end
