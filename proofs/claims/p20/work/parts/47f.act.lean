noncomputable section
/-! joint runs: acts -/
def znt (c r t : Nat) (f : zF) (b : Int) : zF := zup (if f c r < 24 then zup f t (f c r).toNat b else f) c r (f c r + 1)
def znts (c r t : Nat) (f : zF) : List Int → zF
  | [] => f
  | b :: L => znts c r t (znt c r t f b) L
theorem znts_a {c r t : Nat} : ∀ {L M : List Int} {f : zF}, znts c r t f (L ++ M) = znts c r t (znts c r t f L) M
  | [], _, _ => rfl
  | b :: L, M, f => znts_a (L := L) (M := M) (f := znt c r t f b)
theorem znt_o {c r t a b : Nat} {f : zF} {v : Int} (h1 : a ≠ t) (h2 : a ≠ c ∨ b ≠ r) : znt c r t f v a b = f a b := by
  unfold znt
  rw [zup_at]
  by_cases hc : a = c
  · rw [if_pos hc, if_neg (by omega)]
    split
    · rw [zup_at, if_neg h1]
    · rfl
  · rw [if_neg hc]
    split
    · rw [zup_at, if_neg h1]
    · rfl
theorem znts_o {c r t a b : Nat} (h1 : a ≠ t) (h2 : a ≠ c ∨ b ≠ r) : ∀ {L : List Int} {f : zF}, znts c r t f L a b = f a b
  | [], _ => rfl
  | v :: L, f => (znts_o h1 h2 (L := L) (f := znt c r t f v)).trans (znt_o h1 h2)
theorem znt_r {c r t : Nat} {f : zF} {v : Int} : znt c r t f v c r = f c r + 1 := by
  unfold znt
  rw [zup_at, if_pos rfl, if_pos rfl]
theorem znts_r {c r t : Nat} : ∀ {L : List Int} {f : zF}, znts c r t f L c r = f c r + (L.length : Int)
  | [], f => (Int.add_zero _).symm
  | v :: L, f => by
    show znts c r t (znt c r t f v) L c r = _
    rw [znts_r, znt_r, List.length_cons]
    omega
theorem znts_eq {c r t c' r' t' : Nat} (h : t ≠ c) (h' : t' ≠ c') : ∀ {L : List Int} {f g : zF}, f c r = g c' r' → (∀ j, f t j = g t' j) → znts c r t f L c r = znts c' r' t' g L c' r' ∧ ∀ j, znts c r t f L t j = znts c' r' t' g L t' j
  | [], _, _, e, k => ⟨e, k⟩
  | v :: L, f, g, e, k => by
    refine znts_eq h h' (L := L) ?_ (fun j => ?_)
    · rw [znt_r, znt_r, e]
    · unfold znt
      rw [zup_at, zup_at, if_neg h, if_neg h', e]
      by_cases hc : g c' r' < 24
      · rw [if_pos hc, if_pos hc, zup_at, zup_at, if_pos rfl, if_pos rfl, k j]
      · rw [if_neg hc, if_neg hc, k j]
theorem znt_1 {c r t : Nat} {f : zF} {v : Int} (h : f c r < 24) : zup (zup f t (f c r).toNat v) c r (f c r + 1) = znt c r t f v := by
  unfold znt
  rw [if_pos h]
theorem znt_2 {c r t : Nat} {f : zF} {v : Int} (h : ¬ f c r < 24) : zup f c r (f c r + 1) = znt c r t f v := by
  unfold znt
  rw [if_neg h]
theorem zcallE {sc : zC} {d j : Nat} {lv : zL} {f f' : zF} {v : Int} {P : Int → zF → Prop} (h : zR sc d j 0 [] lv 0 0 zSH f (fun r _ f1 => r = some (zI v) ∧ f1 = f')) (g : P v f') : ∃ A : zQ, zR sc d j 0 [] lv 0 0 zSH f A ∧ ∀ (r : Int) (f1 : zF), zIn r → A (some (zI r)) zSH f1 → P r f1 :=
  ⟨_, h, fun r f1 _ ⟨e1, e2⟩ => by cases e1; subst e2; exact g⟩

def zbd (k a : Nat) : Nat := ([1, 10, 11, 2, 20, 10, 11, 2, 1, 30, 11, 2, 1, 41, 40, 2, 20, 10, 50, 2, 1, 41, 40, 60, 70, 10, 11, 2, 20, 80, 50, 81] : List Nat).getD (4 * k + a) 0
def zab (k a : Nat) : Nat := ([0, 0, 0, 0, 0, 0, 0, 0, 0, 0, 0, 0, 0, 2, 2, 0, 0, 0, 1, 0, 0, 2, 2, 3, 0, 0, 0, 0, 0, 4, 1, 4] : List Nat).getD (4 * k + a) 0
def zval (own : Nat) (n : Int) : Nat → Nat → Nat → Int → Int
  | 0, _, _, _ => 0
  | fu + 1, k, a, x => match zbd k a with
    | 1 => w32 (x + n)
    | 2 => w32 ((zval own n fu own 1 x) - (zval own n fu own 2 1))
    | 10 => w32 ((zval own n fu own 0 x) * 2)
    | 11 => zxor x n
    | 20 => w32 ((zval own n fu (zab k a) 0 x) + 3)
    | 30 => w32 (-(zval own n fu (zab k a) 1 x))
    | 40 => w32 ((zval own n fu (zab k a) 2 x) * 3)
    | 41 => (zval own n fu (zab k a) 1 (w32 (x + 1)))
    | 50 => w32 ((zval own n fu (zab k a) 2 x) - (zval own n fu own 0 2))
    | 60 => zxor (zval own n fu (zab k a) 3 x) 5
    | 70 => w32 ((zval own n fu (zab k a) 0 x) * 2)
    | 80 => w32 ((zval own n fu (zab k a) 1 x) + (zval own n fu own 2 2))
    | 81 => w32 ((zval own n fu (zab k a) 3 x) - 1)
    | _ => 0
def zlst (own : Nat) : Nat → Nat → Nat → List Int
  | 0, _, _ => []
  | fu + 1, k, a => match zbd k a with
    | 1 => 1 :: []
    | 2 => 2 :: (zlst own fu own 1 ++ zlst own fu own 2)
    | 10 => 10 :: zlst own fu own 0
    | 11 => 11 :: []
    | 20 => 20 :: zlst own fu (zab k a) 0
    | 30 => 30 :: zlst own fu (zab k a) 1
    | 40 => 40 :: zlst own fu (zab k a) 2
    | 41 => 41 :: zlst own fu (zab k a) 1
    | 50 => 50 :: (zlst own fu (zab k a) 2 ++ zlst own fu own 0)
    | 60 => 60 :: zlst own fu (zab k a) 3
    | 70 => 70 :: zlst own fu (zab k a) 0
    | 80 => 80 :: (zlst own fu (zab k a) 1 ++ zlst own fu own 2)
    | 81 => 81 :: zlst own fu (zab k a) 3
    | _ => []
def zfin (own : Nat) : Nat → Nat → Nat → Bool
  | 0, _, _ => false
  | fu + 1, k, a => match zbd k a with
    | 1 => true
    | 2 => zfin own fu own 1 && zfin own fu own 2
    | 10 => zfin own fu own 0
    | 11 => true
    | 20 => zfin own fu (zab k a) 0
    | 30 => zfin own fu (zab k a) 1
    | 40 => zfin own fu (zab k a) 2
    | 41 => zfin own fu (zab k a) 1
    | 50 => zfin own fu (zab k a) 2 && zfin own fu own 0
    | 60 => zfin own fu (zab k a) 3
    | 70 => zfin own fu (zab k a) 0
    | 80 => zfin own fu (zab k a) 1 && zfin own fu own 2
    | 81 => zfin own fu (zab k a) 3
    | _ => false
theorem zfin_all : ∀ own, own < 8 → ∀ a, a < 4 → zfin own 12 own a = true ∧ (zlst own 12 own a).length ≤ 40 := by decide
set_option maxRecDepth 100000 in
theorem rc00_26_0 {sc : zC} {d : Nat} {b x e : Int} {f : zF} {Q : zQ} (h : zov 0 (zov 0 (if e < 40 then (zix b (50) (if f (42) (3) < 24 then (zix (f (42) (3)) (24) (zov ((f (42) (3)) + (1)) (Q (some (zI (w32 (x + b)))) zSH (zup (zup f (44) ((f (42) (3)).toNat) (1)) (42) (3) ((f (42) (3)) + (1)))))) else (zov ((f (42) (3)) + (1)) (Q (some (zI (w32 (x + b)))) zSH (zup f (42) (3) ((f (42) (3)) + (1))))))) else (Q (some (zI (0))) zSH f)))) : zR sc (d + 1) 26 0 [] [(0, zP (42)), (1, zI (0)), (2, zI b), (3, zI (0)), (4, zI x), (5, zI e)] 0 0 zSH f Q := zwn_R (stp := fun _ _ => none) (inl := fun j => bif Nat.beq j 24 then true else bif Nat.beq j 25 then true else false) (nov := (fun j => bif Nat.beq j 26 then false else true)) 92 h
set_option maxRecDepth 100000 in
theorem rr00_248_0 {sc : zC} {d : Nat} {x : Int} {f : zF} {Q : zQ} (h : if f (50) (43) < 24 then (zix (f (50) (43)) (24) (zov ((f (50) (43)) + (1)) (Q (some (zI (w32 (x + (f (50) (45)))))) zSH (zup (zup f (73) ((f (50) (43)).toNat) (1)) (50) (43) ((f (50) (43)) + (1)))))) else (zov ((f (50) (43)) + (1)) (Q (some (zI (w32 (x + (f (50) (45)))))) zSH (zup f (50) (43) ((f (50) (43)) + (1)))))) : zR sc (d + 1) 248 0 [] [(0, zP (50)), (1, zI (0)), (2, zI x)] 0 0 zSH f Q := zwn_R (stp := fun _ _ => none) (inl := fun j => bif Nat.beq j 247 then true else false) (nov := (fun j => bif Nat.beq j 248 then false else true)) 51 h
set_option maxRecDepth 100000 in
theorem rc01_26_0 {sc : zC} {d : Nat} {b x e : Int} {f : zF} {Q : zQ} (h : zov 0 (zov 1 (if e < 40 then (zix b (50) (if f (42) (3) < 24 then (zix (f (42) (3)) (24) (zov ((f (42) (3)) + (1)) (∃ A2 : zQ, zR sc d 26 0 [] [(0, zP (42)), (1, zI (f (43) (b.toNat))), (2, zI b), (3, zI (0)), (4, zI x), (5, zI (w32 (e + (1))))] 0 0 zSH (zup (zup f (44) ((f (42) (3)).toNat) (10)) (42) (3) ((f (42) (3)) + (1))) A2 ∧ ∀ (r3 : Int) (f1 : zF), zIn r3 → A2 (some (zI r3)) zSH f1 → (Q (some (zI (w32 (r3 * (2))))) zSH f1)))) else (zov ((f (42) (3)) + (1)) (∃ A5 : zQ, zR sc d 26 0 [] [(0, zP (42)), (1, zI (f (43) (b.toNat))), (2, zI b), (3, zI (0)), (4, zI x), (5, zI (w32 (e + (1))))] 0 0 zSH (zup f (42) (3) ((f (42) (3)) + (1))) A5 ∧ ∀ (r6 : Int) (f4 : zF), zIn r6 → A5 (some (zI r6)) zSH f4 → (Q (some (zI (w32 (r6 * (2))))) zSH f4))))) else (Q (some (zI (0))) zSH f)))) : zR sc (d + 1) 26 0 [] [(0, zP (42)), (1, zI (0)), (2, zI b), (3, zI (1)), (4, zI x), (5, zI e)] 0 0 zSH f Q := zwn_R (stp := fun _ _ => none) (inl := fun j => bif Nat.beq j 24 then true else bif Nat.beq j 25 then true else false) (nov := (fun j => bif Nat.beq j 26 then false else true)) 104 h
set_option maxRecDepth 100000 in
theorem rr01_249_0 {sc : zC} {d : Nat} {x : Int} {f : zF} {Q : zQ} (h : if f (50) (43) < 24 then (zix (f (50) (43)) (24) (zov ((f (50) (43)) + (1)) (∃ A2 : zQ, zR sc d 248 0 [] [(0, zP (50)), (1, zI (f (50) (44))), (2, zI x)] 0 0 zSH (zup (zup f (73) ((f (50) (43)).toNat) (10)) (50) (43) ((f (50) (43)) + (1))) A2 ∧ ∀ (r3 : Int) (f1 : zF), zIn r3 → A2 (some (zI r3)) zSH f1 → (Q (some (zI (w32 (r3 * (2))))) zSH f1)))) else (zov ((f (50) (43)) + (1)) (∃ A5 : zQ, zR sc d 248 0 [] [(0, zP (50)), (1, zI (f (50) (44))), (2, zI x)] 0 0 zSH (zup f (50) (43) ((f (50) (43)) + (1))) A5 ∧ ∀ (r6 : Int) (f4 : zF), zIn r6 → A5 (some (zI r6)) zSH f4 → (Q (some (zI (w32 (r6 * (2))))) zSH f4)))) : zR sc (d + 1) 249 0 [] [(0, zP (50)), (1, zI (0)), (2, zI x)] 0 0 zSH f Q := zwn_R (stp := fun _ _ => none) (inl := fun j => bif Nat.beq j 247 then true else false) (nov := (fun j => bif Nat.beq j 249 then false else true)) 57 h
set_option maxRecDepth 100000 in
theorem rc02_26_0 {sc : zC} {d : Nat} {b x e : Int} {f : zF} {Q : zQ} (h : zov 0 (zov 2 (if e < 40 then (zix b (50) (if f (42) (3) < 24 then (zix (f (42) (3)) (24) (zov ((f (42) (3)) + (1)) (Q (some (zI (zxor x b))) zSH (zup (zup f (44) ((f (42) (3)).toNat) (11)) (42) (3) ((f (42) (3)) + (1)))))) else (zov ((f (42) (3)) + (1)) (Q (some (zI (zxor x b))) zSH (zup f (42) (3) ((f (42) (3)) + (1))))))) else (Q (some (zI (0))) zSH f)))) : zR sc (d + 1) 26 0 [] [(0, zP (42)), (1, zI (0)), (2, zI b), (3, zI (2)), (4, zI x), (5, zI e)] 0 0 zSH f Q := zwn_R (stp := fun _ _ => none) (inl := fun j => bif Nat.beq j 24 then true else bif Nat.beq j 25 then true else false) (nov := (fun j => bif Nat.beq j 26 then false else true)) 92 h
set_option maxRecDepth 100000 in
theorem rr02_250_0 {sc : zC} {d : Nat} {x : Int} {f : zF} {Q : zQ} (h : if f (50) (43) < 24 then (zix (f (50) (43)) (24) (zov ((f (50) (43)) + (1)) (Q (some (zI (zxor x (f (50) (45))))) zSH (zup (zup f (73) ((f (50) (43)).toNat) (11)) (50) (43) ((f (50) (43)) + (1)))))) else (zov ((f (50) (43)) + (1)) (Q (some (zI (zxor x (f (50) (45))))) zSH (zup f (50) (43) ((f (50) (43)) + (1)))))) : zR sc (d + 1) 250 0 [] [(0, zP (50)), (1, zI (0)), (2, zI x)] 0 0 zSH f Q := zwn_R (stp := fun _ _ => none) (inl := fun j => bif Nat.beq j 247 then true else false) (nov := (fun j => bif Nat.beq j 250 then false else true)) 51 h
set_option maxRecDepth 100000 in
theorem rc03_26_0 {sc : zC} {d : Nat} {b x e : Int} {f : zF} {Q : zQ} (h : zov 0 (zov 3 (if e < 40 then (zix b (50) (if f (42) (3) < 24 then (zix (f (42) (3)) (24) (zov ((f (42) (3)) + (1)) (∃ A2 : zQ, zR sc d 26 0 [] [(0, zP (42)), (1, zI (f (43) (b.toNat))), (2, zI b), (3, zI (1)), (4, zI x), (5, zI (w32 (e + (1))))] 0 0 zSH (zup (zup f (44) ((f (42) (3)).toNat) (2)) (42) (3) ((f (42) (3)) + (1))) A2 ∧ ∀ (r3 : Int) (f1 : zF), zIn r3 → A2 (some (zI r3)) zSH f1 → (∃ A5 : zQ, zR sc d 26 0 [] [(0, zP (42)), (1, zI (f (43) (b.toNat))), (2, zI b), (3, zI (2)), (4, zI (1)), (5, zI (w32 (e + (1))))] 0 0 zSH f1 A5 ∧ ∀ (r6 : Int) (f4 : zF), zIn r6 → A5 (some (zI r6)) zSH f4 → (Q (some (zI (w32 (r3 - r6)))) zSH f4))))) else (zov ((f (42) (3)) + (1)) (∃ A8 : zQ, zR sc d 26 0 [] [(0, zP (42)), (1, zI (f (43) (b.toNat))), (2, zI b), (3, zI (1)), (4, zI x), (5, zI (w32 (e + (1))))] 0 0 zSH (zup f (42) (3) ((f (42) (3)) + (1))) A8 ∧ ∀ (r9 : Int) (f7 : zF), zIn r9 → A8 (some (zI r9)) zSH f7 → (∃ A11 : zQ, zR sc d 26 0 [] [(0, zP (42)), (1, zI (f (43) (b.toNat))), (2, zI b), (3, zI (2)), (4, zI (1)), (5, zI (w32 (e + (1))))] 0 0 zSH f7 A11 ∧ ∀ (r12 : Int) (f10 : zF), zIn r12 → A11 (some (zI r12)) zSH f10 → (Q (some (zI (w32 (r9 - r12)))) zSH f10)))))) else (Q (some (zI (0))) zSH f)))) : zR sc (d + 1) 26 0 [] [(0, zP (42)), (1, zI (0)), (2, zI b), (3, zI (3)), (4, zI x), (5, zI e)] 0 0 zSH f Q := zwn_R (stp := fun _ _ => none) (inl := fun j => bif Nat.beq j 24 then true else bif Nat.beq j 25 then true else false) (nov := (fun j => bif Nat.beq j 26 then false else true)) 116 h
set_option maxRecDepth 100000 in
theorem rr03_251_0 {sc : zC} {d : Nat} {x : Int} {f : zF} {Q : zQ} (h : if f (50) (43) < 24 then (zix (f (50) (43)) (24) (zov ((f (50) (43)) + (1)) (∃ A2 : zQ, zR sc d 249 0 [] [(0, zP (50)), (1, zI (f (50) (44))), (2, zI x)] 0 0 zSH (zup (zup f (73) ((f (50) (43)).toNat) (2)) (50) (43) ((f (50) (43)) + (1))) A2 ∧ ∀ (r3 : Int) (f1 : zF), zIn r3 → A2 (some (zI r3)) zSH f1 → (∃ A5 : zQ, zR sc d 250 0 [] [(0, zP (50)), (1, zI (f1 (50) (44))), (2, zI (1))] 0 0 zSH f1 A5 ∧ ∀ (r6 : Int) (f4 : zF), zIn r6 → A5 (some (zI r6)) zSH f4 → (Q (some (zI (w32 (r3 - r6)))) zSH f4))))) else (zov ((f (50) (43)) + (1)) (∃ A8 : zQ, zR sc d 249 0 [] [(0, zP (50)), (1, zI (f (50) (44))), (2, zI x)] 0 0 zSH (zup f (50) (43) ((f (50) (43)) + (1))) A8 ∧ ∀ (r9 : Int) (f7 : zF), zIn r9 → A8 (some (zI r9)) zSH f7 → (∃ A11 : zQ, zR sc d 250 0 [] [(0, zP (50)), (1, zI (f7 (50) (44))), (2, zI (1))] 0 0 zSH f7 A11 ∧ ∀ (r12 : Int) (f10 : zF), zIn r12 → A11 (some (zI r12)) zSH f10 → (Q (some (zI (w32 (r9 - r12)))) zSH f10))))) : zR sc (d + 1) 251 0 [] [(0, zP (50)), (1, zI (0)), (2, zI x)] 0 0 zSH f Q := zwn_R (stp := fun _ _ => none) (inl := fun j => bif Nat.beq j 247 then true else false) (nov := (fun j => bif Nat.beq j 251 then false else true)) 63 h
set_option maxRecDepth 100000 in
theorem rc10_26_0 {sc : zC} {d : Nat} {b x e : Int} {f : zF} {Q : zQ} (h : zov 4 (zov 4 (if e < 40 then (zix b (50) (if f (42) (3) < 24 then (zix (f (42) (3)) (24) (zov ((f (42) (3)) + (1)) (∃ A2 : zQ, zR sc d 26 0 [] [(0, zP (42)), (1, zI (0)), (2, zI b), (3, zI (0)), (4, zI x), (5, zI (w32 (e + (1))))] 0 0 zSH (zup (zup f (44) ((f (42) (3)).toNat) (20)) (42) (3) ((f (42) (3)) + (1))) A2 ∧ ∀ (r3 : Int) (f1 : zF), zIn r3 → A2 (some (zI r3)) zSH f1 → (Q (some (zI (w32 (r3 + (3))))) zSH f1)))) else (zov ((f (42) (3)) + (1)) (∃ A5 : zQ, zR sc d 26 0 [] [(0, zP (42)), (1, zI (0)), (2, zI b), (3, zI (0)), (4, zI x), (5, zI (w32 (e + (1))))] 0 0 zSH (zup f (42) (3) ((f (42) (3)) + (1))) A5 ∧ ∀ (r6 : Int) (f4 : zF), zIn r6 → A5 (some (zI r6)) zSH f4 → (Q (some (zI (w32 (r6 + (3))))) zSH f4))))) else (Q (some (zI (0))) zSH f)))) : zR sc (d + 1) 26 0 [] [(0, zP (42)), (1, zI (1)), (2, zI b), (3, zI (0)), (4, zI x), (5, zI e)] 0 0 zSH f Q := zwn_R (stp := fun _ _ => none) (inl := fun j => bif Nat.beq j 24 then true else bif Nat.beq j 25 then true else false) (nov := (fun j => bif Nat.beq j 26 then false else true)) 104 h
set_option maxRecDepth 100000 in
theorem rr10_248_0 {sc : zC} {d : Nat} {x : Int} {f : zF} {Q : zQ} (h : if f (50) (43) < 24 then (zix (f (50) (43)) (24) (zov ((f (50) (43)) + (1)) (∃ A2 : zQ, zR sc d 248 0 [] [(0, zP (50)), (1, zI (0)), (2, zI x)] 0 0 zSH (zup (zup f (73) ((f (50) (43)).toNat) (20)) (50) (43) ((f (50) (43)) + (1))) A2 ∧ ∀ (r3 : Int) (f1 : zF), zIn r3 → A2 (some (zI r3)) zSH f1 → (Q (some (zI (w32 (r3 + (3))))) zSH f1)))) else (zov ((f (50) (43)) + (1)) (∃ A5 : zQ, zR sc d 248 0 [] [(0, zP (50)), (1, zI (0)), (2, zI x)] 0 0 zSH (zup f (50) (43) ((f (50) (43)) + (1))) A5 ∧ ∀ (r6 : Int) (f4 : zF), zIn r6 → A5 (some (zI r6)) zSH f4 → (Q (some (zI (w32 (r6 + (3))))) zSH f4)))) : zR sc (d + 1) 248 0 [] [(0, zP (50)), (1, zI (1)), (2, zI x)] 0 0 zSH f Q := zwn_R (stp := fun _ _ => none) (inl := fun j => bif Nat.beq j 247 then true else false) (nov := (fun j => bif Nat.beq j 248 then false else true)) 46 h
set_option maxRecDepth 100000 in
theorem rc11_26_0 {sc : zC} {d : Nat} {b x e : Int} {f : zF} {Q : zQ} (h : zov 4 (zov 5 (zov 1 (zov 0 (zov 1 (if e < 40 then (zix b (50) (if f (42) (3) < 24 then (zix (f (42) (3)) (24) (zov ((f (42) (3)) + (1)) (∃ A2 : zQ, zR sc d 26 0 [] [(0, zP (42)), (1, zI (f (43) (b.toNat))), (2, zI b), (3, zI (0)), (4, zI x), (5, zI (w32 (e + (1))))] 0 0 zSH (zup (zup f (44) ((f (42) (3)).toNat) (10)) (42) (3) ((f (42) (3)) + (1))) A2 ∧ ∀ (r3 : Int) (f1 : zF), zIn r3 → A2 (some (zI r3)) zSH f1 → (Q (some (zI (w32 (r3 * (2))))) zSH f1)))) else (zov ((f (42) (3)) + (1)) (∃ A5 : zQ, zR sc d 26 0 [] [(0, zP (42)), (1, zI (f (43) (b.toNat))), (2, zI b), (3, zI (0)), (4, zI x), (5, zI (w32 (e + (1))))] 0 0 zSH (zup f (42) (3) ((f (42) (3)) + (1))) A5 ∧ ∀ (r6 : Int) (f4 : zF), zIn r6 → A5 (some (zI r6)) zSH f4 → (Q (some (zI (w32 (r6 * (2))))) zSH f4))))) else (Q (some (zI (0))) zSH f))))))) : zR sc (d + 1) 26 0 [] [(0, zP (42)), (1, zI (1)), (2, zI b), (3, zI (1)), (4, zI x), (5, zI e)] 0 0 zSH f Q := zwn_R (stp := fun _ _ => none) (inl := fun j => bif Nat.beq j 24 then true else bif Nat.beq j 25 then true else false) (nov := (fun j => bif Nat.beq j 26 then false else true)) 123 h
set_option maxRecDepth 100000 in
theorem rr11_249_0 {sc : zC} {d : Nat} {x : Int} {f : zF} {Q : zQ} (h : if f (50) (43) < 24 then (zix (f (50) (43)) (24) (zov ((f (50) (43)) + (1)) (∃ A2 : zQ, zR sc d 248 0 [] [(0, zP (50)), (1, zI (f (50) (44))), (2, zI x)] 0 0 zSH (zup (zup f (73) ((f (50) (43)).toNat) (10)) (50) (43) ((f (50) (43)) + (1))) A2 ∧ ∀ (r3 : Int) (f1 : zF), zIn r3 → A2 (some (zI r3)) zSH f1 → (Q (some (zI (w32 (r3 * (2))))) zSH f1)))) else (zov ((f (50) (43)) + (1)) (∃ A5 : zQ, zR sc d 248 0 [] [(0, zP (50)), (1, zI (f (50) (44))), (2, zI x)] 0 0 zSH (zup f (50) (43) ((f (50) (43)) + (1))) A5 ∧ ∀ (r6 : Int) (f4 : zF), zIn r6 → A5 (some (zI r6)) zSH f4 → (Q (some (zI (w32 (r6 * (2))))) zSH f4)))) : zR sc (d + 1) 249 0 [] [(0, zP (50)), (1, zI (1)), (2, zI x)] 0 0 zSH f Q := zwn_R (stp := fun _ _ => none) (inl := fun j => bif Nat.beq j 247 then true else false) (nov := (fun j => bif Nat.beq j 249 then false else true)) 57 h
set_option maxRecDepth 100000 in
theorem rc12_26_0 {sc : zC} {d : Nat} {b x e : Int} {f : zF} {Q : zQ} (h : zov 4 (zov 6 (zov 1 (zov 0 (zov 2 (if e < 40 then (zix b (50) (if f (42) (3) < 24 then (zix (f (42) (3)) (24) (zov ((f (42) (3)) + (1)) (Q (some (zI (zxor x b))) zSH (zup (zup f (44) ((f (42) (3)).toNat) (11)) (42) (3) ((f (42) (3)) + (1)))))) else (zov ((f (42) (3)) + (1)) (Q (some (zI (zxor x b))) zSH (zup f (42) (3) ((f (42) (3)) + (1))))))) else (Q (some (zI (0))) zSH f))))))) : zR sc (d + 1) 26 0 [] [(0, zP (42)), (1, zI (1)), (2, zI b), (3, zI (2)), (4, zI x), (5, zI e)] 0 0 zSH f Q := zwn_R (stp := fun _ _ => none) (inl := fun j => bif Nat.beq j 24 then true else bif Nat.beq j 25 then true else false) (nov := (fun j => bif Nat.beq j 26 then false else true)) 111 h
set_option maxRecDepth 100000 in
theorem rr12_250_0 {sc : zC} {d : Nat} {x : Int} {f : zF} {Q : zQ} (h : if f (50) (43) < 24 then (zix (f (50) (43)) (24) (zov ((f (50) (43)) + (1)) (Q (some (zI (zxor x (f (50) (45))))) zSH (zup (zup f (73) ((f (50) (43)).toNat) (11)) (50) (43) ((f (50) (43)) + (1)))))) else (zov ((f (50) (43)) + (1)) (Q (some (zI (zxor x (f (50) (45))))) zSH (zup f (50) (43) ((f (50) (43)) + (1)))))) : zR sc (d + 1) 250 0 [] [(0, zP (50)), (1, zI (1)), (2, zI x)] 0 0 zSH f Q := zwn_R (stp := fun _ _ => none) (inl := fun j => bif Nat.beq j 247 then true else false) (nov := (fun j => bif Nat.beq j 250 then false else true)) 51 h
set_option maxRecDepth 100000 in
theorem rc13_26_0 {sc : zC} {d : Nat} {b x e : Int} {f : zF} {Q : zQ} (h : zov 4 (zov 7 (zov 1 (zov 0 (zov 3 (if e < 40 then (zix b (50) (if f (42) (3) < 24 then (zix (f (42) (3)) (24) (zov ((f (42) (3)) + (1)) (∃ A2 : zQ, zR sc d 26 0 [] [(0, zP (42)), (1, zI (f (43) (b.toNat))), (2, zI b), (3, zI (1)), (4, zI x), (5, zI (w32 (e + (1))))] 0 0 zSH (zup (zup f (44) ((f (42) (3)).toNat) (2)) (42) (3) ((f (42) (3)) + (1))) A2 ∧ ∀ (r3 : Int) (f1 : zF), zIn r3 → A2 (some (zI r3)) zSH f1 → (∃ A5 : zQ, zR sc d 26 0 [] [(0, zP (42)), (1, zI (f (43) (b.toNat))), (2, zI b), (3, zI (2)), (4, zI (1)), (5, zI (w32 (e + (1))))] 0 0 zSH f1 A5 ∧ ∀ (r6 : Int) (f4 : zF), zIn r6 → A5 (some (zI r6)) zSH f4 → (Q (some (zI (w32 (r3 - r6)))) zSH f4))))) else (zov ((f (42) (3)) + (1)) (∃ A8 : zQ, zR sc d 26 0 [] [(0, zP (42)), (1, zI (f (43) (b.toNat))), (2, zI b), (3, zI (1)), (4, zI x), (5, zI (w32 (e + (1))))] 0 0 zSH (zup f (42) (3) ((f (42) (3)) + (1))) A8 ∧ ∀ (r9 : Int) (f7 : zF), zIn r9 → A8 (some (zI r9)) zSH f7 → (∃ A11 : zQ, zR sc d 26 0 [] [(0, zP (42)), (1, zI (f (43) (b.toNat))), (2, zI b), (3, zI (2)), (4, zI (1)), (5, zI (w32 (e + (1))))] 0 0 zSH f7 A11 ∧ ∀ (r12 : Int) (f10 : zF), zIn r12 → A11 (some (zI r12)) zSH f10 → (Q (some (zI (w32 (r9 - r12)))) zSH f10)))))) else (Q (some (zI (0))) zSH f))))))) : zR sc (d + 1) 26 0 [] [(0, zP (42)), (1, zI (1)), (2, zI b), (3, zI (3)), (4, zI x), (5, zI e)] 0 0 zSH f Q := zwn_R (stp := fun _ _ => none) (inl := fun j => bif Nat.beq j 24 then true else bif Nat.beq j 25 then true else false) (nov := (fun j => bif Nat.beq j 26 then false else true)) 135 h
set_option maxRecDepth 100000 in
theorem rr13_251_0 {sc : zC} {d : Nat} {x : Int} {f : zF} {Q : zQ} (h : if f (50) (43) < 24 then (zix (f (50) (43)) (24) (zov ((f (50) (43)) + (1)) (∃ A2 : zQ, zR sc d 249 0 [] [(0, zP (50)), (1, zI (f (50) (44))), (2, zI x)] 0 0 zSH (zup (zup f (73) ((f (50) (43)).toNat) (2)) (50) (43) ((f (50) (43)) + (1))) A2 ∧ ∀ (r3 : Int) (f1 : zF), zIn r3 → A2 (some (zI r3)) zSH f1 → (∃ A5 : zQ, zR sc d 250 0 [] [(0, zP (50)), (1, zI (f1 (50) (44))), (2, zI (1))] 0 0 zSH f1 A5 ∧ ∀ (r6 : Int) (f4 : zF), zIn r6 → A5 (some (zI r6)) zSH f4 → (Q (some (zI (w32 (r3 - r6)))) zSH f4))))) else (zov ((f (50) (43)) + (1)) (∃ A8 : zQ, zR sc d 249 0 [] [(0, zP (50)), (1, zI (f (50) (44))), (2, zI x)] 0 0 zSH (zup f (50) (43) ((f (50) (43)) + (1))) A8 ∧ ∀ (r9 : Int) (f7 : zF), zIn r9 → A8 (some (zI r9)) zSH f7 → (∃ A11 : zQ, zR sc d 250 0 [] [(0, zP (50)), (1, zI (f7 (50) (44))), (2, zI (1))] 0 0 zSH f7 A11 ∧ ∀ (r12 : Int) (f10 : zF), zIn r12 → A11 (some (zI r12)) zSH f10 → (Q (some (zI (w32 (r9 - r12)))) zSH f10))))) : zR sc (d + 1) 251 0 [] [(0, zP (50)), (1, zI (1)), (2, zI x)] 0 0 zSH f Q := zwn_R (stp := fun _ _ => none) (inl := fun j => bif Nat.beq j 247 then true else false) (nov := (fun j => bif Nat.beq j 251 then false else true)) 63 h
set_option maxRecDepth 100000 in
theorem rc20_26_0 {sc : zC} {d : Nat} {b x e : Int} {f : zF} {Q : zQ} (h : zov 8 (zov 8 (zov 1 (zov 0 (zov 0 (if e < 40 then (zix b (50) (if f (42) (3) < 24 then (zix (f (42) (3)) (24) (zov ((f (42) (3)) + (1)) (Q (some (zI (w32 (x + b)))) zSH (zup (zup f (44) ((f (42) (3)).toNat) (1)) (42) (3) ((f (42) (3)) + (1)))))) else (zov ((f (42) (3)) + (1)) (Q (some (zI (w32 (x + b)))) zSH (zup f (42) (3) ((f (42) (3)) + (1))))))) else (Q (some (zI (0))) zSH f))))))) : zR sc (d + 1) 26 0 [] [(0, zP (42)), (1, zI (2)), (2, zI b), (3, zI (0)), (4, zI x), (5, zI e)] 0 0 zSH f Q := zwn_R (stp := fun _ _ => none) (inl := fun j => bif Nat.beq j 24 then true else bif Nat.beq j 25 then true else false) (nov := (fun j => bif Nat.beq j 26 then false else true)) 111 h
set_option maxRecDepth 100000 in
theorem rr20_248_0 {sc : zC} {d : Nat} {x : Int} {f : zF} {Q : zQ} (h : if f (50) (43) < 24 then (zix (f (50) (43)) (24) (zov ((f (50) (43)) + (1)) (Q (some (zI (w32 (x + (f (50) (45)))))) zSH (zup (zup f (73) ((f (50) (43)).toNat) (1)) (50) (43) ((f (50) (43)) + (1)))))) else (zov ((f (50) (43)) + (1)) (Q (some (zI (w32 (x + (f (50) (45)))))) zSH (zup f (50) (43) ((f (50) (43)) + (1)))))) : zR sc (d + 1) 248 0 [] [(0, zP (50)), (1, zI (2)), (2, zI x)] 0 0 zSH f Q := zwn_R (stp := fun _ _ => none) (inl := fun j => bif Nat.beq j 247 then true else false) (nov := (fun j => bif Nat.beq j 248 then false else true)) 51 h
set_option maxRecDepth 100000 in
theorem rc21_26_0 {sc : zC} {d : Nat} {b x e : Int} {f : zF} {Q : zQ} (h : zov 8 (zov 9 (if e < 40 then (zix b (50) (if f (42) (3) < 24 then (zix (f (42) (3)) (24) (zov ((f (42) (3)) + (1)) (∃ A2 : zQ, zR sc d 26 0 [] [(0, zP (42)), (1, zI (0)), (2, zI b), (3, zI (1)), (4, zI x), (5, zI (w32 (e + (1))))] 0 0 zSH (zup (zup f (44) ((f (42) (3)).toNat) (30)) (42) (3) ((f (42) (3)) + (1))) A2 ∧ ∀ (r3 : Int) (f1 : zF), zIn r3 → A2 (some (zI r3)) zSH f1 → (Q (some (zI (w32 (-r3)))) zSH f1)))) else (zov ((f (42) (3)) + (1)) (∃ A5 : zQ, zR sc d 26 0 [] [(0, zP (42)), (1, zI (0)), (2, zI b), (3, zI (1)), (4, zI x), (5, zI (w32 (e + (1))))] 0 0 zSH (zup f (42) (3) ((f (42) (3)) + (1))) A5 ∧ ∀ (r6 : Int) (f4 : zF), zIn r6 → A5 (some (zI r6)) zSH f4 → (Q (some (zI (w32 (-r6)))) zSH f4))))) else (Q (some (zI (0))) zSH f)))) : zR sc (d + 1) 26 0 [] [(0, zP (42)), (1, zI (2)), (2, zI b), (3, zI (1)), (4, zI x), (5, zI e)] 0 0 zSH f Q := zwn_R (stp := fun _ _ => none) (inl := fun j => bif Nat.beq j 24 then true else bif Nat.beq j 25 then true else false) (nov := (fun j => bif Nat.beq j 26 then false else true)) 102 h
set_option maxRecDepth 100000 in
theorem rr21_249_0 {sc : zC} {d : Nat} {x : Int} {f : zF} {Q : zQ} (h : if f (50) (43) < 24 then (zix (f (50) (43)) (24) (zov ((f (50) (43)) + (1)) (∃ A2 : zQ, zR sc d 249 0 [] [(0, zP (50)), (1, zI (0)), (2, zI x)] 0 0 zSH (zup (zup f (73) ((f (50) (43)).toNat) (30)) (50) (43) ((f (50) (43)) + (1))) A2 ∧ ∀ (r3 : Int) (f1 : zF), zIn r3 → A2 (some (zI r3)) zSH f1 → (Q (some (zI (w32 (-r3)))) zSH f1)))) else (zov ((f (50) (43)) + (1)) (∃ A5 : zQ, zR sc d 249 0 [] [(0, zP (50)), (1, zI (0)), (2, zI x)] 0 0 zSH (zup f (50) (43) ((f (50) (43)) + (1))) A5 ∧ ∀ (r6 : Int) (f4 : zF), zIn r6 → A5 (some (zI r6)) zSH f4 → (Q (some (zI (w32 (-r6)))) zSH f4)))) : zR sc (d + 1) 249 0 [] [(0, zP (50)), (1, zI (2)), (2, zI x)] 0 0 zSH f Q := zwn_R (stp := fun _ _ => none) (inl := fun j => bif Nat.beq j 247 then true else false) (nov := (fun j => bif Nat.beq j 249 then false else true)) 50 h
set_option maxRecDepth 100000 in
theorem rc22_26_0 {sc : zC} {d : Nat} {b x e : Int} {f : zF} {Q : zQ} (h : zov 8 (zov 10 (zov 1 (zov 0 (zov 2 (if e < 40 then (zix b (50) (if f (42) (3) < 24 then (zix (f (42) (3)) (24) (zov ((f (42) (3)) + (1)) (Q (some (zI (zxor x b))) zSH (zup (zup f (44) ((f (42) (3)).toNat) (11)) (42) (3) ((f (42) (3)) + (1)))))) else (zov ((f (42) (3)) + (1)) (Q (some (zI (zxor x b))) zSH (zup f (42) (3) ((f (42) (3)) + (1))))))) else (Q (some (zI (0))) zSH f))))))) : zR sc (d + 1) 26 0 [] [(0, zP (42)), (1, zI (2)), (2, zI b), (3, zI (2)), (4, zI x), (5, zI e)] 0 0 zSH f Q := zwn_R (stp := fun _ _ => none) (inl := fun j => bif Nat.beq j 24 then true else bif Nat.beq j 25 then true else false) (nov := (fun j => bif Nat.beq j 26 then false else true)) 111 h
set_option maxRecDepth 100000 in
theorem rr22_250_0 {sc : zC} {d : Nat} {x : Int} {f : zF} {Q : zQ} (h : if f (50) (43) < 24 then (zix (f (50) (43)) (24) (zov ((f (50) (43)) + (1)) (Q (some (zI (zxor x (f (50) (45))))) zSH (zup (zup f (73) ((f (50) (43)).toNat) (11)) (50) (43) ((f (50) (43)) + (1)))))) else (zov ((f (50) (43)) + (1)) (Q (some (zI (zxor x (f (50) (45))))) zSH (zup f (50) (43) ((f (50) (43)) + (1)))))) : zR sc (d + 1) 250 0 [] [(0, zP (50)), (1, zI (2)), (2, zI x)] 0 0 zSH f Q := zwn_R (stp := fun _ _ => none) (inl := fun j => bif Nat.beq j 247 then true else false) (nov := (fun j => bif Nat.beq j 250 then false else true)) 51 h
set_option maxRecDepth 100000 in
theorem rc23_26_0 {sc : zC} {d : Nat} {b x e : Int} {f : zF} {Q : zQ} (h : zov 8 (zov 11 (zov 1 (zov 0 (zov 3 (if e < 40 then (zix b (50) (if f (42) (3) < 24 then (zix (f (42) (3)) (24) (zov ((f (42) (3)) + (1)) (∃ A2 : zQ, zR sc d 26 0 [] [(0, zP (42)), (1, zI (f (43) (b.toNat))), (2, zI b), (3, zI (1)), (4, zI x), (5, zI (w32 (e + (1))))] 0 0 zSH (zup (zup f (44) ((f (42) (3)).toNat) (2)) (42) (3) ((f (42) (3)) + (1))) A2 ∧ ∀ (r3 : Int) (f1 : zF), zIn r3 → A2 (some (zI r3)) zSH f1 → (∃ A5 : zQ, zR sc d 26 0 [] [(0, zP (42)), (1, zI (f (43) (b.toNat))), (2, zI b), (3, zI (2)), (4, zI (1)), (5, zI (w32 (e + (1))))] 0 0 zSH f1 A5 ∧ ∀ (r6 : Int) (f4 : zF), zIn r6 → A5 (some (zI r6)) zSH f4 → (Q (some (zI (w32 (r3 - r6)))) zSH f4))))) else (zov ((f (42) (3)) + (1)) (∃ A8 : zQ, zR sc d 26 0 [] [(0, zP (42)), (1, zI (f (43) (b.toNat))), (2, zI b), (3, zI (1)), (4, zI x), (5, zI (w32 (e + (1))))] 0 0 zSH (zup f (42) (3) ((f (42) (3)) + (1))) A8 ∧ ∀ (r9 : Int) (f7 : zF), zIn r9 → A8 (some (zI r9)) zSH f7 → (∃ A11 : zQ, zR sc d 26 0 [] [(0, zP (42)), (1, zI (f (43) (b.toNat))), (2, zI b), (3, zI (2)), (4, zI (1)), (5, zI (w32 (e + (1))))] 0 0 zSH f7 A11 ∧ ∀ (r12 : Int) (f10 : zF), zIn r12 → A11 (some (zI r12)) zSH f10 → (Q (some (zI (w32 (r9 - r12)))) zSH f10)))))) else (Q (some (zI (0))) zSH f))))))) : zR sc (d + 1) 26 0 [] [(0, zP (42)), (1, zI (2)), (2, zI b), (3, zI (3)), (4, zI x), (5, zI e)] 0 0 zSH f Q := zwn_R (stp := fun _ _ => none) (inl := fun j => bif Nat.beq j 24 then true else bif Nat.beq j 25 then true else false) (nov := (fun j => bif Nat.beq j 26 then false else true)) 135 h
set_option maxRecDepth 100000 in
theorem rr23_251_0 {sc : zC} {d : Nat} {x : Int} {f : zF} {Q : zQ} (h : if f (50) (43) < 24 then (zix (f (50) (43)) (24) (zov ((f (50) (43)) + (1)) (∃ A2 : zQ, zR sc d 249 0 [] [(0, zP (50)), (1, zI (f (50) (44))), (2, zI x)] 0 0 zSH (zup (zup f (73) ((f (50) (43)).toNat) (2)) (50) (43) ((f (50) (43)) + (1))) A2 ∧ ∀ (r3 : Int) (f1 : zF), zIn r3 → A2 (some (zI r3)) zSH f1 → (∃ A5 : zQ, zR sc d 250 0 [] [(0, zP (50)), (1, zI (f1 (50) (44))), (2, zI (1))] 0 0 zSH f1 A5 ∧ ∀ (r6 : Int) (f4 : zF), zIn r6 → A5 (some (zI r6)) zSH f4 → (Q (some (zI (w32 (r3 - r6)))) zSH f4))))) else (zov ((f (50) (43)) + (1)) (∃ A8 : zQ, zR sc d 249 0 [] [(0, zP (50)), (1, zI (f (50) (44))), (2, zI x)] 0 0 zSH (zup f (50) (43) ((f (50) (43)) + (1))) A8 ∧ ∀ (r9 : Int) (f7 : zF), zIn r9 → A8 (some (zI r9)) zSH f7 → (∃ A11 : zQ, zR sc d 250 0 [] [(0, zP (50)), (1, zI (f7 (50) (44))), (2, zI (1))] 0 0 zSH f7 A11 ∧ ∀ (r12 : Int) (f10 : zF), zIn r12 → A11 (some (zI r12)) zSH f10 → (Q (some (zI (w32 (r9 - r12)))) zSH f10))))) : zR sc (d + 1) 251 0 [] [(0, zP (50)), (1, zI (2)), (2, zI x)] 0 0 zSH f Q := zwn_R (stp := fun _ _ => none) (inl := fun j => bif Nat.beq j 247 then true else false) (nov := (fun j => bif Nat.beq j 251 then false else true)) 63 h
set_option maxRecDepth 100000 in
theorem rc30_26_0 {sc : zC} {d : Nat} {b x e : Int} {f : zF} {Q : zQ} (h : zov 12 (zov 12 (zov 1 (zov 8 (zov 8 (zov 2 (zov 0 (zov 0 (if e < 40 then (zix b (50) (if f (42) (3) < 24 then (zix (f (42) (3)) (24) (zov ((f (42) (3)) + (1)) (Q (some (zI (w32 (x + b)))) zSH (zup (zup f (44) ((f (42) (3)).toNat) (1)) (42) (3) ((f (42) (3)) + (1)))))) else (zov ((f (42) (3)) + (1)) (Q (some (zI (w32 (x + b)))) zSH (zup f (42) (3) ((f (42) (3)) + (1))))))) else (Q (some (zI (0))) zSH f)))))))))) : zR sc (d + 1) 26 0 [] [(0, zP (42)), (1, zI (3)), (2, zI b), (3, zI (0)), (4, zI x), (5, zI e)] 0 0 zSH f Q := zwn_R (stp := fun _ _ => none) (inl := fun j => bif Nat.beq j 24 then true else bif Nat.beq j 25 then true else false) (nov := (fun j => bif Nat.beq j 26 then false else true)) 130 h
set_option maxRecDepth 100000 in
theorem rr30_248_0 {sc : zC} {d : Nat} {x : Int} {f : zF} {Q : zQ} (h : if f (50) (43) < 24 then (zix (f (50) (43)) (24) (zov ((f (50) (43)) + (1)) (Q (some (zI (w32 (x + (f (50) (45)))))) zSH (zup (zup f (73) ((f (50) (43)).toNat) (1)) (50) (43) ((f (50) (43)) + (1)))))) else (zov ((f (50) (43)) + (1)) (Q (some (zI (w32 (x + (f (50) (45)))))) zSH (zup f (50) (43) ((f (50) (43)) + (1)))))) : zR sc (d + 1) 248 0 [] [(0, zP (50)), (1, zI (3)), (2, zI x)] 0 0 zSH f Q := zwn_R (stp := fun _ _ => none) (inl := fun j => bif Nat.beq j 247 then true else false) (nov := (fun j => bif Nat.beq j 248 then false else true)) 51 h
set_option maxRecDepth 100000 in
theorem rc31_26_0 {sc : zC} {d : Nat} {b x e : Int} {f : zF} {Q : zQ} (h : zov 12 (zov 13 (if e < 40 then (zix b (50) (if f (42) (3) < 24 then (zix (f (42) (3)) (24) (zov ((f (42) (3)) + (1)) (∃ A2 : zQ, zR sc d 26 0 [] [(0, zP (42)), (1, zI (2)), (2, zI b), (3, zI (1)), (4, zI (w32 (x + (1)))), (5, zI (w32 (e + (1))))] 0 0 zSH (zup (zup f (44) ((f (42) (3)).toNat) (41)) (42) (3) ((f (42) (3)) + (1))) A2 ∧ ∀ (r3 : Int) (f1 : zF), zIn r3 → A2 (some (zI r3)) zSH f1 → (Q (some (zI r3)) zSH f1)))) else (zov ((f (42) (3)) + (1)) (∃ A5 : zQ, zR sc d 26 0 [] [(0, zP (42)), (1, zI (2)), (2, zI b), (3, zI (1)), (4, zI (w32 (x + (1)))), (5, zI (w32 (e + (1))))] 0 0 zSH (zup f (42) (3) ((f (42) (3)) + (1))) A5 ∧ ∀ (r6 : Int) (f4 : zF), zIn r6 → A5 (some (zI r6)) zSH f4 → (Q (some (zI r6)) zSH f4))))) else (Q (some (zI (0))) zSH f)))) : zR sc (d + 1) 26 0 [] [(0, zP (42)), (1, zI (3)), (2, zI b), (3, zI (1)), (4, zI x), (5, zI e)] 0 0 zSH f Q := zwn_R (stp := fun _ _ => none) (inl := fun j => bif Nat.beq j 24 then true else bif Nat.beq j 25 then true else false) (nov := (fun j => bif Nat.beq j 26 then false else true)) 104 h
set_option maxRecDepth 100000 in
theorem rr31_249_0 {sc : zC} {d : Nat} {x : Int} {f : zF} {Q : zQ} (h : if f (50) (43) < 24 then (zix (f (50) (43)) (24) (zov ((f (50) (43)) + (1)) (∃ A2 : zQ, zR sc d 249 0 [] [(0, zP (50)), (1, zI (2)), (2, zI (w32 (x + (1))))] 0 0 zSH (zup (zup f (73) ((f (50) (43)).toNat) (41)) (50) (43) ((f (50) (43)) + (1))) A2 ∧ ∀ (r3 : Int) (f1 : zF), zIn r3 → A2 (some (zI r3)) zSH f1 → (Q (some (zI r3)) zSH f1)))) else (zov ((f (50) (43)) + (1)) (∃ A5 : zQ, zR sc d 249 0 [] [(0, zP (50)), (1, zI (2)), (2, zI (w32 (x + (1))))] 0 0 zSH (zup f (50) (43) ((f (50) (43)) + (1))) A5 ∧ ∀ (r6 : Int) (f4 : zF), zIn r6 → A5 (some (zI r6)) zSH f4 → (Q (some (zI r6)) zSH f4)))) : zR sc (d + 1) 249 0 [] [(0, zP (50)), (1, zI (3)), (2, zI x)] 0 0 zSH f Q := zwn_R (stp := fun _ _ => none) (inl := fun j => bif Nat.beq j 247 then true else false) (nov := (fun j => bif Nat.beq j 249 then false else true)) 46 h
set_option maxRecDepth 100000 in
theorem rc32_26_0 {sc : zC} {d : Nat} {b x e : Int} {f : zF} {Q : zQ} (h : zov 12 (zov 14 (if e < 40 then (zix b (50) (if f (42) (3) < 24 then (zix (f (42) (3)) (24) (zov ((f (42) (3)) + (1)) (∃ A2 : zQ, zR sc d 26 0 [] [(0, zP (42)), (1, zI (2)), (2, zI b), (3, zI (2)), (4, zI x), (5, zI (w32 (e + (1))))] 0 0 zSH (zup (zup f (44) ((f (42) (3)).toNat) (40)) (42) (3) ((f (42) (3)) + (1))) A2 ∧ ∀ (r3 : Int) (f1 : zF), zIn r3 → A2 (some (zI r3)) zSH f1 → (Q (some (zI (w32 (r3 * (3))))) zSH f1)))) else (zov ((f (42) (3)) + (1)) (∃ A5 : zQ, zR sc d 26 0 [] [(0, zP (42)), (1, zI (2)), (2, zI b), (3, zI (2)), (4, zI x), (5, zI (w32 (e + (1))))] 0 0 zSH (zup f (42) (3) ((f (42) (3)) + (1))) A5 ∧ ∀ (r6 : Int) (f4 : zF), zIn r6 → A5 (some (zI r6)) zSH f4 → (Q (some (zI (w32 (r6 * (3))))) zSH f4))))) else (Q (some (zI (0))) zSH f)))) : zR sc (d + 1) 26 0 [] [(0, zP (42)), (1, zI (3)), (2, zI b), (3, zI (2)), (4, zI x), (5, zI e)] 0 0 zSH f Q := zwn_R (stp := fun _ _ => none) (inl := fun j => bif Nat.beq j 24 then true else bif Nat.beq j 25 then true else false) (nov := (fun j => bif Nat.beq j 26 then false else true)) 104 h
set_option maxRecDepth 100000 in
theorem rr32_250_0 {sc : zC} {d : Nat} {x : Int} {f : zF} {Q : zQ} (h : if f (50) (43) < 24 then (zix (f (50) (43)) (24) (zov ((f (50) (43)) + (1)) (∃ A2 : zQ, zR sc d 250 0 [] [(0, zP (50)), (1, zI (2)), (2, zI x)] 0 0 zSH (zup (zup f (73) ((f (50) (43)).toNat) (40)) (50) (43) ((f (50) (43)) + (1))) A2 ∧ ∀ (r3 : Int) (f1 : zF), zIn r3 → A2 (some (zI r3)) zSH f1 → (Q (some (zI (w32 (r3 * (3))))) zSH f1)))) else (zov ((f (50) (43)) + (1)) (∃ A5 : zQ, zR sc d 250 0 [] [(0, zP (50)), (1, zI (2)), (2, zI x)] 0 0 zSH (zup f (50) (43) ((f (50) (43)) + (1))) A5 ∧ ∀ (r6 : Int) (f4 : zF), zIn r6 → A5 (some (zI r6)) zSH f4 → (Q (some (zI (w32 (r6 * (3))))) zSH f4)))) : zR sc (d + 1) 250 0 [] [(0, zP (50)), (1, zI (3)), (2, zI x)] 0 0 zSH f Q := zwn_R (stp := fun _ _ => none) (inl := fun j => bif Nat.beq j 247 then true else false) (nov := (fun j => bif Nat.beq j 250 then false else true)) 46 h
set_option maxRecDepth 100000 in
theorem rc33_26_0 {sc : zC} {d : Nat} {b x e : Int} {f : zF} {Q : zQ} (h : zov 12 (zov 15 (zov 1 (zov 8 (zov 11 (zov 2 (zov 0 (zov 3 (if e < 40 then (zix b (50) (if f (42) (3) < 24 then (zix (f (42) (3)) (24) (zov ((f (42) (3)) + (1)) (∃ A2 : zQ, zR sc d 26 0 [] [(0, zP (42)), (1, zI (f (43) (b.toNat))), (2, zI b), (3, zI (1)), (4, zI x), (5, zI (w32 (e + (1))))] 0 0 zSH (zup (zup f (44) ((f (42) (3)).toNat) (2)) (42) (3) ((f (42) (3)) + (1))) A2 ∧ ∀ (r3 : Int) (f1 : zF), zIn r3 → A2 (some (zI r3)) zSH f1 → (∃ A5 : zQ, zR sc d 26 0 [] [(0, zP (42)), (1, zI (f (43) (b.toNat))), (2, zI b), (3, zI (2)), (4, zI (1)), (5, zI (w32 (e + (1))))] 0 0 zSH f1 A5 ∧ ∀ (r6 : Int) (f4 : zF), zIn r6 → A5 (some (zI r6)) zSH f4 → (Q (some (zI (w32 (r3 - r6)))) zSH f4))))) else (zov ((f (42) (3)) + (1)) (∃ A8 : zQ, zR sc d 26 0 [] [(0, zP (42)), (1, zI (f (43) (b.toNat))), (2, zI b), (3, zI (1)), (4, zI x), (5, zI (w32 (e + (1))))] 0 0 zSH (zup f (42) (3) ((f (42) (3)) + (1))) A8 ∧ ∀ (r9 : Int) (f7 : zF), zIn r9 → A8 (some (zI r9)) zSH f7 → (∃ A11 : zQ, zR sc d 26 0 [] [(0, zP (42)), (1, zI (f (43) (b.toNat))), (2, zI b), (3, zI (2)), (4, zI (1)), (5, zI (w32 (e + (1))))] 0 0 zSH f7 A11 ∧ ∀ (r12 : Int) (f10 : zF), zIn r12 → A11 (some (zI r12)) zSH f10 → (Q (some (zI (w32 (r9 - r12)))) zSH f10)))))) else (Q (some (zI (0))) zSH f)))))))))) : zR sc (d + 1) 26 0 [] [(0, zP (42)), (1, zI (3)), (2, zI b), (3, zI (3)), (4, zI x), (5, zI e)] 0 0 zSH f Q := zwn_R (stp := fun _ _ => none) (inl := fun j => bif Nat.beq j 24 then true else bif Nat.beq j 25 then true else false) (nov := (fun j => bif Nat.beq j 26 then false else true)) 154 h
set_option maxRecDepth 100000 in
theorem rr33_251_0 {sc : zC} {d : Nat} {x : Int} {f : zF} {Q : zQ} (h : if f (50) (43) < 24 then (zix (f (50) (43)) (24) (zov ((f (50) (43)) + (1)) (∃ A2 : zQ, zR sc d 249 0 [] [(0, zP (50)), (1, zI (f (50) (44))), (2, zI x)] 0 0 zSH (zup (zup f (73) ((f (50) (43)).toNat) (2)) (50) (43) ((f (50) (43)) + (1))) A2 ∧ ∀ (r3 : Int) (f1 : zF), zIn r3 → A2 (some (zI r3)) zSH f1 → (∃ A5 : zQ, zR sc d 250 0 [] [(0, zP (50)), (1, zI (f1 (50) (44))), (2, zI (1))] 0 0 zSH f1 A5 ∧ ∀ (r6 : Int) (f4 : zF), zIn r6 → A5 (some (zI r6)) zSH f4 → (Q (some (zI (w32 (r3 - r6)))) zSH f4))))) else (zov ((f (50) (43)) + (1)) (∃ A8 : zQ, zR sc d 249 0 [] [(0, zP (50)), (1, zI (f (50) (44))), (2, zI x)] 0 0 zSH (zup f (50) (43) ((f (50) (43)) + (1))) A8 ∧ ∀ (r9 : Int) (f7 : zF), zIn r9 → A8 (some (zI r9)) zSH f7 → (∃ A11 : zQ, zR sc d 250 0 [] [(0, zP (50)), (1, zI (f7 (50) (44))), (2, zI (1))] 0 0 zSH f7 A11 ∧ ∀ (r12 : Int) (f10 : zF), zIn r12 → A11 (some (zI r12)) zSH f10 → (Q (some (zI (w32 (r9 - r12)))) zSH f10))))) : zR sc (d + 1) 251 0 [] [(0, zP (50)), (1, zI (3)), (2, zI x)] 0 0 zSH f Q := zwn_R (stp := fun _ _ => none) (inl := fun j => bif Nat.beq j 247 then true else false) (nov := (fun j => bif Nat.beq j 251 then false else true)) 63 h
set_option maxRecDepth 100000 in
theorem rc40_26_0 {sc : zC} {d : Nat} {b x e : Int} {f : zF} {Q : zQ} (h : zov 16 (zov 16 (zov 1 (zov 4 (zov 4 (if e < 40 then (zix b (50) (if f (42) (3) < 24 then (zix (f (42) (3)) (24) (zov ((f (42) (3)) + (1)) (∃ A2 : zQ, zR sc d 26 0 [] [(0, zP (42)), (1, zI (0)), (2, zI b), (3, zI (0)), (4, zI x), (5, zI (w32 (e + (1))))] 0 0 zSH (zup (zup f (44) ((f (42) (3)).toNat) (20)) (42) (3) ((f (42) (3)) + (1))) A2 ∧ ∀ (r3 : Int) (f1 : zF), zIn r3 → A2 (some (zI r3)) zSH f1 → (Q (some (zI (w32 (r3 + (3))))) zSH f1)))) else (zov ((f (42) (3)) + (1)) (∃ A5 : zQ, zR sc d 26 0 [] [(0, zP (42)), (1, zI (0)), (2, zI b), (3, zI (0)), (4, zI x), (5, zI (w32 (e + (1))))] 0 0 zSH (zup f (42) (3) ((f (42) (3)) + (1))) A5 ∧ ∀ (r6 : Int) (f4 : zF), zIn r6 → A5 (some (zI r6)) zSH f4 → (Q (some (zI (w32 (r6 + (3))))) zSH f4))))) else (Q (some (zI (0))) zSH f))))))) : zR sc (d + 1) 26 0 [] [(0, zP (42)), (1, zI (4)), (2, zI b), (3, zI (0)), (4, zI x), (5, zI e)] 0 0 zSH f Q := zwn_R (stp := fun _ _ => none) (inl := fun j => bif Nat.beq j 24 then true else bif Nat.beq j 25 then true else false) (nov := (fun j => bif Nat.beq j 26 then false else true)) 123 h
set_option maxRecDepth 100000 in
theorem rr40_248_0 {sc : zC} {d : Nat} {x : Int} {f : zF} {Q : zQ} (h : if f (50) (43) < 24 then (zix (f (50) (43)) (24) (zov ((f (50) (43)) + (1)) (∃ A2 : zQ, zR sc d 248 0 [] [(0, zP (50)), (1, zI (0)), (2, zI x)] 0 0 zSH (zup (zup f (73) ((f (50) (43)).toNat) (20)) (50) (43) ((f (50) (43)) + (1))) A2 ∧ ∀ (r3 : Int) (f1 : zF), zIn r3 → A2 (some (zI r3)) zSH f1 → (Q (some (zI (w32 (r3 + (3))))) zSH f1)))) else (zov ((f (50) (43)) + (1)) (∃ A5 : zQ, zR sc d 248 0 [] [(0, zP (50)), (1, zI (0)), (2, zI x)] 0 0 zSH (zup f (50) (43) ((f (50) (43)) + (1))) A5 ∧ ∀ (r6 : Int) (f4 : zF), zIn r6 → A5 (some (zI r6)) zSH f4 → (Q (some (zI (w32 (r6 + (3))))) zSH f4)))) : zR sc (d + 1) 248 0 [] [(0, zP (50)), (1, zI (4)), (2, zI x)] 0 0 zSH f Q := zwn_R (stp := fun _ _ => none) (inl := fun j => bif Nat.beq j 247 then true else false) (nov := (fun j => bif Nat.beq j 248 then false else true)) 49 h
set_option maxRecDepth 100000 in
theorem rc41_26_0 {sc : zC} {d : Nat} {b x e : Int} {f : zF} {Q : zQ} (h : zov 16 (zov 17 (zov 1 (zov 4 (zov 5 (zov 2 (zov 0 (zov 1 (if e < 40 then (zix b (50) (if f (42) (3) < 24 then (zix (f (42) (3)) (24) (zov ((f (42) (3)) + (1)) (∃ A2 : zQ, zR sc d 26 0 [] [(0, zP (42)), (1, zI (f (43) (b.toNat))), (2, zI b), (3, zI (0)), (4, zI x), (5, zI (w32 (e + (1))))] 0 0 zSH (zup (zup f (44) ((f (42) (3)).toNat) (10)) (42) (3) ((f (42) (3)) + (1))) A2 ∧ ∀ (r3 : Int) (f1 : zF), zIn r3 → A2 (some (zI r3)) zSH f1 → (Q (some (zI (w32 (r3 * (2))))) zSH f1)))) else (zov ((f (42) (3)) + (1)) (∃ A5 : zQ, zR sc d 26 0 [] [(0, zP (42)), (1, zI (f (43) (b.toNat))), (2, zI b), (3, zI (0)), (4, zI x), (5, zI (w32 (e + (1))))] 0 0 zSH (zup f (42) (3) ((f (42) (3)) + (1))) A5 ∧ ∀ (r6 : Int) (f4 : zF), zIn r6 → A5 (some (zI r6)) zSH f4 → (Q (some (zI (w32 (r6 * (2))))) zSH f4))))) else (Q (some (zI (0))) zSH f)))))))))) : zR sc (d + 1) 26 0 [] [(0, zP (42)), (1, zI (4)), (2, zI b), (3, zI (1)), (4, zI x), (5, zI e)] 0 0 zSH f Q := zwn_R (stp := fun _ _ => none) (inl := fun j => bif Nat.beq j 24 then true else bif Nat.beq j 25 then true else false) (nov := (fun j => bif Nat.beq j 26 then false else true)) 142 h
set_option maxRecDepth 100000 in
theorem rr41_249_0 {sc : zC} {d : Nat} {x : Int} {f : zF} {Q : zQ} (h : if f (50) (43) < 24 then (zix (f (50) (43)) (24) (zov ((f (50) (43)) + (1)) (∃ A2 : zQ, zR sc d 248 0 [] [(0, zP (50)), (1, zI (f (50) (44))), (2, zI x)] 0 0 zSH (zup (zup f (73) ((f (50) (43)).toNat) (10)) (50) (43) ((f (50) (43)) + (1))) A2 ∧ ∀ (r3 : Int) (f1 : zF), zIn r3 → A2 (some (zI r3)) zSH f1 → (Q (some (zI (w32 (r3 * (2))))) zSH f1)))) else (zov ((f (50) (43)) + (1)) (∃ A5 : zQ, zR sc d 248 0 [] [(0, zP (50)), (1, zI (f (50) (44))), (2, zI x)] 0 0 zSH (zup f (50) (43) ((f (50) (43)) + (1))) A5 ∧ ∀ (r6 : Int) (f4 : zF), zIn r6 → A5 (some (zI r6)) zSH f4 → (Q (some (zI (w32 (r6 * (2))))) zSH f4)))) : zR sc (d + 1) 249 0 [] [(0, zP (50)), (1, zI (4)), (2, zI x)] 0 0 zSH f Q := zwn_R (stp := fun _ _ => none) (inl := fun j => bif Nat.beq j 247 then true else false) (nov := (fun j => bif Nat.beq j 249 then false else true)) 57 h
set_option maxRecDepth 100000 in
theorem rc42_26_0 {sc : zC} {d : Nat} {b x e : Int} {f : zF} {Q : zQ} (h : zov 16 (zov 18 (if e < 40 then (zix b (50) (if f (42) (3) < 24 then (zix (f (42) (3)) (24) (zov ((f (42) (3)) + (1)) (∃ A2 : zQ, zR sc d 26 0 [] [(0, zP (42)), (1, zI (1)), (2, zI b), (3, zI (2)), (4, zI x), (5, zI (w32 (e + (1))))] 0 0 zSH (zup (zup f (44) ((f (42) (3)).toNat) (50)) (42) (3) ((f (42) (3)) + (1))) A2 ∧ ∀ (r3 : Int) (f1 : zF), zIn r3 → A2 (some (zI r3)) zSH f1 → (∃ A5 : zQ, zR sc d 26 0 [] [(0, zP (42)), (1, zI (f (43) (b.toNat))), (2, zI b), (3, zI (0)), (4, zI (2)), (5, zI (w32 (e + (1))))] 0 0 zSH f1 A5 ∧ ∀ (r6 : Int) (f4 : zF), zIn r6 → A5 (some (zI r6)) zSH f4 → (Q (some (zI (w32 (r3 - r6)))) zSH f4))))) else (zov ((f (42) (3)) + (1)) (∃ A8 : zQ, zR sc d 26 0 [] [(0, zP (42)), (1, zI (1)), (2, zI b), (3, zI (2)), (4, zI x), (5, zI (w32 (e + (1))))] 0 0 zSH (zup f (42) (3) ((f (42) (3)) + (1))) A8 ∧ ∀ (r9 : Int) (f7 : zF), zIn r9 → A8 (some (zI r9)) zSH f7 → (∃ A11 : zQ, zR sc d 26 0 [] [(0, zP (42)), (1, zI (f (43) (b.toNat))), (2, zI b), (3, zI (0)), (4, zI (2)), (5, zI (w32 (e + (1))))] 0 0 zSH f7 A11 ∧ ∀ (r12 : Int) (f10 : zF), zIn r12 → A11 (some (zI r12)) zSH f10 → (Q (some (zI (w32 (r9 - r12)))) zSH f10)))))) else (Q (some (zI (0))) zSH f)))) : zR sc (d + 1) 26 0 [] [(0, zP (42)), (1, zI (4)), (2, zI b), (3, zI (2)), (4, zI x), (5, zI e)] 0 0 zSH f Q := zwn_R (stp := fun _ _ => none) (inl := fun j => bif Nat.beq j 24 then true else bif Nat.beq j 25 then true else false) (nov := (fun j => bif Nat.beq j 26 then false else true)) 116 h
set_option maxRecDepth 100000 in
theorem rr42_250_0 {sc : zC} {d : Nat} {x : Int} {f : zF} {Q : zQ} (h : if f (50) (43) < 24 then (zix (f (50) (43)) (24) (zov ((f (50) (43)) + (1)) (∃ A2 : zQ, zR sc d 250 0 [] [(0, zP (50)), (1, zI (1)), (2, zI x)] 0 0 zSH (zup (zup f (73) ((f (50) (43)).toNat) (50)) (50) (43) ((f (50) (43)) + (1))) A2 ∧ ∀ (r3 : Int) (f1 : zF), zIn r3 → A2 (some (zI r3)) zSH f1 → (∃ A5 : zQ, zR sc d 248 0 [] [(0, zP (50)), (1, zI (f1 (50) (44))), (2, zI (2))] 0 0 zSH f1 A5 ∧ ∀ (r6 : Int) (f4 : zF), zIn r6 → A5 (some (zI r6)) zSH f4 → (Q (some (zI (w32 (r3 - r6)))) zSH f4))))) else (zov ((f (50) (43)) + (1)) (∃ A8 : zQ, zR sc d 250 0 [] [(0, zP (50)), (1, zI (1)), (2, zI x)] 0 0 zSH (zup f (50) (43) ((f (50) (43)) + (1))) A8 ∧ ∀ (r9 : Int) (f7 : zF), zIn r9 → A8 (some (zI r9)) zSH f7 → (∃ A11 : zQ, zR sc d 248 0 [] [(0, zP (50)), (1, zI (f7 (50) (44))), (2, zI (2))] 0 0 zSH f7 A11 ∧ ∀ (r12 : Int) (f10 : zF), zIn r12 → A11 (some (zI r12)) zSH f10 → (Q (some (zI (w32 (r9 - r12)))) zSH f10))))) : zR sc (d + 1) 250 0 [] [(0, zP (50)), (1, zI (4)), (2, zI x)] 0 0 zSH f Q := zwn_R (stp := fun _ _ => none) (inl := fun j => bif Nat.beq j 247 then true else false) (nov := (fun j => bif Nat.beq j 250 then false else true)) 64 h
set_option maxRecDepth 100000 in
theorem rc43_26_0 {sc : zC} {d : Nat} {b x e : Int} {f : zF} {Q : zQ} (h : zov 16 (zov 19 (zov 1 (zov 4 (zov 7 (zov 2 (zov 0 (zov 3 (if e < 40 then (zix b (50) (if f (42) (3) < 24 then (zix (f (42) (3)) (24) (zov ((f (42) (3)) + (1)) (∃ A2 : zQ, zR sc d 26 0 [] [(0, zP (42)), (1, zI (f (43) (b.toNat))), (2, zI b), (3, zI (1)), (4, zI x), (5, zI (w32 (e + (1))))] 0 0 zSH (zup (zup f (44) ((f (42) (3)).toNat) (2)) (42) (3) ((f (42) (3)) + (1))) A2 ∧ ∀ (r3 : Int) (f1 : zF), zIn r3 → A2 (some (zI r3)) zSH f1 → (∃ A5 : zQ, zR sc d 26 0 [] [(0, zP (42)), (1, zI (f (43) (b.toNat))), (2, zI b), (3, zI (2)), (4, zI (1)), (5, zI (w32 (e + (1))))] 0 0 zSH f1 A5 ∧ ∀ (r6 : Int) (f4 : zF), zIn r6 → A5 (some (zI r6)) zSH f4 → (Q (some (zI (w32 (r3 - r6)))) zSH f4))))) else (zov ((f (42) (3)) + (1)) (∃ A8 : zQ, zR sc d 26 0 [] [(0, zP (42)), (1, zI (f (43) (b.toNat))), (2, zI b), (3, zI (1)), (4, zI x), (5, zI (w32 (e + (1))))] 0 0 zSH (zup f (42) (3) ((f (42) (3)) + (1))) A8 ∧ ∀ (r9 : Int) (f7 : zF), zIn r9 → A8 (some (zI r9)) zSH f7 → (∃ A11 : zQ, zR sc d 26 0 [] [(0, zP (42)), (1, zI (f (43) (b.toNat))), (2, zI b), (3, zI (2)), (4, zI (1)), (5, zI (w32 (e + (1))))] 0 0 zSH f7 A11 ∧ ∀ (r12 : Int) (f10 : zF), zIn r12 → A11 (some (zI r12)) zSH f10 → (Q (some (zI (w32 (r9 - r12)))) zSH f10)))))) else (Q (some (zI (0))) zSH f)))))))))) : zR sc (d + 1) 26 0 [] [(0, zP (42)), (1, zI (4)), (2, zI b), (3, zI (3)), (4, zI x), (5, zI e)] 0 0 zSH f Q := zwn_R (stp := fun _ _ => none) (inl := fun j => bif Nat.beq j 24 then true else bif Nat.beq j 25 then true else false) (nov := (fun j => bif Nat.beq j 26 then false else true)) 154 h
set_option maxRecDepth 100000 in
theorem rr43_251_0 {sc : zC} {d : Nat} {x : Int} {f : zF} {Q : zQ} (h : if f (50) (43) < 24 then (zix (f (50) (43)) (24) (zov ((f (50) (43)) + (1)) (∃ A2 : zQ, zR sc d 249 0 [] [(0, zP (50)), (1, zI (f (50) (44))), (2, zI x)] 0 0 zSH (zup (zup f (73) ((f (50) (43)).toNat) (2)) (50) (43) ((f (50) (43)) + (1))) A2 ∧ ∀ (r3 : Int) (f1 : zF), zIn r3 → A2 (some (zI r3)) zSH f1 → (∃ A5 : zQ, zR sc d 250 0 [] [(0, zP (50)), (1, zI (f1 (50) (44))), (2, zI (1))] 0 0 zSH f1 A5 ∧ ∀ (r6 : Int) (f4 : zF), zIn r6 → A5 (some (zI r6)) zSH f4 → (Q (some (zI (w32 (r3 - r6)))) zSH f4))))) else (zov ((f (50) (43)) + (1)) (∃ A8 : zQ, zR sc d 249 0 [] [(0, zP (50)), (1, zI (f (50) (44))), (2, zI x)] 0 0 zSH (zup f (50) (43) ((f (50) (43)) + (1))) A8 ∧ ∀ (r9 : Int) (f7 : zF), zIn r9 → A8 (some (zI r9)) zSH f7 → (∃ A11 : zQ, zR sc d 250 0 [] [(0, zP (50)), (1, zI (f7 (50) (44))), (2, zI (1))] 0 0 zSH f7 A11 ∧ ∀ (r12 : Int) (f10 : zF), zIn r12 → A11 (some (zI r12)) zSH f10 → (Q (some (zI (w32 (r9 - r12)))) zSH f10))))) : zR sc (d + 1) 251 0 [] [(0, zP (50)), (1, zI (4)), (2, zI x)] 0 0 zSH f Q := zwn_R (stp := fun _ _ => none) (inl := fun j => bif Nat.beq j 247 then true else false) (nov := (fun j => bif Nat.beq j 251 then false else true)) 63 h
set_option maxRecDepth 100000 in
theorem rc50_26_0 {sc : zC} {d : Nat} {b x e : Int} {f : zF} {Q : zQ} (h : zov 20 (zov 20 (zov 1 (zov 12 (zov 12 (zov 2 (zov 8 (zov 8 (zov 3 (zov 0 (zov 0 (if e < 40 then (zix b (50) (if f (42) (3) < 24 then (zix (f (42) (3)) (24) (zov ((f (42) (3)) + (1)) (Q (some (zI (w32 (x + b)))) zSH (zup (zup f (44) ((f (42) (3)).toNat) (1)) (42) (3) ((f (42) (3)) + (1)))))) else (zov ((f (42) (3)) + (1)) (Q (some (zI (w32 (x + b)))) zSH (zup f (42) (3) ((f (42) (3)) + (1))))))) else (Q (some (zI (0))) zSH f))))))))))))) : zR sc (d + 1) 26 0 [] [(0, zP (42)), (1, zI (5)), (2, zI b), (3, zI (0)), (4, zI x), (5, zI e)] 0 0 zSH f Q := zwn_R (stp := fun _ _ => none) (inl := fun j => bif Nat.beq j 24 then true else bif Nat.beq j 25 then true else false) (nov := (fun j => bif Nat.beq j 26 then false else true)) 149 h
set_option maxRecDepth 100000 in
theorem rr50_248_0 {sc : zC} {d : Nat} {x : Int} {f : zF} {Q : zQ} (h : if f (50) (43) < 24 then (zix (f (50) (43)) (24) (zov ((f (50) (43)) + (1)) (Q (some (zI (w32 (x + (f (50) (45)))))) zSH (zup (zup f (73) ((f (50) (43)).toNat) (1)) (50) (43) ((f (50) (43)) + (1)))))) else (zov ((f (50) (43)) + (1)) (Q (some (zI (w32 (x + (f (50) (45)))))) zSH (zup f (50) (43) ((f (50) (43)) + (1)))))) : zR sc (d + 1) 248 0 [] [(0, zP (50)), (1, zI (5)), (2, zI x)] 0 0 zSH f Q := zwn_R (stp := fun _ _ => none) (inl := fun j => bif Nat.beq j 247 then true else false) (nov := (fun j => bif Nat.beq j 248 then false else true)) 51 h
set_option maxRecDepth 100000 in
theorem rc51_26_0 {sc : zC} {d : Nat} {b x e : Int} {f : zF} {Q : zQ} (h : zov 20 (zov 21 (zov 1 (zov 12 (zov 13 (if e < 40 then (zix b (50) (if f (42) (3) < 24 then (zix (f (42) (3)) (24) (zov ((f (42) (3)) + (1)) (∃ A2 : zQ, zR sc d 26 0 [] [(0, zP (42)), (1, zI (2)), (2, zI b), (3, zI (1)), (4, zI (w32 (x + (1)))), (5, zI (w32 (e + (1))))] 0 0 zSH (zup (zup f (44) ((f (42) (3)).toNat) (41)) (42) (3) ((f (42) (3)) + (1))) A2 ∧ ∀ (r3 : Int) (f1 : zF), zIn r3 → A2 (some (zI r3)) zSH f1 → (Q (some (zI r3)) zSH f1)))) else (zov ((f (42) (3)) + (1)) (∃ A5 : zQ, zR sc d 26 0 [] [(0, zP (42)), (1, zI (2)), (2, zI b), (3, zI (1)), (4, zI (w32 (x + (1)))), (5, zI (w32 (e + (1))))] 0 0 zSH (zup f (42) (3) ((f (42) (3)) + (1))) A5 ∧ ∀ (r6 : Int) (f4 : zF), zIn r6 → A5 (some (zI r6)) zSH f4 → (Q (some (zI r6)) zSH f4))))) else (Q (some (zI (0))) zSH f))))))) : zR sc (d + 1) 26 0 [] [(0, zP (42)), (1, zI (5)), (2, zI b), (3, zI (1)), (4, zI x), (5, zI e)] 0 0 zSH f Q := zwn_R (stp := fun _ _ => none) (inl := fun j => bif Nat.beq j 24 then true else bif Nat.beq j 25 then true else false) (nov := (fun j => bif Nat.beq j 26 then false else true)) 123 h
set_option maxRecDepth 100000 in
theorem rr51_249_0 {sc : zC} {d : Nat} {x : Int} {f : zF} {Q : zQ} (h : if f (50) (43) < 24 then (zix (f (50) (43)) (24) (zov ((f (50) (43)) + (1)) (∃ A2 : zQ, zR sc d 249 0 [] [(0, zP (50)), (1, zI (2)), (2, zI (w32 (x + (1))))] 0 0 zSH (zup (zup f (73) ((f (50) (43)).toNat) (41)) (50) (43) ((f (50) (43)) + (1))) A2 ∧ ∀ (r3 : Int) (f1 : zF), zIn r3 → A2 (some (zI r3)) zSH f1 → (Q (some (zI r3)) zSH f1)))) else (zov ((f (50) (43)) + (1)) (∃ A5 : zQ, zR sc d 249 0 [] [(0, zP (50)), (1, zI (2)), (2, zI (w32 (x + (1))))] 0 0 zSH (zup f (50) (43) ((f (50) (43)) + (1))) A5 ∧ ∀ (r6 : Int) (f4 : zF), zIn r6 → A5 (some (zI r6)) zSH f4 → (Q (some (zI r6)) zSH f4)))) : zR sc (d + 1) 249 0 [] [(0, zP (50)), (1, zI (5)), (2, zI x)] 0 0 zSH f Q := zwn_R (stp := fun _ _ => none) (inl := fun j => bif Nat.beq j 247 then true else false) (nov := (fun j => bif Nat.beq j 249 then false else true)) 49 h
set_option maxRecDepth 100000 in
theorem rc52_26_0 {sc : zC} {d : Nat} {b x e : Int} {f : zF} {Q : zQ} (h : zov 20 (zov 22 (zov 1 (zov 12 (zov 14 (if e < 40 then (zix b (50) (if f (42) (3) < 24 then (zix (f (42) (3)) (24) (zov ((f (42) (3)) + (1)) (∃ A2 : zQ, zR sc d 26 0 [] [(0, zP (42)), (1, zI (2)), (2, zI b), (3, zI (2)), (4, zI x), (5, zI (w32 (e + (1))))] 0 0 zSH (zup (zup f (44) ((f (42) (3)).toNat) (40)) (42) (3) ((f (42) (3)) + (1))) A2 ∧ ∀ (r3 : Int) (f1 : zF), zIn r3 → A2 (some (zI r3)) zSH f1 → (Q (some (zI (w32 (r3 * (3))))) zSH f1)))) else (zov ((f (42) (3)) + (1)) (∃ A5 : zQ, zR sc d 26 0 [] [(0, zP (42)), (1, zI (2)), (2, zI b), (3, zI (2)), (4, zI x), (5, zI (w32 (e + (1))))] 0 0 zSH (zup f (42) (3) ((f (42) (3)) + (1))) A5 ∧ ∀ (r6 : Int) (f4 : zF), zIn r6 → A5 (some (zI r6)) zSH f4 → (Q (some (zI (w32 (r6 * (3))))) zSH f4))))) else (Q (some (zI (0))) zSH f))))))) : zR sc (d + 1) 26 0 [] [(0, zP (42)), (1, zI (5)), (2, zI b), (3, zI (2)), (4, zI x), (5, zI e)] 0 0 zSH f Q := zwn_R (stp := fun _ _ => none) (inl := fun j => bif Nat.beq j 24 then true else bif Nat.beq j 25 then true else false) (nov := (fun j => bif Nat.beq j 26 then false else true)) 123 h
set_option maxRecDepth 100000 in
theorem rr52_250_0 {sc : zC} {d : Nat} {x : Int} {f : zF} {Q : zQ} (h : if f (50) (43) < 24 then (zix (f (50) (43)) (24) (zov ((f (50) (43)) + (1)) (∃ A2 : zQ, zR sc d 250 0 [] [(0, zP (50)), (1, zI (2)), (2, zI x)] 0 0 zSH (zup (zup f (73) ((f (50) (43)).toNat) (40)) (50) (43) ((f (50) (43)) + (1))) A2 ∧ ∀ (r3 : Int) (f1 : zF), zIn r3 → A2 (some (zI r3)) zSH f1 → (Q (some (zI (w32 (r3 * (3))))) zSH f1)))) else (zov ((f (50) (43)) + (1)) (∃ A5 : zQ, zR sc d 250 0 [] [(0, zP (50)), (1, zI (2)), (2, zI x)] 0 0 zSH (zup f (50) (43) ((f (50) (43)) + (1))) A5 ∧ ∀ (r6 : Int) (f4 : zF), zIn r6 → A5 (some (zI r6)) zSH f4 → (Q (some (zI (w32 (r6 * (3))))) zSH f4)))) : zR sc (d + 1) 250 0 [] [(0, zP (50)), (1, zI (5)), (2, zI x)] 0 0 zSH f Q := zwn_R (stp := fun _ _ => none) (inl := fun j => bif Nat.beq j 247 then true else false) (nov := (fun j => bif Nat.beq j 250 then false else true)) 49 h
set_option maxRecDepth 100000 in
theorem rc53_26_0 {sc : zC} {d : Nat} {b x e : Int} {f : zF} {Q : zQ} (h : zov 20 (zov 23 (if e < 40 then (zix b (50) (if f (42) (3) < 24 then (zix (f (42) (3)) (24) (zov ((f (42) (3)) + (1)) (∃ A2 : zQ, zR sc d 26 0 [] [(0, zP (42)), (1, zI (3)), (2, zI b), (3, zI (3)), (4, zI x), (5, zI (w32 (e + (1))))] 0 0 zSH (zup (zup f (44) ((f (42) (3)).toNat) (60)) (42) (3) ((f (42) (3)) + (1))) A2 ∧ ∀ (r3 : Int) (f1 : zF), zIn r3 → A2 (some (zI r3)) zSH f1 → (Q (some (zI (zxor r3 (5)))) zSH f1)))) else (zov ((f (42) (3)) + (1)) (∃ A5 : zQ, zR sc d 26 0 [] [(0, zP (42)), (1, zI (3)), (2, zI b), (3, zI (3)), (4, zI x), (5, zI (w32 (e + (1))))] 0 0 zSH (zup f (42) (3) ((f (42) (3)) + (1))) A5 ∧ ∀ (r6 : Int) (f4 : zF), zIn r6 → A5 (some (zI r6)) zSH f4 → (Q (some (zI (zxor r6 (5)))) zSH f4))))) else (Q (some (zI (0))) zSH f)))) : zR sc (d + 1) 26 0 [] [(0, zP (42)), (1, zI (5)), (2, zI b), (3, zI (3)), (4, zI x), (5, zI e)] 0 0 zSH f Q := zwn_R (stp := fun _ _ => none) (inl := fun j => bif Nat.beq j 24 then true else bif Nat.beq j 25 then true else false) (nov := (fun j => bif Nat.beq j 26 then false else true)) 104 h
set_option maxRecDepth 100000 in
theorem rr53_251_0 {sc : zC} {d : Nat} {x : Int} {f : zF} {Q : zQ} (h : if f (50) (43) < 24 then (zix (f (50) (43)) (24) (zov ((f (50) (43)) + (1)) (∃ A2 : zQ, zR sc d 251 0 [] [(0, zP (50)), (1, zI (3)), (2, zI x)] 0 0 zSH (zup (zup f (73) ((f (50) (43)).toNat) (60)) (50) (43) ((f (50) (43)) + (1))) A2 ∧ ∀ (r3 : Int) (f1 : zF), zIn r3 → A2 (some (zI r3)) zSH f1 → (Q (some (zI (zxor r3 (5)))) zSH f1)))) else (zov ((f (50) (43)) + (1)) (∃ A5 : zQ, zR sc d 251 0 [] [(0, zP (50)), (1, zI (3)), (2, zI x)] 0 0 zSH (zup f (50) (43) ((f (50) (43)) + (1))) A5 ∧ ∀ (r6 : Int) (f4 : zF), zIn r6 → A5 (some (zI r6)) zSH f4 → (Q (some (zI (zxor r6 (5)))) zSH f4)))) : zR sc (d + 1) 251 0 [] [(0, zP (50)), (1, zI (5)), (2, zI x)] 0 0 zSH f Q := zwn_R (stp := fun _ _ => none) (inl := fun j => bif Nat.beq j 247 then true else false) (nov := (fun j => bif Nat.beq j 251 then false else true)) 46 h
set_option maxRecDepth 100000 in
theorem rc60_26_0 {sc : zC} {d : Nat} {b x e : Int} {f : zF} {Q : zQ} (h : zov 24 (zov 24 (if e < 40 then (zix b (50) (if f (42) (3) < 24 then (zix (f (42) (3)) (24) (zov ((f (42) (3)) + (1)) (∃ A2 : zQ, zR sc d 26 0 [] [(0, zP (42)), (1, zI (0)), (2, zI b), (3, zI (0)), (4, zI x), (5, zI (w32 (e + (1))))] 0 0 zSH (zup (zup f (44) ((f (42) (3)).toNat) (70)) (42) (3) ((f (42) (3)) + (1))) A2 ∧ ∀ (r3 : Int) (f1 : zF), zIn r3 → A2 (some (zI r3)) zSH f1 → (Q (some (zI (w32 (r3 * (2))))) zSH f1)))) else (zov ((f (42) (3)) + (1)) (∃ A5 : zQ, zR sc d 26 0 [] [(0, zP (42)), (1, zI (0)), (2, zI b), (3, zI (0)), (4, zI x), (5, zI (w32 (e + (1))))] 0 0 zSH (zup f (42) (3) ((f (42) (3)) + (1))) A5 ∧ ∀ (r6 : Int) (f4 : zF), zIn r6 → A5 (some (zI r6)) zSH f4 → (Q (some (zI (w32 (r6 * (2))))) zSH f4))))) else (Q (some (zI (0))) zSH f)))) : zR sc (d + 1) 26 0 [] [(0, zP (42)), (1, zI (6)), (2, zI b), (3, zI (0)), (4, zI x), (5, zI e)] 0 0 zSH f Q := zwn_R (stp := fun _ _ => none) (inl := fun j => bif Nat.beq j 24 then true else bif Nat.beq j 25 then true else false) (nov := (fun j => bif Nat.beq j 26 then false else true)) 104 h
set_option maxRecDepth 100000 in
theorem rr60_248_0 {sc : zC} {d : Nat} {x : Int} {f : zF} {Q : zQ} (h : if f (50) (43) < 24 then (zix (f (50) (43)) (24) (zov ((f (50) (43)) + (1)) (∃ A2 : zQ, zR sc d 248 0 [] [(0, zP (50)), (1, zI (0)), (2, zI x)] 0 0 zSH (zup (zup f (73) ((f (50) (43)).toNat) (70)) (50) (43) ((f (50) (43)) + (1))) A2 ∧ ∀ (r3 : Int) (f1 : zF), zIn r3 → A2 (some (zI r3)) zSH f1 → (Q (some (zI (w32 (r3 * (2))))) zSH f1)))) else (zov ((f (50) (43)) + (1)) (∃ A5 : zQ, zR sc d 248 0 [] [(0, zP (50)), (1, zI (0)), (2, zI x)] 0 0 zSH (zup f (50) (43) ((f (50) (43)) + (1))) A5 ∧ ∀ (r6 : Int) (f4 : zF), zIn r6 → A5 (some (zI r6)) zSH f4 → (Q (some (zI (w32 (r6 * (2))))) zSH f4)))) : zR sc (d + 1) 248 0 [] [(0, zP (50)), (1, zI (6)), (2, zI x)] 0 0 zSH f Q := zwn_R (stp := fun _ _ => none) (inl := fun j => bif Nat.beq j 247 then true else false) (nov := (fun j => bif Nat.beq j 248 then false else true)) 55 h
set_option maxRecDepth 100000 in
theorem rc61_26_0 {sc : zC} {d : Nat} {b x e : Int} {f : zF} {Q : zQ} (h : zov 24 (zov 25 (zov 1 (zov 0 (zov 1 (if e < 40 then (zix b (50) (if f (42) (3) < 24 then (zix (f (42) (3)) (24) (zov ((f (42) (3)) + (1)) (∃ A2 : zQ, zR sc d 26 0 [] [(0, zP (42)), (1, zI (f (43) (b.toNat))), (2, zI b), (3, zI (0)), (4, zI x), (5, zI (w32 (e + (1))))] 0 0 zSH (zup (zup f (44) ((f (42) (3)).toNat) (10)) (42) (3) ((f (42) (3)) + (1))) A2 ∧ ∀ (r3 : Int) (f1 : zF), zIn r3 → A2 (some (zI r3)) zSH f1 → (Q (some (zI (w32 (r3 * (2))))) zSH f1)))) else (zov ((f (42) (3)) + (1)) (∃ A5 : zQ, zR sc d 26 0 [] [(0, zP (42)), (1, zI (f (43) (b.toNat))), (2, zI b), (3, zI (0)), (4, zI x), (5, zI (w32 (e + (1))))] 0 0 zSH (zup f (42) (3) ((f (42) (3)) + (1))) A5 ∧ ∀ (r6 : Int) (f4 : zF), zIn r6 → A5 (some (zI r6)) zSH f4 → (Q (some (zI (w32 (r6 * (2))))) zSH f4))))) else (Q (some (zI (0))) zSH f))))))) : zR sc (d + 1) 26 0 [] [(0, zP (42)), (1, zI (6)), (2, zI b), (3, zI (1)), (4, zI x), (5, zI e)] 0 0 zSH f Q := zwn_R (stp := fun _ _ => none) (inl := fun j => bif Nat.beq j 24 then true else bif Nat.beq j 25 then true else false) (nov := (fun j => bif Nat.beq j 26 then false else true)) 123 h
set_option maxRecDepth 100000 in
theorem rr61_249_0 {sc : zC} {d : Nat} {x : Int} {f : zF} {Q : zQ} (h : if f (50) (43) < 24 then (zix (f (50) (43)) (24) (zov ((f (50) (43)) + (1)) (∃ A2 : zQ, zR sc d 248 0 [] [(0, zP (50)), (1, zI (f (50) (44))), (2, zI x)] 0 0 zSH (zup (zup f (73) ((f (50) (43)).toNat) (10)) (50) (43) ((f (50) (43)) + (1))) A2 ∧ ∀ (r3 : Int) (f1 : zF), zIn r3 → A2 (some (zI r3)) zSH f1 → (Q (some (zI (w32 (r3 * (2))))) zSH f1)))) else (zov ((f (50) (43)) + (1)) (∃ A5 : zQ, zR sc d 248 0 [] [(0, zP (50)), (1, zI (f (50) (44))), (2, zI x)] 0 0 zSH (zup f (50) (43) ((f (50) (43)) + (1))) A5 ∧ ∀ (r6 : Int) (f4 : zF), zIn r6 → A5 (some (zI r6)) zSH f4 → (Q (some (zI (w32 (r6 * (2))))) zSH f4)))) : zR sc (d + 1) 249 0 [] [(0, zP (50)), (1, zI (6)), (2, zI x)] 0 0 zSH f Q := zwn_R (stp := fun _ _ => none) (inl := fun j => bif Nat.beq j 247 then true else false) (nov := (fun j => bif Nat.beq j 249 then false else true)) 57 h
set_option maxRecDepth 100000 in
theorem rc62_26_0 {sc : zC} {d : Nat} {b x e : Int} {f : zF} {Q : zQ} (h : zov 24 (zov 26 (zov 1 (zov 0 (zov 2 (if e < 40 then (zix b (50) (if f (42) (3) < 24 then (zix (f (42) (3)) (24) (zov ((f (42) (3)) + (1)) (Q (some (zI (zxor x b))) zSH (zup (zup f (44) ((f (42) (3)).toNat) (11)) (42) (3) ((f (42) (3)) + (1)))))) else (zov ((f (42) (3)) + (1)) (Q (some (zI (zxor x b))) zSH (zup f (42) (3) ((f (42) (3)) + (1))))))) else (Q (some (zI (0))) zSH f))))))) : zR sc (d + 1) 26 0 [] [(0, zP (42)), (1, zI (6)), (2, zI b), (3, zI (2)), (4, zI x), (5, zI e)] 0 0 zSH f Q := zwn_R (stp := fun _ _ => none) (inl := fun j => bif Nat.beq j 24 then true else bif Nat.beq j 25 then true else false) (nov := (fun j => bif Nat.beq j 26 then false else true)) 111 h
set_option maxRecDepth 100000 in
theorem rr62_250_0 {sc : zC} {d : Nat} {x : Int} {f : zF} {Q : zQ} (h : if f (50) (43) < 24 then (zix (f (50) (43)) (24) (zov ((f (50) (43)) + (1)) (Q (some (zI (zxor x (f (50) (45))))) zSH (zup (zup f (73) ((f (50) (43)).toNat) (11)) (50) (43) ((f (50) (43)) + (1)))))) else (zov ((f (50) (43)) + (1)) (Q (some (zI (zxor x (f (50) (45))))) zSH (zup f (50) (43) ((f (50) (43)) + (1)))))) : zR sc (d + 1) 250 0 [] [(0, zP (50)), (1, zI (6)), (2, zI x)] 0 0 zSH f Q := zwn_R (stp := fun _ _ => none) (inl := fun j => bif Nat.beq j 247 then true else false) (nov := (fun j => bif Nat.beq j 250 then false else true)) 51 h
set_option maxRecDepth 100000 in
theorem rc63_26_0 {sc : zC} {d : Nat} {b x e : Int} {f : zF} {Q : zQ} (h : zov 24 (zov 27 (zov 1 (zov 0 (zov 3 (if e < 40 then (zix b (50) (if f (42) (3) < 24 then (zix (f (42) (3)) (24) (zov ((f (42) (3)) + (1)) (∃ A2 : zQ, zR sc d 26 0 [] [(0, zP (42)), (1, zI (f (43) (b.toNat))), (2, zI b), (3, zI (1)), (4, zI x), (5, zI (w32 (e + (1))))] 0 0 zSH (zup (zup f (44) ((f (42) (3)).toNat) (2)) (42) (3) ((f (42) (3)) + (1))) A2 ∧ ∀ (r3 : Int) (f1 : zF), zIn r3 → A2 (some (zI r3)) zSH f1 → (∃ A5 : zQ, zR sc d 26 0 [] [(0, zP (42)), (1, zI (f (43) (b.toNat))), (2, zI b), (3, zI (2)), (4, zI (1)), (5, zI (w32 (e + (1))))] 0 0 zSH f1 A5 ∧ ∀ (r6 : Int) (f4 : zF), zIn r6 → A5 (some (zI r6)) zSH f4 → (Q (some (zI (w32 (r3 - r6)))) zSH f4))))) else (zov ((f (42) (3)) + (1)) (∃ A8 : zQ, zR sc d 26 0 [] [(0, zP (42)), (1, zI (f (43) (b.toNat))), (2, zI b), (3, zI (1)), (4, zI x), (5, zI (w32 (e + (1))))] 0 0 zSH (zup f (42) (3) ((f (42) (3)) + (1))) A8 ∧ ∀ (r9 : Int) (f7 : zF), zIn r9 → A8 (some (zI r9)) zSH f7 → (∃ A11 : zQ, zR sc d 26 0 [] [(0, zP (42)), (1, zI (f (43) (b.toNat))), (2, zI b), (3, zI (2)), (4, zI (1)), (5, zI (w32 (e + (1))))] 0 0 zSH f7 A11 ∧ ∀ (r12 : Int) (f10 : zF), zIn r12 → A11 (some (zI r12)) zSH f10 → (Q (some (zI (w32 (r9 - r12)))) zSH f10)))))) else (Q (some (zI (0))) zSH f))))))) : zR sc (d + 1) 26 0 [] [(0, zP (42)), (1, zI (6)), (2, zI b), (3, zI (3)), (4, zI x), (5, zI e)] 0 0 zSH f Q := zwn_R (stp := fun _ _ => none) (inl := fun j => bif Nat.beq j 24 then true else bif Nat.beq j 25 then true else false) (nov := (fun j => bif Nat.beq j 26 then false else true)) 135 h
set_option maxRecDepth 100000 in
theorem rr63_251_0 {sc : zC} {d : Nat} {x : Int} {f : zF} {Q : zQ} (h : if f (50) (43) < 24 then (zix (f (50) (43)) (24) (zov ((f (50) (43)) + (1)) (∃ A2 : zQ, zR sc d 249 0 [] [(0, zP (50)), (1, zI (f (50) (44))), (2, zI x)] 0 0 zSH (zup (zup f (73) ((f (50) (43)).toNat) (2)) (50) (43) ((f (50) (43)) + (1))) A2 ∧ ∀ (r3 : Int) (f1 : zF), zIn r3 → A2 (some (zI r3)) zSH f1 → (∃ A5 : zQ, zR sc d 250 0 [] [(0, zP (50)), (1, zI (f1 (50) (44))), (2, zI (1))] 0 0 zSH f1 A5 ∧ ∀ (r6 : Int) (f4 : zF), zIn r6 → A5 (some (zI r6)) zSH f4 → (Q (some (zI (w32 (r3 - r6)))) zSH f4))))) else (zov ((f (50) (43)) + (1)) (∃ A8 : zQ, zR sc d 249 0 [] [(0, zP (50)), (1, zI (f (50) (44))), (2, zI x)] 0 0 zSH (zup f (50) (43) ((f (50) (43)) + (1))) A8 ∧ ∀ (r9 : Int) (f7 : zF), zIn r9 → A8 (some (zI r9)) zSH f7 → (∃ A11 : zQ, zR sc d 250 0 [] [(0, zP (50)), (1, zI (f7 (50) (44))), (2, zI (1))] 0 0 zSH f7 A11 ∧ ∀ (r12 : Int) (f10 : zF), zIn r12 → A11 (some (zI r12)) zSH f10 → (Q (some (zI (w32 (r9 - r12)))) zSH f10))))) : zR sc (d + 1) 251 0 [] [(0, zP (50)), (1, zI (6)), (2, zI x)] 0 0 zSH f Q := zwn_R (stp := fun _ _ => none) (inl := fun j => bif Nat.beq j 247 then true else false) (nov := (fun j => bif Nat.beq j 251 then false else true)) 63 h
set_option maxRecDepth 100000 in
theorem rc70_26_0 {sc : zC} {d : Nat} {b x e : Int} {f : zF} {Q : zQ} (h : zov 28 (zov 28 (zov 1 (zov 16 (zov 16 (zov 2 (zov 4 (zov 4 (if e < 40 then (zix b (50) (if f (42) (3) < 24 then (zix (f (42) (3)) (24) (zov ((f (42) (3)) + (1)) (∃ A2 : zQ, zR sc d 26 0 [] [(0, zP (42)), (1, zI (0)), (2, zI b), (3, zI (0)), (4, zI x), (5, zI (w32 (e + (1))))] 0 0 zSH (zup (zup f (44) ((f (42) (3)).toNat) (20)) (42) (3) ((f (42) (3)) + (1))) A2 ∧ ∀ (r3 : Int) (f1 : zF), zIn r3 → A2 (some (zI r3)) zSH f1 → (Q (some (zI (w32 (r3 + (3))))) zSH f1)))) else (zov ((f (42) (3)) + (1)) (∃ A5 : zQ, zR sc d 26 0 [] [(0, zP (42)), (1, zI (0)), (2, zI b), (3, zI (0)), (4, zI x), (5, zI (w32 (e + (1))))] 0 0 zSH (zup f (42) (3) ((f (42) (3)) + (1))) A5 ∧ ∀ (r6 : Int) (f4 : zF), zIn r6 → A5 (some (zI r6)) zSH f4 → (Q (some (zI (w32 (r6 + (3))))) zSH f4))))) else (Q (some (zI (0))) zSH f)))))))))) : zR sc (d + 1) 26 0 [] [(0, zP (42)), (1, zI (7)), (2, zI b), (3, zI (0)), (4, zI x), (5, zI e)] 0 0 zSH f Q := zwn_R (stp := fun _ _ => none) (inl := fun j => bif Nat.beq j 24 then true else bif Nat.beq j 25 then true else false) (nov := (fun j => bif Nat.beq j 26 then false else true)) 142 h
set_option maxRecDepth 100000 in
theorem rr70_248_0 {sc : zC} {d : Nat} {x : Int} {f : zF} {Q : zQ} (h : if f (50) (43) < 24 then (zix (f (50) (43)) (24) (zov ((f (50) (43)) + (1)) (∃ A2 : zQ, zR sc d 248 0 [] [(0, zP (50)), (1, zI (0)), (2, zI x)] 0 0 zSH (zup (zup f (73) ((f (50) (43)).toNat) (20)) (50) (43) ((f (50) (43)) + (1))) A2 ∧ ∀ (r3 : Int) (f1 : zF), zIn r3 → A2 (some (zI r3)) zSH f1 → (Q (some (zI (w32 (r3 + (3))))) zSH f1)))) else (zov ((f (50) (43)) + (1)) (∃ A5 : zQ, zR sc d 248 0 [] [(0, zP (50)), (1, zI (0)), (2, zI x)] 0 0 zSH (zup f (50) (43) ((f (50) (43)) + (1))) A5 ∧ ∀ (r6 : Int) (f4 : zF), zIn r6 → A5 (some (zI r6)) zSH f4 → (Q (some (zI (w32 (r6 + (3))))) zSH f4)))) : zR sc (d + 1) 248 0 [] [(0, zP (50)), (1, zI (7)), (2, zI x)] 0 0 zSH f Q := zwn_R (stp := fun _ _ => none) (inl := fun j => bif Nat.beq j 247 then true else false) (nov := (fun j => bif Nat.beq j 248 then false else true)) 52 h
set_option maxRecDepth 100000 in
theorem rc71_26_0 {sc : zC} {d : Nat} {b x e : Int} {f : zF} {Q : zQ} (h : zov 28 (zov 29 (if e < 40 then (zix b (50) (if f (42) (3) < 24 then (zix (f (42) (3)) (24) (zov ((f (42) (3)) + (1)) (∃ A2 : zQ, zR sc d 26 0 [] [(0, zP (42)), (1, zI (4)), (2, zI b), (3, zI (1)), (4, zI x), (5, zI (w32 (e + (1))))] 0 0 zSH (zup (zup f (44) ((f (42) (3)).toNat) (80)) (42) (3) ((f (42) (3)) + (1))) A2 ∧ ∀ (r3 : Int) (f1 : zF), zIn r3 → A2 (some (zI r3)) zSH f1 → (∃ A5 : zQ, zR sc d 26 0 [] [(0, zP (42)), (1, zI (f (43) (b.toNat))), (2, zI b), (3, zI (2)), (4, zI (2)), (5, zI (w32 (e + (1))))] 0 0 zSH f1 A5 ∧ ∀ (r6 : Int) (f4 : zF), zIn r6 → A5 (some (zI r6)) zSH f4 → (Q (some (zI (w32 (r3 + r6)))) zSH f4))))) else (zov ((f (42) (3)) + (1)) (∃ A8 : zQ, zR sc d 26 0 [] [(0, zP (42)), (1, zI (4)), (2, zI b), (3, zI (1)), (4, zI x), (5, zI (w32 (e + (1))))] 0 0 zSH (zup f (42) (3) ((f (42) (3)) + (1))) A8 ∧ ∀ (r9 : Int) (f7 : zF), zIn r9 → A8 (some (zI r9)) zSH f7 → (∃ A11 : zQ, zR sc d 26 0 [] [(0, zP (42)), (1, zI (f (43) (b.toNat))), (2, zI b), (3, zI (2)), (4, zI (2)), (5, zI (w32 (e + (1))))] 0 0 zSH f7 A11 ∧ ∀ (r12 : Int) (f10 : zF), zIn r12 → A11 (some (zI r12)) zSH f10 → (Q (some (zI (w32 (r9 + r12)))) zSH f10)))))) else (Q (some (zI (0))) zSH f)))) : zR sc (d + 1) 26 0 [] [(0, zP (42)), (1, zI (7)), (2, zI b), (3, zI (1)), (4, zI x), (5, zI e)] 0 0 zSH f Q := zwn_R (stp := fun _ _ => none) (inl := fun j => bif Nat.beq j 24 then true else bif Nat.beq j 25 then true else false) (nov := (fun j => bif Nat.beq j 26 then false else true)) 116 h
set_option maxRecDepth 100000 in
theorem rr71_249_0 {sc : zC} {d : Nat} {x : Int} {f : zF} {Q : zQ} (h : if f (50) (43) < 24 then (zix (f (50) (43)) (24) (zov ((f (50) (43)) + (1)) (∃ A2 : zQ, zR sc d 249 0 [] [(0, zP (50)), (1, zI (4)), (2, zI x)] 0 0 zSH (zup (zup f (73) ((f (50) (43)).toNat) (80)) (50) (43) ((f (50) (43)) + (1))) A2 ∧ ∀ (r3 : Int) (f1 : zF), zIn r3 → A2 (some (zI r3)) zSH f1 → (∃ A5 : zQ, zR sc d 250 0 [] [(0, zP (50)), (1, zI (f1 (50) (44))), (2, zI (2))] 0 0 zSH f1 A5 ∧ ∀ (r6 : Int) (f4 : zF), zIn r6 → A5 (some (zI r6)) zSH f4 → (Q (some (zI (w32 (r3 + r6)))) zSH f4))))) else (zov ((f (50) (43)) + (1)) (∃ A8 : zQ, zR sc d 249 0 [] [(0, zP (50)), (1, zI (4)), (2, zI x)] 0 0 zSH (zup f (50) (43) ((f (50) (43)) + (1))) A8 ∧ ∀ (r9 : Int) (f7 : zF), zIn r9 → A8 (some (zI r9)) zSH f7 → (∃ A11 : zQ, zR sc d 250 0 [] [(0, zP (50)), (1, zI (f7 (50) (44))), (2, zI (2))] 0 0 zSH f7 A11 ∧ ∀ (r12 : Int) (f10 : zF), zIn r12 → A11 (some (zI r12)) zSH f10 → (Q (some (zI (w32 (r9 + r12)))) zSH f10))))) : zR sc (d + 1) 249 0 [] [(0, zP (50)), (1, zI (7)), (2, zI x)] 0 0 zSH f Q := zwn_R (stp := fun _ _ => none) (inl := fun j => bif Nat.beq j 247 then true else false) (nov := (fun j => bif Nat.beq j 249 then false else true)) 67 h
set_option maxRecDepth 100000 in
theorem rc72_26_0 {sc : zC} {d : Nat} {b x e : Int} {f : zF} {Q : zQ} (h : zov 28 (zov 30 (zov 1 (zov 16 (zov 18 (if e < 40 then (zix b (50) (if f (42) (3) < 24 then (zix (f (42) (3)) (24) (zov ((f (42) (3)) + (1)) (∃ A2 : zQ, zR sc d 26 0 [] [(0, zP (42)), (1, zI (1)), (2, zI b), (3, zI (2)), (4, zI x), (5, zI (w32 (e + (1))))] 0 0 zSH (zup (zup f (44) ((f (42) (3)).toNat) (50)) (42) (3) ((f (42) (3)) + (1))) A2 ∧ ∀ (r3 : Int) (f1 : zF), zIn r3 → A2 (some (zI r3)) zSH f1 → (∃ A5 : zQ, zR sc d 26 0 [] [(0, zP (42)), (1, zI (f (43) (b.toNat))), (2, zI b), (3, zI (0)), (4, zI (2)), (5, zI (w32 (e + (1))))] 0 0 zSH f1 A5 ∧ ∀ (r6 : Int) (f4 : zF), zIn r6 → A5 (some (zI r6)) zSH f4 → (Q (some (zI (w32 (r3 - r6)))) zSH f4))))) else (zov ((f (42) (3)) + (1)) (∃ A8 : zQ, zR sc d 26 0 [] [(0, zP (42)), (1, zI (1)), (2, zI b), (3, zI (2)), (4, zI x), (5, zI (w32 (e + (1))))] 0 0 zSH (zup f (42) (3) ((f (42) (3)) + (1))) A8 ∧ ∀ (r9 : Int) (f7 : zF), zIn r9 → A8 (some (zI r9)) zSH f7 → (∃ A11 : zQ, zR sc d 26 0 [] [(0, zP (42)), (1, zI (f (43) (b.toNat))), (2, zI b), (3, zI (0)), (4, zI (2)), (5, zI (w32 (e + (1))))] 0 0 zSH f7 A11 ∧ ∀ (r12 : Int) (f10 : zF), zIn r12 → A11 (some (zI r12)) zSH f10 → (Q (some (zI (w32 (r9 - r12)))) zSH f10)))))) else (Q (some (zI (0))) zSH f))))))) : zR sc (d + 1) 26 0 [] [(0, zP (42)), (1, zI (7)), (2, zI b), (3, zI (2)), (4, zI x), (5, zI e)] 0 0 zSH f Q := zwn_R (stp := fun _ _ => none) (inl := fun j => bif Nat.beq j 24 then true else bif Nat.beq j 25 then true else false) (nov := (fun j => bif Nat.beq j 26 then false else true)) 135 h
set_option maxRecDepth 100000 in
theorem rr72_250_0 {sc : zC} {d : Nat} {x : Int} {f : zF} {Q : zQ} (h : if f (50) (43) < 24 then (zix (f (50) (43)) (24) (zov ((f (50) (43)) + (1)) (∃ A2 : zQ, zR sc d 250 0 [] [(0, zP (50)), (1, zI (1)), (2, zI x)] 0 0 zSH (zup (zup f (73) ((f (50) (43)).toNat) (50)) (50) (43) ((f (50) (43)) + (1))) A2 ∧ ∀ (r3 : Int) (f1 : zF), zIn r3 → A2 (some (zI r3)) zSH f1 → (∃ A5 : zQ, zR sc d 248 0 [] [(0, zP (50)), (1, zI (f1 (50) (44))), (2, zI (2))] 0 0 zSH f1 A5 ∧ ∀ (r6 : Int) (f4 : zF), zIn r6 → A5 (some (zI r6)) zSH f4 → (Q (some (zI (w32 (r3 - r6)))) zSH f4))))) else (zov ((f (50) (43)) + (1)) (∃ A8 : zQ, zR sc d 250 0 [] [(0, zP (50)), (1, zI (1)), (2, zI x)] 0 0 zSH (zup f (50) (43) ((f (50) (43)) + (1))) A8 ∧ ∀ (r9 : Int) (f7 : zF), zIn r9 → A8 (some (zI r9)) zSH f7 → (∃ A11 : zQ, zR sc d 248 0 [] [(0, zP (50)), (1, zI (f7 (50) (44))), (2, zI (2))] 0 0 zSH f7 A11 ∧ ∀ (r12 : Int) (f10 : zF), zIn r12 → A11 (some (zI r12)) zSH f10 → (Q (some (zI (w32 (r9 - r12)))) zSH f10))))) : zR sc (d + 1) 250 0 [] [(0, zP (50)), (1, zI (7)), (2, zI x)] 0 0 zSH f Q := zwn_R (stp := fun _ _ => none) (inl := fun j => bif Nat.beq j 247 then true else false) (nov := (fun j => bif Nat.beq j 250 then false else true)) 67 h
set_option maxRecDepth 100000 in
theorem rc73_26_0 {sc : zC} {d : Nat} {b x e : Int} {f : zF} {Q : zQ} (h : zov 28 (zov 31 (if e < 40 then (zix b (50) (if f (42) (3) < 24 then (zix (f (42) (3)) (24) (zov ((f (42) (3)) + (1)) (∃ A2 : zQ, zR sc d 26 0 [] [(0, zP (42)), (1, zI (4)), (2, zI b), (3, zI (3)), (4, zI x), (5, zI (w32 (e + (1))))] 0 0 zSH (zup (zup f (44) ((f (42) (3)).toNat) (81)) (42) (3) ((f (42) (3)) + (1))) A2 ∧ ∀ (r3 : Int) (f1 : zF), zIn r3 → A2 (some (zI r3)) zSH f1 → (Q (some (zI (w32 (r3 - (1))))) zSH f1)))) else (zov ((f (42) (3)) + (1)) (∃ A5 : zQ, zR sc d 26 0 [] [(0, zP (42)), (1, zI (4)), (2, zI b), (3, zI (3)), (4, zI x), (5, zI (w32 (e + (1))))] 0 0 zSH (zup f (42) (3) ((f (42) (3)) + (1))) A5 ∧ ∀ (r6 : Int) (f4 : zF), zIn r6 → A5 (some (zI r6)) zSH f4 → (Q (some (zI (w32 (r6 - (1))))) zSH f4))))) else (Q (some (zI (0))) zSH f)))) : zR sc (d + 1) 26 0 [] [(0, zP (42)), (1, zI (7)), (2, zI b), (3, zI (3)), (4, zI x), (5, zI e)] 0 0 zSH f Q := zwn_R (stp := fun _ _ => none) (inl := fun j => bif Nat.beq j 24 then true else bif Nat.beq j 25 then true else false) (nov := (fun j => bif Nat.beq j 26 then false else true)) 104 h
set_option maxRecDepth 100000 in
theorem rr73_251_0 {sc : zC} {d : Nat} {x : Int} {f : zF} {Q : zQ} (h : if f (50) (43) < 24 then (zix (f (50) (43)) (24) (zov ((f (50) (43)) + (1)) (∃ A2 : zQ, zR sc d 251 0 [] [(0, zP (50)), (1, zI (4)), (2, zI x)] 0 0 zSH (zup (zup f (73) ((f (50) (43)).toNat) (81)) (50) (43) ((f (50) (43)) + (1))) A2 ∧ ∀ (r3 : Int) (f1 : zF), zIn r3 → A2 (some (zI r3)) zSH f1 → (Q (some (zI (w32 (r3 - (1))))) zSH f1)))) else (zov ((f (50) (43)) + (1)) (∃ A5 : zQ, zR sc d 251 0 [] [(0, zP (50)), (1, zI (4)), (2, zI x)] 0 0 zSH (zup f (50) (43) ((f (50) (43)) + (1))) A5 ∧ ∀ (r6 : Int) (f4 : zF), zIn r6 → A5 (some (zI r6)) zSH f4 → (Q (some (zI (w32 (r6 - (1))))) zSH f4)))) : zR sc (d + 1) 251 0 [] [(0, zP (50)), (1, zI (7)), (2, zI x)] 0 0 zSH f Q := zwn_R (stp := fun _ _ => none) (inl := fun j => bif Nat.beq j 247 then true else false) (nov := (fun j => bif Nat.beq j 251 then false else true)) 49 h
theorem rcs_0_0 {sc : zC} {d fu own : Nat} {n : Int} (ho : own < 8) (hb : 0 ≤ n ∧ n < 50) (ih : ∀ (k a : Nat) (x : Int) (f : zF) (e : Int) (Q : zQ), k < 8 → a < 4 → f 43 n.toNat = (own : Int) → zfin own fu k a = true → 0 ≤ f 42 3 → f 42 3 + ((zlst own fu k a).length : Int) ≤ 10000 → 0 ≤ e → e + (fu : Int) ≤ 40 → Q (some (zI (zval own n fu k a x))) zSH (znts 42 3 44 f (zlst own fu k a)) → zR sc (d + fu) 26 0 [] [(0, zP 42), (1, zI (k : Int)), (2, zI n), (3, zI (a : Int)), (4, zI x), (5, zI e)] 0 0 zSH f Q) {x : Int} {f : zF} {e : Int} {Q : zQ} (hk : f 43 n.toNat = (own : Int)) (hfin : zfin own (fu + 1) 0 0 = true) (h0 : 0 ≤ f 42 3) (hlen : f 42 3 + ((zlst own (fu + 1) 0 0).length : Int) ≤ 10000) (he : 0 ≤ e) (hd : e + ((fu + 1 : Nat) : Int) ≤ 40) (hQ : Q (some (zI (zval own n (fu + 1) 0 0 x))) zSH (znts 42 3 44 f (zlst own (fu + 1) 0 0))) : zR sc (d + fu + 1) 26 0 [] [(0, zP 42), (1, zI (0)), (2, zI n), (3, zI (0)), (4, zI x), (5, zI e)] 0 0 zSH f Q := by
  have hl : f 42 3 + ((1 :: [] : List Int).length : Int) ≤ 10000 := hlen
  simp only [List.length_cons, List.length_append, List.length_nil] at hl
  have hQ1 : Q (some (zI (w32 (x + n)))) zSH (znts 42 3 44 f (1 :: [])) := hQ
  have hQ2 : Q (some (zI (w32 (x + n)))) zSH (znts 42 3 44 (znt 42 3 44 f 1) ([])) := hQ1
  have hr : znt 42 3 44 f 1 42 3 = f 42 3 + 1 := znt_r
  have hk1 : znt 42 3 44 f 1 43 n.toNat = (own : Int) := (znt_o (by decide) (Or.inl (by decide))).trans hk
  refine rc00_26_0 (d := d + fu) ?_
  repeat' (refine zov_p (by omega) ?_)
  rw [if_pos (by omega)]
  refine zix_p (by omega) ?_
  refine zit (fun h24 => ?_) (fun h24 => ?_)
  · refine zix_p (by omega) (zov_p (by omega) ?_)
    rw [znt_1 h24]
    generalize znt 42 3 44 f 1 = F at *
    exact hQ2
  · refine zov_p (by omega) ?_
    rw [znt_2 (t := 44) (v := 1) h24]
    generalize znt 42 3 44 f 1 = F at *
    exact hQ2
theorem rrs_0_0 {sc : zC} {d fu own : Nat} {n : Int} (ho : own < 8) (ih : ∀ (k a : Nat) (x : Int) (f : zF) (Q : zQ), k < 8 → a < 4 → f 50 44 = (own : Int) → f 50 45 = n → zfin own fu k a = true → 0 ≤ f 50 43 → f 50 43 + ((zlst own fu k a).length : Int) ≤ 10000 → Q (some (zI (zval own n fu k a x))) zSH (znts 50 43 73 f (zlst own fu k a)) → zR sc (d + fu) (248 + a) 0 [] [(0, zP 50), (1, zI (k : Int)), (2, zI x)] 0 0 zSH f Q) {x : Int} {f : zF} {Q : zQ} (hk : f 50 44 = (own : Int)) (hn : f 50 45 = n) (hfin : zfin own (fu + 1) 0 0 = true) (h0 : 0 ≤ f 50 43) (hlen : f 50 43 + ((zlst own (fu + 1) 0 0).length : Int) ≤ 10000) (hQ : Q (some (zI (zval own n (fu + 1) 0 0 x))) zSH (znts 50 43 73 f (zlst own (fu + 1) 0 0))) : zR sc (d + fu + 1) 248 0 [] [(0, zP 50), (1, zI (0)), (2, zI x)] 0 0 zSH f Q := by
  have hl : f 50 43 + ((1 :: [] : List Int).length : Int) ≤ 10000 := hlen
  simp only [List.length_cons, List.length_append, List.length_nil] at hl
  have hQ1 : Q (some (zI (w32 (x + n)))) zSH (znts 50 43 73 f (1 :: [])) := hQ
  have hQ2 : Q (some (zI (w32 (x + n)))) zSH (znts 50 43 73 (znt 50 43 73 f 1) ([])) := hQ1
  have hr : znt 50 43 73 f 1 50 43 = f 50 43 + 1 := znt_r
  have hk1 : znt 50 43 73 f 1 50 44 = (own : Int) := (znt_o (by decide) (Or.inr (by decide))).trans hk
  have hn1 : znt 50 43 73 f 1 50 45 = n := (znt_o (by decide) (Or.inr (by decide))).trans hn
  refine rr00_248_0 (d := d + fu) ?_
  try rw [hn]
  refine zit (fun h24 => ?_) (fun h24 => ?_)
  · refine zix_p (by omega) (zov_p (by omega) ?_)
    rw [znt_1 h24]
    generalize znt 50 43 73 f 1 = F at *
    exact hQ2
  · refine zov_p (by omega) ?_
    rw [znt_2 (t := 73) (v := 1) h24]
    generalize znt 50 43 73 f 1 = F at *
    exact hQ2
theorem rcs_0_1 {sc : zC} {d fu own : Nat} {n : Int} (ho : own < 8) (hb : 0 ≤ n ∧ n < 50) (ih : ∀ (k a : Nat) (x : Int) (f : zF) (e : Int) (Q : zQ), k < 8 → a < 4 → f 43 n.toNat = (own : Int) → zfin own fu k a = true → 0 ≤ f 42 3 → f 42 3 + ((zlst own fu k a).length : Int) ≤ 10000 → 0 ≤ e → e + (fu : Int) ≤ 40 → Q (some (zI (zval own n fu k a x))) zSH (znts 42 3 44 f (zlst own fu k a)) → zR sc (d + fu) 26 0 [] [(0, zP 42), (1, zI (k : Int)), (2, zI n), (3, zI (a : Int)), (4, zI x), (5, zI e)] 0 0 zSH f Q) {x : Int} {f : zF} {e : Int} {Q : zQ} (hk : f 43 n.toNat = (own : Int)) (hfin : zfin own (fu + 1) 0 1 = true) (h0 : 0 ≤ f 42 3) (hlen : f 42 3 + ((zlst own (fu + 1) 0 1).length : Int) ≤ 10000) (he : 0 ≤ e) (hd : e + ((fu + 1 : Nat) : Int) ≤ 40) (hQ : Q (some (zI (zval own n (fu + 1) 0 1 x))) zSH (znts 42 3 44 f (zlst own (fu + 1) 0 1))) : zR sc (d + fu + 1) 26 0 [] [(0, zP 42), (1, zI (0)), (2, zI n), (3, zI (1)), (4, zI x), (5, zI e)] 0 0 zSH f Q := by
  have hf : zfin own fu own 0 = true := hfin
  have hl : f 42 3 + ((10 :: zlst own fu own 0 : List Int).length : Int) ≤ 10000 := hlen
  simp only [List.length_cons, List.length_append, List.length_nil] at hl
  have hQ1 : Q (some (zI (w32 ((zval own n fu own 0 x) * 2)))) zSH (znts 42 3 44 f (10 :: zlst own fu own 0)) := hQ
  have hQ2 : Q (some (zI (w32 ((zval own n fu own 0 x) * 2)))) zSH (znts 42 3 44 (znt 42 3 44 f 10) (zlst own fu own 0)) := hQ1
  have hr : znt 42 3 44 f 10 42 3 = f 42 3 + 1 := znt_r
  have hk1 : znt 42 3 44 f 10 43 n.toNat = (own : Int) := (znt_o (by decide) (Or.inl (by decide))).trans hk
  refine rc01_26_0 (d := d + fu) ?_
  rw [w32_in (z := e + 1) (by omega)]
  repeat' (refine zov_p (by omega) ?_)
  rw [if_pos (by omega)]
  refine zix_p (by omega) ?_
  refine zit (fun h24 => ?_) (fun h24 => ?_)
  · refine zix_p (by omega) (zov_p (by omega) ?_)
    rw [znt_1 h24]
    generalize znt 42 3 44 f 10 = F at *
    try rw [hk]
    refine zcallE (ih own 0 x F (e + 1) _ (by omega) (by omega) hk1 hf (by omega) (by omega) (by omega) (by omega) ⟨rfl, rfl⟩) ?_
    exact hQ2
  · refine zov_p (by omega) ?_
    rw [znt_2 (t := 44) (v := 10) h24]
    generalize znt 42 3 44 f 10 = F at *
    try rw [hk]
    refine zcallE (ih own 0 x F (e + 1) _ (by omega) (by omega) hk1 hf (by omega) (by omega) (by omega) (by omega) ⟨rfl, rfl⟩) ?_
    exact hQ2
theorem rrs_0_1 {sc : zC} {d fu own : Nat} {n : Int} (ho : own < 8) (ih : ∀ (k a : Nat) (x : Int) (f : zF) (Q : zQ), k < 8 → a < 4 → f 50 44 = (own : Int) → f 50 45 = n → zfin own fu k a = true → 0 ≤ f 50 43 → f 50 43 + ((zlst own fu k a).length : Int) ≤ 10000 → Q (some (zI (zval own n fu k a x))) zSH (znts 50 43 73 f (zlst own fu k a)) → zR sc (d + fu) (248 + a) 0 [] [(0, zP 50), (1, zI (k : Int)), (2, zI x)] 0 0 zSH f Q) {x : Int} {f : zF} {Q : zQ} (hk : f 50 44 = (own : Int)) (hn : f 50 45 = n) (hfin : zfin own (fu + 1) 0 1 = true) (h0 : 0 ≤ f 50 43) (hlen : f 50 43 + ((zlst own (fu + 1) 0 1).length : Int) ≤ 10000) (hQ : Q (some (zI (zval own n (fu + 1) 0 1 x))) zSH (znts 50 43 73 f (zlst own (fu + 1) 0 1))) : zR sc (d + fu + 1) 249 0 [] [(0, zP 50), (1, zI (0)), (2, zI x)] 0 0 zSH f Q := by
  have hf : zfin own fu own 0 = true := hfin
  have hl : f 50 43 + ((10 :: zlst own fu own 0 : List Int).length : Int) ≤ 10000 := hlen
  simp only [List.length_cons, List.length_append, List.length_nil] at hl
  have hQ1 : Q (some (zI (w32 ((zval own n fu own 0 x) * 2)))) zSH (znts 50 43 73 f (10 :: zlst own fu own 0)) := hQ
  have hQ2 : Q (some (zI (w32 ((zval own n fu own 0 x) * 2)))) zSH (znts 50 43 73 (znt 50 43 73 f 10) (zlst own fu own 0)) := hQ1
  have hr : znt 50 43 73 f 10 50 43 = f 50 43 + 1 := znt_r
  have hk1 : znt 50 43 73 f 10 50 44 = (own : Int) := (znt_o (by decide) (Or.inr (by decide))).trans hk
  have hn1 : znt 50 43 73 f 10 50 45 = n := (znt_o (by decide) (Or.inr (by decide))).trans hn
  refine rr01_249_0 (d := d + fu) ?_
  try rw [hn]
  refine zit (fun h24 => ?_) (fun h24 => ?_)
  · refine zix_p (by omega) (zov_p (by omega) ?_)
    rw [znt_1 h24]
    generalize znt 50 43 73 f 10 = F at *
    try rw [hk]
    refine zcallE (ih own 0 x F _ (by omega) (by omega) hk1 hn1 hf (by omega) (by omega) ⟨rfl, rfl⟩) ?_
    exact hQ2
  · refine zov_p (by omega) ?_
    rw [znt_2 (t := 73) (v := 10) h24]
    generalize znt 50 43 73 f 10 = F at *
    try rw [hk]
    refine zcallE (ih own 0 x F _ (by omega) (by omega) hk1 hn1 hf (by omega) (by omega) ⟨rfl, rfl⟩) ?_
    exact hQ2
theorem rcs_0_2 {sc : zC} {d fu own : Nat} {n : Int} (ho : own < 8) (hb : 0 ≤ n ∧ n < 50) (ih : ∀ (k a : Nat) (x : Int) (f : zF) (e : Int) (Q : zQ), k < 8 → a < 4 → f 43 n.toNat = (own : Int) → zfin own fu k a = true → 0 ≤ f 42 3 → f 42 3 + ((zlst own fu k a).length : Int) ≤ 10000 → 0 ≤ e → e + (fu : Int) ≤ 40 → Q (some (zI (zval own n fu k a x))) zSH (znts 42 3 44 f (zlst own fu k a)) → zR sc (d + fu) 26 0 [] [(0, zP 42), (1, zI (k : Int)), (2, zI n), (3, zI (a : Int)), (4, zI x), (5, zI e)] 0 0 zSH f Q) {x : Int} {f : zF} {e : Int} {Q : zQ} (hk : f 43 n.toNat = (own : Int)) (hfin : zfin own (fu + 1) 0 2 = true) (h0 : 0 ≤ f 42 3) (hlen : f 42 3 + ((zlst own (fu + 1) 0 2).length : Int) ≤ 10000) (he : 0 ≤ e) (hd : e + ((fu + 1 : Nat) : Int) ≤ 40) (hQ : Q (some (zI (zval own n (fu + 1) 0 2 x))) zSH (znts 42 3 44 f (zlst own (fu + 1) 0 2))) : zR sc (d + fu + 1) 26 0 [] [(0, zP 42), (1, zI (0)), (2, zI n), (3, zI (2)), (4, zI x), (5, zI e)] 0 0 zSH f Q := by
  have hl : f 42 3 + ((11 :: [] : List Int).length : Int) ≤ 10000 := hlen
  simp only [List.length_cons, List.length_append, List.length_nil] at hl
  have hQ1 : Q (some (zI (zxor x n))) zSH (znts 42 3 44 f (11 :: [])) := hQ
  have hQ2 : Q (some (zI (zxor x n))) zSH (znts 42 3 44 (znt 42 3 44 f 11) ([])) := hQ1
  have hr : znt 42 3 44 f 11 42 3 = f 42 3 + 1 := znt_r
  have hk1 : znt 42 3 44 f 11 43 n.toNat = (own : Int) := (znt_o (by decide) (Or.inl (by decide))).trans hk
  refine rc02_26_0 (d := d + fu) ?_
  repeat' (refine zov_p (by omega) ?_)
  rw [if_pos (by omega)]
  refine zix_p (by omega) ?_
  refine zit (fun h24 => ?_) (fun h24 => ?_)
  · refine zix_p (by omega) (zov_p (by omega) ?_)
    rw [znt_1 h24]
    generalize znt 42 3 44 f 11 = F at *
    exact hQ2
  · refine zov_p (by omega) ?_
    rw [znt_2 (t := 44) (v := 11) h24]
    generalize znt 42 3 44 f 11 = F at *
    exact hQ2
theorem rrs_0_2 {sc : zC} {d fu own : Nat} {n : Int} (ho : own < 8) (ih : ∀ (k a : Nat) (x : Int) (f : zF) (Q : zQ), k < 8 → a < 4 → f 50 44 = (own : Int) → f 50 45 = n → zfin own fu k a = true → 0 ≤ f 50 43 → f 50 43 + ((zlst own fu k a).length : Int) ≤ 10000 → Q (some (zI (zval own n fu k a x))) zSH (znts 50 43 73 f (zlst own fu k a)) → zR sc (d + fu) (248 + a) 0 [] [(0, zP 50), (1, zI (k : Int)), (2, zI x)] 0 0 zSH f Q) {x : Int} {f : zF} {Q : zQ} (hk : f 50 44 = (own : Int)) (hn : f 50 45 = n) (hfin : zfin own (fu + 1) 0 2 = true) (h0 : 0 ≤ f 50 43) (hlen : f 50 43 + ((zlst own (fu + 1) 0 2).length : Int) ≤ 10000) (hQ : Q (some (zI (zval own n (fu + 1) 0 2 x))) zSH (znts 50 43 73 f (zlst own (fu + 1) 0 2))) : zR sc (d + fu + 1) 250 0 [] [(0, zP 50), (1, zI (0)), (2, zI x)] 0 0 zSH f Q := by
  have hl : f 50 43 + ((11 :: [] : List Int).length : Int) ≤ 10000 := hlen
  simp only [List.length_cons, List.length_append, List.length_nil] at hl
  have hQ1 : Q (some (zI (zxor x n))) zSH (znts 50 43 73 f (11 :: [])) := hQ
  have hQ2 : Q (some (zI (zxor x n))) zSH (znts 50 43 73 (znt 50 43 73 f 11) ([])) := hQ1
  have hr : znt 50 43 73 f 11 50 43 = f 50 43 + 1 := znt_r
  have hk1 : znt 50 43 73 f 11 50 44 = (own : Int) := (znt_o (by decide) (Or.inr (by decide))).trans hk
  have hn1 : znt 50 43 73 f 11 50 45 = n := (znt_o (by decide) (Or.inr (by decide))).trans hn
  refine rr02_250_0 (d := d + fu) ?_
  try rw [hn]
  refine zit (fun h24 => ?_) (fun h24 => ?_)
  · refine zix_p (by omega) (zov_p (by omega) ?_)
    rw [znt_1 h24]
    generalize znt 50 43 73 f 11 = F at *
    exact hQ2
  · refine zov_p (by omega) ?_
    rw [znt_2 (t := 73) (v := 11) h24]
    generalize znt 50 43 73 f 11 = F at *
    exact hQ2
theorem rcs_0_3 {sc : zC} {d fu own : Nat} {n : Int} (ho : own < 8) (hb : 0 ≤ n ∧ n < 50) (ih : ∀ (k a : Nat) (x : Int) (f : zF) (e : Int) (Q : zQ), k < 8 → a < 4 → f 43 n.toNat = (own : Int) → zfin own fu k a = true → 0 ≤ f 42 3 → f 42 3 + ((zlst own fu k a).length : Int) ≤ 10000 → 0 ≤ e → e + (fu : Int) ≤ 40 → Q (some (zI (zval own n fu k a x))) zSH (znts 42 3 44 f (zlst own fu k a)) → zR sc (d + fu) 26 0 [] [(0, zP 42), (1, zI (k : Int)), (2, zI n), (3, zI (a : Int)), (4, zI x), (5, zI e)] 0 0 zSH f Q) {x : Int} {f : zF} {e : Int} {Q : zQ} (hk : f 43 n.toNat = (own : Int)) (hfin : zfin own (fu + 1) 0 3 = true) (h0 : 0 ≤ f 42 3) (hlen : f 42 3 + ((zlst own (fu + 1) 0 3).length : Int) ≤ 10000) (he : 0 ≤ e) (hd : e + ((fu + 1 : Nat) : Int) ≤ 40) (hQ : Q (some (zI (zval own n (fu + 1) 0 3 x))) zSH (znts 42 3 44 f (zlst own (fu + 1) 0 3))) : zR sc (d + fu + 1) 26 0 [] [(0, zP 42), (1, zI (0)), (2, zI n), (3, zI (3)), (4, zI x), (5, zI e)] 0 0 zSH f Q := by
  have hf : (zfin own fu own 1 && zfin own fu own 2) = true := hfin
  rw [Bool.and_eq_true] at hf
  have hl : f 42 3 + ((2 :: (zlst own fu own 1 ++ zlst own fu own 2) : List Int).length : Int) ≤ 10000 := hlen
  simp only [List.length_cons, List.length_append, List.length_nil] at hl
  have hQ1 : Q (some (zI (w32 ((zval own n fu own 1 x) - (zval own n fu own 2 1))))) zSH (znts 42 3 44 f (2 :: (zlst own fu own 1 ++ zlst own fu own 2))) := hQ
  have hQ2 : Q (some (zI (w32 ((zval own n fu own 1 x) - (zval own n fu own 2 1))))) zSH (znts 42 3 44 (znt 42 3 44 f 2) ((zlst own fu own 1 ++ zlst own fu own 2))) := hQ1
  rw [znts_a] at hQ2
  have hr : znt 42 3 44 f 2 42 3 = f 42 3 + 1 := znt_r
  have hk1 : znt 42 3 44 f 2 43 n.toNat = (own : Int) := (znt_o (by decide) (Or.inl (by decide))).trans hk
  refine rc03_26_0 (d := d + fu) ?_
  rw [w32_in (z := e + 1) (by omega)]
  repeat' (refine zov_p (by omega) ?_)
  rw [if_pos (by omega)]
  refine zix_p (by omega) ?_
  refine zit (fun h24 => ?_) (fun h24 => ?_)
  · refine zix_p (by omega) (zov_p (by omega) ?_)
    rw [znt_1 h24]
    generalize znt 42 3 44 f 2 = F at *
    try rw [hk]
    refine zcallE (ih own 1 x F (e + 1) _ (by omega) (by omega) hk1 hf.1 (by omega) (by omega) (by omega) (by omega) ⟨rfl, rfl⟩) ?_
    have hr2 : (znts 42 3 44 F (zlst own fu own 1)) 42 3 = F 42 3 + ((zlst own fu own 1).length : Int) := znts_r
    have hk2 : (znts 42 3 44 F (zlst own fu own 1)) 43 n.toNat = (own : Int) := (znts_o (by decide) (Or.inl (by decide))).trans hk1
    refine zcallE (ih own 2 1 (znts 42 3 44 F (zlst own fu own 1)) (e + 1) _ (by omega) (by omega) hk2 hf.2 (by omega) (by omega) (by omega) (by omega) ⟨rfl, rfl⟩) ?_
    exact hQ2
  · refine zov_p (by omega) ?_
    rw [znt_2 (t := 44) (v := 2) h24]
    generalize znt 42 3 44 f 2 = F at *
    try rw [hk]
    refine zcallE (ih own 1 x F (e + 1) _ (by omega) (by omega) hk1 hf.1 (by omega) (by omega) (by omega) (by omega) ⟨rfl, rfl⟩) ?_
    have hr2 : (znts 42 3 44 F (zlst own fu own 1)) 42 3 = F 42 3 + ((zlst own fu own 1).length : Int) := znts_r
    have hk2 : (znts 42 3 44 F (zlst own fu own 1)) 43 n.toNat = (own : Int) := (znts_o (by decide) (Or.inl (by decide))).trans hk1
    refine zcallE (ih own 2 1 (znts 42 3 44 F (zlst own fu own 1)) (e + 1) _ (by omega) (by omega) hk2 hf.2 (by omega) (by omega) (by omega) (by omega) ⟨rfl, rfl⟩) ?_
    exact hQ2
theorem rrs_0_3 {sc : zC} {d fu own : Nat} {n : Int} (ho : own < 8) (ih : ∀ (k a : Nat) (x : Int) (f : zF) (Q : zQ), k < 8 → a < 4 → f 50 44 = (own : Int) → f 50 45 = n → zfin own fu k a = true → 0 ≤ f 50 43 → f 50 43 + ((zlst own fu k a).length : Int) ≤ 10000 → Q (some (zI (zval own n fu k a x))) zSH (znts 50 43 73 f (zlst own fu k a)) → zR sc (d + fu) (248 + a) 0 [] [(0, zP 50), (1, zI (k : Int)), (2, zI x)] 0 0 zSH f Q) {x : Int} {f : zF} {Q : zQ} (hk : f 50 44 = (own : Int)) (hn : f 50 45 = n) (hfin : zfin own (fu + 1) 0 3 = true) (h0 : 0 ≤ f 50 43) (hlen : f 50 43 + ((zlst own (fu + 1) 0 3).length : Int) ≤ 10000) (hQ : Q (some (zI (zval own n (fu + 1) 0 3 x))) zSH (znts 50 43 73 f (zlst own (fu + 1) 0 3))) : zR sc (d + fu + 1) 251 0 [] [(0, zP 50), (1, zI (0)), (2, zI x)] 0 0 zSH f Q := by
  have hf : (zfin own fu own 1 && zfin own fu own 2) = true := hfin
  rw [Bool.and_eq_true] at hf
  have hl : f 50 43 + ((2 :: (zlst own fu own 1 ++ zlst own fu own 2) : List Int).length : Int) ≤ 10000 := hlen
  simp only [List.length_cons, List.length_append, List.length_nil] at hl
  have hQ1 : Q (some (zI (w32 ((zval own n fu own 1 x) - (zval own n fu own 2 1))))) zSH (znts 50 43 73 f (2 :: (zlst own fu own 1 ++ zlst own fu own 2))) := hQ
  have hQ2 : Q (some (zI (w32 ((zval own n fu own 1 x) - (zval own n fu own 2 1))))) zSH (znts 50 43 73 (znt 50 43 73 f 2) ((zlst own fu own 1 ++ zlst own fu own 2))) := hQ1
  rw [znts_a] at hQ2
  have hr : znt 50 43 73 f 2 50 43 = f 50 43 + 1 := znt_r
  have hk1 : znt 50 43 73 f 2 50 44 = (own : Int) := (znt_o (by decide) (Or.inr (by decide))).trans hk
  have hn1 : znt 50 43 73 f 2 50 45 = n := (znt_o (by decide) (Or.inr (by decide))).trans hn
  refine rr03_251_0 (d := d + fu) ?_
  try rw [hn]
  refine zit (fun h24 => ?_) (fun h24 => ?_)
  · refine zix_p (by omega) (zov_p (by omega) ?_)
    rw [znt_1 h24]
    generalize znt 50 43 73 f 2 = F at *
    try rw [hk]
    refine zcallE (ih own 1 x F _ (by omega) (by omega) hk1 hn1 hf.1 (by omega) (by omega) ⟨rfl, rfl⟩) ?_
    have hr2 : (znts 50 43 73 F (zlst own fu own 1)) 50 43 = F 50 43 + ((zlst own fu own 1).length : Int) := znts_r
    have hk2 : (znts 50 43 73 F (zlst own fu own 1)) 50 44 = (own : Int) := (znts_o (by decide) (Or.inr (by decide))).trans hk1
    have hn2 : (znts 50 43 73 F (zlst own fu own 1)) 50 45 = n := (znts_o (by decide) (Or.inr (by decide))).trans hn1
    rw [show (znts 50 43 73 F (zlst own fu own 1)) 50 44 = (own : Int) from hk2]
    refine zcallE (ih own 2 1 (znts 50 43 73 F (zlst own fu own 1)) _ (by omega) (by omega) hk2 hn2 hf.2 (by omega) (by omega) ⟨rfl, rfl⟩) ?_
    exact hQ2
  · refine zov_p (by omega) ?_
    rw [znt_2 (t := 73) (v := 2) h24]
    generalize znt 50 43 73 f 2 = F at *
    try rw [hk]
    refine zcallE (ih own 1 x F _ (by omega) (by omega) hk1 hn1 hf.1 (by omega) (by omega) ⟨rfl, rfl⟩) ?_
    have hr2 : (znts 50 43 73 F (zlst own fu own 1)) 50 43 = F 50 43 + ((zlst own fu own 1).length : Int) := znts_r
    have hk2 : (znts 50 43 73 F (zlst own fu own 1)) 50 44 = (own : Int) := (znts_o (by decide) (Or.inr (by decide))).trans hk1
    have hn2 : (znts 50 43 73 F (zlst own fu own 1)) 50 45 = n := (znts_o (by decide) (Or.inr (by decide))).trans hn1
    rw [show (znts 50 43 73 F (zlst own fu own 1)) 50 44 = (own : Int) from hk2]
    refine zcallE (ih own 2 1 (znts 50 43 73 F (zlst own fu own 1)) _ (by omega) (by omega) hk2 hn2 hf.2 (by omega) (by omega) ⟨rfl, rfl⟩) ?_
    exact hQ2
theorem rcs_1_0 {sc : zC} {d fu own : Nat} {n : Int} (ho : own < 8) (hb : 0 ≤ n ∧ n < 50) (ih : ∀ (k a : Nat) (x : Int) (f : zF) (e : Int) (Q : zQ), k < 8 → a < 4 → f 43 n.toNat = (own : Int) → zfin own fu k a = true → 0 ≤ f 42 3 → f 42 3 + ((zlst own fu k a).length : Int) ≤ 10000 → 0 ≤ e → e + (fu : Int) ≤ 40 → Q (some (zI (zval own n fu k a x))) zSH (znts 42 3 44 f (zlst own fu k a)) → zR sc (d + fu) 26 0 [] [(0, zP 42), (1, zI (k : Int)), (2, zI n), (3, zI (a : Int)), (4, zI x), (5, zI e)] 0 0 zSH f Q) {x : Int} {f : zF} {e : Int} {Q : zQ} (hk : f 43 n.toNat = (own : Int)) (hfin : zfin own (fu + 1) 1 0 = true) (h0 : 0 ≤ f 42 3) (hlen : f 42 3 + ((zlst own (fu + 1) 1 0).length : Int) ≤ 10000) (he : 0 ≤ e) (hd : e + ((fu + 1 : Nat) : Int) ≤ 40) (hQ : Q (some (zI (zval own n (fu + 1) 1 0 x))) zSH (znts 42 3 44 f (zlst own (fu + 1) 1 0))) : zR sc (d + fu + 1) 26 0 [] [(0, zP 42), (1, zI (1)), (2, zI n), (3, zI (0)), (4, zI x), (5, zI e)] 0 0 zSH f Q := by
  have hf : zfin own fu 0 0 = true := hfin
  have hl : f 42 3 + ((20 :: zlst own fu 0 0 : List Int).length : Int) ≤ 10000 := hlen
  simp only [List.length_cons, List.length_append, List.length_nil] at hl
  have hQ1 : Q (some (zI (w32 ((zval own n fu 0 0 x) + 3)))) zSH (znts 42 3 44 f (20 :: zlst own fu 0 0)) := hQ
  have hQ2 : Q (some (zI (w32 ((zval own n fu 0 0 x) + 3)))) zSH (znts 42 3 44 (znt 42 3 44 f 20) (zlst own fu 0 0)) := hQ1
  have hr : znt 42 3 44 f 20 42 3 = f 42 3 + 1 := znt_r
  have hk1 : znt 42 3 44 f 20 43 n.toNat = (own : Int) := (znt_o (by decide) (Or.inl (by decide))).trans hk
  refine rc10_26_0 (d := d + fu) ?_
  rw [w32_in (z := e + 1) (by omega)]
  repeat' (refine zov_p (by omega) ?_)
  rw [if_pos (by omega)]
  refine zix_p (by omega) ?_
  refine zit (fun h24 => ?_) (fun h24 => ?_)
  · refine zix_p (by omega) (zov_p (by omega) ?_)
    rw [znt_1 h24]
    generalize znt 42 3 44 f 20 = F at *
    try rw [hk]
    refine zcallE (ih 0 0 x F (e + 1) _ (by omega) (by omega) hk1 hf (by omega) (by omega) (by omega) (by omega) ⟨rfl, rfl⟩) ?_
    exact hQ2
  · refine zov_p (by omega) ?_
    rw [znt_2 (t := 44) (v := 20) h24]
    generalize znt 42 3 44 f 20 = F at *
    try rw [hk]
    refine zcallE (ih 0 0 x F (e + 1) _ (by omega) (by omega) hk1 hf (by omega) (by omega) (by omega) (by omega) ⟨rfl, rfl⟩) ?_
    exact hQ2
theorem rrs_1_0 {sc : zC} {d fu own : Nat} {n : Int} (ho : own < 8) (ih : ∀ (k a : Nat) (x : Int) (f : zF) (Q : zQ), k < 8 → a < 4 → f 50 44 = (own : Int) → f 50 45 = n → zfin own fu k a = true → 0 ≤ f 50 43 → f 50 43 + ((zlst own fu k a).length : Int) ≤ 10000 → Q (some (zI (zval own n fu k a x))) zSH (znts 50 43 73 f (zlst own fu k a)) → zR sc (d + fu) (248 + a) 0 [] [(0, zP 50), (1, zI (k : Int)), (2, zI x)] 0 0 zSH f Q) {x : Int} {f : zF} {Q : zQ} (hk : f 50 44 = (own : Int)) (hn : f 50 45 = n) (hfin : zfin own (fu + 1) 1 0 = true) (h0 : 0 ≤ f 50 43) (hlen : f 50 43 + ((zlst own (fu + 1) 1 0).length : Int) ≤ 10000) (hQ : Q (some (zI (zval own n (fu + 1) 1 0 x))) zSH (znts 50 43 73 f (zlst own (fu + 1) 1 0))) : zR sc (d + fu + 1) 248 0 [] [(0, zP 50), (1, zI (1)), (2, zI x)] 0 0 zSH f Q := by
  have hf : zfin own fu 0 0 = true := hfin
  have hl : f 50 43 + ((20 :: zlst own fu 0 0 : List Int).length : Int) ≤ 10000 := hlen
  simp only [List.length_cons, List.length_append, List.length_nil] at hl
  have hQ1 : Q (some (zI (w32 ((zval own n fu 0 0 x) + 3)))) zSH (znts 50 43 73 f (20 :: zlst own fu 0 0)) := hQ
  have hQ2 : Q (some (zI (w32 ((zval own n fu 0 0 x) + 3)))) zSH (znts 50 43 73 (znt 50 43 73 f 20) (zlst own fu 0 0)) := hQ1
  have hr : znt 50 43 73 f 20 50 43 = f 50 43 + 1 := znt_r
  have hk1 : znt 50 43 73 f 20 50 44 = (own : Int) := (znt_o (by decide) (Or.inr (by decide))).trans hk
  have hn1 : znt 50 43 73 f 20 50 45 = n := (znt_o (by decide) (Or.inr (by decide))).trans hn
  refine rr10_248_0 (d := d + fu) ?_
  try rw [hn]
  refine zit (fun h24 => ?_) (fun h24 => ?_)
  · refine zix_p (by omega) (zov_p (by omega) ?_)
    rw [znt_1 h24]
    generalize znt 50 43 73 f 20 = F at *
    try rw [hk]
    refine zcallE (ih 0 0 x F _ (by omega) (by omega) hk1 hn1 hf (by omega) (by omega) ⟨rfl, rfl⟩) ?_
    exact hQ2
  · refine zov_p (by omega) ?_
    rw [znt_2 (t := 73) (v := 20) h24]
    generalize znt 50 43 73 f 20 = F at *
    try rw [hk]
    refine zcallE (ih 0 0 x F _ (by omega) (by omega) hk1 hn1 hf (by omega) (by omega) ⟨rfl, rfl⟩) ?_
    exact hQ2
theorem rcs_1_1 {sc : zC} {d fu own : Nat} {n : Int} (ho : own < 8) (hb : 0 ≤ n ∧ n < 50) (ih : ∀ (k a : Nat) (x : Int) (f : zF) (e : Int) (Q : zQ), k < 8 → a < 4 → f 43 n.toNat = (own : Int) → zfin own fu k a = true → 0 ≤ f 42 3 → f 42 3 + ((zlst own fu k a).length : Int) ≤ 10000 → 0 ≤ e → e + (fu : Int) ≤ 40 → Q (some (zI (zval own n fu k a x))) zSH (znts 42 3 44 f (zlst own fu k a)) → zR sc (d + fu) 26 0 [] [(0, zP 42), (1, zI (k : Int)), (2, zI n), (3, zI (a : Int)), (4, zI x), (5, zI e)] 0 0 zSH f Q) {x : Int} {f : zF} {e : Int} {Q : zQ} (hk : f 43 n.toNat = (own : Int)) (hfin : zfin own (fu + 1) 1 1 = true) (h0 : 0 ≤ f 42 3) (hlen : f 42 3 + ((zlst own (fu + 1) 1 1).length : Int) ≤ 10000) (he : 0 ≤ e) (hd : e + ((fu + 1 : Nat) : Int) ≤ 40) (hQ : Q (some (zI (zval own n (fu + 1) 1 1 x))) zSH (znts 42 3 44 f (zlst own (fu + 1) 1 1))) : zR sc (d + fu + 1) 26 0 [] [(0, zP 42), (1, zI (1)), (2, zI n), (3, zI (1)), (4, zI x), (5, zI e)] 0 0 zSH f Q := by
  have hf : zfin own fu own 0 = true := hfin
  have hl : f 42 3 + ((10 :: zlst own fu own 0 : List Int).length : Int) ≤ 10000 := hlen
  simp only [List.length_cons, List.length_append, List.length_nil] at hl
  have hQ1 : Q (some (zI (w32 ((zval own n fu own 0 x) * 2)))) zSH (znts 42 3 44 f (10 :: zlst own fu own 0)) := hQ
  have hQ2 : Q (some (zI (w32 ((zval own n fu own 0 x) * 2)))) zSH (znts 42 3 44 (znt 42 3 44 f 10) (zlst own fu own 0)) := hQ1
  have hr : znt 42 3 44 f 10 42 3 = f 42 3 + 1 := znt_r
  have hk1 : znt 42 3 44 f 10 43 n.toNat = (own : Int) := (znt_o (by decide) (Or.inl (by decide))).trans hk
  refine rc11_26_0 (d := d + fu) ?_
  rw [w32_in (z := e + 1) (by omega)]
  repeat' (refine zov_p (by omega) ?_)
  rw [if_pos (by omega)]
  refine zix_p (by omega) ?_
  refine zit (fun h24 => ?_) (fun h24 => ?_)
  · refine zix_p (by omega) (zov_p (by omega) ?_)
    rw [znt_1 h24]
    generalize znt 42 3 44 f 10 = F at *
    try rw [hk]
    refine zcallE (ih own 0 x F (e + 1) _ (by omega) (by omega) hk1 hf (by omega) (by omega) (by omega) (by omega) ⟨rfl, rfl⟩) ?_
    exact hQ2
  · refine zov_p (by omega) ?_
    rw [znt_2 (t := 44) (v := 10) h24]
    generalize znt 42 3 44 f 10 = F at *
    try rw [hk]
    refine zcallE (ih own 0 x F (e + 1) _ (by omega) (by omega) hk1 hf (by omega) (by omega) (by omega) (by omega) ⟨rfl, rfl⟩) ?_
    exact hQ2
theorem rrs_1_1 {sc : zC} {d fu own : Nat} {n : Int} (ho : own < 8) (ih : ∀ (k a : Nat) (x : Int) (f : zF) (Q : zQ), k < 8 → a < 4 → f 50 44 = (own : Int) → f 50 45 = n → zfin own fu k a = true → 0 ≤ f 50 43 → f 50 43 + ((zlst own fu k a).length : Int) ≤ 10000 → Q (some (zI (zval own n fu k a x))) zSH (znts 50 43 73 f (zlst own fu k a)) → zR sc (d + fu) (248 + a) 0 [] [(0, zP 50), (1, zI (k : Int)), (2, zI x)] 0 0 zSH f Q) {x : Int} {f : zF} {Q : zQ} (hk : f 50 44 = (own : Int)) (hn : f 50 45 = n) (hfin : zfin own (fu + 1) 1 1 = true) (h0 : 0 ≤ f 50 43) (hlen : f 50 43 + ((zlst own (fu + 1) 1 1).length : Int) ≤ 10000) (hQ : Q (some (zI (zval own n (fu + 1) 1 1 x))) zSH (znts 50 43 73 f (zlst own (fu + 1) 1 1))) : zR sc (d + fu + 1) 249 0 [] [(0, zP 50), (1, zI (1)), (2, zI x)] 0 0 zSH f Q := by
  have hf : zfin own fu own 0 = true := hfin
  have hl : f 50 43 + ((10 :: zlst own fu own 0 : List Int).length : Int) ≤ 10000 := hlen
  simp only [List.length_cons, List.length_append, List.length_nil] at hl
  have hQ1 : Q (some (zI (w32 ((zval own n fu own 0 x) * 2)))) zSH (znts 50 43 73 f (10 :: zlst own fu own 0)) := hQ
  have hQ2 : Q (some (zI (w32 ((zval own n fu own 0 x) * 2)))) zSH (znts 50 43 73 (znt 50 43 73 f 10) (zlst own fu own 0)) := hQ1
  have hr : znt 50 43 73 f 10 50 43 = f 50 43 + 1 := znt_r
  have hk1 : znt 50 43 73 f 10 50 44 = (own : Int) := (znt_o (by decide) (Or.inr (by decide))).trans hk
  have hn1 : znt 50 43 73 f 10 50 45 = n := (znt_o (by decide) (Or.inr (by decide))).trans hn
  refine rr11_249_0 (d := d + fu) ?_
  try rw [hn]
  refine zit (fun h24 => ?_) (fun h24 => ?_)
  · refine zix_p (by omega) (zov_p (by omega) ?_)
    rw [znt_1 h24]
    generalize znt 50 43 73 f 10 = F at *
    try rw [hk]
    refine zcallE (ih own 0 x F _ (by omega) (by omega) hk1 hn1 hf (by omega) (by omega) ⟨rfl, rfl⟩) ?_
    exact hQ2
  · refine zov_p (by omega) ?_
    rw [znt_2 (t := 73) (v := 10) h24]
    generalize znt 50 43 73 f 10 = F at *
    try rw [hk]
    refine zcallE (ih own 0 x F _ (by omega) (by omega) hk1 hn1 hf (by omega) (by omega) ⟨rfl, rfl⟩) ?_
    exact hQ2
theorem rcs_1_2 {sc : zC} {d fu own : Nat} {n : Int} (ho : own < 8) (hb : 0 ≤ n ∧ n < 50) (ih : ∀ (k a : Nat) (x : Int) (f : zF) (e : Int) (Q : zQ), k < 8 → a < 4 → f 43 n.toNat = (own : Int) → zfin own fu k a = true → 0 ≤ f 42 3 → f 42 3 + ((zlst own fu k a).length : Int) ≤ 10000 → 0 ≤ e → e + (fu : Int) ≤ 40 → Q (some (zI (zval own n fu k a x))) zSH (znts 42 3 44 f (zlst own fu k a)) → zR sc (d + fu) 26 0 [] [(0, zP 42), (1, zI (k : Int)), (2, zI n), (3, zI (a : Int)), (4, zI x), (5, zI e)] 0 0 zSH f Q) {x : Int} {f : zF} {e : Int} {Q : zQ} (hk : f 43 n.toNat = (own : Int)) (hfin : zfin own (fu + 1) 1 2 = true) (h0 : 0 ≤ f 42 3) (hlen : f 42 3 + ((zlst own (fu + 1) 1 2).length : Int) ≤ 10000) (he : 0 ≤ e) (hd : e + ((fu + 1 : Nat) : Int) ≤ 40) (hQ : Q (some (zI (zval own n (fu + 1) 1 2 x))) zSH (znts 42 3 44 f (zlst own (fu + 1) 1 2))) : zR sc (d + fu + 1) 26 0 [] [(0, zP 42), (1, zI (1)), (2, zI n), (3, zI (2)), (4, zI x), (5, zI e)] 0 0 zSH f Q := by
  have hl : f 42 3 + ((11 :: [] : List Int).length : Int) ≤ 10000 := hlen
  simp only [List.length_cons, List.length_append, List.length_nil] at hl
  have hQ1 : Q (some (zI (zxor x n))) zSH (znts 42 3 44 f (11 :: [])) := hQ
  have hQ2 : Q (some (zI (zxor x n))) zSH (znts 42 3 44 (znt 42 3 44 f 11) ([])) := hQ1
  have hr : znt 42 3 44 f 11 42 3 = f 42 3 + 1 := znt_r
  have hk1 : znt 42 3 44 f 11 43 n.toNat = (own : Int) := (znt_o (by decide) (Or.inl (by decide))).trans hk
  refine rc12_26_0 (d := d + fu) ?_
  repeat' (refine zov_p (by omega) ?_)
  rw [if_pos (by omega)]
  refine zix_p (by omega) ?_
  refine zit (fun h24 => ?_) (fun h24 => ?_)
  · refine zix_p (by omega) (zov_p (by omega) ?_)
    rw [znt_1 h24]
    generalize znt 42 3 44 f 11 = F at *
    exact hQ2
  · refine zov_p (by omega) ?_
    rw [znt_2 (t := 44) (v := 11) h24]
    generalize znt 42 3 44 f 11 = F at *
    exact hQ2
theorem rrs_1_2 {sc : zC} {d fu own : Nat} {n : Int} (ho : own < 8) (ih : ∀ (k a : Nat) (x : Int) (f : zF) (Q : zQ), k < 8 → a < 4 → f 50 44 = (own : Int) → f 50 45 = n → zfin own fu k a = true → 0 ≤ f 50 43 → f 50 43 + ((zlst own fu k a).length : Int) ≤ 10000 → Q (some (zI (zval own n fu k a x))) zSH (znts 50 43 73 f (zlst own fu k a)) → zR sc (d + fu) (248 + a) 0 [] [(0, zP 50), (1, zI (k : Int)), (2, zI x)] 0 0 zSH f Q) {x : Int} {f : zF} {Q : zQ} (hk : f 50 44 = (own : Int)) (hn : f 50 45 = n) (hfin : zfin own (fu + 1) 1 2 = true) (h0 : 0 ≤ f 50 43) (hlen : f 50 43 + ((zlst own (fu + 1) 1 2).length : Int) ≤ 10000) (hQ : Q (some (zI (zval own n (fu + 1) 1 2 x))) zSH (znts 50 43 73 f (zlst own (fu + 1) 1 2))) : zR sc (d + fu + 1) 250 0 [] [(0, zP 50), (1, zI (1)), (2, zI x)] 0 0 zSH f Q := by
  have hl : f 50 43 + ((11 :: [] : List Int).length : Int) ≤ 10000 := hlen
  simp only [List.length_cons, List.length_append, List.length_nil] at hl
  have hQ1 : Q (some (zI (zxor x n))) zSH (znts 50 43 73 f (11 :: [])) := hQ
  have hQ2 : Q (some (zI (zxor x n))) zSH (znts 50 43 73 (znt 50 43 73 f 11) ([])) := hQ1
  have hr : znt 50 43 73 f 11 50 43 = f 50 43 + 1 := znt_r
  have hk1 : znt 50 43 73 f 11 50 44 = (own : Int) := (znt_o (by decide) (Or.inr (by decide))).trans hk
  have hn1 : znt 50 43 73 f 11 50 45 = n := (znt_o (by decide) (Or.inr (by decide))).trans hn
  refine rr12_250_0 (d := d + fu) ?_
  try rw [hn]
  refine zit (fun h24 => ?_) (fun h24 => ?_)
  · refine zix_p (by omega) (zov_p (by omega) ?_)
    rw [znt_1 h24]
    generalize znt 50 43 73 f 11 = F at *
    exact hQ2
  · refine zov_p (by omega) ?_
    rw [znt_2 (t := 73) (v := 11) h24]
    generalize znt 50 43 73 f 11 = F at *
    exact hQ2
theorem rcs_1_3 {sc : zC} {d fu own : Nat} {n : Int} (ho : own < 8) (hb : 0 ≤ n ∧ n < 50) (ih : ∀ (k a : Nat) (x : Int) (f : zF) (e : Int) (Q : zQ), k < 8 → a < 4 → f 43 n.toNat = (own : Int) → zfin own fu k a = true → 0 ≤ f 42 3 → f 42 3 + ((zlst own fu k a).length : Int) ≤ 10000 → 0 ≤ e → e + (fu : Int) ≤ 40 → Q (some (zI (zval own n fu k a x))) zSH (znts 42 3 44 f (zlst own fu k a)) → zR sc (d + fu) 26 0 [] [(0, zP 42), (1, zI (k : Int)), (2, zI n), (3, zI (a : Int)), (4, zI x), (5, zI e)] 0 0 zSH f Q) {x : Int} {f : zF} {e : Int} {Q : zQ} (hk : f 43 n.toNat = (own : Int)) (hfin : zfin own (fu + 1) 1 3 = true) (h0 : 0 ≤ f 42 3) (hlen : f 42 3 + ((zlst own (fu + 1) 1 3).length : Int) ≤ 10000) (he : 0 ≤ e) (hd : e + ((fu + 1 : Nat) : Int) ≤ 40) (hQ : Q (some (zI (zval own n (fu + 1) 1 3 x))) zSH (znts 42 3 44 f (zlst own (fu + 1) 1 3))) : zR sc (d + fu + 1) 26 0 [] [(0, zP 42), (1, zI (1)), (2, zI n), (3, zI (3)), (4, zI x), (5, zI e)] 0 0 zSH f Q := by
  have hf : (zfin own fu own 1 && zfin own fu own 2) = true := hfin
  rw [Bool.and_eq_true] at hf
  have hl : f 42 3 + ((2 :: (zlst own fu own 1 ++ zlst own fu own 2) : List Int).length : Int) ≤ 10000 := hlen
  simp only [List.length_cons, List.length_append, List.length_nil] at hl
  have hQ1 : Q (some (zI (w32 ((zval own n fu own 1 x) - (zval own n fu own 2 1))))) zSH (znts 42 3 44 f (2 :: (zlst own fu own 1 ++ zlst own fu own 2))) := hQ
  have hQ2 : Q (some (zI (w32 ((zval own n fu own 1 x) - (zval own n fu own 2 1))))) zSH (znts 42 3 44 (znt 42 3 44 f 2) ((zlst own fu own 1 ++ zlst own fu own 2))) := hQ1
  rw [znts_a] at hQ2
  have hr : znt 42 3 44 f 2 42 3 = f 42 3 + 1 := znt_r
  have hk1 : znt 42 3 44 f 2 43 n.toNat = (own : Int) := (znt_o (by decide) (Or.inl (by decide))).trans hk
  refine rc13_26_0 (d := d + fu) ?_
  rw [w32_in (z := e + 1) (by omega)]
  repeat' (refine zov_p (by omega) ?_)
  rw [if_pos (by omega)]
  refine zix_p (by omega) ?_
  refine zit (fun h24 => ?_) (fun h24 => ?_)
  · refine zix_p (by omega) (zov_p (by omega) ?_)
    rw [znt_1 h24]
    generalize znt 42 3 44 f 2 = F at *
    try rw [hk]
    refine zcallE (ih own 1 x F (e + 1) _ (by omega) (by omega) hk1 hf.1 (by omega) (by omega) (by omega) (by omega) ⟨rfl, rfl⟩) ?_
    have hr2 : (znts 42 3 44 F (zlst own fu own 1)) 42 3 = F 42 3 + ((zlst own fu own 1).length : Int) := znts_r
    have hk2 : (znts 42 3 44 F (zlst own fu own 1)) 43 n.toNat = (own : Int) := (znts_o (by decide) (Or.inl (by decide))).trans hk1
    refine zcallE (ih own 2 1 (znts 42 3 44 F (zlst own fu own 1)) (e + 1) _ (by omega) (by omega) hk2 hf.2 (by omega) (by omega) (by omega) (by omega) ⟨rfl, rfl⟩) ?_
    exact hQ2
  · refine zov_p (by omega) ?_
    rw [znt_2 (t := 44) (v := 2) h24]
    generalize znt 42 3 44 f 2 = F at *
    try rw [hk]
    refine zcallE (ih own 1 x F (e + 1) _ (by omega) (by omega) hk1 hf.1 (by omega) (by omega) (by omega) (by omega) ⟨rfl, rfl⟩) ?_
    have hr2 : (znts 42 3 44 F (zlst own fu own 1)) 42 3 = F 42 3 + ((zlst own fu own 1).length : Int) := znts_r
    have hk2 : (znts 42 3 44 F (zlst own fu own 1)) 43 n.toNat = (own : Int) := (znts_o (by decide) (Or.inl (by decide))).trans hk1
    refine zcallE (ih own 2 1 (znts 42 3 44 F (zlst own fu own 1)) (e + 1) _ (by omega) (by omega) hk2 hf.2 (by omega) (by omega) (by omega) (by omega) ⟨rfl, rfl⟩) ?_
    exact hQ2
theorem rrs_1_3 {sc : zC} {d fu own : Nat} {n : Int} (ho : own < 8) (ih : ∀ (k a : Nat) (x : Int) (f : zF) (Q : zQ), k < 8 → a < 4 → f 50 44 = (own : Int) → f 50 45 = n → zfin own fu k a = true → 0 ≤ f 50 43 → f 50 43 + ((zlst own fu k a).length : Int) ≤ 10000 → Q (some (zI (zval own n fu k a x))) zSH (znts 50 43 73 f (zlst own fu k a)) → zR sc (d + fu) (248 + a) 0 [] [(0, zP 50), (1, zI (k : Int)), (2, zI x)] 0 0 zSH f Q) {x : Int} {f : zF} {Q : zQ} (hk : f 50 44 = (own : Int)) (hn : f 50 45 = n) (hfin : zfin own (fu + 1) 1 3 = true) (h0 : 0 ≤ f 50 43) (hlen : f 50 43 + ((zlst own (fu + 1) 1 3).length : Int) ≤ 10000) (hQ : Q (some (zI (zval own n (fu + 1) 1 3 x))) zSH (znts 50 43 73 f (zlst own (fu + 1) 1 3))) : zR sc (d + fu + 1) 251 0 [] [(0, zP 50), (1, zI (1)), (2, zI x)] 0 0 zSH f Q := by
  have hf : (zfin own fu own 1 && zfin own fu own 2) = true := hfin
  rw [Bool.and_eq_true] at hf
  have hl : f 50 43 + ((2 :: (zlst own fu own 1 ++ zlst own fu own 2) : List Int).length : Int) ≤ 10000 := hlen
  simp only [List.length_cons, List.length_append, List.length_nil] at hl
  have hQ1 : Q (some (zI (w32 ((zval own n fu own 1 x) - (zval own n fu own 2 1))))) zSH (znts 50 43 73 f (2 :: (zlst own fu own 1 ++ zlst own fu own 2))) := hQ
  have hQ2 : Q (some (zI (w32 ((zval own n fu own 1 x) - (zval own n fu own 2 1))))) zSH (znts 50 43 73 (znt 50 43 73 f 2) ((zlst own fu own 1 ++ zlst own fu own 2))) := hQ1
  rw [znts_a] at hQ2
  have hr : znt 50 43 73 f 2 50 43 = f 50 43 + 1 := znt_r
  have hk1 : znt 50 43 73 f 2 50 44 = (own : Int) := (znt_o (by decide) (Or.inr (by decide))).trans hk
  have hn1 : znt 50 43 73 f 2 50 45 = n := (znt_o (by decide) (Or.inr (by decide))).trans hn
  refine rr13_251_0 (d := d + fu) ?_
  try rw [hn]
  refine zit (fun h24 => ?_) (fun h24 => ?_)
  · refine zix_p (by omega) (zov_p (by omega) ?_)
    rw [znt_1 h24]
    generalize znt 50 43 73 f 2 = F at *
    try rw [hk]
    refine zcallE (ih own 1 x F _ (by omega) (by omega) hk1 hn1 hf.1 (by omega) (by omega) ⟨rfl, rfl⟩) ?_
    have hr2 : (znts 50 43 73 F (zlst own fu own 1)) 50 43 = F 50 43 + ((zlst own fu own 1).length : Int) := znts_r
    have hk2 : (znts 50 43 73 F (zlst own fu own 1)) 50 44 = (own : Int) := (znts_o (by decide) (Or.inr (by decide))).trans hk1
    have hn2 : (znts 50 43 73 F (zlst own fu own 1)) 50 45 = n := (znts_o (by decide) (Or.inr (by decide))).trans hn1
    rw [show (znts 50 43 73 F (zlst own fu own 1)) 50 44 = (own : Int) from hk2]
    refine zcallE (ih own 2 1 (znts 50 43 73 F (zlst own fu own 1)) _ (by omega) (by omega) hk2 hn2 hf.2 (by omega) (by omega) ⟨rfl, rfl⟩) ?_
    exact hQ2
  · refine zov_p (by omega) ?_
    rw [znt_2 (t := 73) (v := 2) h24]
    generalize znt 50 43 73 f 2 = F at *
    try rw [hk]
    refine zcallE (ih own 1 x F _ (by omega) (by omega) hk1 hn1 hf.1 (by omega) (by omega) ⟨rfl, rfl⟩) ?_
    have hr2 : (znts 50 43 73 F (zlst own fu own 1)) 50 43 = F 50 43 + ((zlst own fu own 1).length : Int) := znts_r
    have hk2 : (znts 50 43 73 F (zlst own fu own 1)) 50 44 = (own : Int) := (znts_o (by decide) (Or.inr (by decide))).trans hk1
    have hn2 : (znts 50 43 73 F (zlst own fu own 1)) 50 45 = n := (znts_o (by decide) (Or.inr (by decide))).trans hn1
    rw [show (znts 50 43 73 F (zlst own fu own 1)) 50 44 = (own : Int) from hk2]
    refine zcallE (ih own 2 1 (znts 50 43 73 F (zlst own fu own 1)) _ (by omega) (by omega) hk2 hn2 hf.2 (by omega) (by omega) ⟨rfl, rfl⟩) ?_
    exact hQ2
theorem rcs_2_0 {sc : zC} {d fu own : Nat} {n : Int} (ho : own < 8) (hb : 0 ≤ n ∧ n < 50) (ih : ∀ (k a : Nat) (x : Int) (f : zF) (e : Int) (Q : zQ), k < 8 → a < 4 → f 43 n.toNat = (own : Int) → zfin own fu k a = true → 0 ≤ f 42 3 → f 42 3 + ((zlst own fu k a).length : Int) ≤ 10000 → 0 ≤ e → e + (fu : Int) ≤ 40 → Q (some (zI (zval own n fu k a x))) zSH (znts 42 3 44 f (zlst own fu k a)) → zR sc (d + fu) 26 0 [] [(0, zP 42), (1, zI (k : Int)), (2, zI n), (3, zI (a : Int)), (4, zI x), (5, zI e)] 0 0 zSH f Q) {x : Int} {f : zF} {e : Int} {Q : zQ} (hk : f 43 n.toNat = (own : Int)) (hfin : zfin own (fu + 1) 2 0 = true) (h0 : 0 ≤ f 42 3) (hlen : f 42 3 + ((zlst own (fu + 1) 2 0).length : Int) ≤ 10000) (he : 0 ≤ e) (hd : e + ((fu + 1 : Nat) : Int) ≤ 40) (hQ : Q (some (zI (zval own n (fu + 1) 2 0 x))) zSH (znts 42 3 44 f (zlst own (fu + 1) 2 0))) : zR sc (d + fu + 1) 26 0 [] [(0, zP 42), (1, zI (2)), (2, zI n), (3, zI (0)), (4, zI x), (5, zI e)] 0 0 zSH f Q := by
  have hl : f 42 3 + ((1 :: [] : List Int).length : Int) ≤ 10000 := hlen
  simp only [List.length_cons, List.length_append, List.length_nil] at hl
  have hQ1 : Q (some (zI (w32 (x + n)))) zSH (znts 42 3 44 f (1 :: [])) := hQ
  have hQ2 : Q (some (zI (w32 (x + n)))) zSH (znts 42 3 44 (znt 42 3 44 f 1) ([])) := hQ1
  have hr : znt 42 3 44 f 1 42 3 = f 42 3 + 1 := znt_r
  have hk1 : znt 42 3 44 f 1 43 n.toNat = (own : Int) := (znt_o (by decide) (Or.inl (by decide))).trans hk
  refine rc20_26_0 (d := d + fu) ?_
  repeat' (refine zov_p (by omega) ?_)
  rw [if_pos (by omega)]
  refine zix_p (by omega) ?_
  refine zit (fun h24 => ?_) (fun h24 => ?_)
  · refine zix_p (by omega) (zov_p (by omega) ?_)
    rw [znt_1 h24]
    generalize znt 42 3 44 f 1 = F at *
    exact hQ2
  · refine zov_p (by omega) ?_
    rw [znt_2 (t := 44) (v := 1) h24]
    generalize znt 42 3 44 f 1 = F at *
    exact hQ2
theorem rrs_2_0 {sc : zC} {d fu own : Nat} {n : Int} (ho : own < 8) (ih : ∀ (k a : Nat) (x : Int) (f : zF) (Q : zQ), k < 8 → a < 4 → f 50 44 = (own : Int) → f 50 45 = n → zfin own fu k a = true → 0 ≤ f 50 43 → f 50 43 + ((zlst own fu k a).length : Int) ≤ 10000 → Q (some (zI (zval own n fu k a x))) zSH (znts 50 43 73 f (zlst own fu k a)) → zR sc (d + fu) (248 + a) 0 [] [(0, zP 50), (1, zI (k : Int)), (2, zI x)] 0 0 zSH f Q) {x : Int} {f : zF} {Q : zQ} (hk : f 50 44 = (own : Int)) (hn : f 50 45 = n) (hfin : zfin own (fu + 1) 2 0 = true) (h0 : 0 ≤ f 50 43) (hlen : f 50 43 + ((zlst own (fu + 1) 2 0).length : Int) ≤ 10000) (hQ : Q (some (zI (zval own n (fu + 1) 2 0 x))) zSH (znts 50 43 73 f (zlst own (fu + 1) 2 0))) : zR sc (d + fu + 1) 248 0 [] [(0, zP 50), (1, zI (2)), (2, zI x)] 0 0 zSH f Q := by
  have hl : f 50 43 + ((1 :: [] : List Int).length : Int) ≤ 10000 := hlen
  simp only [List.length_cons, List.length_append, List.length_nil] at hl
  have hQ1 : Q (some (zI (w32 (x + n)))) zSH (znts 50 43 73 f (1 :: [])) := hQ
  have hQ2 : Q (some (zI (w32 (x + n)))) zSH (znts 50 43 73 (znt 50 43 73 f 1) ([])) := hQ1
  have hr : znt 50 43 73 f 1 50 43 = f 50 43 + 1 := znt_r
  have hk1 : znt 50 43 73 f 1 50 44 = (own : Int) := (znt_o (by decide) (Or.inr (by decide))).trans hk
  have hn1 : znt 50 43 73 f 1 50 45 = n := (znt_o (by decide) (Or.inr (by decide))).trans hn
  refine rr20_248_0 (d := d + fu) ?_
  try rw [hn]
  refine zit (fun h24 => ?_) (fun h24 => ?_)
  · refine zix_p (by omega) (zov_p (by omega) ?_)
    rw [znt_1 h24]
    generalize znt 50 43 73 f 1 = F at *
    exact hQ2
  · refine zov_p (by omega) ?_
    rw [znt_2 (t := 73) (v := 1) h24]
    generalize znt 50 43 73 f 1 = F at *
    exact hQ2
theorem rcs_2_1 {sc : zC} {d fu own : Nat} {n : Int} (ho : own < 8) (hb : 0 ≤ n ∧ n < 50) (ih : ∀ (k a : Nat) (x : Int) (f : zF) (e : Int) (Q : zQ), k < 8 → a < 4 → f 43 n.toNat = (own : Int) → zfin own fu k a = true → 0 ≤ f 42 3 → f 42 3 + ((zlst own fu k a).length : Int) ≤ 10000 → 0 ≤ e → e + (fu : Int) ≤ 40 → Q (some (zI (zval own n fu k a x))) zSH (znts 42 3 44 f (zlst own fu k a)) → zR sc (d + fu) 26 0 [] [(0, zP 42), (1, zI (k : Int)), (2, zI n), (3, zI (a : Int)), (4, zI x), (5, zI e)] 0 0 zSH f Q) {x : Int} {f : zF} {e : Int} {Q : zQ} (hk : f 43 n.toNat = (own : Int)) (hfin : zfin own (fu + 1) 2 1 = true) (h0 : 0 ≤ f 42 3) (hlen : f 42 3 + ((zlst own (fu + 1) 2 1).length : Int) ≤ 10000) (he : 0 ≤ e) (hd : e + ((fu + 1 : Nat) : Int) ≤ 40) (hQ : Q (some (zI (zval own n (fu + 1) 2 1 x))) zSH (znts 42 3 44 f (zlst own (fu + 1) 2 1))) : zR sc (d + fu + 1) 26 0 [] [(0, zP 42), (1, zI (2)), (2, zI n), (3, zI (1)), (4, zI x), (5, zI e)] 0 0 zSH f Q := by
  have hf : zfin own fu 0 1 = true := hfin
  have hl : f 42 3 + ((30 :: zlst own fu 0 1 : List Int).length : Int) ≤ 10000 := hlen
  simp only [List.length_cons, List.length_append, List.length_nil] at hl
  have hQ1 : Q (some (zI (w32 (-(zval own n fu 0 1 x))))) zSH (znts 42 3 44 f (30 :: zlst own fu 0 1)) := hQ
  have hQ2 : Q (some (zI (w32 (-(zval own n fu 0 1 x))))) zSH (znts 42 3 44 (znt 42 3 44 f 30) (zlst own fu 0 1)) := hQ1
  have hr : znt 42 3 44 f 30 42 3 = f 42 3 + 1 := znt_r
  have hk1 : znt 42 3 44 f 30 43 n.toNat = (own : Int) := (znt_o (by decide) (Or.inl (by decide))).trans hk
  refine rc21_26_0 (d := d + fu) ?_
  rw [w32_in (z := e + 1) (by omega)]
  repeat' (refine zov_p (by omega) ?_)
  rw [if_pos (by omega)]
  refine zix_p (by omega) ?_
  refine zit (fun h24 => ?_) (fun h24 => ?_)
  · refine zix_p (by omega) (zov_p (by omega) ?_)
    rw [znt_1 h24]
    generalize znt 42 3 44 f 30 = F at *
    try rw [hk]
    refine zcallE (ih 0 1 x F (e + 1) _ (by omega) (by omega) hk1 hf (by omega) (by omega) (by omega) (by omega) ⟨rfl, rfl⟩) ?_
    exact hQ2
  · refine zov_p (by omega) ?_
    rw [znt_2 (t := 44) (v := 30) h24]
    generalize znt 42 3 44 f 30 = F at *
    try rw [hk]
    refine zcallE (ih 0 1 x F (e + 1) _ (by omega) (by omega) hk1 hf (by omega) (by omega) (by omega) (by omega) ⟨rfl, rfl⟩) ?_
    exact hQ2
theorem rrs_2_1 {sc : zC} {d fu own : Nat} {n : Int} (ho : own < 8) (ih : ∀ (k a : Nat) (x : Int) (f : zF) (Q : zQ), k < 8 → a < 4 → f 50 44 = (own : Int) → f 50 45 = n → zfin own fu k a = true → 0 ≤ f 50 43 → f 50 43 + ((zlst own fu k a).length : Int) ≤ 10000 → Q (some (zI (zval own n fu k a x))) zSH (znts 50 43 73 f (zlst own fu k a)) → zR sc (d + fu) (248 + a) 0 [] [(0, zP 50), (1, zI (k : Int)), (2, zI x)] 0 0 zSH f Q) {x : Int} {f : zF} {Q : zQ} (hk : f 50 44 = (own : Int)) (hn : f 50 45 = n) (hfin : zfin own (fu + 1) 2 1 = true) (h0 : 0 ≤ f 50 43) (hlen : f 50 43 + ((zlst own (fu + 1) 2 1).length : Int) ≤ 10000) (hQ : Q (some (zI (zval own n (fu + 1) 2 1 x))) zSH (znts 50 43 73 f (zlst own (fu + 1) 2 1))) : zR sc (d + fu + 1) 249 0 [] [(0, zP 50), (1, zI (2)), (2, zI x)] 0 0 zSH f Q := by
  have hf : zfin own fu 0 1 = true := hfin
  have hl : f 50 43 + ((30 :: zlst own fu 0 1 : List Int).length : Int) ≤ 10000 := hlen
  simp only [List.length_cons, List.length_append, List.length_nil] at hl
  have hQ1 : Q (some (zI (w32 (-(zval own n fu 0 1 x))))) zSH (znts 50 43 73 f (30 :: zlst own fu 0 1)) := hQ
  have hQ2 : Q (some (zI (w32 (-(zval own n fu 0 1 x))))) zSH (znts 50 43 73 (znt 50 43 73 f 30) (zlst own fu 0 1)) := hQ1
  have hr : znt 50 43 73 f 30 50 43 = f 50 43 + 1 := znt_r
  have hk1 : znt 50 43 73 f 30 50 44 = (own : Int) := (znt_o (by decide) (Or.inr (by decide))).trans hk
  have hn1 : znt 50 43 73 f 30 50 45 = n := (znt_o (by decide) (Or.inr (by decide))).trans hn
  refine rr21_249_0 (d := d + fu) ?_
  try rw [hn]
  refine zit (fun h24 => ?_) (fun h24 => ?_)
  · refine zix_p (by omega) (zov_p (by omega) ?_)
    rw [znt_1 h24]
    generalize znt 50 43 73 f 30 = F at *
    try rw [hk]
    refine zcallE (ih 0 1 x F _ (by omega) (by omega) hk1 hn1 hf (by omega) (by omega) ⟨rfl, rfl⟩) ?_
    exact hQ2
  · refine zov_p (by omega) ?_
    rw [znt_2 (t := 73) (v := 30) h24]
    generalize znt 50 43 73 f 30 = F at *
    try rw [hk]
    refine zcallE (ih 0 1 x F _ (by omega) (by omega) hk1 hn1 hf (by omega) (by omega) ⟨rfl, rfl⟩) ?_
    exact hQ2
theorem rcs_2_2 {sc : zC} {d fu own : Nat} {n : Int} (ho : own < 8) (hb : 0 ≤ n ∧ n < 50) (ih : ∀ (k a : Nat) (x : Int) (f : zF) (e : Int) (Q : zQ), k < 8 → a < 4 → f 43 n.toNat = (own : Int) → zfin own fu k a = true → 0 ≤ f 42 3 → f 42 3 + ((zlst own fu k a).length : Int) ≤ 10000 → 0 ≤ e → e + (fu : Int) ≤ 40 → Q (some (zI (zval own n fu k a x))) zSH (znts 42 3 44 f (zlst own fu k a)) → zR sc (d + fu) 26 0 [] [(0, zP 42), (1, zI (k : Int)), (2, zI n), (3, zI (a : Int)), (4, zI x), (5, zI e)] 0 0 zSH f Q) {x : Int} {f : zF} {e : Int} {Q : zQ} (hk : f 43 n.toNat = (own : Int)) (hfin : zfin own (fu + 1) 2 2 = true) (h0 : 0 ≤ f 42 3) (hlen : f 42 3 + ((zlst own (fu + 1) 2 2).length : Int) ≤ 10000) (he : 0 ≤ e) (hd : e + ((fu + 1 : Nat) : Int) ≤ 40) (hQ : Q (some (zI (zval own n (fu + 1) 2 2 x))) zSH (znts 42 3 44 f (zlst own (fu + 1) 2 2))) : zR sc (d + fu + 1) 26 0 [] [(0, zP 42), (1, zI (2)), (2, zI n), (3, zI (2)), (4, zI x), (5, zI e)] 0 0 zSH f Q := by
  have hl : f 42 3 + ((11 :: [] : List Int).length : Int) ≤ 10000 := hlen
  simp only [List.length_cons, List.length_append, List.length_nil] at hl
  have hQ1 : Q (some (zI (zxor x n))) zSH (znts 42 3 44 f (11 :: [])) := hQ
  have hQ2 : Q (some (zI (zxor x n))) zSH (znts 42 3 44 (znt 42 3 44 f 11) ([])) := hQ1
  have hr : znt 42 3 44 f 11 42 3 = f 42 3 + 1 := znt_r
  have hk1 : znt 42 3 44 f 11 43 n.toNat = (own : Int) := (znt_o (by decide) (Or.inl (by decide))).trans hk
  refine rc22_26_0 (d := d + fu) ?_
  repeat' (refine zov_p (by omega) ?_)
  rw [if_pos (by omega)]
  refine zix_p (by omega) ?_
  refine zit (fun h24 => ?_) (fun h24 => ?_)
  · refine zix_p (by omega) (zov_p (by omega) ?_)
    rw [znt_1 h24]
    generalize znt 42 3 44 f 11 = F at *
    exact hQ2
  · refine zov_p (by omega) ?_
    rw [znt_2 (t := 44) (v := 11) h24]
    generalize znt 42 3 44 f 11 = F at *
    exact hQ2
theorem rrs_2_2 {sc : zC} {d fu own : Nat} {n : Int} (ho : own < 8) (ih : ∀ (k a : Nat) (x : Int) (f : zF) (Q : zQ), k < 8 → a < 4 → f 50 44 = (own : Int) → f 50 45 = n → zfin own fu k a = true → 0 ≤ f 50 43 → f 50 43 + ((zlst own fu k a).length : Int) ≤ 10000 → Q (some (zI (zval own n fu k a x))) zSH (znts 50 43 73 f (zlst own fu k a)) → zR sc (d + fu) (248 + a) 0 [] [(0, zP 50), (1, zI (k : Int)), (2, zI x)] 0 0 zSH f Q) {x : Int} {f : zF} {Q : zQ} (hk : f 50 44 = (own : Int)) (hn : f 50 45 = n) (hfin : zfin own (fu + 1) 2 2 = true) (h0 : 0 ≤ f 50 43) (hlen : f 50 43 + ((zlst own (fu + 1) 2 2).length : Int) ≤ 10000) (hQ : Q (some (zI (zval own n (fu + 1) 2 2 x))) zSH (znts 50 43 73 f (zlst own (fu + 1) 2 2))) : zR sc (d + fu + 1) 250 0 [] [(0, zP 50), (1, zI (2)), (2, zI x)] 0 0 zSH f Q := by
  have hl : f 50 43 + ((11 :: [] : List Int).length : Int) ≤ 10000 := hlen
  simp only [List.length_cons, List.length_append, List.length_nil] at hl
  have hQ1 : Q (some (zI (zxor x n))) zSH (znts 50 43 73 f (11 :: [])) := hQ
  have hQ2 : Q (some (zI (zxor x n))) zSH (znts 50 43 73 (znt 50 43 73 f 11) ([])) := hQ1
  have hr : znt 50 43 73 f 11 50 43 = f 50 43 + 1 := znt_r
  have hk1 : znt 50 43 73 f 11 50 44 = (own : Int) := (znt_o (by decide) (Or.inr (by decide))).trans hk
  have hn1 : znt 50 43 73 f 11 50 45 = n := (znt_o (by decide) (Or.inr (by decide))).trans hn
  refine rr22_250_0 (d := d + fu) ?_
  try rw [hn]
  refine zit (fun h24 => ?_) (fun h24 => ?_)
  · refine zix_p (by omega) (zov_p (by omega) ?_)
    rw [znt_1 h24]
    generalize znt 50 43 73 f 11 = F at *
    exact hQ2
  · refine zov_p (by omega) ?_
    rw [znt_2 (t := 73) (v := 11) h24]
    generalize znt 50 43 73 f 11 = F at *
    exact hQ2
theorem rcs_2_3 {sc : zC} {d fu own : Nat} {n : Int} (ho : own < 8) (hb : 0 ≤ n ∧ n < 50) (ih : ∀ (k a : Nat) (x : Int) (f : zF) (e : Int) (Q : zQ), k < 8 → a < 4 → f 43 n.toNat = (own : Int) → zfin own fu k a = true → 0 ≤ f 42 3 → f 42 3 + ((zlst own fu k a).length : Int) ≤ 10000 → 0 ≤ e → e + (fu : Int) ≤ 40 → Q (some (zI (zval own n fu k a x))) zSH (znts 42 3 44 f (zlst own fu k a)) → zR sc (d + fu) 26 0 [] [(0, zP 42), (1, zI (k : Int)), (2, zI n), (3, zI (a : Int)), (4, zI x), (5, zI e)] 0 0 zSH f Q) {x : Int} {f : zF} {e : Int} {Q : zQ} (hk : f 43 n.toNat = (own : Int)) (hfin : zfin own (fu + 1) 2 3 = true) (h0 : 0 ≤ f 42 3) (hlen : f 42 3 + ((zlst own (fu + 1) 2 3).length : Int) ≤ 10000) (he : 0 ≤ e) (hd : e + ((fu + 1 : Nat) : Int) ≤ 40) (hQ : Q (some (zI (zval own n (fu + 1) 2 3 x))) zSH (znts 42 3 44 f (zlst own (fu + 1) 2 3))) : zR sc (d + fu + 1) 26 0 [] [(0, zP 42), (1, zI (2)), (2, zI n), (3, zI (3)), (4, zI x), (5, zI e)] 0 0 zSH f Q := by
  have hf : (zfin own fu own 1 && zfin own fu own 2) = true := hfin
  rw [Bool.and_eq_true] at hf
  have hl : f 42 3 + ((2 :: (zlst own fu own 1 ++ zlst own fu own 2) : List Int).length : Int) ≤ 10000 := hlen
  simp only [List.length_cons, List.length_append, List.length_nil] at hl
  have hQ1 : Q (some (zI (w32 ((zval own n fu own 1 x) - (zval own n fu own 2 1))))) zSH (znts 42 3 44 f (2 :: (zlst own fu own 1 ++ zlst own fu own 2))) := hQ
  have hQ2 : Q (some (zI (w32 ((zval own n fu own 1 x) - (zval own n fu own 2 1))))) zSH (znts 42 3 44 (znt 42 3 44 f 2) ((zlst own fu own 1 ++ zlst own fu own 2))) := hQ1
  rw [znts_a] at hQ2
  have hr : znt 42 3 44 f 2 42 3 = f 42 3 + 1 := znt_r
  have hk1 : znt 42 3 44 f 2 43 n.toNat = (own : Int) := (znt_o (by decide) (Or.inl (by decide))).trans hk
  refine rc23_26_0 (d := d + fu) ?_
  rw [w32_in (z := e + 1) (by omega)]
  repeat' (refine zov_p (by omega) ?_)
  rw [if_pos (by omega)]
  refine zix_p (by omega) ?_
  refine zit (fun h24 => ?_) (fun h24 => ?_)
  · refine zix_p (by omega) (zov_p (by omega) ?_)
    rw [znt_1 h24]
    generalize znt 42 3 44 f 2 = F at *
    try rw [hk]
    refine zcallE (ih own 1 x F (e + 1) _ (by omega) (by omega) hk1 hf.1 (by omega) (by omega) (by omega) (by omega) ⟨rfl, rfl⟩) ?_
    have hr2 : (znts 42 3 44 F (zlst own fu own 1)) 42 3 = F 42 3 + ((zlst own fu own 1).length : Int) := znts_r
    have hk2 : (znts 42 3 44 F (zlst own fu own 1)) 43 n.toNat = (own : Int) := (znts_o (by decide) (Or.inl (by decide))).trans hk1
    refine zcallE (ih own 2 1 (znts 42 3 44 F (zlst own fu own 1)) (e + 1) _ (by omega) (by omega) hk2 hf.2 (by omega) (by omega) (by omega) (by omega) ⟨rfl, rfl⟩) ?_
    exact hQ2
  · refine zov_p (by omega) ?_
    rw [znt_2 (t := 44) (v := 2) h24]
    generalize znt 42 3 44 f 2 = F at *
    try rw [hk]
    refine zcallE (ih own 1 x F (e + 1) _ (by omega) (by omega) hk1 hf.1 (by omega) (by omega) (by omega) (by omega) ⟨rfl, rfl⟩) ?_
    have hr2 : (znts 42 3 44 F (zlst own fu own 1)) 42 3 = F 42 3 + ((zlst own fu own 1).length : Int) := znts_r
    have hk2 : (znts 42 3 44 F (zlst own fu own 1)) 43 n.toNat = (own : Int) := (znts_o (by decide) (Or.inl (by decide))).trans hk1
    refine zcallE (ih own 2 1 (znts 42 3 44 F (zlst own fu own 1)) (e + 1) _ (by omega) (by omega) hk2 hf.2 (by omega) (by omega) (by omega) (by omega) ⟨rfl, rfl⟩) ?_
    exact hQ2
theorem rrs_2_3 {sc : zC} {d fu own : Nat} {n : Int} (ho : own < 8) (ih : ∀ (k a : Nat) (x : Int) (f : zF) (Q : zQ), k < 8 → a < 4 → f 50 44 = (own : Int) → f 50 45 = n → zfin own fu k a = true → 0 ≤ f 50 43 → f 50 43 + ((zlst own fu k a).length : Int) ≤ 10000 → Q (some (zI (zval own n fu k a x))) zSH (znts 50 43 73 f (zlst own fu k a)) → zR sc (d + fu) (248 + a) 0 [] [(0, zP 50), (1, zI (k : Int)), (2, zI x)] 0 0 zSH f Q) {x : Int} {f : zF} {Q : zQ} (hk : f 50 44 = (own : Int)) (hn : f 50 45 = n) (hfin : zfin own (fu + 1) 2 3 = true) (h0 : 0 ≤ f 50 43) (hlen : f 50 43 + ((zlst own (fu + 1) 2 3).length : Int) ≤ 10000) (hQ : Q (some (zI (zval own n (fu + 1) 2 3 x))) zSH (znts 50 43 73 f (zlst own (fu + 1) 2 3))) : zR sc (d + fu + 1) 251 0 [] [(0, zP 50), (1, zI (2)), (2, zI x)] 0 0 zSH f Q := by
  have hf : (zfin own fu own 1 && zfin own fu own 2) = true := hfin
  rw [Bool.and_eq_true] at hf
  have hl : f 50 43 + ((2 :: (zlst own fu own 1 ++ zlst own fu own 2) : List Int).length : Int) ≤ 10000 := hlen
  simp only [List.length_cons, List.length_append, List.length_nil] at hl
  have hQ1 : Q (some (zI (w32 ((zval own n fu own 1 x) - (zval own n fu own 2 1))))) zSH (znts 50 43 73 f (2 :: (zlst own fu own 1 ++ zlst own fu own 2))) := hQ
  have hQ2 : Q (some (zI (w32 ((zval own n fu own 1 x) - (zval own n fu own 2 1))))) zSH (znts 50 43 73 (znt 50 43 73 f 2) ((zlst own fu own 1 ++ zlst own fu own 2))) := hQ1
  rw [znts_a] at hQ2
  have hr : znt 50 43 73 f 2 50 43 = f 50 43 + 1 := znt_r
  have hk1 : znt 50 43 73 f 2 50 44 = (own : Int) := (znt_o (by decide) (Or.inr (by decide))).trans hk
  have hn1 : znt 50 43 73 f 2 50 45 = n := (znt_o (by decide) (Or.inr (by decide))).trans hn
  refine rr23_251_0 (d := d + fu) ?_
  try rw [hn]
  refine zit (fun h24 => ?_) (fun h24 => ?_)
  · refine zix_p (by omega) (zov_p (by omega) ?_)
    rw [znt_1 h24]
    generalize znt 50 43 73 f 2 = F at *
    try rw [hk]
    refine zcallE (ih own 1 x F _ (by omega) (by omega) hk1 hn1 hf.1 (by omega) (by omega) ⟨rfl, rfl⟩) ?_
    have hr2 : (znts 50 43 73 F (zlst own fu own 1)) 50 43 = F 50 43 + ((zlst own fu own 1).length : Int) := znts_r
    have hk2 : (znts 50 43 73 F (zlst own fu own 1)) 50 44 = (own : Int) := (znts_o (by decide) (Or.inr (by decide))).trans hk1
    have hn2 : (znts 50 43 73 F (zlst own fu own 1)) 50 45 = n := (znts_o (by decide) (Or.inr (by decide))).trans hn1
    rw [show (znts 50 43 73 F (zlst own fu own 1)) 50 44 = (own : Int) from hk2]
    refine zcallE (ih own 2 1 (znts 50 43 73 F (zlst own fu own 1)) _ (by omega) (by omega) hk2 hn2 hf.2 (by omega) (by omega) ⟨rfl, rfl⟩) ?_
    exact hQ2
  · refine zov_p (by omega) ?_
    rw [znt_2 (t := 73) (v := 2) h24]
    generalize znt 50 43 73 f 2 = F at *
    try rw [hk]
    refine zcallE (ih own 1 x F _ (by omega) (by omega) hk1 hn1 hf.1 (by omega) (by omega) ⟨rfl, rfl⟩) ?_
    have hr2 : (znts 50 43 73 F (zlst own fu own 1)) 50 43 = F 50 43 + ((zlst own fu own 1).length : Int) := znts_r
    have hk2 : (znts 50 43 73 F (zlst own fu own 1)) 50 44 = (own : Int) := (znts_o (by decide) (Or.inr (by decide))).trans hk1
    have hn2 : (znts 50 43 73 F (zlst own fu own 1)) 50 45 = n := (znts_o (by decide) (Or.inr (by decide))).trans hn1
    rw [show (znts 50 43 73 F (zlst own fu own 1)) 50 44 = (own : Int) from hk2]
    refine zcallE (ih own 2 1 (znts 50 43 73 F (zlst own fu own 1)) _ (by omega) (by omega) hk2 hn2 hf.2 (by omega) (by omega) ⟨rfl, rfl⟩) ?_
    exact hQ2
theorem rcs_3_0 {sc : zC} {d fu own : Nat} {n : Int} (ho : own < 8) (hb : 0 ≤ n ∧ n < 50) (ih : ∀ (k a : Nat) (x : Int) (f : zF) (e : Int) (Q : zQ), k < 8 → a < 4 → f 43 n.toNat = (own : Int) → zfin own fu k a = true → 0 ≤ f 42 3 → f 42 3 + ((zlst own fu k a).length : Int) ≤ 10000 → 0 ≤ e → e + (fu : Int) ≤ 40 → Q (some (zI (zval own n fu k a x))) zSH (znts 42 3 44 f (zlst own fu k a)) → zR sc (d + fu) 26 0 [] [(0, zP 42), (1, zI (k : Int)), (2, zI n), (3, zI (a : Int)), (4, zI x), (5, zI e)] 0 0 zSH f Q) {x : Int} {f : zF} {e : Int} {Q : zQ} (hk : f 43 n.toNat = (own : Int)) (hfin : zfin own (fu + 1) 3 0 = true) (h0 : 0 ≤ f 42 3) (hlen : f 42 3 + ((zlst own (fu + 1) 3 0).length : Int) ≤ 10000) (he : 0 ≤ e) (hd : e + ((fu + 1 : Nat) : Int) ≤ 40) (hQ : Q (some (zI (zval own n (fu + 1) 3 0 x))) zSH (znts 42 3 44 f (zlst own (fu + 1) 3 0))) : zR sc (d + fu + 1) 26 0 [] [(0, zP 42), (1, zI (3)), (2, zI n), (3, zI (0)), (4, zI x), (5, zI e)] 0 0 zSH f Q := by
  have hl : f 42 3 + ((1 :: [] : List Int).length : Int) ≤ 10000 := hlen
  simp only [List.length_cons, List.length_append, List.length_nil] at hl
  have hQ1 : Q (some (zI (w32 (x + n)))) zSH (znts 42 3 44 f (1 :: [])) := hQ
  have hQ2 : Q (some (zI (w32 (x + n)))) zSH (znts 42 3 44 (znt 42 3 44 f 1) ([])) := hQ1
  have hr : znt 42 3 44 f 1 42 3 = f 42 3 + 1 := znt_r
  have hk1 : znt 42 3 44 f 1 43 n.toNat = (own : Int) := (znt_o (by decide) (Or.inl (by decide))).trans hk
  refine rc30_26_0 (d := d + fu) ?_
  repeat' (refine zov_p (by omega) ?_)
  rw [if_pos (by omega)]
  refine zix_p (by omega) ?_
  refine zit (fun h24 => ?_) (fun h24 => ?_)
  · refine zix_p (by omega) (zov_p (by omega) ?_)
    rw [znt_1 h24]
    generalize znt 42 3 44 f 1 = F at *
    exact hQ2
  · refine zov_p (by omega) ?_
    rw [znt_2 (t := 44) (v := 1) h24]
    generalize znt 42 3 44 f 1 = F at *
    exact hQ2
theorem rrs_3_0 {sc : zC} {d fu own : Nat} {n : Int} (ho : own < 8) (ih : ∀ (k a : Nat) (x : Int) (f : zF) (Q : zQ), k < 8 → a < 4 → f 50 44 = (own : Int) → f 50 45 = n → zfin own fu k a = true → 0 ≤ f 50 43 → f 50 43 + ((zlst own fu k a).length : Int) ≤ 10000 → Q (some (zI (zval own n fu k a x))) zSH (znts 50 43 73 f (zlst own fu k a)) → zR sc (d + fu) (248 + a) 0 [] [(0, zP 50), (1, zI (k : Int)), (2, zI x)] 0 0 zSH f Q) {x : Int} {f : zF} {Q : zQ} (hk : f 50 44 = (own : Int)) (hn : f 50 45 = n) (hfin : zfin own (fu + 1) 3 0 = true) (h0 : 0 ≤ f 50 43) (hlen : f 50 43 + ((zlst own (fu + 1) 3 0).length : Int) ≤ 10000) (hQ : Q (some (zI (zval own n (fu + 1) 3 0 x))) zSH (znts 50 43 73 f (zlst own (fu + 1) 3 0))) : zR sc (d + fu + 1) 248 0 [] [(0, zP 50), (1, zI (3)), (2, zI x)] 0 0 zSH f Q := by
  have hl : f 50 43 + ((1 :: [] : List Int).length : Int) ≤ 10000 := hlen
  simp only [List.length_cons, List.length_append, List.length_nil] at hl
  have hQ1 : Q (some (zI (w32 (x + n)))) zSH (znts 50 43 73 f (1 :: [])) := hQ
  have hQ2 : Q (some (zI (w32 (x + n)))) zSH (znts 50 43 73 (znt 50 43 73 f 1) ([])) := hQ1
  have hr : znt 50 43 73 f 1 50 43 = f 50 43 + 1 := znt_r
  have hk1 : znt 50 43 73 f 1 50 44 = (own : Int) := (znt_o (by decide) (Or.inr (by decide))).trans hk
  have hn1 : znt 50 43 73 f 1 50 45 = n := (znt_o (by decide) (Or.inr (by decide))).trans hn
  refine rr30_248_0 (d := d + fu) ?_
  try rw [hn]
  refine zit (fun h24 => ?_) (fun h24 => ?_)
  · refine zix_p (by omega) (zov_p (by omega) ?_)
    rw [znt_1 h24]
    generalize znt 50 43 73 f 1 = F at *
    exact hQ2
  · refine zov_p (by omega) ?_
    rw [znt_2 (t := 73) (v := 1) h24]
    generalize znt 50 43 73 f 1 = F at *
    exact hQ2
theorem rcs_3_1 {sc : zC} {d fu own : Nat} {n : Int} (ho : own < 8) (hb : 0 ≤ n ∧ n < 50) (ih : ∀ (k a : Nat) (x : Int) (f : zF) (e : Int) (Q : zQ), k < 8 → a < 4 → f 43 n.toNat = (own : Int) → zfin own fu k a = true → 0 ≤ f 42 3 → f 42 3 + ((zlst own fu k a).length : Int) ≤ 10000 → 0 ≤ e → e + (fu : Int) ≤ 40 → Q (some (zI (zval own n fu k a x))) zSH (znts 42 3 44 f (zlst own fu k a)) → zR sc (d + fu) 26 0 [] [(0, zP 42), (1, zI (k : Int)), (2, zI n), (3, zI (a : Int)), (4, zI x), (5, zI e)] 0 0 zSH f Q) {x : Int} {f : zF} {e : Int} {Q : zQ} (hk : f 43 n.toNat = (own : Int)) (hfin : zfin own (fu + 1) 3 1 = true) (h0 : 0 ≤ f 42 3) (hlen : f 42 3 + ((zlst own (fu + 1) 3 1).length : Int) ≤ 10000) (he : 0 ≤ e) (hd : e + ((fu + 1 : Nat) : Int) ≤ 40) (hQ : Q (some (zI (zval own n (fu + 1) 3 1 x))) zSH (znts 42 3 44 f (zlst own (fu + 1) 3 1))) : zR sc (d + fu + 1) 26 0 [] [(0, zP 42), (1, zI (3)), (2, zI n), (3, zI (1)), (4, zI x), (5, zI e)] 0 0 zSH f Q := by
  have hf : zfin own fu 2 1 = true := hfin
  have hl : f 42 3 + ((41 :: zlst own fu 2 1 : List Int).length : Int) ≤ 10000 := hlen
  simp only [List.length_cons, List.length_append, List.length_nil] at hl
  have hQ1 : Q (some (zI ((zval own n fu 2 1 (w32 (x + 1)))))) zSH (znts 42 3 44 f (41 :: zlst own fu 2 1)) := hQ
  have hQ2 : Q (some (zI ((zval own n fu 2 1 (w32 (x + 1)))))) zSH (znts 42 3 44 (znt 42 3 44 f 41) (zlst own fu 2 1)) := hQ1
  have hr : znt 42 3 44 f 41 42 3 = f 42 3 + 1 := znt_r
  have hk1 : znt 42 3 44 f 41 43 n.toNat = (own : Int) := (znt_o (by decide) (Or.inl (by decide))).trans hk
  refine rc31_26_0 (d := d + fu) ?_
  rw [w32_in (z := e + 1) (by omega)]
  repeat' (refine zov_p (by omega) ?_)
  rw [if_pos (by omega)]
  refine zix_p (by omega) ?_
  refine zit (fun h24 => ?_) (fun h24 => ?_)
  · refine zix_p (by omega) (zov_p (by omega) ?_)
    rw [znt_1 h24]
    generalize znt 42 3 44 f 41 = F at *
    try rw [hk]
    refine zcallE (ih 2 1 (w32 (x + 1)) F (e + 1) _ (by omega) (by omega) hk1 hf (by omega) (by omega) (by omega) (by omega) ⟨rfl, rfl⟩) ?_
    exact hQ2
  · refine zov_p (by omega) ?_
    rw [znt_2 (t := 44) (v := 41) h24]
    generalize znt 42 3 44 f 41 = F at *
    try rw [hk]
    refine zcallE (ih 2 1 (w32 (x + 1)) F (e + 1) _ (by omega) (by omega) hk1 hf (by omega) (by omega) (by omega) (by omega) ⟨rfl, rfl⟩) ?_
    exact hQ2
theorem rrs_3_1 {sc : zC} {d fu own : Nat} {n : Int} (ho : own < 8) (ih : ∀ (k a : Nat) (x : Int) (f : zF) (Q : zQ), k < 8 → a < 4 → f 50 44 = (own : Int) → f 50 45 = n → zfin own fu k a = true → 0 ≤ f 50 43 → f 50 43 + ((zlst own fu k a).length : Int) ≤ 10000 → Q (some (zI (zval own n fu k a x))) zSH (znts 50 43 73 f (zlst own fu k a)) → zR sc (d + fu) (248 + a) 0 [] [(0, zP 50), (1, zI (k : Int)), (2, zI x)] 0 0 zSH f Q) {x : Int} {f : zF} {Q : zQ} (hk : f 50 44 = (own : Int)) (hn : f 50 45 = n) (hfin : zfin own (fu + 1) 3 1 = true) (h0 : 0 ≤ f 50 43) (hlen : f 50 43 + ((zlst own (fu + 1) 3 1).length : Int) ≤ 10000) (hQ : Q (some (zI (zval own n (fu + 1) 3 1 x))) zSH (znts 50 43 73 f (zlst own (fu + 1) 3 1))) : zR sc (d + fu + 1) 249 0 [] [(0, zP 50), (1, zI (3)), (2, zI x)] 0 0 zSH f Q := by
  have hf : zfin own fu 2 1 = true := hfin
  have hl : f 50 43 + ((41 :: zlst own fu 2 1 : List Int).length : Int) ≤ 10000 := hlen
  simp only [List.length_cons, List.length_append, List.length_nil] at hl
  have hQ1 : Q (some (zI ((zval own n fu 2 1 (w32 (x + 1)))))) zSH (znts 50 43 73 f (41 :: zlst own fu 2 1)) := hQ
  have hQ2 : Q (some (zI ((zval own n fu 2 1 (w32 (x + 1)))))) zSH (znts 50 43 73 (znt 50 43 73 f 41) (zlst own fu 2 1)) := hQ1
  have hr : znt 50 43 73 f 41 50 43 = f 50 43 + 1 := znt_r
  have hk1 : znt 50 43 73 f 41 50 44 = (own : Int) := (znt_o (by decide) (Or.inr (by decide))).trans hk
  have hn1 : znt 50 43 73 f 41 50 45 = n := (znt_o (by decide) (Or.inr (by decide))).trans hn
  refine rr31_249_0 (d := d + fu) ?_
  try rw [hn]
  refine zit (fun h24 => ?_) (fun h24 => ?_)
  · refine zix_p (by omega) (zov_p (by omega) ?_)
    rw [znt_1 h24]
    generalize znt 50 43 73 f 41 = F at *
    try rw [hk]
    refine zcallE (ih 2 1 (w32 (x + 1)) F _ (by omega) (by omega) hk1 hn1 hf (by omega) (by omega) ⟨rfl, rfl⟩) ?_
    exact hQ2
  · refine zov_p (by omega) ?_
    rw [znt_2 (t := 73) (v := 41) h24]
    generalize znt 50 43 73 f 41 = F at *
    try rw [hk]
    refine zcallE (ih 2 1 (w32 (x + 1)) F _ (by omega) (by omega) hk1 hn1 hf (by omega) (by omega) ⟨rfl, rfl⟩) ?_
    exact hQ2
theorem rcs_3_2 {sc : zC} {d fu own : Nat} {n : Int} (ho : own < 8) (hb : 0 ≤ n ∧ n < 50) (ih : ∀ (k a : Nat) (x : Int) (f : zF) (e : Int) (Q : zQ), k < 8 → a < 4 → f 43 n.toNat = (own : Int) → zfin own fu k a = true → 0 ≤ f 42 3 → f 42 3 + ((zlst own fu k a).length : Int) ≤ 10000 → 0 ≤ e → e + (fu : Int) ≤ 40 → Q (some (zI (zval own n fu k a x))) zSH (znts 42 3 44 f (zlst own fu k a)) → zR sc (d + fu) 26 0 [] [(0, zP 42), (1, zI (k : Int)), (2, zI n), (3, zI (a : Int)), (4, zI x), (5, zI e)] 0 0 zSH f Q) {x : Int} {f : zF} {e : Int} {Q : zQ} (hk : f 43 n.toNat = (own : Int)) (hfin : zfin own (fu + 1) 3 2 = true) (h0 : 0 ≤ f 42 3) (hlen : f 42 3 + ((zlst own (fu + 1) 3 2).length : Int) ≤ 10000) (he : 0 ≤ e) (hd : e + ((fu + 1 : Nat) : Int) ≤ 40) (hQ : Q (some (zI (zval own n (fu + 1) 3 2 x))) zSH (znts 42 3 44 f (zlst own (fu + 1) 3 2))) : zR sc (d + fu + 1) 26 0 [] [(0, zP 42), (1, zI (3)), (2, zI n), (3, zI (2)), (4, zI x), (5, zI e)] 0 0 zSH f Q := by
  have hf : zfin own fu 2 2 = true := hfin
  have hl : f 42 3 + ((40 :: zlst own fu 2 2 : List Int).length : Int) ≤ 10000 := hlen
  simp only [List.length_cons, List.length_append, List.length_nil] at hl
  have hQ1 : Q (some (zI (w32 ((zval own n fu 2 2 x) * 3)))) zSH (znts 42 3 44 f (40 :: zlst own fu 2 2)) := hQ
  have hQ2 : Q (some (zI (w32 ((zval own n fu 2 2 x) * 3)))) zSH (znts 42 3 44 (znt 42 3 44 f 40) (zlst own fu 2 2)) := hQ1
  have hr : znt 42 3 44 f 40 42 3 = f 42 3 + 1 := znt_r
  have hk1 : znt 42 3 44 f 40 43 n.toNat = (own : Int) := (znt_o (by decide) (Or.inl (by decide))).trans hk
  refine rc32_26_0 (d := d + fu) ?_
  rw [w32_in (z := e + 1) (by omega)]
  repeat' (refine zov_p (by omega) ?_)
  rw [if_pos (by omega)]
  refine zix_p (by omega) ?_
  refine zit (fun h24 => ?_) (fun h24 => ?_)
  · refine zix_p (by omega) (zov_p (by omega) ?_)
    rw [znt_1 h24]
    generalize znt 42 3 44 f 40 = F at *
    try rw [hk]
    refine zcallE (ih 2 2 x F (e + 1) _ (by omega) (by omega) hk1 hf (by omega) (by omega) (by omega) (by omega) ⟨rfl, rfl⟩) ?_
    exact hQ2
  · refine zov_p (by omega) ?_
    rw [znt_2 (t := 44) (v := 40) h24]
    generalize znt 42 3 44 f 40 = F at *
    try rw [hk]
    refine zcallE (ih 2 2 x F (e + 1) _ (by omega) (by omega) hk1 hf (by omega) (by omega) (by omega) (by omega) ⟨rfl, rfl⟩) ?_
    exact hQ2
theorem rrs_3_2 {sc : zC} {d fu own : Nat} {n : Int} (ho : own < 8) (ih : ∀ (k a : Nat) (x : Int) (f : zF) (Q : zQ), k < 8 → a < 4 → f 50 44 = (own : Int) → f 50 45 = n → zfin own fu k a = true → 0 ≤ f 50 43 → f 50 43 + ((zlst own fu k a).length : Int) ≤ 10000 → Q (some (zI (zval own n fu k a x))) zSH (znts 50 43 73 f (zlst own fu k a)) → zR sc (d + fu) (248 + a) 0 [] [(0, zP 50), (1, zI (k : Int)), (2, zI x)] 0 0 zSH f Q) {x : Int} {f : zF} {Q : zQ} (hk : f 50 44 = (own : Int)) (hn : f 50 45 = n) (hfin : zfin own (fu + 1) 3 2 = true) (h0 : 0 ≤ f 50 43) (hlen : f 50 43 + ((zlst own (fu + 1) 3 2).length : Int) ≤ 10000) (hQ : Q (some (zI (zval own n (fu + 1) 3 2 x))) zSH (znts 50 43 73 f (zlst own (fu + 1) 3 2))) : zR sc (d + fu + 1) 250 0 [] [(0, zP 50), (1, zI (3)), (2, zI x)] 0 0 zSH f Q := by
  have hf : zfin own fu 2 2 = true := hfin
  have hl : f 50 43 + ((40 :: zlst own fu 2 2 : List Int).length : Int) ≤ 10000 := hlen
  simp only [List.length_cons, List.length_append, List.length_nil] at hl
  have hQ1 : Q (some (zI (w32 ((zval own n fu 2 2 x) * 3)))) zSH (znts 50 43 73 f (40 :: zlst own fu 2 2)) := hQ
  have hQ2 : Q (some (zI (w32 ((zval own n fu 2 2 x) * 3)))) zSH (znts 50 43 73 (znt 50 43 73 f 40) (zlst own fu 2 2)) := hQ1
  have hr : znt 50 43 73 f 40 50 43 = f 50 43 + 1 := znt_r
  have hk1 : znt 50 43 73 f 40 50 44 = (own : Int) := (znt_o (by decide) (Or.inr (by decide))).trans hk
  have hn1 : znt 50 43 73 f 40 50 45 = n := (znt_o (by decide) (Or.inr (by decide))).trans hn
  refine rr32_250_0 (d := d + fu) ?_
  try rw [hn]
  refine zit (fun h24 => ?_) (fun h24 => ?_)
  · refine zix_p (by omega) (zov_p (by omega) ?_)
    rw [znt_1 h24]
    generalize znt 50 43 73 f 40 = F at *
    try rw [hk]
    refine zcallE (ih 2 2 x F _ (by omega) (by omega) hk1 hn1 hf (by omega) (by omega) ⟨rfl, rfl⟩) ?_
    exact hQ2
  · refine zov_p (by omega) ?_
    rw [znt_2 (t := 73) (v := 40) h24]
    generalize znt 50 43 73 f 40 = F at *
    try rw [hk]
    refine zcallE (ih 2 2 x F _ (by omega) (by omega) hk1 hn1 hf (by omega) (by omega) ⟨rfl, rfl⟩) ?_
    exact hQ2
theorem rcs_3_3 {sc : zC} {d fu own : Nat} {n : Int} (ho : own < 8) (hb : 0 ≤ n ∧ n < 50) (ih : ∀ (k a : Nat) (x : Int) (f : zF) (e : Int) (Q : zQ), k < 8 → a < 4 → f 43 n.toNat = (own : Int) → zfin own fu k a = true → 0 ≤ f 42 3 → f 42 3 + ((zlst own fu k a).length : Int) ≤ 10000 → 0 ≤ e → e + (fu : Int) ≤ 40 → Q (some (zI (zval own n fu k a x))) zSH (znts 42 3 44 f (zlst own fu k a)) → zR sc (d + fu) 26 0 [] [(0, zP 42), (1, zI (k : Int)), (2, zI n), (3, zI (a : Int)), (4, zI x), (5, zI e)] 0 0 zSH f Q) {x : Int} {f : zF} {e : Int} {Q : zQ} (hk : f 43 n.toNat = (own : Int)) (hfin : zfin own (fu + 1) 3 3 = true) (h0 : 0 ≤ f 42 3) (hlen : f 42 3 + ((zlst own (fu + 1) 3 3).length : Int) ≤ 10000) (he : 0 ≤ e) (hd : e + ((fu + 1 : Nat) : Int) ≤ 40) (hQ : Q (some (zI (zval own n (fu + 1) 3 3 x))) zSH (znts 42 3 44 f (zlst own (fu + 1) 3 3))) : zR sc (d + fu + 1) 26 0 [] [(0, zP 42), (1, zI (3)), (2, zI n), (3, zI (3)), (4, zI x), (5, zI e)] 0 0 zSH f Q := by
  have hf : (zfin own fu own 1 && zfin own fu own 2) = true := hfin
  rw [Bool.and_eq_true] at hf
  have hl : f 42 3 + ((2 :: (zlst own fu own 1 ++ zlst own fu own 2) : List Int).length : Int) ≤ 10000 := hlen
  simp only [List.length_cons, List.length_append, List.length_nil] at hl
  have hQ1 : Q (some (zI (w32 ((zval own n fu own 1 x) - (zval own n fu own 2 1))))) zSH (znts 42 3 44 f (2 :: (zlst own fu own 1 ++ zlst own fu own 2))) := hQ
  have hQ2 : Q (some (zI (w32 ((zval own n fu own 1 x) - (zval own n fu own 2 1))))) zSH (znts 42 3 44 (znt 42 3 44 f 2) ((zlst own fu own 1 ++ zlst own fu own 2))) := hQ1
  rw [znts_a] at hQ2
  have hr : znt 42 3 44 f 2 42 3 = f 42 3 + 1 := znt_r
  have hk1 : znt 42 3 44 f 2 43 n.toNat = (own : Int) := (znt_o (by decide) (Or.inl (by decide))).trans hk
  refine rc33_26_0 (d := d + fu) ?_
  rw [w32_in (z := e + 1) (by omega)]
  repeat' (refine zov_p (by omega) ?_)
  rw [if_pos (by omega)]
  refine zix_p (by omega) ?_
  refine zit (fun h24 => ?_) (fun h24 => ?_)
  · refine zix_p (by omega) (zov_p (by omega) ?_)
    rw [znt_1 h24]
    generalize znt 42 3 44 f 2 = F at *
    try rw [hk]
    refine zcallE (ih own 1 x F (e + 1) _ (by omega) (by omega) hk1 hf.1 (by omega) (by omega) (by omega) (by omega) ⟨rfl, rfl⟩) ?_
    have hr2 : (znts 42 3 44 F (zlst own fu own 1)) 42 3 = F 42 3 + ((zlst own fu own 1).length : Int) := znts_r
    have hk2 : (znts 42 3 44 F (zlst own fu own 1)) 43 n.toNat = (own : Int) := (znts_o (by decide) (Or.inl (by decide))).trans hk1
    refine zcallE (ih own 2 1 (znts 42 3 44 F (zlst own fu own 1)) (e + 1) _ (by omega) (by omega) hk2 hf.2 (by omega) (by omega) (by omega) (by omega) ⟨rfl, rfl⟩) ?_
    exact hQ2
  · refine zov_p (by omega) ?_
    rw [znt_2 (t := 44) (v := 2) h24]
    generalize znt 42 3 44 f 2 = F at *
    try rw [hk]
    refine zcallE (ih own 1 x F (e + 1) _ (by omega) (by omega) hk1 hf.1 (by omega) (by omega) (by omega) (by omega) ⟨rfl, rfl⟩) ?_
    have hr2 : (znts 42 3 44 F (zlst own fu own 1)) 42 3 = F 42 3 + ((zlst own fu own 1).length : Int) := znts_r
    have hk2 : (znts 42 3 44 F (zlst own fu own 1)) 43 n.toNat = (own : Int) := (znts_o (by decide) (Or.inl (by decide))).trans hk1
    refine zcallE (ih own 2 1 (znts 42 3 44 F (zlst own fu own 1)) (e + 1) _ (by omega) (by omega) hk2 hf.2 (by omega) (by omega) (by omega) (by omega) ⟨rfl, rfl⟩) ?_
    exact hQ2
theorem rrs_3_3 {sc : zC} {d fu own : Nat} {n : Int} (ho : own < 8) (ih : ∀ (k a : Nat) (x : Int) (f : zF) (Q : zQ), k < 8 → a < 4 → f 50 44 = (own : Int) → f 50 45 = n → zfin own fu k a = true → 0 ≤ f 50 43 → f 50 43 + ((zlst own fu k a).length : Int) ≤ 10000 → Q (some (zI (zval own n fu k a x))) zSH (znts 50 43 73 f (zlst own fu k a)) → zR sc (d + fu) (248 + a) 0 [] [(0, zP 50), (1, zI (k : Int)), (2, zI x)] 0 0 zSH f Q) {x : Int} {f : zF} {Q : zQ} (hk : f 50 44 = (own : Int)) (hn : f 50 45 = n) (hfin : zfin own (fu + 1) 3 3 = true) (h0 : 0 ≤ f 50 43) (hlen : f 50 43 + ((zlst own (fu + 1) 3 3).length : Int) ≤ 10000) (hQ : Q (some (zI (zval own n (fu + 1) 3 3 x))) zSH (znts 50 43 73 f (zlst own (fu + 1) 3 3))) : zR sc (d + fu + 1) 251 0 [] [(0, zP 50), (1, zI (3)), (2, zI x)] 0 0 zSH f Q := by
  have hf : (zfin own fu own 1 && zfin own fu own 2) = true := hfin
  rw [Bool.and_eq_true] at hf
  have hl : f 50 43 + ((2 :: (zlst own fu own 1 ++ zlst own fu own 2) : List Int).length : Int) ≤ 10000 := hlen
  simp only [List.length_cons, List.length_append, List.length_nil] at hl
  have hQ1 : Q (some (zI (w32 ((zval own n fu own 1 x) - (zval own n fu own 2 1))))) zSH (znts 50 43 73 f (2 :: (zlst own fu own 1 ++ zlst own fu own 2))) := hQ
  have hQ2 : Q (some (zI (w32 ((zval own n fu own 1 x) - (zval own n fu own 2 1))))) zSH (znts 50 43 73 (znt 50 43 73 f 2) ((zlst own fu own 1 ++ zlst own fu own 2))) := hQ1
  rw [znts_a] at hQ2
  have hr : znt 50 43 73 f 2 50 43 = f 50 43 + 1 := znt_r
  have hk1 : znt 50 43 73 f 2 50 44 = (own : Int) := (znt_o (by decide) (Or.inr (by decide))).trans hk
  have hn1 : znt 50 43 73 f 2 50 45 = n := (znt_o (by decide) (Or.inr (by decide))).trans hn
  refine rr33_251_0 (d := d + fu) ?_
  try rw [hn]
  refine zit (fun h24 => ?_) (fun h24 => ?_)
  · refine zix_p (by omega) (zov_p (by omega) ?_)
    rw [znt_1 h24]
    generalize znt 50 43 73 f 2 = F at *
    try rw [hk]
    refine zcallE (ih own 1 x F _ (by omega) (by omega) hk1 hn1 hf.1 (by omega) (by omega) ⟨rfl, rfl⟩) ?_
    have hr2 : (znts 50 43 73 F (zlst own fu own 1)) 50 43 = F 50 43 + ((zlst own fu own 1).length : Int) := znts_r
    have hk2 : (znts 50 43 73 F (zlst own fu own 1)) 50 44 = (own : Int) := (znts_o (by decide) (Or.inr (by decide))).trans hk1
    have hn2 : (znts 50 43 73 F (zlst own fu own 1)) 50 45 = n := (znts_o (by decide) (Or.inr (by decide))).trans hn1
    rw [show (znts 50 43 73 F (zlst own fu own 1)) 50 44 = (own : Int) from hk2]
    refine zcallE (ih own 2 1 (znts 50 43 73 F (zlst own fu own 1)) _ (by omega) (by omega) hk2 hn2 hf.2 (by omega) (by omega) ⟨rfl, rfl⟩) ?_
    exact hQ2
  · refine zov_p (by omega) ?_
    rw [znt_2 (t := 73) (v := 2) h24]
    generalize znt 50 43 73 f 2 = F at *
    try rw [hk]
    refine zcallE (ih own 1 x F _ (by omega) (by omega) hk1 hn1 hf.1 (by omega) (by omega) ⟨rfl, rfl⟩) ?_
    have hr2 : (znts 50 43 73 F (zlst own fu own 1)) 50 43 = F 50 43 + ((zlst own fu own 1).length : Int) := znts_r
    have hk2 : (znts 50 43 73 F (zlst own fu own 1)) 50 44 = (own : Int) := (znts_o (by decide) (Or.inr (by decide))).trans hk1
    have hn2 : (znts 50 43 73 F (zlst own fu own 1)) 50 45 = n := (znts_o (by decide) (Or.inr (by decide))).trans hn1
    rw [show (znts 50 43 73 F (zlst own fu own 1)) 50 44 = (own : Int) from hk2]
    refine zcallE (ih own 2 1 (znts 50 43 73 F (zlst own fu own 1)) _ (by omega) (by omega) hk2 hn2 hf.2 (by omega) (by omega) ⟨rfl, rfl⟩) ?_
    exact hQ2
theorem rcs_4_0 {sc : zC} {d fu own : Nat} {n : Int} (ho : own < 8) (hb : 0 ≤ n ∧ n < 50) (ih : ∀ (k a : Nat) (x : Int) (f : zF) (e : Int) (Q : zQ), k < 8 → a < 4 → f 43 n.toNat = (own : Int) → zfin own fu k a = true → 0 ≤ f 42 3 → f 42 3 + ((zlst own fu k a).length : Int) ≤ 10000 → 0 ≤ e → e + (fu : Int) ≤ 40 → Q (some (zI (zval own n fu k a x))) zSH (znts 42 3 44 f (zlst own fu k a)) → zR sc (d + fu) 26 0 [] [(0, zP 42), (1, zI (k : Int)), (2, zI n), (3, zI (a : Int)), (4, zI x), (5, zI e)] 0 0 zSH f Q) {x : Int} {f : zF} {e : Int} {Q : zQ} (hk : f 43 n.toNat = (own : Int)) (hfin : zfin own (fu + 1) 4 0 = true) (h0 : 0 ≤ f 42 3) (hlen : f 42 3 + ((zlst own (fu + 1) 4 0).length : Int) ≤ 10000) (he : 0 ≤ e) (hd : e + ((fu + 1 : Nat) : Int) ≤ 40) (hQ : Q (some (zI (zval own n (fu + 1) 4 0 x))) zSH (znts 42 3 44 f (zlst own (fu + 1) 4 0))) : zR sc (d + fu + 1) 26 0 [] [(0, zP 42), (1, zI (4)), (2, zI n), (3, zI (0)), (4, zI x), (5, zI e)] 0 0 zSH f Q := by
  have hf : zfin own fu 0 0 = true := hfin
  have hl : f 42 3 + ((20 :: zlst own fu 0 0 : List Int).length : Int) ≤ 10000 := hlen
  simp only [List.length_cons, List.length_append, List.length_nil] at hl
  have hQ1 : Q (some (zI (w32 ((zval own n fu 0 0 x) + 3)))) zSH (znts 42 3 44 f (20 :: zlst own fu 0 0)) := hQ
  have hQ2 : Q (some (zI (w32 ((zval own n fu 0 0 x) + 3)))) zSH (znts 42 3 44 (znt 42 3 44 f 20) (zlst own fu 0 0)) := hQ1
  have hr : znt 42 3 44 f 20 42 3 = f 42 3 + 1 := znt_r
  have hk1 : znt 42 3 44 f 20 43 n.toNat = (own : Int) := (znt_o (by decide) (Or.inl (by decide))).trans hk
  refine rc40_26_0 (d := d + fu) ?_
  rw [w32_in (z := e + 1) (by omega)]
  repeat' (refine zov_p (by omega) ?_)
  rw [if_pos (by omega)]
  refine zix_p (by omega) ?_
  refine zit (fun h24 => ?_) (fun h24 => ?_)
  · refine zix_p (by omega) (zov_p (by omega) ?_)
    rw [znt_1 h24]
    generalize znt 42 3 44 f 20 = F at *
    try rw [hk]
    refine zcallE (ih 0 0 x F (e + 1) _ (by omega) (by omega) hk1 hf (by omega) (by omega) (by omega) (by omega) ⟨rfl, rfl⟩) ?_
    exact hQ2
  · refine zov_p (by omega) ?_
    rw [znt_2 (t := 44) (v := 20) h24]
    generalize znt 42 3 44 f 20 = F at *
    try rw [hk]
    refine zcallE (ih 0 0 x F (e + 1) _ (by omega) (by omega) hk1 hf (by omega) (by omega) (by omega) (by omega) ⟨rfl, rfl⟩) ?_
    exact hQ2
theorem rrs_4_0 {sc : zC} {d fu own : Nat} {n : Int} (ho : own < 8) (ih : ∀ (k a : Nat) (x : Int) (f : zF) (Q : zQ), k < 8 → a < 4 → f 50 44 = (own : Int) → f 50 45 = n → zfin own fu k a = true → 0 ≤ f 50 43 → f 50 43 + ((zlst own fu k a).length : Int) ≤ 10000 → Q (some (zI (zval own n fu k a x))) zSH (znts 50 43 73 f (zlst own fu k a)) → zR sc (d + fu) (248 + a) 0 [] [(0, zP 50), (1, zI (k : Int)), (2, zI x)] 0 0 zSH f Q) {x : Int} {f : zF} {Q : zQ} (hk : f 50 44 = (own : Int)) (hn : f 50 45 = n) (hfin : zfin own (fu + 1) 4 0 = true) (h0 : 0 ≤ f 50 43) (hlen : f 50 43 + ((zlst own (fu + 1) 4 0).length : Int) ≤ 10000) (hQ : Q (some (zI (zval own n (fu + 1) 4 0 x))) zSH (znts 50 43 73 f (zlst own (fu + 1) 4 0))) : zR sc (d + fu + 1) 248 0 [] [(0, zP 50), (1, zI (4)), (2, zI x)] 0 0 zSH f Q := by
  have hf : zfin own fu 0 0 = true := hfin
  have hl : f 50 43 + ((20 :: zlst own fu 0 0 : List Int).length : Int) ≤ 10000 := hlen
  simp only [List.length_cons, List.length_append, List.length_nil] at hl
  have hQ1 : Q (some (zI (w32 ((zval own n fu 0 0 x) + 3)))) zSH (znts 50 43 73 f (20 :: zlst own fu 0 0)) := hQ
  have hQ2 : Q (some (zI (w32 ((zval own n fu 0 0 x) + 3)))) zSH (znts 50 43 73 (znt 50 43 73 f 20) (zlst own fu 0 0)) := hQ1
  have hr : znt 50 43 73 f 20 50 43 = f 50 43 + 1 := znt_r
  have hk1 : znt 50 43 73 f 20 50 44 = (own : Int) := (znt_o (by decide) (Or.inr (by decide))).trans hk
  have hn1 : znt 50 43 73 f 20 50 45 = n := (znt_o (by decide) (Or.inr (by decide))).trans hn
  refine rr40_248_0 (d := d + fu) ?_
  try rw [hn]
  refine zit (fun h24 => ?_) (fun h24 => ?_)
  · refine zix_p (by omega) (zov_p (by omega) ?_)
    rw [znt_1 h24]
    generalize znt 50 43 73 f 20 = F at *
    try rw [hk]
    refine zcallE (ih 0 0 x F _ (by omega) (by omega) hk1 hn1 hf (by omega) (by omega) ⟨rfl, rfl⟩) ?_
    exact hQ2
  · refine zov_p (by omega) ?_
    rw [znt_2 (t := 73) (v := 20) h24]
    generalize znt 50 43 73 f 20 = F at *
    try rw [hk]
    refine zcallE (ih 0 0 x F _ (by omega) (by omega) hk1 hn1 hf (by omega) (by omega) ⟨rfl, rfl⟩) ?_
    exact hQ2
theorem rcs_4_1 {sc : zC} {d fu own : Nat} {n : Int} (ho : own < 8) (hb : 0 ≤ n ∧ n < 50) (ih : ∀ (k a : Nat) (x : Int) (f : zF) (e : Int) (Q : zQ), k < 8 → a < 4 → f 43 n.toNat = (own : Int) → zfin own fu k a = true → 0 ≤ f 42 3 → f 42 3 + ((zlst own fu k a).length : Int) ≤ 10000 → 0 ≤ e → e + (fu : Int) ≤ 40 → Q (some (zI (zval own n fu k a x))) zSH (znts 42 3 44 f (zlst own fu k a)) → zR sc (d + fu) 26 0 [] [(0, zP 42), (1, zI (k : Int)), (2, zI n), (3, zI (a : Int)), (4, zI x), (5, zI e)] 0 0 zSH f Q) {x : Int} {f : zF} {e : Int} {Q : zQ} (hk : f 43 n.toNat = (own : Int)) (hfin : zfin own (fu + 1) 4 1 = true) (h0 : 0 ≤ f 42 3) (hlen : f 42 3 + ((zlst own (fu + 1) 4 1).length : Int) ≤ 10000) (he : 0 ≤ e) (hd : e + ((fu + 1 : Nat) : Int) ≤ 40) (hQ : Q (some (zI (zval own n (fu + 1) 4 1 x))) zSH (znts 42 3 44 f (zlst own (fu + 1) 4 1))) : zR sc (d + fu + 1) 26 0 [] [(0, zP 42), (1, zI (4)), (2, zI n), (3, zI (1)), (4, zI x), (5, zI e)] 0 0 zSH f Q := by
  have hf : zfin own fu own 0 = true := hfin
  have hl : f 42 3 + ((10 :: zlst own fu own 0 : List Int).length : Int) ≤ 10000 := hlen
  simp only [List.length_cons, List.length_append, List.length_nil] at hl
  have hQ1 : Q (some (zI (w32 ((zval own n fu own 0 x) * 2)))) zSH (znts 42 3 44 f (10 :: zlst own fu own 0)) := hQ
  have hQ2 : Q (some (zI (w32 ((zval own n fu own 0 x) * 2)))) zSH (znts 42 3 44 (znt 42 3 44 f 10) (zlst own fu own 0)) := hQ1
  have hr : znt 42 3 44 f 10 42 3 = f 42 3 + 1 := znt_r
  have hk1 : znt 42 3 44 f 10 43 n.toNat = (own : Int) := (znt_o (by decide) (Or.inl (by decide))).trans hk
  refine rc41_26_0 (d := d + fu) ?_
  rw [w32_in (z := e + 1) (by omega)]
  repeat' (refine zov_p (by omega) ?_)
  rw [if_pos (by omega)]
  refine zix_p (by omega) ?_
  refine zit (fun h24 => ?_) (fun h24 => ?_)
  · refine zix_p (by omega) (zov_p (by omega) ?_)
    rw [znt_1 h24]
    generalize znt 42 3 44 f 10 = F at *
    try rw [hk]
    refine zcallE (ih own 0 x F (e + 1) _ (by omega) (by omega) hk1 hf (by omega) (by omega) (by omega) (by omega) ⟨rfl, rfl⟩) ?_
    exact hQ2
  · refine zov_p (by omega) ?_
    rw [znt_2 (t := 44) (v := 10) h24]
    generalize znt 42 3 44 f 10 = F at *
    try rw [hk]
    refine zcallE (ih own 0 x F (e + 1) _ (by omega) (by omega) hk1 hf (by omega) (by omega) (by omega) (by omega) ⟨rfl, rfl⟩) ?_
    exact hQ2
theorem rrs_4_1 {sc : zC} {d fu own : Nat} {n : Int} (ho : own < 8) (ih : ∀ (k a : Nat) (x : Int) (f : zF) (Q : zQ), k < 8 → a < 4 → f 50 44 = (own : Int) → f 50 45 = n → zfin own fu k a = true → 0 ≤ f 50 43 → f 50 43 + ((zlst own fu k a).length : Int) ≤ 10000 → Q (some (zI (zval own n fu k a x))) zSH (znts 50 43 73 f (zlst own fu k a)) → zR sc (d + fu) (248 + a) 0 [] [(0, zP 50), (1, zI (k : Int)), (2, zI x)] 0 0 zSH f Q) {x : Int} {f : zF} {Q : zQ} (hk : f 50 44 = (own : Int)) (hn : f 50 45 = n) (hfin : zfin own (fu + 1) 4 1 = true) (h0 : 0 ≤ f 50 43) (hlen : f 50 43 + ((zlst own (fu + 1) 4 1).length : Int) ≤ 10000) (hQ : Q (some (zI (zval own n (fu + 1) 4 1 x))) zSH (znts 50 43 73 f (zlst own (fu + 1) 4 1))) : zR sc (d + fu + 1) 249 0 [] [(0, zP 50), (1, zI (4)), (2, zI x)] 0 0 zSH f Q := by
  have hf : zfin own fu own 0 = true := hfin
  have hl : f 50 43 + ((10 :: zlst own fu own 0 : List Int).length : Int) ≤ 10000 := hlen
  simp only [List.length_cons, List.length_append, List.length_nil] at hl
  have hQ1 : Q (some (zI (w32 ((zval own n fu own 0 x) * 2)))) zSH (znts 50 43 73 f (10 :: zlst own fu own 0)) := hQ
  have hQ2 : Q (some (zI (w32 ((zval own n fu own 0 x) * 2)))) zSH (znts 50 43 73 (znt 50 43 73 f 10) (zlst own fu own 0)) := hQ1
  have hr : znt 50 43 73 f 10 50 43 = f 50 43 + 1 := znt_r
  have hk1 : znt 50 43 73 f 10 50 44 = (own : Int) := (znt_o (by decide) (Or.inr (by decide))).trans hk
  have hn1 : znt 50 43 73 f 10 50 45 = n := (znt_o (by decide) (Or.inr (by decide))).trans hn
  refine rr41_249_0 (d := d + fu) ?_
  try rw [hn]
  refine zit (fun h24 => ?_) (fun h24 => ?_)
  · refine zix_p (by omega) (zov_p (by omega) ?_)
    rw [znt_1 h24]
    generalize znt 50 43 73 f 10 = F at *
    try rw [hk]
    refine zcallE (ih own 0 x F _ (by omega) (by omega) hk1 hn1 hf (by omega) (by omega) ⟨rfl, rfl⟩) ?_
    exact hQ2
  · refine zov_p (by omega) ?_
    rw [znt_2 (t := 73) (v := 10) h24]
    generalize znt 50 43 73 f 10 = F at *
    try rw [hk]
    refine zcallE (ih own 0 x F _ (by omega) (by omega) hk1 hn1 hf (by omega) (by omega) ⟨rfl, rfl⟩) ?_
    exact hQ2
theorem rcs_4_2 {sc : zC} {d fu own : Nat} {n : Int} (ho : own < 8) (hb : 0 ≤ n ∧ n < 50) (ih : ∀ (k a : Nat) (x : Int) (f : zF) (e : Int) (Q : zQ), k < 8 → a < 4 → f 43 n.toNat = (own : Int) → zfin own fu k a = true → 0 ≤ f 42 3 → f 42 3 + ((zlst own fu k a).length : Int) ≤ 10000 → 0 ≤ e → e + (fu : Int) ≤ 40 → Q (some (zI (zval own n fu k a x))) zSH (znts 42 3 44 f (zlst own fu k a)) → zR sc (d + fu) 26 0 [] [(0, zP 42), (1, zI (k : Int)), (2, zI n), (3, zI (a : Int)), (4, zI x), (5, zI e)] 0 0 zSH f Q) {x : Int} {f : zF} {e : Int} {Q : zQ} (hk : f 43 n.toNat = (own : Int)) (hfin : zfin own (fu + 1) 4 2 = true) (h0 : 0 ≤ f 42 3) (hlen : f 42 3 + ((zlst own (fu + 1) 4 2).length : Int) ≤ 10000) (he : 0 ≤ e) (hd : e + ((fu + 1 : Nat) : Int) ≤ 40) (hQ : Q (some (zI (zval own n (fu + 1) 4 2 x))) zSH (znts 42 3 44 f (zlst own (fu + 1) 4 2))) : zR sc (d + fu + 1) 26 0 [] [(0, zP 42), (1, zI (4)), (2, zI n), (3, zI (2)), (4, zI x), (5, zI e)] 0 0 zSH f Q := by
  have hf : (zfin own fu 1 2 && zfin own fu own 0) = true := hfin
  rw [Bool.and_eq_true] at hf
  have hl : f 42 3 + ((50 :: (zlst own fu 1 2 ++ zlst own fu own 0) : List Int).length : Int) ≤ 10000 := hlen
  simp only [List.length_cons, List.length_append, List.length_nil] at hl
  have hQ1 : Q (some (zI (w32 ((zval own n fu 1 2 x) - (zval own n fu own 0 2))))) zSH (znts 42 3 44 f (50 :: (zlst own fu 1 2 ++ zlst own fu own 0))) := hQ
  have hQ2 : Q (some (zI (w32 ((zval own n fu 1 2 x) - (zval own n fu own 0 2))))) zSH (znts 42 3 44 (znt 42 3 44 f 50) ((zlst own fu 1 2 ++ zlst own fu own 0))) := hQ1
  rw [znts_a] at hQ2
  have hr : znt 42 3 44 f 50 42 3 = f 42 3 + 1 := znt_r
  have hk1 : znt 42 3 44 f 50 43 n.toNat = (own : Int) := (znt_o (by decide) (Or.inl (by decide))).trans hk
  refine rc42_26_0 (d := d + fu) ?_
  rw [w32_in (z := e + 1) (by omega)]
  repeat' (refine zov_p (by omega) ?_)
  rw [if_pos (by omega)]
  refine zix_p (by omega) ?_
  refine zit (fun h24 => ?_) (fun h24 => ?_)
  · refine zix_p (by omega) (zov_p (by omega) ?_)
    rw [znt_1 h24]
    generalize znt 42 3 44 f 50 = F at *
    try rw [hk]
    refine zcallE (ih 1 2 x F (e + 1) _ (by omega) (by omega) hk1 hf.1 (by omega) (by omega) (by omega) (by omega) ⟨rfl, rfl⟩) ?_
    have hr2 : (znts 42 3 44 F (zlst own fu 1 2)) 42 3 = F 42 3 + ((zlst own fu 1 2).length : Int) := znts_r
    have hk2 : (znts 42 3 44 F (zlst own fu 1 2)) 43 n.toNat = (own : Int) := (znts_o (by decide) (Or.inl (by decide))).trans hk1
    refine zcallE (ih own 0 2 (znts 42 3 44 F (zlst own fu 1 2)) (e + 1) _ (by omega) (by omega) hk2 hf.2 (by omega) (by omega) (by omega) (by omega) ⟨rfl, rfl⟩) ?_
    exact hQ2
  · refine zov_p (by omega) ?_
    rw [znt_2 (t := 44) (v := 50) h24]
    generalize znt 42 3 44 f 50 = F at *
    try rw [hk]
    refine zcallE (ih 1 2 x F (e + 1) _ (by omega) (by omega) hk1 hf.1 (by omega) (by omega) (by omega) (by omega) ⟨rfl, rfl⟩) ?_
    have hr2 : (znts 42 3 44 F (zlst own fu 1 2)) 42 3 = F 42 3 + ((zlst own fu 1 2).length : Int) := znts_r
    have hk2 : (znts 42 3 44 F (zlst own fu 1 2)) 43 n.toNat = (own : Int) := (znts_o (by decide) (Or.inl (by decide))).trans hk1
    refine zcallE (ih own 0 2 (znts 42 3 44 F (zlst own fu 1 2)) (e + 1) _ (by omega) (by omega) hk2 hf.2 (by omega) (by omega) (by omega) (by omega) ⟨rfl, rfl⟩) ?_
    exact hQ2
theorem rrs_4_2 {sc : zC} {d fu own : Nat} {n : Int} (ho : own < 8) (ih : ∀ (k a : Nat) (x : Int) (f : zF) (Q : zQ), k < 8 → a < 4 → f 50 44 = (own : Int) → f 50 45 = n → zfin own fu k a = true → 0 ≤ f 50 43 → f 50 43 + ((zlst own fu k a).length : Int) ≤ 10000 → Q (some (zI (zval own n fu k a x))) zSH (znts 50 43 73 f (zlst own fu k a)) → zR sc (d + fu) (248 + a) 0 [] [(0, zP 50), (1, zI (k : Int)), (2, zI x)] 0 0 zSH f Q) {x : Int} {f : zF} {Q : zQ} (hk : f 50 44 = (own : Int)) (hn : f 50 45 = n) (hfin : zfin own (fu + 1) 4 2 = true) (h0 : 0 ≤ f 50 43) (hlen : f 50 43 + ((zlst own (fu + 1) 4 2).length : Int) ≤ 10000) (hQ : Q (some (zI (zval own n (fu + 1) 4 2 x))) zSH (znts 50 43 73 f (zlst own (fu + 1) 4 2))) : zR sc (d + fu + 1) 250 0 [] [(0, zP 50), (1, zI (4)), (2, zI x)] 0 0 zSH f Q := by
  have hf : (zfin own fu 1 2 && zfin own fu own 0) = true := hfin
  rw [Bool.and_eq_true] at hf
  have hl : f 50 43 + ((50 :: (zlst own fu 1 2 ++ zlst own fu own 0) : List Int).length : Int) ≤ 10000 := hlen
  simp only [List.length_cons, List.length_append, List.length_nil] at hl
  have hQ1 : Q (some (zI (w32 ((zval own n fu 1 2 x) - (zval own n fu own 0 2))))) zSH (znts 50 43 73 f (50 :: (zlst own fu 1 2 ++ zlst own fu own 0))) := hQ
  have hQ2 : Q (some (zI (w32 ((zval own n fu 1 2 x) - (zval own n fu own 0 2))))) zSH (znts 50 43 73 (znt 50 43 73 f 50) ((zlst own fu 1 2 ++ zlst own fu own 0))) := hQ1
  rw [znts_a] at hQ2
  have hr : znt 50 43 73 f 50 50 43 = f 50 43 + 1 := znt_r
  have hk1 : znt 50 43 73 f 50 50 44 = (own : Int) := (znt_o (by decide) (Or.inr (by decide))).trans hk
  have hn1 : znt 50 43 73 f 50 50 45 = n := (znt_o (by decide) (Or.inr (by decide))).trans hn
  refine rr42_250_0 (d := d + fu) ?_
  try rw [hn]
  refine zit (fun h24 => ?_) (fun h24 => ?_)
  · refine zix_p (by omega) (zov_p (by omega) ?_)
    rw [znt_1 h24]
    generalize znt 50 43 73 f 50 = F at *
    try rw [hk]
    refine zcallE (ih 1 2 x F _ (by omega) (by omega) hk1 hn1 hf.1 (by omega) (by omega) ⟨rfl, rfl⟩) ?_
    have hr2 : (znts 50 43 73 F (zlst own fu 1 2)) 50 43 = F 50 43 + ((zlst own fu 1 2).length : Int) := znts_r
    have hk2 : (znts 50 43 73 F (zlst own fu 1 2)) 50 44 = (own : Int) := (znts_o (by decide) (Or.inr (by decide))).trans hk1
    have hn2 : (znts 50 43 73 F (zlst own fu 1 2)) 50 45 = n := (znts_o (by decide) (Or.inr (by decide))).trans hn1
    rw [show (znts 50 43 73 F (zlst own fu 1 2)) 50 44 = (own : Int) from hk2]
    refine zcallE (ih own 0 2 (znts 50 43 73 F (zlst own fu 1 2)) _ (by omega) (by omega) hk2 hn2 hf.2 (by omega) (by omega) ⟨rfl, rfl⟩) ?_
    exact hQ2
  · refine zov_p (by omega) ?_
    rw [znt_2 (t := 73) (v := 50) h24]
    generalize znt 50 43 73 f 50 = F at *
    try rw [hk]
    refine zcallE (ih 1 2 x F _ (by omega) (by omega) hk1 hn1 hf.1 (by omega) (by omega) ⟨rfl, rfl⟩) ?_
    have hr2 : (znts 50 43 73 F (zlst own fu 1 2)) 50 43 = F 50 43 + ((zlst own fu 1 2).length : Int) := znts_r
    have hk2 : (znts 50 43 73 F (zlst own fu 1 2)) 50 44 = (own : Int) := (znts_o (by decide) (Or.inr (by decide))).trans hk1
    have hn2 : (znts 50 43 73 F (zlst own fu 1 2)) 50 45 = n := (znts_o (by decide) (Or.inr (by decide))).trans hn1
    rw [show (znts 50 43 73 F (zlst own fu 1 2)) 50 44 = (own : Int) from hk2]
    refine zcallE (ih own 0 2 (znts 50 43 73 F (zlst own fu 1 2)) _ (by omega) (by omega) hk2 hn2 hf.2 (by omega) (by omega) ⟨rfl, rfl⟩) ?_
    exact hQ2
theorem rcs_4_3 {sc : zC} {d fu own : Nat} {n : Int} (ho : own < 8) (hb : 0 ≤ n ∧ n < 50) (ih : ∀ (k a : Nat) (x : Int) (f : zF) (e : Int) (Q : zQ), k < 8 → a < 4 → f 43 n.toNat = (own : Int) → zfin own fu k a = true → 0 ≤ f 42 3 → f 42 3 + ((zlst own fu k a).length : Int) ≤ 10000 → 0 ≤ e → e + (fu : Int) ≤ 40 → Q (some (zI (zval own n fu k a x))) zSH (znts 42 3 44 f (zlst own fu k a)) → zR sc (d + fu) 26 0 [] [(0, zP 42), (1, zI (k : Int)), (2, zI n), (3, zI (a : Int)), (4, zI x), (5, zI e)] 0 0 zSH f Q) {x : Int} {f : zF} {e : Int} {Q : zQ} (hk : f 43 n.toNat = (own : Int)) (hfin : zfin own (fu + 1) 4 3 = true) (h0 : 0 ≤ f 42 3) (hlen : f 42 3 + ((zlst own (fu + 1) 4 3).length : Int) ≤ 10000) (he : 0 ≤ e) (hd : e + ((fu + 1 : Nat) : Int) ≤ 40) (hQ : Q (some (zI (zval own n (fu + 1) 4 3 x))) zSH (znts 42 3 44 f (zlst own (fu + 1) 4 3))) : zR sc (d + fu + 1) 26 0 [] [(0, zP 42), (1, zI (4)), (2, zI n), (3, zI (3)), (4, zI x), (5, zI e)] 0 0 zSH f Q := by
  have hf : (zfin own fu own 1 && zfin own fu own 2) = true := hfin
  rw [Bool.and_eq_true] at hf
  have hl : f 42 3 + ((2 :: (zlst own fu own 1 ++ zlst own fu own 2) : List Int).length : Int) ≤ 10000 := hlen
  simp only [List.length_cons, List.length_append, List.length_nil] at hl
  have hQ1 : Q (some (zI (w32 ((zval own n fu own 1 x) - (zval own n fu own 2 1))))) zSH (znts 42 3 44 f (2 :: (zlst own fu own 1 ++ zlst own fu own 2))) := hQ
  have hQ2 : Q (some (zI (w32 ((zval own n fu own 1 x) - (zval own n fu own 2 1))))) zSH (znts 42 3 44 (znt 42 3 44 f 2) ((zlst own fu own 1 ++ zlst own fu own 2))) := hQ1
  rw [znts_a] at hQ2
  have hr : znt 42 3 44 f 2 42 3 = f 42 3 + 1 := znt_r
  have hk1 : znt 42 3 44 f 2 43 n.toNat = (own : Int) := (znt_o (by decide) (Or.inl (by decide))).trans hk
  refine rc43_26_0 (d := d + fu) ?_
  rw [w32_in (z := e + 1) (by omega)]
  repeat' (refine zov_p (by omega) ?_)
  rw [if_pos (by omega)]
  refine zix_p (by omega) ?_
  refine zit (fun h24 => ?_) (fun h24 => ?_)
  · refine zix_p (by omega) (zov_p (by omega) ?_)
    rw [znt_1 h24]
    generalize znt 42 3 44 f 2 = F at *
    try rw [hk]
    refine zcallE (ih own 1 x F (e + 1) _ (by omega) (by omega) hk1 hf.1 (by omega) (by omega) (by omega) (by omega) ⟨rfl, rfl⟩) ?_
    have hr2 : (znts 42 3 44 F (zlst own fu own 1)) 42 3 = F 42 3 + ((zlst own fu own 1).length : Int) := znts_r
    have hk2 : (znts 42 3 44 F (zlst own fu own 1)) 43 n.toNat = (own : Int) := (znts_o (by decide) (Or.inl (by decide))).trans hk1
    refine zcallE (ih own 2 1 (znts 42 3 44 F (zlst own fu own 1)) (e + 1) _ (by omega) (by omega) hk2 hf.2 (by omega) (by omega) (by omega) (by omega) ⟨rfl, rfl⟩) ?_
    exact hQ2
  · refine zov_p (by omega) ?_
    rw [znt_2 (t := 44) (v := 2) h24]
    generalize znt 42 3 44 f 2 = F at *
    try rw [hk]
    refine zcallE (ih own 1 x F (e + 1) _ (by omega) (by omega) hk1 hf.1 (by omega) (by omega) (by omega) (by omega) ⟨rfl, rfl⟩) ?_
    have hr2 : (znts 42 3 44 F (zlst own fu own 1)) 42 3 = F 42 3 + ((zlst own fu own 1).length : Int) := znts_r
    have hk2 : (znts 42 3 44 F (zlst own fu own 1)) 43 n.toNat = (own : Int) := (znts_o (by decide) (Or.inl (by decide))).trans hk1
    refine zcallE (ih own 2 1 (znts 42 3 44 F (zlst own fu own 1)) (e + 1) _ (by omega) (by omega) hk2 hf.2 (by omega) (by omega) (by omega) (by omega) ⟨rfl, rfl⟩) ?_
    exact hQ2
theorem rrs_4_3 {sc : zC} {d fu own : Nat} {n : Int} (ho : own < 8) (ih : ∀ (k a : Nat) (x : Int) (f : zF) (Q : zQ), k < 8 → a < 4 → f 50 44 = (own : Int) → f 50 45 = n → zfin own fu k a = true → 0 ≤ f 50 43 → f 50 43 + ((zlst own fu k a).length : Int) ≤ 10000 → Q (some (zI (zval own n fu k a x))) zSH (znts 50 43 73 f (zlst own fu k a)) → zR sc (d + fu) (248 + a) 0 [] [(0, zP 50), (1, zI (k : Int)), (2, zI x)] 0 0 zSH f Q) {x : Int} {f : zF} {Q : zQ} (hk : f 50 44 = (own : Int)) (hn : f 50 45 = n) (hfin : zfin own (fu + 1) 4 3 = true) (h0 : 0 ≤ f 50 43) (hlen : f 50 43 + ((zlst own (fu + 1) 4 3).length : Int) ≤ 10000) (hQ : Q (some (zI (zval own n (fu + 1) 4 3 x))) zSH (znts 50 43 73 f (zlst own (fu + 1) 4 3))) : zR sc (d + fu + 1) 251 0 [] [(0, zP 50), (1, zI (4)), (2, zI x)] 0 0 zSH f Q := by
  have hf : (zfin own fu own 1 && zfin own fu own 2) = true := hfin
  rw [Bool.and_eq_true] at hf
  have hl : f 50 43 + ((2 :: (zlst own fu own 1 ++ zlst own fu own 2) : List Int).length : Int) ≤ 10000 := hlen
  simp only [List.length_cons, List.length_append, List.length_nil] at hl
  have hQ1 : Q (some (zI (w32 ((zval own n fu own 1 x) - (zval own n fu own 2 1))))) zSH (znts 50 43 73 f (2 :: (zlst own fu own 1 ++ zlst own fu own 2))) := hQ
  have hQ2 : Q (some (zI (w32 ((zval own n fu own 1 x) - (zval own n fu own 2 1))))) zSH (znts 50 43 73 (znt 50 43 73 f 2) ((zlst own fu own 1 ++ zlst own fu own 2))) := hQ1
  rw [znts_a] at hQ2
  have hr : znt 50 43 73 f 2 50 43 = f 50 43 + 1 := znt_r
  have hk1 : znt 50 43 73 f 2 50 44 = (own : Int) := (znt_o (by decide) (Or.inr (by decide))).trans hk
  have hn1 : znt 50 43 73 f 2 50 45 = n := (znt_o (by decide) (Or.inr (by decide))).trans hn
  refine rr43_251_0 (d := d + fu) ?_
  try rw [hn]
  refine zit (fun h24 => ?_) (fun h24 => ?_)
  · refine zix_p (by omega) (zov_p (by omega) ?_)
    rw [znt_1 h24]
    generalize znt 50 43 73 f 2 = F at *
    try rw [hk]
    refine zcallE (ih own 1 x F _ (by omega) (by omega) hk1 hn1 hf.1 (by omega) (by omega) ⟨rfl, rfl⟩) ?_
    have hr2 : (znts 50 43 73 F (zlst own fu own 1)) 50 43 = F 50 43 + ((zlst own fu own 1).length : Int) := znts_r
    have hk2 : (znts 50 43 73 F (zlst own fu own 1)) 50 44 = (own : Int) := (znts_o (by decide) (Or.inr (by decide))).trans hk1
    have hn2 : (znts 50 43 73 F (zlst own fu own 1)) 50 45 = n := (znts_o (by decide) (Or.inr (by decide))).trans hn1
    rw [show (znts 50 43 73 F (zlst own fu own 1)) 50 44 = (own : Int) from hk2]
    refine zcallE (ih own 2 1 (znts 50 43 73 F (zlst own fu own 1)) _ (by omega) (by omega) hk2 hn2 hf.2 (by omega) (by omega) ⟨rfl, rfl⟩) ?_
    exact hQ2
  · refine zov_p (by omega) ?_
    rw [znt_2 (t := 73) (v := 2) h24]
    generalize znt 50 43 73 f 2 = F at *
    try rw [hk]
    refine zcallE (ih own 1 x F _ (by omega) (by omega) hk1 hn1 hf.1 (by omega) (by omega) ⟨rfl, rfl⟩) ?_
    have hr2 : (znts 50 43 73 F (zlst own fu own 1)) 50 43 = F 50 43 + ((zlst own fu own 1).length : Int) := znts_r
    have hk2 : (znts 50 43 73 F (zlst own fu own 1)) 50 44 = (own : Int) := (znts_o (by decide) (Or.inr (by decide))).trans hk1
    have hn2 : (znts 50 43 73 F (zlst own fu own 1)) 50 45 = n := (znts_o (by decide) (Or.inr (by decide))).trans hn1
    rw [show (znts 50 43 73 F (zlst own fu own 1)) 50 44 = (own : Int) from hk2]
    refine zcallE (ih own 2 1 (znts 50 43 73 F (zlst own fu own 1)) _ (by omega) (by omega) hk2 hn2 hf.2 (by omega) (by omega) ⟨rfl, rfl⟩) ?_
    exact hQ2
theorem rcs_5_0 {sc : zC} {d fu own : Nat} {n : Int} (ho : own < 8) (hb : 0 ≤ n ∧ n < 50) (ih : ∀ (k a : Nat) (x : Int) (f : zF) (e : Int) (Q : zQ), k < 8 → a < 4 → f 43 n.toNat = (own : Int) → zfin own fu k a = true → 0 ≤ f 42 3 → f 42 3 + ((zlst own fu k a).length : Int) ≤ 10000 → 0 ≤ e → e + (fu : Int) ≤ 40 → Q (some (zI (zval own n fu k a x))) zSH (znts 42 3 44 f (zlst own fu k a)) → zR sc (d + fu) 26 0 [] [(0, zP 42), (1, zI (k : Int)), (2, zI n), (3, zI (a : Int)), (4, zI x), (5, zI e)] 0 0 zSH f Q) {x : Int} {f : zF} {e : Int} {Q : zQ} (hk : f 43 n.toNat = (own : Int)) (hfin : zfin own (fu + 1) 5 0 = true) (h0 : 0 ≤ f 42 3) (hlen : f 42 3 + ((zlst own (fu + 1) 5 0).length : Int) ≤ 10000) (he : 0 ≤ e) (hd : e + ((fu + 1 : Nat) : Int) ≤ 40) (hQ : Q (some (zI (zval own n (fu + 1) 5 0 x))) zSH (znts 42 3 44 f (zlst own (fu + 1) 5 0))) : zR sc (d + fu + 1) 26 0 [] [(0, zP 42), (1, zI (5)), (2, zI n), (3, zI (0)), (4, zI x), (5, zI e)] 0 0 zSH f Q := by
  have hl : f 42 3 + ((1 :: [] : List Int).length : Int) ≤ 10000 := hlen
  simp only [List.length_cons, List.length_append, List.length_nil] at hl
  have hQ1 : Q (some (zI (w32 (x + n)))) zSH (znts 42 3 44 f (1 :: [])) := hQ
  have hQ2 : Q (some (zI (w32 (x + n)))) zSH (znts 42 3 44 (znt 42 3 44 f 1) ([])) := hQ1
  have hr : znt 42 3 44 f 1 42 3 = f 42 3 + 1 := znt_r
  have hk1 : znt 42 3 44 f 1 43 n.toNat = (own : Int) := (znt_o (by decide) (Or.inl (by decide))).trans hk
  refine rc50_26_0 (d := d + fu) ?_
  repeat' (refine zov_p (by omega) ?_)
  rw [if_pos (by omega)]
  refine zix_p (by omega) ?_
  refine zit (fun h24 => ?_) (fun h24 => ?_)
  · refine zix_p (by omega) (zov_p (by omega) ?_)
    rw [znt_1 h24]
    generalize znt 42 3 44 f 1 = F at *
    exact hQ2
  · refine zov_p (by omega) ?_
    rw [znt_2 (t := 44) (v := 1) h24]
    generalize znt 42 3 44 f 1 = F at *
    exact hQ2
theorem rrs_5_0 {sc : zC} {d fu own : Nat} {n : Int} (ho : own < 8) (ih : ∀ (k a : Nat) (x : Int) (f : zF) (Q : zQ), k < 8 → a < 4 → f 50 44 = (own : Int) → f 50 45 = n → zfin own fu k a = true → 0 ≤ f 50 43 → f 50 43 + ((zlst own fu k a).length : Int) ≤ 10000 → Q (some (zI (zval own n fu k a x))) zSH (znts 50 43 73 f (zlst own fu k a)) → zR sc (d + fu) (248 + a) 0 [] [(0, zP 50), (1, zI (k : Int)), (2, zI x)] 0 0 zSH f Q) {x : Int} {f : zF} {Q : zQ} (hk : f 50 44 = (own : Int)) (hn : f 50 45 = n) (hfin : zfin own (fu + 1) 5 0 = true) (h0 : 0 ≤ f 50 43) (hlen : f 50 43 + ((zlst own (fu + 1) 5 0).length : Int) ≤ 10000) (hQ : Q (some (zI (zval own n (fu + 1) 5 0 x))) zSH (znts 50 43 73 f (zlst own (fu + 1) 5 0))) : zR sc (d + fu + 1) 248 0 [] [(0, zP 50), (1, zI (5)), (2, zI x)] 0 0 zSH f Q := by
  have hl : f 50 43 + ((1 :: [] : List Int).length : Int) ≤ 10000 := hlen
  simp only [List.length_cons, List.length_append, List.length_nil] at hl
  have hQ1 : Q (some (zI (w32 (x + n)))) zSH (znts 50 43 73 f (1 :: [])) := hQ
  have hQ2 : Q (some (zI (w32 (x + n)))) zSH (znts 50 43 73 (znt 50 43 73 f 1) ([])) := hQ1
  have hr : znt 50 43 73 f 1 50 43 = f 50 43 + 1 := znt_r
  have hk1 : znt 50 43 73 f 1 50 44 = (own : Int) := (znt_o (by decide) (Or.inr (by decide))).trans hk
  have hn1 : znt 50 43 73 f 1 50 45 = n := (znt_o (by decide) (Or.inr (by decide))).trans hn
  refine rr50_248_0 (d := d + fu) ?_
  try rw [hn]
  refine zit (fun h24 => ?_) (fun h24 => ?_)
  · refine zix_p (by omega) (zov_p (by omega) ?_)
    rw [znt_1 h24]
    generalize znt 50 43 73 f 1 = F at *
    exact hQ2
  · refine zov_p (by omega) ?_
    rw [znt_2 (t := 73) (v := 1) h24]
    generalize znt 50 43 73 f 1 = F at *
    exact hQ2
theorem rcs_5_1 {sc : zC} {d fu own : Nat} {n : Int} (ho : own < 8) (hb : 0 ≤ n ∧ n < 50) (ih : ∀ (k a : Nat) (x : Int) (f : zF) (e : Int) (Q : zQ), k < 8 → a < 4 → f 43 n.toNat = (own : Int) → zfin own fu k a = true → 0 ≤ f 42 3 → f 42 3 + ((zlst own fu k a).length : Int) ≤ 10000 → 0 ≤ e → e + (fu : Int) ≤ 40 → Q (some (zI (zval own n fu k a x))) zSH (znts 42 3 44 f (zlst own fu k a)) → zR sc (d + fu) 26 0 [] [(0, zP 42), (1, zI (k : Int)), (2, zI n), (3, zI (a : Int)), (4, zI x), (5, zI e)] 0 0 zSH f Q) {x : Int} {f : zF} {e : Int} {Q : zQ} (hk : f 43 n.toNat = (own : Int)) (hfin : zfin own (fu + 1) 5 1 = true) (h0 : 0 ≤ f 42 3) (hlen : f 42 3 + ((zlst own (fu + 1) 5 1).length : Int) ≤ 10000) (he : 0 ≤ e) (hd : e + ((fu + 1 : Nat) : Int) ≤ 40) (hQ : Q (some (zI (zval own n (fu + 1) 5 1 x))) zSH (znts 42 3 44 f (zlst own (fu + 1) 5 1))) : zR sc (d + fu + 1) 26 0 [] [(0, zP 42), (1, zI (5)), (2, zI n), (3, zI (1)), (4, zI x), (5, zI e)] 0 0 zSH f Q := by
  have hf : zfin own fu 2 1 = true := hfin
  have hl : f 42 3 + ((41 :: zlst own fu 2 1 : List Int).length : Int) ≤ 10000 := hlen
  simp only [List.length_cons, List.length_append, List.length_nil] at hl
  have hQ1 : Q (some (zI ((zval own n fu 2 1 (w32 (x + 1)))))) zSH (znts 42 3 44 f (41 :: zlst own fu 2 1)) := hQ
  have hQ2 : Q (some (zI ((zval own n fu 2 1 (w32 (x + 1)))))) zSH (znts 42 3 44 (znt 42 3 44 f 41) (zlst own fu 2 1)) := hQ1
  have hr : znt 42 3 44 f 41 42 3 = f 42 3 + 1 := znt_r
  have hk1 : znt 42 3 44 f 41 43 n.toNat = (own : Int) := (znt_o (by decide) (Or.inl (by decide))).trans hk
  refine rc51_26_0 (d := d + fu) ?_
  rw [w32_in (z := e + 1) (by omega)]
  repeat' (refine zov_p (by omega) ?_)
  rw [if_pos (by omega)]
  refine zix_p (by omega) ?_
  refine zit (fun h24 => ?_) (fun h24 => ?_)
  · refine zix_p (by omega) (zov_p (by omega) ?_)
    rw [znt_1 h24]
    generalize znt 42 3 44 f 41 = F at *
    try rw [hk]
    refine zcallE (ih 2 1 (w32 (x + 1)) F (e + 1) _ (by omega) (by omega) hk1 hf (by omega) (by omega) (by omega) (by omega) ⟨rfl, rfl⟩) ?_
    exact hQ2
  · refine zov_p (by omega) ?_
    rw [znt_2 (t := 44) (v := 41) h24]
    generalize znt 42 3 44 f 41 = F at *
    try rw [hk]
    refine zcallE (ih 2 1 (w32 (x + 1)) F (e + 1) _ (by omega) (by omega) hk1 hf (by omega) (by omega) (by omega) (by omega) ⟨rfl, rfl⟩) ?_
    exact hQ2
theorem rrs_5_1 {sc : zC} {d fu own : Nat} {n : Int} (ho : own < 8) (ih : ∀ (k a : Nat) (x : Int) (f : zF) (Q : zQ), k < 8 → a < 4 → f 50 44 = (own : Int) → f 50 45 = n → zfin own fu k a = true → 0 ≤ f 50 43 → f 50 43 + ((zlst own fu k a).length : Int) ≤ 10000 → Q (some (zI (zval own n fu k a x))) zSH (znts 50 43 73 f (zlst own fu k a)) → zR sc (d + fu) (248 + a) 0 [] [(0, zP 50), (1, zI (k : Int)), (2, zI x)] 0 0 zSH f Q) {x : Int} {f : zF} {Q : zQ} (hk : f 50 44 = (own : Int)) (hn : f 50 45 = n) (hfin : zfin own (fu + 1) 5 1 = true) (h0 : 0 ≤ f 50 43) (hlen : f 50 43 + ((zlst own (fu + 1) 5 1).length : Int) ≤ 10000) (hQ : Q (some (zI (zval own n (fu + 1) 5 1 x))) zSH (znts 50 43 73 f (zlst own (fu + 1) 5 1))) : zR sc (d + fu + 1) 249 0 [] [(0, zP 50), (1, zI (5)), (2, zI x)] 0 0 zSH f Q := by
  have hf : zfin own fu 2 1 = true := hfin
  have hl : f 50 43 + ((41 :: zlst own fu 2 1 : List Int).length : Int) ≤ 10000 := hlen
  simp only [List.length_cons, List.length_append, List.length_nil] at hl
  have hQ1 : Q (some (zI ((zval own n fu 2 1 (w32 (x + 1)))))) zSH (znts 50 43 73 f (41 :: zlst own fu 2 1)) := hQ
  have hQ2 : Q (some (zI ((zval own n fu 2 1 (w32 (x + 1)))))) zSH (znts 50 43 73 (znt 50 43 73 f 41) (zlst own fu 2 1)) := hQ1
  have hr : znt 50 43 73 f 41 50 43 = f 50 43 + 1 := znt_r
  have hk1 : znt 50 43 73 f 41 50 44 = (own : Int) := (znt_o (by decide) (Or.inr (by decide))).trans hk
  have hn1 : znt 50 43 73 f 41 50 45 = n := (znt_o (by decide) (Or.inr (by decide))).trans hn
  refine rr51_249_0 (d := d + fu) ?_
  try rw [hn]
  refine zit (fun h24 => ?_) (fun h24 => ?_)
  · refine zix_p (by omega) (zov_p (by omega) ?_)
    rw [znt_1 h24]
    generalize znt 50 43 73 f 41 = F at *
    try rw [hk]
    refine zcallE (ih 2 1 (w32 (x + 1)) F _ (by omega) (by omega) hk1 hn1 hf (by omega) (by omega) ⟨rfl, rfl⟩) ?_
    exact hQ2
  · refine zov_p (by omega) ?_
    rw [znt_2 (t := 73) (v := 41) h24]
    generalize znt 50 43 73 f 41 = F at *
    try rw [hk]
    refine zcallE (ih 2 1 (w32 (x + 1)) F _ (by omega) (by omega) hk1 hn1 hf (by omega) (by omega) ⟨rfl, rfl⟩) ?_
    exact hQ2
theorem rcs_5_2 {sc : zC} {d fu own : Nat} {n : Int} (ho : own < 8) (hb : 0 ≤ n ∧ n < 50) (ih : ∀ (k a : Nat) (x : Int) (f : zF) (e : Int) (Q : zQ), k < 8 → a < 4 → f 43 n.toNat = (own : Int) → zfin own fu k a = true → 0 ≤ f 42 3 → f 42 3 + ((zlst own fu k a).length : Int) ≤ 10000 → 0 ≤ e → e + (fu : Int) ≤ 40 → Q (some (zI (zval own n fu k a x))) zSH (znts 42 3 44 f (zlst own fu k a)) → zR sc (d + fu) 26 0 [] [(0, zP 42), (1, zI (k : Int)), (2, zI n), (3, zI (a : Int)), (4, zI x), (5, zI e)] 0 0 zSH f Q) {x : Int} {f : zF} {e : Int} {Q : zQ} (hk : f 43 n.toNat = (own : Int)) (hfin : zfin own (fu + 1) 5 2 = true) (h0 : 0 ≤ f 42 3) (hlen : f 42 3 + ((zlst own (fu + 1) 5 2).length : Int) ≤ 10000) (he : 0 ≤ e) (hd : e + ((fu + 1 : Nat) : Int) ≤ 40) (hQ : Q (some (zI (zval own n (fu + 1) 5 2 x))) zSH (znts 42 3 44 f (zlst own (fu + 1) 5 2))) : zR sc (d + fu + 1) 26 0 [] [(0, zP 42), (1, zI (5)), (2, zI n), (3, zI (2)), (4, zI x), (5, zI e)] 0 0 zSH f Q := by
  have hf : zfin own fu 2 2 = true := hfin
  have hl : f 42 3 + ((40 :: zlst own fu 2 2 : List Int).length : Int) ≤ 10000 := hlen
  simp only [List.length_cons, List.length_append, List.length_nil] at hl
  have hQ1 : Q (some (zI (w32 ((zval own n fu 2 2 x) * 3)))) zSH (znts 42 3 44 f (40 :: zlst own fu 2 2)) := hQ
  have hQ2 : Q (some (zI (w32 ((zval own n fu 2 2 x) * 3)))) zSH (znts 42 3 44 (znt 42 3 44 f 40) (zlst own fu 2 2)) := hQ1
  have hr : znt 42 3 44 f 40 42 3 = f 42 3 + 1 := znt_r
  have hk1 : znt 42 3 44 f 40 43 n.toNat = (own : Int) := (znt_o (by decide) (Or.inl (by decide))).trans hk
  refine rc52_26_0 (d := d + fu) ?_
  rw [w32_in (z := e + 1) (by omega)]
  repeat' (refine zov_p (by omega) ?_)
  rw [if_pos (by omega)]
  refine zix_p (by omega) ?_
  refine zit (fun h24 => ?_) (fun h24 => ?_)
  · refine zix_p (by omega) (zov_p (by omega) ?_)
    rw [znt_1 h24]
    generalize znt 42 3 44 f 40 = F at *
    try rw [hk]
    refine zcallE (ih 2 2 x F (e + 1) _ (by omega) (by omega) hk1 hf (by omega) (by omega) (by omega) (by omega) ⟨rfl, rfl⟩) ?_
    exact hQ2
  · refine zov_p (by omega) ?_
    rw [znt_2 (t := 44) (v := 40) h24]
    generalize znt 42 3 44 f 40 = F at *
    try rw [hk]
    refine zcallE (ih 2 2 x F (e + 1) _ (by omega) (by omega) hk1 hf (by omega) (by omega) (by omega) (by omega) ⟨rfl, rfl⟩) ?_
    exact hQ2
theorem rrs_5_2 {sc : zC} {d fu own : Nat} {n : Int} (ho : own < 8) (ih : ∀ (k a : Nat) (x : Int) (f : zF) (Q : zQ), k < 8 → a < 4 → f 50 44 = (own : Int) → f 50 45 = n → zfin own fu k a = true → 0 ≤ f 50 43 → f 50 43 + ((zlst own fu k a).length : Int) ≤ 10000 → Q (some (zI (zval own n fu k a x))) zSH (znts 50 43 73 f (zlst own fu k a)) → zR sc (d + fu) (248 + a) 0 [] [(0, zP 50), (1, zI (k : Int)), (2, zI x)] 0 0 zSH f Q) {x : Int} {f : zF} {Q : zQ} (hk : f 50 44 = (own : Int)) (hn : f 50 45 = n) (hfin : zfin own (fu + 1) 5 2 = true) (h0 : 0 ≤ f 50 43) (hlen : f 50 43 + ((zlst own (fu + 1) 5 2).length : Int) ≤ 10000) (hQ : Q (some (zI (zval own n (fu + 1) 5 2 x))) zSH (znts 50 43 73 f (zlst own (fu + 1) 5 2))) : zR sc (d + fu + 1) 250 0 [] [(0, zP 50), (1, zI (5)), (2, zI x)] 0 0 zSH f Q := by
  have hf : zfin own fu 2 2 = true := hfin
  have hl : f 50 43 + ((40 :: zlst own fu 2 2 : List Int).length : Int) ≤ 10000 := hlen
  simp only [List.length_cons, List.length_append, List.length_nil] at hl
  have hQ1 : Q (some (zI (w32 ((zval own n fu 2 2 x) * 3)))) zSH (znts 50 43 73 f (40 :: zlst own fu 2 2)) := hQ
  have hQ2 : Q (some (zI (w32 ((zval own n fu 2 2 x) * 3)))) zSH (znts 50 43 73 (znt 50 43 73 f 40) (zlst own fu 2 2)) := hQ1
  have hr : znt 50 43 73 f 40 50 43 = f 50 43 + 1 := znt_r
  have hk1 : znt 50 43 73 f 40 50 44 = (own : Int) := (znt_o (by decide) (Or.inr (by decide))).trans hk
  have hn1 : znt 50 43 73 f 40 50 45 = n := (znt_o (by decide) (Or.inr (by decide))).trans hn
  refine rr52_250_0 (d := d + fu) ?_
  try rw [hn]
  refine zit (fun h24 => ?_) (fun h24 => ?_)
  · refine zix_p (by omega) (zov_p (by omega) ?_)
    rw [znt_1 h24]
    generalize znt 50 43 73 f 40 = F at *
    try rw [hk]
    refine zcallE (ih 2 2 x F _ (by omega) (by omega) hk1 hn1 hf (by omega) (by omega) ⟨rfl, rfl⟩) ?_
    exact hQ2
  · refine zov_p (by omega) ?_
    rw [znt_2 (t := 73) (v := 40) h24]
    generalize znt 50 43 73 f 40 = F at *
    try rw [hk]
    refine zcallE (ih 2 2 x F _ (by omega) (by omega) hk1 hn1 hf (by omega) (by omega) ⟨rfl, rfl⟩) ?_
    exact hQ2
theorem rcs_5_3 {sc : zC} {d fu own : Nat} {n : Int} (ho : own < 8) (hb : 0 ≤ n ∧ n < 50) (ih : ∀ (k a : Nat) (x : Int) (f : zF) (e : Int) (Q : zQ), k < 8 → a < 4 → f 43 n.toNat = (own : Int) → zfin own fu k a = true → 0 ≤ f 42 3 → f 42 3 + ((zlst own fu k a).length : Int) ≤ 10000 → 0 ≤ e → e + (fu : Int) ≤ 40 → Q (some (zI (zval own n fu k a x))) zSH (znts 42 3 44 f (zlst own fu k a)) → zR sc (d + fu) 26 0 [] [(0, zP 42), (1, zI (k : Int)), (2, zI n), (3, zI (a : Int)), (4, zI x), (5, zI e)] 0 0 zSH f Q) {x : Int} {f : zF} {e : Int} {Q : zQ} (hk : f 43 n.toNat = (own : Int)) (hfin : zfin own (fu + 1) 5 3 = true) (h0 : 0 ≤ f 42 3) (hlen : f 42 3 + ((zlst own (fu + 1) 5 3).length : Int) ≤ 10000) (he : 0 ≤ e) (hd : e + ((fu + 1 : Nat) : Int) ≤ 40) (hQ : Q (some (zI (zval own n (fu + 1) 5 3 x))) zSH (znts 42 3 44 f (zlst own (fu + 1) 5 3))) : zR sc (d + fu + 1) 26 0 [] [(0, zP 42), (1, zI (5)), (2, zI n), (3, zI (3)), (4, zI x), (5, zI e)] 0 0 zSH f Q := by
  have hf : zfin own fu 3 3 = true := hfin
  have hl : f 42 3 + ((60 :: zlst own fu 3 3 : List Int).length : Int) ≤ 10000 := hlen
  simp only [List.length_cons, List.length_append, List.length_nil] at hl
  have hQ1 : Q (some (zI (zxor (zval own n fu 3 3 x) 5))) zSH (znts 42 3 44 f (60 :: zlst own fu 3 3)) := hQ
  have hQ2 : Q (some (zI (zxor (zval own n fu 3 3 x) 5))) zSH (znts 42 3 44 (znt 42 3 44 f 60) (zlst own fu 3 3)) := hQ1
  have hr : znt 42 3 44 f 60 42 3 = f 42 3 + 1 := znt_r
  have hk1 : znt 42 3 44 f 60 43 n.toNat = (own : Int) := (znt_o (by decide) (Or.inl (by decide))).trans hk
  refine rc53_26_0 (d := d + fu) ?_
  rw [w32_in (z := e + 1) (by omega)]
  repeat' (refine zov_p (by omega) ?_)
  rw [if_pos (by omega)]
  refine zix_p (by omega) ?_
  refine zit (fun h24 => ?_) (fun h24 => ?_)
  · refine zix_p (by omega) (zov_p (by omega) ?_)
    rw [znt_1 h24]
    generalize znt 42 3 44 f 60 = F at *
    try rw [hk]
    refine zcallE (ih 3 3 x F (e + 1) _ (by omega) (by omega) hk1 hf (by omega) (by omega) (by omega) (by omega) ⟨rfl, rfl⟩) ?_
    exact hQ2
  · refine zov_p (by omega) ?_
    rw [znt_2 (t := 44) (v := 60) h24]
    generalize znt 42 3 44 f 60 = F at *
    try rw [hk]
    refine zcallE (ih 3 3 x F (e + 1) _ (by omega) (by omega) hk1 hf (by omega) (by omega) (by omega) (by omega) ⟨rfl, rfl⟩) ?_
    exact hQ2
theorem rrs_5_3 {sc : zC} {d fu own : Nat} {n : Int} (ho : own < 8) (ih : ∀ (k a : Nat) (x : Int) (f : zF) (Q : zQ), k < 8 → a < 4 → f 50 44 = (own : Int) → f 50 45 = n → zfin own fu k a = true → 0 ≤ f 50 43 → f 50 43 + ((zlst own fu k a).length : Int) ≤ 10000 → Q (some (zI (zval own n fu k a x))) zSH (znts 50 43 73 f (zlst own fu k a)) → zR sc (d + fu) (248 + a) 0 [] [(0, zP 50), (1, zI (k : Int)), (2, zI x)] 0 0 zSH f Q) {x : Int} {f : zF} {Q : zQ} (hk : f 50 44 = (own : Int)) (hn : f 50 45 = n) (hfin : zfin own (fu + 1) 5 3 = true) (h0 : 0 ≤ f 50 43) (hlen : f 50 43 + ((zlst own (fu + 1) 5 3).length : Int) ≤ 10000) (hQ : Q (some (zI (zval own n (fu + 1) 5 3 x))) zSH (znts 50 43 73 f (zlst own (fu + 1) 5 3))) : zR sc (d + fu + 1) 251 0 [] [(0, zP 50), (1, zI (5)), (2, zI x)] 0 0 zSH f Q := by
  have hf : zfin own fu 3 3 = true := hfin
  have hl : f 50 43 + ((60 :: zlst own fu 3 3 : List Int).length : Int) ≤ 10000 := hlen
  simp only [List.length_cons, List.length_append, List.length_nil] at hl
  have hQ1 : Q (some (zI (zxor (zval own n fu 3 3 x) 5))) zSH (znts 50 43 73 f (60 :: zlst own fu 3 3)) := hQ
  have hQ2 : Q (some (zI (zxor (zval own n fu 3 3 x) 5))) zSH (znts 50 43 73 (znt 50 43 73 f 60) (zlst own fu 3 3)) := hQ1
  have hr : znt 50 43 73 f 60 50 43 = f 50 43 + 1 := znt_r
  have hk1 : znt 50 43 73 f 60 50 44 = (own : Int) := (znt_o (by decide) (Or.inr (by decide))).trans hk
  have hn1 : znt 50 43 73 f 60 50 45 = n := (znt_o (by decide) (Or.inr (by decide))).trans hn
  refine rr53_251_0 (d := d + fu) ?_
  try rw [hn]
  refine zit (fun h24 => ?_) (fun h24 => ?_)
  · refine zix_p (by omega) (zov_p (by omega) ?_)
    rw [znt_1 h24]
    generalize znt 50 43 73 f 60 = F at *
    try rw [hk]
    refine zcallE (ih 3 3 x F _ (by omega) (by omega) hk1 hn1 hf (by omega) (by omega) ⟨rfl, rfl⟩) ?_
    exact hQ2
  · refine zov_p (by omega) ?_
    rw [znt_2 (t := 73) (v := 60) h24]
    generalize znt 50 43 73 f 60 = F at *
    try rw [hk]
    refine zcallE (ih 3 3 x F _ (by omega) (by omega) hk1 hn1 hf (by omega) (by omega) ⟨rfl, rfl⟩) ?_
    exact hQ2
theorem rcs_6_0 {sc : zC} {d fu own : Nat} {n : Int} (ho : own < 8) (hb : 0 ≤ n ∧ n < 50) (ih : ∀ (k a : Nat) (x : Int) (f : zF) (e : Int) (Q : zQ), k < 8 → a < 4 → f 43 n.toNat = (own : Int) → zfin own fu k a = true → 0 ≤ f 42 3 → f 42 3 + ((zlst own fu k a).length : Int) ≤ 10000 → 0 ≤ e → e + (fu : Int) ≤ 40 → Q (some (zI (zval own n fu k a x))) zSH (znts 42 3 44 f (zlst own fu k a)) → zR sc (d + fu) 26 0 [] [(0, zP 42), (1, zI (k : Int)), (2, zI n), (3, zI (a : Int)), (4, zI x), (5, zI e)] 0 0 zSH f Q) {x : Int} {f : zF} {e : Int} {Q : zQ} (hk : f 43 n.toNat = (own : Int)) (hfin : zfin own (fu + 1) 6 0 = true) (h0 : 0 ≤ f 42 3) (hlen : f 42 3 + ((zlst own (fu + 1) 6 0).length : Int) ≤ 10000) (he : 0 ≤ e) (hd : e + ((fu + 1 : Nat) : Int) ≤ 40) (hQ : Q (some (zI (zval own n (fu + 1) 6 0 x))) zSH (znts 42 3 44 f (zlst own (fu + 1) 6 0))) : zR sc (d + fu + 1) 26 0 [] [(0, zP 42), (1, zI (6)), (2, zI n), (3, zI (0)), (4, zI x), (5, zI e)] 0 0 zSH f Q := by
  have hf : zfin own fu 0 0 = true := hfin
  have hl : f 42 3 + ((70 :: zlst own fu 0 0 : List Int).length : Int) ≤ 10000 := hlen
  simp only [List.length_cons, List.length_append, List.length_nil] at hl
  have hQ1 : Q (some (zI (w32 ((zval own n fu 0 0 x) * 2)))) zSH (znts 42 3 44 f (70 :: zlst own fu 0 0)) := hQ
  have hQ2 : Q (some (zI (w32 ((zval own n fu 0 0 x) * 2)))) zSH (znts 42 3 44 (znt 42 3 44 f 70) (zlst own fu 0 0)) := hQ1
  have hr : znt 42 3 44 f 70 42 3 = f 42 3 + 1 := znt_r
  have hk1 : znt 42 3 44 f 70 43 n.toNat = (own : Int) := (znt_o (by decide) (Or.inl (by decide))).trans hk
  refine rc60_26_0 (d := d + fu) ?_
  rw [w32_in (z := e + 1) (by omega)]
  repeat' (refine zov_p (by omega) ?_)
  rw [if_pos (by omega)]
  refine zix_p (by omega) ?_
  refine zit (fun h24 => ?_) (fun h24 => ?_)
  · refine zix_p (by omega) (zov_p (by omega) ?_)
    rw [znt_1 h24]
    generalize znt 42 3 44 f 70 = F at *
    try rw [hk]
    refine zcallE (ih 0 0 x F (e + 1) _ (by omega) (by omega) hk1 hf (by omega) (by omega) (by omega) (by omega) ⟨rfl, rfl⟩) ?_
    exact hQ2
  · refine zov_p (by omega) ?_
    rw [znt_2 (t := 44) (v := 70) h24]
    generalize znt 42 3 44 f 70 = F at *
    try rw [hk]
    refine zcallE (ih 0 0 x F (e + 1) _ (by omega) (by omega) hk1 hf (by omega) (by omega) (by omega) (by omega) ⟨rfl, rfl⟩) ?_
    exact hQ2
theorem rrs_6_0 {sc : zC} {d fu own : Nat} {n : Int} (ho : own < 8) (ih : ∀ (k a : Nat) (x : Int) (f : zF) (Q : zQ), k < 8 → a < 4 → f 50 44 = (own : Int) → f 50 45 = n → zfin own fu k a = true → 0 ≤ f 50 43 → f 50 43 + ((zlst own fu k a).length : Int) ≤ 10000 → Q (some (zI (zval own n fu k a x))) zSH (znts 50 43 73 f (zlst own fu k a)) → zR sc (d + fu) (248 + a) 0 [] [(0, zP 50), (1, zI (k : Int)), (2, zI x)] 0 0 zSH f Q) {x : Int} {f : zF} {Q : zQ} (hk : f 50 44 = (own : Int)) (hn : f 50 45 = n) (hfin : zfin own (fu + 1) 6 0 = true) (h0 : 0 ≤ f 50 43) (hlen : f 50 43 + ((zlst own (fu + 1) 6 0).length : Int) ≤ 10000) (hQ : Q (some (zI (zval own n (fu + 1) 6 0 x))) zSH (znts 50 43 73 f (zlst own (fu + 1) 6 0))) : zR sc (d + fu + 1) 248 0 [] [(0, zP 50), (1, zI (6)), (2, zI x)] 0 0 zSH f Q := by
  have hf : zfin own fu 0 0 = true := hfin
  have hl : f 50 43 + ((70 :: zlst own fu 0 0 : List Int).length : Int) ≤ 10000 := hlen
  simp only [List.length_cons, List.length_append, List.length_nil] at hl
  have hQ1 : Q (some (zI (w32 ((zval own n fu 0 0 x) * 2)))) zSH (znts 50 43 73 f (70 :: zlst own fu 0 0)) := hQ
  have hQ2 : Q (some (zI (w32 ((zval own n fu 0 0 x) * 2)))) zSH (znts 50 43 73 (znt 50 43 73 f 70) (zlst own fu 0 0)) := hQ1
  have hr : znt 50 43 73 f 70 50 43 = f 50 43 + 1 := znt_r
  have hk1 : znt 50 43 73 f 70 50 44 = (own : Int) := (znt_o (by decide) (Or.inr (by decide))).trans hk
  have hn1 : znt 50 43 73 f 70 50 45 = n := (znt_o (by decide) (Or.inr (by decide))).trans hn
  refine rr60_248_0 (d := d + fu) ?_
  try rw [hn]
  refine zit (fun h24 => ?_) (fun h24 => ?_)
  · refine zix_p (by omega) (zov_p (by omega) ?_)
    rw [znt_1 h24]
    generalize znt 50 43 73 f 70 = F at *
    try rw [hk]
    refine zcallE (ih 0 0 x F _ (by omega) (by omega) hk1 hn1 hf (by omega) (by omega) ⟨rfl, rfl⟩) ?_
    exact hQ2
  · refine zov_p (by omega) ?_
    rw [znt_2 (t := 73) (v := 70) h24]
    generalize znt 50 43 73 f 70 = F at *
    try rw [hk]
    refine zcallE (ih 0 0 x F _ (by omega) (by omega) hk1 hn1 hf (by omega) (by omega) ⟨rfl, rfl⟩) ?_
    exact hQ2
theorem rcs_6_1 {sc : zC} {d fu own : Nat} {n : Int} (ho : own < 8) (hb : 0 ≤ n ∧ n < 50) (ih : ∀ (k a : Nat) (x : Int) (f : zF) (e : Int) (Q : zQ), k < 8 → a < 4 → f 43 n.toNat = (own : Int) → zfin own fu k a = true → 0 ≤ f 42 3 → f 42 3 + ((zlst own fu k a).length : Int) ≤ 10000 → 0 ≤ e → e + (fu : Int) ≤ 40 → Q (some (zI (zval own n fu k a x))) zSH (znts 42 3 44 f (zlst own fu k a)) → zR sc (d + fu) 26 0 [] [(0, zP 42), (1, zI (k : Int)), (2, zI n), (3, zI (a : Int)), (4, zI x), (5, zI e)] 0 0 zSH f Q) {x : Int} {f : zF} {e : Int} {Q : zQ} (hk : f 43 n.toNat = (own : Int)) (hfin : zfin own (fu + 1) 6 1 = true) (h0 : 0 ≤ f 42 3) (hlen : f 42 3 + ((zlst own (fu + 1) 6 1).length : Int) ≤ 10000) (he : 0 ≤ e) (hd : e + ((fu + 1 : Nat) : Int) ≤ 40) (hQ : Q (some (zI (zval own n (fu + 1) 6 1 x))) zSH (znts 42 3 44 f (zlst own (fu + 1) 6 1))) : zR sc (d + fu + 1) 26 0 [] [(0, zP 42), (1, zI (6)), (2, zI n), (3, zI (1)), (4, zI x), (5, zI e)] 0 0 zSH f Q := by
  have hf : zfin own fu own 0 = true := hfin
  have hl : f 42 3 + ((10 :: zlst own fu own 0 : List Int).length : Int) ≤ 10000 := hlen
  simp only [List.length_cons, List.length_append, List.length_nil] at hl
  have hQ1 : Q (some (zI (w32 ((zval own n fu own 0 x) * 2)))) zSH (znts 42 3 44 f (10 :: zlst own fu own 0)) := hQ
  have hQ2 : Q (some (zI (w32 ((zval own n fu own 0 x) * 2)))) zSH (znts 42 3 44 (znt 42 3 44 f 10) (zlst own fu own 0)) := hQ1
  have hr : znt 42 3 44 f 10 42 3 = f 42 3 + 1 := znt_r
  have hk1 : znt 42 3 44 f 10 43 n.toNat = (own : Int) := (znt_o (by decide) (Or.inl (by decide))).trans hk
  refine rc61_26_0 (d := d + fu) ?_
  rw [w32_in (z := e + 1) (by omega)]
  repeat' (refine zov_p (by omega) ?_)
  rw [if_pos (by omega)]
  refine zix_p (by omega) ?_
  refine zit (fun h24 => ?_) (fun h24 => ?_)
  · refine zix_p (by omega) (zov_p (by omega) ?_)
    rw [znt_1 h24]
    generalize znt 42 3 44 f 10 = F at *
    try rw [hk]
    refine zcallE (ih own 0 x F (e + 1) _ (by omega) (by omega) hk1 hf (by omega) (by omega) (by omega) (by omega) ⟨rfl, rfl⟩) ?_
    exact hQ2
  · refine zov_p (by omega) ?_
    rw [znt_2 (t := 44) (v := 10) h24]
    generalize znt 42 3 44 f 10 = F at *
    try rw [hk]
    refine zcallE (ih own 0 x F (e + 1) _ (by omega) (by omega) hk1 hf (by omega) (by omega) (by omega) (by omega) ⟨rfl, rfl⟩) ?_
    exact hQ2
theorem rrs_6_1 {sc : zC} {d fu own : Nat} {n : Int} (ho : own < 8) (ih : ∀ (k a : Nat) (x : Int) (f : zF) (Q : zQ), k < 8 → a < 4 → f 50 44 = (own : Int) → f 50 45 = n → zfin own fu k a = true → 0 ≤ f 50 43 → f 50 43 + ((zlst own fu k a).length : Int) ≤ 10000 → Q (some (zI (zval own n fu k a x))) zSH (znts 50 43 73 f (zlst own fu k a)) → zR sc (d + fu) (248 + a) 0 [] [(0, zP 50), (1, zI (k : Int)), (2, zI x)] 0 0 zSH f Q) {x : Int} {f : zF} {Q : zQ} (hk : f 50 44 = (own : Int)) (hn : f 50 45 = n) (hfin : zfin own (fu + 1) 6 1 = true) (h0 : 0 ≤ f 50 43) (hlen : f 50 43 + ((zlst own (fu + 1) 6 1).length : Int) ≤ 10000) (hQ : Q (some (zI (zval own n (fu + 1) 6 1 x))) zSH (znts 50 43 73 f (zlst own (fu + 1) 6 1))) : zR sc (d + fu + 1) 249 0 [] [(0, zP 50), (1, zI (6)), (2, zI x)] 0 0 zSH f Q := by
  have hf : zfin own fu own 0 = true := hfin
  have hl : f 50 43 + ((10 :: zlst own fu own 0 : List Int).length : Int) ≤ 10000 := hlen
  simp only [List.length_cons, List.length_append, List.length_nil] at hl
  have hQ1 : Q (some (zI (w32 ((zval own n fu own 0 x) * 2)))) zSH (znts 50 43 73 f (10 :: zlst own fu own 0)) := hQ
  have hQ2 : Q (some (zI (w32 ((zval own n fu own 0 x) * 2)))) zSH (znts 50 43 73 (znt 50 43 73 f 10) (zlst own fu own 0)) := hQ1
  have hr : znt 50 43 73 f 10 50 43 = f 50 43 + 1 := znt_r
  have hk1 : znt 50 43 73 f 10 50 44 = (own : Int) := (znt_o (by decide) (Or.inr (by decide))).trans hk
  have hn1 : znt 50 43 73 f 10 50 45 = n := (znt_o (by decide) (Or.inr (by decide))).trans hn
  refine rr61_249_0 (d := d + fu) ?_
  try rw [hn]
  refine zit (fun h24 => ?_) (fun h24 => ?_)
  · refine zix_p (by omega) (zov_p (by omega) ?_)
    rw [znt_1 h24]
    generalize znt 50 43 73 f 10 = F at *
    try rw [hk]
    refine zcallE (ih own 0 x F _ (by omega) (by omega) hk1 hn1 hf (by omega) (by omega) ⟨rfl, rfl⟩) ?_
    exact hQ2
  · refine zov_p (by omega) ?_
    rw [znt_2 (t := 73) (v := 10) h24]
    generalize znt 50 43 73 f 10 = F at *
    try rw [hk]
    refine zcallE (ih own 0 x F _ (by omega) (by omega) hk1 hn1 hf (by omega) (by omega) ⟨rfl, rfl⟩) ?_
    exact hQ2
theorem rcs_6_2 {sc : zC} {d fu own : Nat} {n : Int} (ho : own < 8) (hb : 0 ≤ n ∧ n < 50) (ih : ∀ (k a : Nat) (x : Int) (f : zF) (e : Int) (Q : zQ), k < 8 → a < 4 → f 43 n.toNat = (own : Int) → zfin own fu k a = true → 0 ≤ f 42 3 → f 42 3 + ((zlst own fu k a).length : Int) ≤ 10000 → 0 ≤ e → e + (fu : Int) ≤ 40 → Q (some (zI (zval own n fu k a x))) zSH (znts 42 3 44 f (zlst own fu k a)) → zR sc (d + fu) 26 0 [] [(0, zP 42), (1, zI (k : Int)), (2, zI n), (3, zI (a : Int)), (4, zI x), (5, zI e)] 0 0 zSH f Q) {x : Int} {f : zF} {e : Int} {Q : zQ} (hk : f 43 n.toNat = (own : Int)) (hfin : zfin own (fu + 1) 6 2 = true) (h0 : 0 ≤ f 42 3) (hlen : f 42 3 + ((zlst own (fu + 1) 6 2).length : Int) ≤ 10000) (he : 0 ≤ e) (hd : e + ((fu + 1 : Nat) : Int) ≤ 40) (hQ : Q (some (zI (zval own n (fu + 1) 6 2 x))) zSH (znts 42 3 44 f (zlst own (fu + 1) 6 2))) : zR sc (d + fu + 1) 26 0 [] [(0, zP 42), (1, zI (6)), (2, zI n), (3, zI (2)), (4, zI x), (5, zI e)] 0 0 zSH f Q := by
  have hl : f 42 3 + ((11 :: [] : List Int).length : Int) ≤ 10000 := hlen
  simp only [List.length_cons, List.length_append, List.length_nil] at hl
  have hQ1 : Q (some (zI (zxor x n))) zSH (znts 42 3 44 f (11 :: [])) := hQ
  have hQ2 : Q (some (zI (zxor x n))) zSH (znts 42 3 44 (znt 42 3 44 f 11) ([])) := hQ1
  have hr : znt 42 3 44 f 11 42 3 = f 42 3 + 1 := znt_r
  have hk1 : znt 42 3 44 f 11 43 n.toNat = (own : Int) := (znt_o (by decide) (Or.inl (by decide))).trans hk
  refine rc62_26_0 (d := d + fu) ?_
  repeat' (refine zov_p (by omega) ?_)
  rw [if_pos (by omega)]
  refine zix_p (by omega) ?_
  refine zit (fun h24 => ?_) (fun h24 => ?_)
  · refine zix_p (by omega) (zov_p (by omega) ?_)
    rw [znt_1 h24]
    generalize znt 42 3 44 f 11 = F at *
    exact hQ2
  · refine zov_p (by omega) ?_
    rw [znt_2 (t := 44) (v := 11) h24]
    generalize znt 42 3 44 f 11 = F at *
    exact hQ2
theorem rrs_6_2 {sc : zC} {d fu own : Nat} {n : Int} (ho : own < 8) (ih : ∀ (k a : Nat) (x : Int) (f : zF) (Q : zQ), k < 8 → a < 4 → f 50 44 = (own : Int) → f 50 45 = n → zfin own fu k a = true → 0 ≤ f 50 43 → f 50 43 + ((zlst own fu k a).length : Int) ≤ 10000 → Q (some (zI (zval own n fu k a x))) zSH (znts 50 43 73 f (zlst own fu k a)) → zR sc (d + fu) (248 + a) 0 [] [(0, zP 50), (1, zI (k : Int)), (2, zI x)] 0 0 zSH f Q) {x : Int} {f : zF} {Q : zQ} (hk : f 50 44 = (own : Int)) (hn : f 50 45 = n) (hfin : zfin own (fu + 1) 6 2 = true) (h0 : 0 ≤ f 50 43) (hlen : f 50 43 + ((zlst own (fu + 1) 6 2).length : Int) ≤ 10000) (hQ : Q (some (zI (zval own n (fu + 1) 6 2 x))) zSH (znts 50 43 73 f (zlst own (fu + 1) 6 2))) : zR sc (d + fu + 1) 250 0 [] [(0, zP 50), (1, zI (6)), (2, zI x)] 0 0 zSH f Q := by
  have hl : f 50 43 + ((11 :: [] : List Int).length : Int) ≤ 10000 := hlen
  simp only [List.length_cons, List.length_append, List.length_nil] at hl
  have hQ1 : Q (some (zI (zxor x n))) zSH (znts 50 43 73 f (11 :: [])) := hQ
  have hQ2 : Q (some (zI (zxor x n))) zSH (znts 50 43 73 (znt 50 43 73 f 11) ([])) := hQ1
  have hr : znt 50 43 73 f 11 50 43 = f 50 43 + 1 := znt_r
  have hk1 : znt 50 43 73 f 11 50 44 = (own : Int) := (znt_o (by decide) (Or.inr (by decide))).trans hk
  have hn1 : znt 50 43 73 f 11 50 45 = n := (znt_o (by decide) (Or.inr (by decide))).trans hn
  refine rr62_250_0 (d := d + fu) ?_
  try rw [hn]
  refine zit (fun h24 => ?_) (fun h24 => ?_)
  · refine zix_p (by omega) (zov_p (by omega) ?_)
    rw [znt_1 h24]
    generalize znt 50 43 73 f 11 = F at *
    exact hQ2
  · refine zov_p (by omega) ?_
    rw [znt_2 (t := 73) (v := 11) h24]
    generalize znt 50 43 73 f 11 = F at *
    exact hQ2
theorem rcs_6_3 {sc : zC} {d fu own : Nat} {n : Int} (ho : own < 8) (hb : 0 ≤ n ∧ n < 50) (ih : ∀ (k a : Nat) (x : Int) (f : zF) (e : Int) (Q : zQ), k < 8 → a < 4 → f 43 n.toNat = (own : Int) → zfin own fu k a = true → 0 ≤ f 42 3 → f 42 3 + ((zlst own fu k a).length : Int) ≤ 10000 → 0 ≤ e → e + (fu : Int) ≤ 40 → Q (some (zI (zval own n fu k a x))) zSH (znts 42 3 44 f (zlst own fu k a)) → zR sc (d + fu) 26 0 [] [(0, zP 42), (1, zI (k : Int)), (2, zI n), (3, zI (a : Int)), (4, zI x), (5, zI e)] 0 0 zSH f Q) {x : Int} {f : zF} {e : Int} {Q : zQ} (hk : f 43 n.toNat = (own : Int)) (hfin : zfin own (fu + 1) 6 3 = true) (h0 : 0 ≤ f 42 3) (hlen : f 42 3 + ((zlst own (fu + 1) 6 3).length : Int) ≤ 10000) (he : 0 ≤ e) (hd : e + ((fu + 1 : Nat) : Int) ≤ 40) (hQ : Q (some (zI (zval own n (fu + 1) 6 3 x))) zSH (znts 42 3 44 f (zlst own (fu + 1) 6 3))) : zR sc (d + fu + 1) 26 0 [] [(0, zP 42), (1, zI (6)), (2, zI n), (3, zI (3)), (4, zI x), (5, zI e)] 0 0 zSH f Q := by
  have hf : (zfin own fu own 1 && zfin own fu own 2) = true := hfin
  rw [Bool.and_eq_true] at hf
  have hl : f 42 3 + ((2 :: (zlst own fu own 1 ++ zlst own fu own 2) : List Int).length : Int) ≤ 10000 := hlen
  simp only [List.length_cons, List.length_append, List.length_nil] at hl
  have hQ1 : Q (some (zI (w32 ((zval own n fu own 1 x) - (zval own n fu own 2 1))))) zSH (znts 42 3 44 f (2 :: (zlst own fu own 1 ++ zlst own fu own 2))) := hQ
  have hQ2 : Q (some (zI (w32 ((zval own n fu own 1 x) - (zval own n fu own 2 1))))) zSH (znts 42 3 44 (znt 42 3 44 f 2) ((zlst own fu own 1 ++ zlst own fu own 2))) := hQ1
  rw [znts_a] at hQ2
  have hr : znt 42 3 44 f 2 42 3 = f 42 3 + 1 := znt_r
  have hk1 : znt 42 3 44 f 2 43 n.toNat = (own : Int) := (znt_o (by decide) (Or.inl (by decide))).trans hk
  refine rc63_26_0 (d := d + fu) ?_
  rw [w32_in (z := e + 1) (by omega)]
  repeat' (refine zov_p (by omega) ?_)
  rw [if_pos (by omega)]
  refine zix_p (by omega) ?_
  refine zit (fun h24 => ?_) (fun h24 => ?_)
  · refine zix_p (by omega) (zov_p (by omega) ?_)
    rw [znt_1 h24]
    generalize znt 42 3 44 f 2 = F at *
    try rw [hk]
    refine zcallE (ih own 1 x F (e + 1) _ (by omega) (by omega) hk1 hf.1 (by omega) (by omega) (by omega) (by omega) ⟨rfl, rfl⟩) ?_
    have hr2 : (znts 42 3 44 F (zlst own fu own 1)) 42 3 = F 42 3 + ((zlst own fu own 1).length : Int) := znts_r
    have hk2 : (znts 42 3 44 F (zlst own fu own 1)) 43 n.toNat = (own : Int) := (znts_o (by decide) (Or.inl (by decide))).trans hk1
    refine zcallE (ih own 2 1 (znts 42 3 44 F (zlst own fu own 1)) (e + 1) _ (by omega) (by omega) hk2 hf.2 (by omega) (by omega) (by omega) (by omega) ⟨rfl, rfl⟩) ?_
    exact hQ2
  · refine zov_p (by omega) ?_
    rw [znt_2 (t := 44) (v := 2) h24]
    generalize znt 42 3 44 f 2 = F at *
    try rw [hk]
    refine zcallE (ih own 1 x F (e + 1) _ (by omega) (by omega) hk1 hf.1 (by omega) (by omega) (by omega) (by omega) ⟨rfl, rfl⟩) ?_
    have hr2 : (znts 42 3 44 F (zlst own fu own 1)) 42 3 = F 42 3 + ((zlst own fu own 1).length : Int) := znts_r
    have hk2 : (znts 42 3 44 F (zlst own fu own 1)) 43 n.toNat = (own : Int) := (znts_o (by decide) (Or.inl (by decide))).trans hk1
    refine zcallE (ih own 2 1 (znts 42 3 44 F (zlst own fu own 1)) (e + 1) _ (by omega) (by omega) hk2 hf.2 (by omega) (by omega) (by omega) (by omega) ⟨rfl, rfl⟩) ?_
    exact hQ2
theorem rrs_6_3 {sc : zC} {d fu own : Nat} {n : Int} (ho : own < 8) (ih : ∀ (k a : Nat) (x : Int) (f : zF) (Q : zQ), k < 8 → a < 4 → f 50 44 = (own : Int) → f 50 45 = n → zfin own fu k a = true → 0 ≤ f 50 43 → f 50 43 + ((zlst own fu k a).length : Int) ≤ 10000 → Q (some (zI (zval own n fu k a x))) zSH (znts 50 43 73 f (zlst own fu k a)) → zR sc (d + fu) (248 + a) 0 [] [(0, zP 50), (1, zI (k : Int)), (2, zI x)] 0 0 zSH f Q) {x : Int} {f : zF} {Q : zQ} (hk : f 50 44 = (own : Int)) (hn : f 50 45 = n) (hfin : zfin own (fu + 1) 6 3 = true) (h0 : 0 ≤ f 50 43) (hlen : f 50 43 + ((zlst own (fu + 1) 6 3).length : Int) ≤ 10000) (hQ : Q (some (zI (zval own n (fu + 1) 6 3 x))) zSH (znts 50 43 73 f (zlst own (fu + 1) 6 3))) : zR sc (d + fu + 1) 251 0 [] [(0, zP 50), (1, zI (6)), (2, zI x)] 0 0 zSH f Q := by
  have hf : (zfin own fu own 1 && zfin own fu own 2) = true := hfin
  rw [Bool.and_eq_true] at hf
  have hl : f 50 43 + ((2 :: (zlst own fu own 1 ++ zlst own fu own 2) : List Int).length : Int) ≤ 10000 := hlen
  simp only [List.length_cons, List.length_append, List.length_nil] at hl
  have hQ1 : Q (some (zI (w32 ((zval own n fu own 1 x) - (zval own n fu own 2 1))))) zSH (znts 50 43 73 f (2 :: (zlst own fu own 1 ++ zlst own fu own 2))) := hQ
  have hQ2 : Q (some (zI (w32 ((zval own n fu own 1 x) - (zval own n fu own 2 1))))) zSH (znts 50 43 73 (znt 50 43 73 f 2) ((zlst own fu own 1 ++ zlst own fu own 2))) := hQ1
  rw [znts_a] at hQ2
  have hr : znt 50 43 73 f 2 50 43 = f 50 43 + 1 := znt_r
  have hk1 : znt 50 43 73 f 2 50 44 = (own : Int) := (znt_o (by decide) (Or.inr (by decide))).trans hk
  have hn1 : znt 50 43 73 f 2 50 45 = n := (znt_o (by decide) (Or.inr (by decide))).trans hn
  refine rr63_251_0 (d := d + fu) ?_
  try rw [hn]
  refine zit (fun h24 => ?_) (fun h24 => ?_)
  · refine zix_p (by omega) (zov_p (by omega) ?_)
    rw [znt_1 h24]
    generalize znt 50 43 73 f 2 = F at *
    try rw [hk]
    refine zcallE (ih own 1 x F _ (by omega) (by omega) hk1 hn1 hf.1 (by omega) (by omega) ⟨rfl, rfl⟩) ?_
    have hr2 : (znts 50 43 73 F (zlst own fu own 1)) 50 43 = F 50 43 + ((zlst own fu own 1).length : Int) := znts_r
    have hk2 : (znts 50 43 73 F (zlst own fu own 1)) 50 44 = (own : Int) := (znts_o (by decide) (Or.inr (by decide))).trans hk1
    have hn2 : (znts 50 43 73 F (zlst own fu own 1)) 50 45 = n := (znts_o (by decide) (Or.inr (by decide))).trans hn1
    rw [show (znts 50 43 73 F (zlst own fu own 1)) 50 44 = (own : Int) from hk2]
    refine zcallE (ih own 2 1 (znts 50 43 73 F (zlst own fu own 1)) _ (by omega) (by omega) hk2 hn2 hf.2 (by omega) (by omega) ⟨rfl, rfl⟩) ?_
    exact hQ2
  · refine zov_p (by omega) ?_
    rw [znt_2 (t := 73) (v := 2) h24]
    generalize znt 50 43 73 f 2 = F at *
    try rw [hk]
    refine zcallE (ih own 1 x F _ (by omega) (by omega) hk1 hn1 hf.1 (by omega) (by omega) ⟨rfl, rfl⟩) ?_
    have hr2 : (znts 50 43 73 F (zlst own fu own 1)) 50 43 = F 50 43 + ((zlst own fu own 1).length : Int) := znts_r
    have hk2 : (znts 50 43 73 F (zlst own fu own 1)) 50 44 = (own : Int) := (znts_o (by decide) (Or.inr (by decide))).trans hk1
    have hn2 : (znts 50 43 73 F (zlst own fu own 1)) 50 45 = n := (znts_o (by decide) (Or.inr (by decide))).trans hn1
    rw [show (znts 50 43 73 F (zlst own fu own 1)) 50 44 = (own : Int) from hk2]
    refine zcallE (ih own 2 1 (znts 50 43 73 F (zlst own fu own 1)) _ (by omega) (by omega) hk2 hn2 hf.2 (by omega) (by omega) ⟨rfl, rfl⟩) ?_
    exact hQ2
theorem rcs_7_0 {sc : zC} {d fu own : Nat} {n : Int} (ho : own < 8) (hb : 0 ≤ n ∧ n < 50) (ih : ∀ (k a : Nat) (x : Int) (f : zF) (e : Int) (Q : zQ), k < 8 → a < 4 → f 43 n.toNat = (own : Int) → zfin own fu k a = true → 0 ≤ f 42 3 → f 42 3 + ((zlst own fu k a).length : Int) ≤ 10000 → 0 ≤ e → e + (fu : Int) ≤ 40 → Q (some (zI (zval own n fu k a x))) zSH (znts 42 3 44 f (zlst own fu k a)) → zR sc (d + fu) 26 0 [] [(0, zP 42), (1, zI (k : Int)), (2, zI n), (3, zI (a : Int)), (4, zI x), (5, zI e)] 0 0 zSH f Q) {x : Int} {f : zF} {e : Int} {Q : zQ} (hk : f 43 n.toNat = (own : Int)) (hfin : zfin own (fu + 1) 7 0 = true) (h0 : 0 ≤ f 42 3) (hlen : f 42 3 + ((zlst own (fu + 1) 7 0).length : Int) ≤ 10000) (he : 0 ≤ e) (hd : e + ((fu + 1 : Nat) : Int) ≤ 40) (hQ : Q (some (zI (zval own n (fu + 1) 7 0 x))) zSH (znts 42 3 44 f (zlst own (fu + 1) 7 0))) : zR sc (d + fu + 1) 26 0 [] [(0, zP 42), (1, zI (7)), (2, zI n), (3, zI (0)), (4, zI x), (5, zI e)] 0 0 zSH f Q := by
  have hf : zfin own fu 0 0 = true := hfin
  have hl : f 42 3 + ((20 :: zlst own fu 0 0 : List Int).length : Int) ≤ 10000 := hlen
  simp only [List.length_cons, List.length_append, List.length_nil] at hl
  have hQ1 : Q (some (zI (w32 ((zval own n fu 0 0 x) + 3)))) zSH (znts 42 3 44 f (20 :: zlst own fu 0 0)) := hQ
  have hQ2 : Q (some (zI (w32 ((zval own n fu 0 0 x) + 3)))) zSH (znts 42 3 44 (znt 42 3 44 f 20) (zlst own fu 0 0)) := hQ1
  have hr : znt 42 3 44 f 20 42 3 = f 42 3 + 1 := znt_r
  have hk1 : znt 42 3 44 f 20 43 n.toNat = (own : Int) := (znt_o (by decide) (Or.inl (by decide))).trans hk
  refine rc70_26_0 (d := d + fu) ?_
  rw [w32_in (z := e + 1) (by omega)]
  repeat' (refine zov_p (by omega) ?_)
  rw [if_pos (by omega)]
  refine zix_p (by omega) ?_
  refine zit (fun h24 => ?_) (fun h24 => ?_)
  · refine zix_p (by omega) (zov_p (by omega) ?_)
    rw [znt_1 h24]
    generalize znt 42 3 44 f 20 = F at *
    try rw [hk]
    refine zcallE (ih 0 0 x F (e + 1) _ (by omega) (by omega) hk1 hf (by omega) (by omega) (by omega) (by omega) ⟨rfl, rfl⟩) ?_
    exact hQ2
  · refine zov_p (by omega) ?_
    rw [znt_2 (t := 44) (v := 20) h24]
    generalize znt 42 3 44 f 20 = F at *
    try rw [hk]
    refine zcallE (ih 0 0 x F (e + 1) _ (by omega) (by omega) hk1 hf (by omega) (by omega) (by omega) (by omega) ⟨rfl, rfl⟩) ?_
    exact hQ2
theorem rrs_7_0 {sc : zC} {d fu own : Nat} {n : Int} (ho : own < 8) (ih : ∀ (k a : Nat) (x : Int) (f : zF) (Q : zQ), k < 8 → a < 4 → f 50 44 = (own : Int) → f 50 45 = n → zfin own fu k a = true → 0 ≤ f 50 43 → f 50 43 + ((zlst own fu k a).length : Int) ≤ 10000 → Q (some (zI (zval own n fu k a x))) zSH (znts 50 43 73 f (zlst own fu k a)) → zR sc (d + fu) (248 + a) 0 [] [(0, zP 50), (1, zI (k : Int)), (2, zI x)] 0 0 zSH f Q) {x : Int} {f : zF} {Q : zQ} (hk : f 50 44 = (own : Int)) (hn : f 50 45 = n) (hfin : zfin own (fu + 1) 7 0 = true) (h0 : 0 ≤ f 50 43) (hlen : f 50 43 + ((zlst own (fu + 1) 7 0).length : Int) ≤ 10000) (hQ : Q (some (zI (zval own n (fu + 1) 7 0 x))) zSH (znts 50 43 73 f (zlst own (fu + 1) 7 0))) : zR sc (d + fu + 1) 248 0 [] [(0, zP 50), (1, zI (7)), (2, zI x)] 0 0 zSH f Q := by
  have hf : zfin own fu 0 0 = true := hfin
  have hl : f 50 43 + ((20 :: zlst own fu 0 0 : List Int).length : Int) ≤ 10000 := hlen
  simp only [List.length_cons, List.length_append, List.length_nil] at hl
  have hQ1 : Q (some (zI (w32 ((zval own n fu 0 0 x) + 3)))) zSH (znts 50 43 73 f (20 :: zlst own fu 0 0)) := hQ
  have hQ2 : Q (some (zI (w32 ((zval own n fu 0 0 x) + 3)))) zSH (znts 50 43 73 (znt 50 43 73 f 20) (zlst own fu 0 0)) := hQ1
  have hr : znt 50 43 73 f 20 50 43 = f 50 43 + 1 := znt_r
  have hk1 : znt 50 43 73 f 20 50 44 = (own : Int) := (znt_o (by decide) (Or.inr (by decide))).trans hk
  have hn1 : znt 50 43 73 f 20 50 45 = n := (znt_o (by decide) (Or.inr (by decide))).trans hn
  refine rr70_248_0 (d := d + fu) ?_
  try rw [hn]
  refine zit (fun h24 => ?_) (fun h24 => ?_)
  · refine zix_p (by omega) (zov_p (by omega) ?_)
    rw [znt_1 h24]
    generalize znt 50 43 73 f 20 = F at *
    try rw [hk]
    refine zcallE (ih 0 0 x F _ (by omega) (by omega) hk1 hn1 hf (by omega) (by omega) ⟨rfl, rfl⟩) ?_
    exact hQ2
  · refine zov_p (by omega) ?_
    rw [znt_2 (t := 73) (v := 20) h24]
    generalize znt 50 43 73 f 20 = F at *
    try rw [hk]
    refine zcallE (ih 0 0 x F _ (by omega) (by omega) hk1 hn1 hf (by omega) (by omega) ⟨rfl, rfl⟩) ?_
    exact hQ2
theorem rcs_7_1 {sc : zC} {d fu own : Nat} {n : Int} (ho : own < 8) (hb : 0 ≤ n ∧ n < 50) (ih : ∀ (k a : Nat) (x : Int) (f : zF) (e : Int) (Q : zQ), k < 8 → a < 4 → f 43 n.toNat = (own : Int) → zfin own fu k a = true → 0 ≤ f 42 3 → f 42 3 + ((zlst own fu k a).length : Int) ≤ 10000 → 0 ≤ e → e + (fu : Int) ≤ 40 → Q (some (zI (zval own n fu k a x))) zSH (znts 42 3 44 f (zlst own fu k a)) → zR sc (d + fu) 26 0 [] [(0, zP 42), (1, zI (k : Int)), (2, zI n), (3, zI (a : Int)), (4, zI x), (5, zI e)] 0 0 zSH f Q) {x : Int} {f : zF} {e : Int} {Q : zQ} (hk : f 43 n.toNat = (own : Int)) (hfin : zfin own (fu + 1) 7 1 = true) (h0 : 0 ≤ f 42 3) (hlen : f 42 3 + ((zlst own (fu + 1) 7 1).length : Int) ≤ 10000) (he : 0 ≤ e) (hd : e + ((fu + 1 : Nat) : Int) ≤ 40) (hQ : Q (some (zI (zval own n (fu + 1) 7 1 x))) zSH (znts 42 3 44 f (zlst own (fu + 1) 7 1))) : zR sc (d + fu + 1) 26 0 [] [(0, zP 42), (1, zI (7)), (2, zI n), (3, zI (1)), (4, zI x), (5, zI e)] 0 0 zSH f Q := by
  have hf : (zfin own fu 4 1 && zfin own fu own 2) = true := hfin
  rw [Bool.and_eq_true] at hf
  have hl : f 42 3 + ((80 :: (zlst own fu 4 1 ++ zlst own fu own 2) : List Int).length : Int) ≤ 10000 := hlen
  simp only [List.length_cons, List.length_append, List.length_nil] at hl
  have hQ1 : Q (some (zI (w32 ((zval own n fu 4 1 x) + (zval own n fu own 2 2))))) zSH (znts 42 3 44 f (80 :: (zlst own fu 4 1 ++ zlst own fu own 2))) := hQ
  have hQ2 : Q (some (zI (w32 ((zval own n fu 4 1 x) + (zval own n fu own 2 2))))) zSH (znts 42 3 44 (znt 42 3 44 f 80) ((zlst own fu 4 1 ++ zlst own fu own 2))) := hQ1
  rw [znts_a] at hQ2
  have hr : znt 42 3 44 f 80 42 3 = f 42 3 + 1 := znt_r
  have hk1 : znt 42 3 44 f 80 43 n.toNat = (own : Int) := (znt_o (by decide) (Or.inl (by decide))).trans hk
  refine rc71_26_0 (d := d + fu) ?_
  rw [w32_in (z := e + 1) (by omega)]
  repeat' (refine zov_p (by omega) ?_)
  rw [if_pos (by omega)]
  refine zix_p (by omega) ?_
  refine zit (fun h24 => ?_) (fun h24 => ?_)
  · refine zix_p (by omega) (zov_p (by omega) ?_)
    rw [znt_1 h24]
    generalize znt 42 3 44 f 80 = F at *
    try rw [hk]
    refine zcallE (ih 4 1 x F (e + 1) _ (by omega) (by omega) hk1 hf.1 (by omega) (by omega) (by omega) (by omega) ⟨rfl, rfl⟩) ?_
    have hr2 : (znts 42 3 44 F (zlst own fu 4 1)) 42 3 = F 42 3 + ((zlst own fu 4 1).length : Int) := znts_r
    have hk2 : (znts 42 3 44 F (zlst own fu 4 1)) 43 n.toNat = (own : Int) := (znts_o (by decide) (Or.inl (by decide))).trans hk1
    refine zcallE (ih own 2 2 (znts 42 3 44 F (zlst own fu 4 1)) (e + 1) _ (by omega) (by omega) hk2 hf.2 (by omega) (by omega) (by omega) (by omega) ⟨rfl, rfl⟩) ?_
    exact hQ2
  · refine zov_p (by omega) ?_
    rw [znt_2 (t := 44) (v := 80) h24]
    generalize znt 42 3 44 f 80 = F at *
    try rw [hk]
    refine zcallE (ih 4 1 x F (e + 1) _ (by omega) (by omega) hk1 hf.1 (by omega) (by omega) (by omega) (by omega) ⟨rfl, rfl⟩) ?_
    have hr2 : (znts 42 3 44 F (zlst own fu 4 1)) 42 3 = F 42 3 + ((zlst own fu 4 1).length : Int) := znts_r
    have hk2 : (znts 42 3 44 F (zlst own fu 4 1)) 43 n.toNat = (own : Int) := (znts_o (by decide) (Or.inl (by decide))).trans hk1
    refine zcallE (ih own 2 2 (znts 42 3 44 F (zlst own fu 4 1)) (e + 1) _ (by omega) (by omega) hk2 hf.2 (by omega) (by omega) (by omega) (by omega) ⟨rfl, rfl⟩) ?_
    exact hQ2
theorem rrs_7_1 {sc : zC} {d fu own : Nat} {n : Int} (ho : own < 8) (ih : ∀ (k a : Nat) (x : Int) (f : zF) (Q : zQ), k < 8 → a < 4 → f 50 44 = (own : Int) → f 50 45 = n → zfin own fu k a = true → 0 ≤ f 50 43 → f 50 43 + ((zlst own fu k a).length : Int) ≤ 10000 → Q (some (zI (zval own n fu k a x))) zSH (znts 50 43 73 f (zlst own fu k a)) → zR sc (d + fu) (248 + a) 0 [] [(0, zP 50), (1, zI (k : Int)), (2, zI x)] 0 0 zSH f Q) {x : Int} {f : zF} {Q : zQ} (hk : f 50 44 = (own : Int)) (hn : f 50 45 = n) (hfin : zfin own (fu + 1) 7 1 = true) (h0 : 0 ≤ f 50 43) (hlen : f 50 43 + ((zlst own (fu + 1) 7 1).length : Int) ≤ 10000) (hQ : Q (some (zI (zval own n (fu + 1) 7 1 x))) zSH (znts 50 43 73 f (zlst own (fu + 1) 7 1))) : zR sc (d + fu + 1) 249 0 [] [(0, zP 50), (1, zI (7)), (2, zI x)] 0 0 zSH f Q := by
  have hf : (zfin own fu 4 1 && zfin own fu own 2) = true := hfin
  rw [Bool.and_eq_true] at hf
  have hl : f 50 43 + ((80 :: (zlst own fu 4 1 ++ zlst own fu own 2) : List Int).length : Int) ≤ 10000 := hlen
  simp only [List.length_cons, List.length_append, List.length_nil] at hl
  have hQ1 : Q (some (zI (w32 ((zval own n fu 4 1 x) + (zval own n fu own 2 2))))) zSH (znts 50 43 73 f (80 :: (zlst own fu 4 1 ++ zlst own fu own 2))) := hQ
  have hQ2 : Q (some (zI (w32 ((zval own n fu 4 1 x) + (zval own n fu own 2 2))))) zSH (znts 50 43 73 (znt 50 43 73 f 80) ((zlst own fu 4 1 ++ zlst own fu own 2))) := hQ1
  rw [znts_a] at hQ2
  have hr : znt 50 43 73 f 80 50 43 = f 50 43 + 1 := znt_r
  have hk1 : znt 50 43 73 f 80 50 44 = (own : Int) := (znt_o (by decide) (Or.inr (by decide))).trans hk
  have hn1 : znt 50 43 73 f 80 50 45 = n := (znt_o (by decide) (Or.inr (by decide))).trans hn
  refine rr71_249_0 (d := d + fu) ?_
  try rw [hn]
  refine zit (fun h24 => ?_) (fun h24 => ?_)
  · refine zix_p (by omega) (zov_p (by omega) ?_)
    rw [znt_1 h24]
    generalize znt 50 43 73 f 80 = F at *
    try rw [hk]
    refine zcallE (ih 4 1 x F _ (by omega) (by omega) hk1 hn1 hf.1 (by omega) (by omega) ⟨rfl, rfl⟩) ?_
    have hr2 : (znts 50 43 73 F (zlst own fu 4 1)) 50 43 = F 50 43 + ((zlst own fu 4 1).length : Int) := znts_r
    have hk2 : (znts 50 43 73 F (zlst own fu 4 1)) 50 44 = (own : Int) := (znts_o (by decide) (Or.inr (by decide))).trans hk1
    have hn2 : (znts 50 43 73 F (zlst own fu 4 1)) 50 45 = n := (znts_o (by decide) (Or.inr (by decide))).trans hn1
    rw [show (znts 50 43 73 F (zlst own fu 4 1)) 50 44 = (own : Int) from hk2]
    refine zcallE (ih own 2 2 (znts 50 43 73 F (zlst own fu 4 1)) _ (by omega) (by omega) hk2 hn2 hf.2 (by omega) (by omega) ⟨rfl, rfl⟩) ?_
    exact hQ2
  · refine zov_p (by omega) ?_
    rw [znt_2 (t := 73) (v := 80) h24]
    generalize znt 50 43 73 f 80 = F at *
    try rw [hk]
    refine zcallE (ih 4 1 x F _ (by omega) (by omega) hk1 hn1 hf.1 (by omega) (by omega) ⟨rfl, rfl⟩) ?_
    have hr2 : (znts 50 43 73 F (zlst own fu 4 1)) 50 43 = F 50 43 + ((zlst own fu 4 1).length : Int) := znts_r
    have hk2 : (znts 50 43 73 F (zlst own fu 4 1)) 50 44 = (own : Int) := (znts_o (by decide) (Or.inr (by decide))).trans hk1
    have hn2 : (znts 50 43 73 F (zlst own fu 4 1)) 50 45 = n := (znts_o (by decide) (Or.inr (by decide))).trans hn1
    rw [show (znts 50 43 73 F (zlst own fu 4 1)) 50 44 = (own : Int) from hk2]
    refine zcallE (ih own 2 2 (znts 50 43 73 F (zlst own fu 4 1)) _ (by omega) (by omega) hk2 hn2 hf.2 (by omega) (by omega) ⟨rfl, rfl⟩) ?_
    exact hQ2
theorem rcs_7_2 {sc : zC} {d fu own : Nat} {n : Int} (ho : own < 8) (hb : 0 ≤ n ∧ n < 50) (ih : ∀ (k a : Nat) (x : Int) (f : zF) (e : Int) (Q : zQ), k < 8 → a < 4 → f 43 n.toNat = (own : Int) → zfin own fu k a = true → 0 ≤ f 42 3 → f 42 3 + ((zlst own fu k a).length : Int) ≤ 10000 → 0 ≤ e → e + (fu : Int) ≤ 40 → Q (some (zI (zval own n fu k a x))) zSH (znts 42 3 44 f (zlst own fu k a)) → zR sc (d + fu) 26 0 [] [(0, zP 42), (1, zI (k : Int)), (2, zI n), (3, zI (a : Int)), (4, zI x), (5, zI e)] 0 0 zSH f Q) {x : Int} {f : zF} {e : Int} {Q : zQ} (hk : f 43 n.toNat = (own : Int)) (hfin : zfin own (fu + 1) 7 2 = true) (h0 : 0 ≤ f 42 3) (hlen : f 42 3 + ((zlst own (fu + 1) 7 2).length : Int) ≤ 10000) (he : 0 ≤ e) (hd : e + ((fu + 1 : Nat) : Int) ≤ 40) (hQ : Q (some (zI (zval own n (fu + 1) 7 2 x))) zSH (znts 42 3 44 f (zlst own (fu + 1) 7 2))) : zR sc (d + fu + 1) 26 0 [] [(0, zP 42), (1, zI (7)), (2, zI n), (3, zI (2)), (4, zI x), (5, zI e)] 0 0 zSH f Q := by
  have hf : (zfin own fu 1 2 && zfin own fu own 0) = true := hfin
  rw [Bool.and_eq_true] at hf
  have hl : f 42 3 + ((50 :: (zlst own fu 1 2 ++ zlst own fu own 0) : List Int).length : Int) ≤ 10000 := hlen
  simp only [List.length_cons, List.length_append, List.length_nil] at hl
  have hQ1 : Q (some (zI (w32 ((zval own n fu 1 2 x) - (zval own n fu own 0 2))))) zSH (znts 42 3 44 f (50 :: (zlst own fu 1 2 ++ zlst own fu own 0))) := hQ
  have hQ2 : Q (some (zI (w32 ((zval own n fu 1 2 x) - (zval own n fu own 0 2))))) zSH (znts 42 3 44 (znt 42 3 44 f 50) ((zlst own fu 1 2 ++ zlst own fu own 0))) := hQ1
  rw [znts_a] at hQ2
  have hr : znt 42 3 44 f 50 42 3 = f 42 3 + 1 := znt_r
  have hk1 : znt 42 3 44 f 50 43 n.toNat = (own : Int) := (znt_o (by decide) (Or.inl (by decide))).trans hk
  refine rc72_26_0 (d := d + fu) ?_
  rw [w32_in (z := e + 1) (by omega)]
  repeat' (refine zov_p (by omega) ?_)
  rw [if_pos (by omega)]
  refine zix_p (by omega) ?_
  refine zit (fun h24 => ?_) (fun h24 => ?_)
  · refine zix_p (by omega) (zov_p (by omega) ?_)
    rw [znt_1 h24]
    generalize znt 42 3 44 f 50 = F at *
    try rw [hk]
    refine zcallE (ih 1 2 x F (e + 1) _ (by omega) (by omega) hk1 hf.1 (by omega) (by omega) (by omega) (by omega) ⟨rfl, rfl⟩) ?_
    have hr2 : (znts 42 3 44 F (zlst own fu 1 2)) 42 3 = F 42 3 + ((zlst own fu 1 2).length : Int) := znts_r
    have hk2 : (znts 42 3 44 F (zlst own fu 1 2)) 43 n.toNat = (own : Int) := (znts_o (by decide) (Or.inl (by decide))).trans hk1
    refine zcallE (ih own 0 2 (znts 42 3 44 F (zlst own fu 1 2)) (e + 1) _ (by omega) (by omega) hk2 hf.2 (by omega) (by omega) (by omega) (by omega) ⟨rfl, rfl⟩) ?_
    exact hQ2
  · refine zov_p (by omega) ?_
    rw [znt_2 (t := 44) (v := 50) h24]
    generalize znt 42 3 44 f 50 = F at *
    try rw [hk]
    refine zcallE (ih 1 2 x F (e + 1) _ (by omega) (by omega) hk1 hf.1 (by omega) (by omega) (by omega) (by omega) ⟨rfl, rfl⟩) ?_
    have hr2 : (znts 42 3 44 F (zlst own fu 1 2)) 42 3 = F 42 3 + ((zlst own fu 1 2).length : Int) := znts_r
    have hk2 : (znts 42 3 44 F (zlst own fu 1 2)) 43 n.toNat = (own : Int) := (znts_o (by decide) (Or.inl (by decide))).trans hk1
    refine zcallE (ih own 0 2 (znts 42 3 44 F (zlst own fu 1 2)) (e + 1) _ (by omega) (by omega) hk2 hf.2 (by omega) (by omega) (by omega) (by omega) ⟨rfl, rfl⟩) ?_
    exact hQ2
theorem rrs_7_2 {sc : zC} {d fu own : Nat} {n : Int} (ho : own < 8) (ih : ∀ (k a : Nat) (x : Int) (f : zF) (Q : zQ), k < 8 → a < 4 → f 50 44 = (own : Int) → f 50 45 = n → zfin own fu k a = true → 0 ≤ f 50 43 → f 50 43 + ((zlst own fu k a).length : Int) ≤ 10000 → Q (some (zI (zval own n fu k a x))) zSH (znts 50 43 73 f (zlst own fu k a)) → zR sc (d + fu) (248 + a) 0 [] [(0, zP 50), (1, zI (k : Int)), (2, zI x)] 0 0 zSH f Q) {x : Int} {f : zF} {Q : zQ} (hk : f 50 44 = (own : Int)) (hn : f 50 45 = n) (hfin : zfin own (fu + 1) 7 2 = true) (h0 : 0 ≤ f 50 43) (hlen : f 50 43 + ((zlst own (fu + 1) 7 2).length : Int) ≤ 10000) (hQ : Q (some (zI (zval own n (fu + 1) 7 2 x))) zSH (znts 50 43 73 f (zlst own (fu + 1) 7 2))) : zR sc (d + fu + 1) 250 0 [] [(0, zP 50), (1, zI (7)), (2, zI x)] 0 0 zSH f Q := by
  have hf : (zfin own fu 1 2 && zfin own fu own 0) = true := hfin
  rw [Bool.and_eq_true] at hf
  have hl : f 50 43 + ((50 :: (zlst own fu 1 2 ++ zlst own fu own 0) : List Int).length : Int) ≤ 10000 := hlen
  simp only [List.length_cons, List.length_append, List.length_nil] at hl
  have hQ1 : Q (some (zI (w32 ((zval own n fu 1 2 x) - (zval own n fu own 0 2))))) zSH (znts 50 43 73 f (50 :: (zlst own fu 1 2 ++ zlst own fu own 0))) := hQ
  have hQ2 : Q (some (zI (w32 ((zval own n fu 1 2 x) - (zval own n fu own 0 2))))) zSH (znts 50 43 73 (znt 50 43 73 f 50) ((zlst own fu 1 2 ++ zlst own fu own 0))) := hQ1
  rw [znts_a] at hQ2
  have hr : znt 50 43 73 f 50 50 43 = f 50 43 + 1 := znt_r
  have hk1 : znt 50 43 73 f 50 50 44 = (own : Int) := (znt_o (by decide) (Or.inr (by decide))).trans hk
  have hn1 : znt 50 43 73 f 50 50 45 = n := (znt_o (by decide) (Or.inr (by decide))).trans hn
  refine rr72_250_0 (d := d + fu) ?_
  try rw [hn]
  refine zit (fun h24 => ?_) (fun h24 => ?_)
  · refine zix_p (by omega) (zov_p (by omega) ?_)
    rw [znt_1 h24]
    generalize znt 50 43 73 f 50 = F at *
    try rw [hk]
    refine zcallE (ih 1 2 x F _ (by omega) (by omega) hk1 hn1 hf.1 (by omega) (by omega) ⟨rfl, rfl⟩) ?_
    have hr2 : (znts 50 43 73 F (zlst own fu 1 2)) 50 43 = F 50 43 + ((zlst own fu 1 2).length : Int) := znts_r
    have hk2 : (znts 50 43 73 F (zlst own fu 1 2)) 50 44 = (own : Int) := (znts_o (by decide) (Or.inr (by decide))).trans hk1
    have hn2 : (znts 50 43 73 F (zlst own fu 1 2)) 50 45 = n := (znts_o (by decide) (Or.inr (by decide))).trans hn1
    rw [show (znts 50 43 73 F (zlst own fu 1 2)) 50 44 = (own : Int) from hk2]
    refine zcallE (ih own 0 2 (znts 50 43 73 F (zlst own fu 1 2)) _ (by omega) (by omega) hk2 hn2 hf.2 (by omega) (by omega) ⟨rfl, rfl⟩) ?_
    exact hQ2
  · refine zov_p (by omega) ?_
    rw [znt_2 (t := 73) (v := 50) h24]
    generalize znt 50 43 73 f 50 = F at *
    try rw [hk]
    refine zcallE (ih 1 2 x F _ (by omega) (by omega) hk1 hn1 hf.1 (by omega) (by omega) ⟨rfl, rfl⟩) ?_
    have hr2 : (znts 50 43 73 F (zlst own fu 1 2)) 50 43 = F 50 43 + ((zlst own fu 1 2).length : Int) := znts_r
    have hk2 : (znts 50 43 73 F (zlst own fu 1 2)) 50 44 = (own : Int) := (znts_o (by decide) (Or.inr (by decide))).trans hk1
    have hn2 : (znts 50 43 73 F (zlst own fu 1 2)) 50 45 = n := (znts_o (by decide) (Or.inr (by decide))).trans hn1
    rw [show (znts 50 43 73 F (zlst own fu 1 2)) 50 44 = (own : Int) from hk2]
    refine zcallE (ih own 0 2 (znts 50 43 73 F (zlst own fu 1 2)) _ (by omega) (by omega) hk2 hn2 hf.2 (by omega) (by omega) ⟨rfl, rfl⟩) ?_
    exact hQ2
theorem rcs_7_3 {sc : zC} {d fu own : Nat} {n : Int} (ho : own < 8) (hb : 0 ≤ n ∧ n < 50) (ih : ∀ (k a : Nat) (x : Int) (f : zF) (e : Int) (Q : zQ), k < 8 → a < 4 → f 43 n.toNat = (own : Int) → zfin own fu k a = true → 0 ≤ f 42 3 → f 42 3 + ((zlst own fu k a).length : Int) ≤ 10000 → 0 ≤ e → e + (fu : Int) ≤ 40 → Q (some (zI (zval own n fu k a x))) zSH (znts 42 3 44 f (zlst own fu k a)) → zR sc (d + fu) 26 0 [] [(0, zP 42), (1, zI (k : Int)), (2, zI n), (3, zI (a : Int)), (4, zI x), (5, zI e)] 0 0 zSH f Q) {x : Int} {f : zF} {e : Int} {Q : zQ} (hk : f 43 n.toNat = (own : Int)) (hfin : zfin own (fu + 1) 7 3 = true) (h0 : 0 ≤ f 42 3) (hlen : f 42 3 + ((zlst own (fu + 1) 7 3).length : Int) ≤ 10000) (he : 0 ≤ e) (hd : e + ((fu + 1 : Nat) : Int) ≤ 40) (hQ : Q (some (zI (zval own n (fu + 1) 7 3 x))) zSH (znts 42 3 44 f (zlst own (fu + 1) 7 3))) : zR sc (d + fu + 1) 26 0 [] [(0, zP 42), (1, zI (7)), (2, zI n), (3, zI (3)), (4, zI x), (5, zI e)] 0 0 zSH f Q := by
  have hf : zfin own fu 4 3 = true := hfin
  have hl : f 42 3 + ((81 :: zlst own fu 4 3 : List Int).length : Int) ≤ 10000 := hlen
  simp only [List.length_cons, List.length_append, List.length_nil] at hl
  have hQ1 : Q (some (zI (w32 ((zval own n fu 4 3 x) - 1)))) zSH (znts 42 3 44 f (81 :: zlst own fu 4 3)) := hQ
  have hQ2 : Q (some (zI (w32 ((zval own n fu 4 3 x) - 1)))) zSH (znts 42 3 44 (znt 42 3 44 f 81) (zlst own fu 4 3)) := hQ1
  have hr : znt 42 3 44 f 81 42 3 = f 42 3 + 1 := znt_r
  have hk1 : znt 42 3 44 f 81 43 n.toNat = (own : Int) := (znt_o (by decide) (Or.inl (by decide))).trans hk
  refine rc73_26_0 (d := d + fu) ?_
  rw [w32_in (z := e + 1) (by omega)]
  repeat' (refine zov_p (by omega) ?_)
  rw [if_pos (by omega)]
  refine zix_p (by omega) ?_
  refine zit (fun h24 => ?_) (fun h24 => ?_)
  · refine zix_p (by omega) (zov_p (by omega) ?_)
    rw [znt_1 h24]
    generalize znt 42 3 44 f 81 = F at *
    try rw [hk]
    refine zcallE (ih 4 3 x F (e + 1) _ (by omega) (by omega) hk1 hf (by omega) (by omega) (by omega) (by omega) ⟨rfl, rfl⟩) ?_
    exact hQ2
  · refine zov_p (by omega) ?_
    rw [znt_2 (t := 44) (v := 81) h24]
    generalize znt 42 3 44 f 81 = F at *
    try rw [hk]
    refine zcallE (ih 4 3 x F (e + 1) _ (by omega) (by omega) hk1 hf (by omega) (by omega) (by omega) (by omega) ⟨rfl, rfl⟩) ?_
    exact hQ2
theorem rrs_7_3 {sc : zC} {d fu own : Nat} {n : Int} (ho : own < 8) (ih : ∀ (k a : Nat) (x : Int) (f : zF) (Q : zQ), k < 8 → a < 4 → f 50 44 = (own : Int) → f 50 45 = n → zfin own fu k a = true → 0 ≤ f 50 43 → f 50 43 + ((zlst own fu k a).length : Int) ≤ 10000 → Q (some (zI (zval own n fu k a x))) zSH (znts 50 43 73 f (zlst own fu k a)) → zR sc (d + fu) (248 + a) 0 [] [(0, zP 50), (1, zI (k : Int)), (2, zI x)] 0 0 zSH f Q) {x : Int} {f : zF} {Q : zQ} (hk : f 50 44 = (own : Int)) (hn : f 50 45 = n) (hfin : zfin own (fu + 1) 7 3 = true) (h0 : 0 ≤ f 50 43) (hlen : f 50 43 + ((zlst own (fu + 1) 7 3).length : Int) ≤ 10000) (hQ : Q (some (zI (zval own n (fu + 1) 7 3 x))) zSH (znts 50 43 73 f (zlst own (fu + 1) 7 3))) : zR sc (d + fu + 1) 251 0 [] [(0, zP 50), (1, zI (7)), (2, zI x)] 0 0 zSH f Q := by
  have hf : zfin own fu 4 3 = true := hfin
  have hl : f 50 43 + ((81 :: zlst own fu 4 3 : List Int).length : Int) ≤ 10000 := hlen
  simp only [List.length_cons, List.length_append, List.length_nil] at hl
  have hQ1 : Q (some (zI (w32 ((zval own n fu 4 3 x) - 1)))) zSH (znts 50 43 73 f (81 :: zlst own fu 4 3)) := hQ
  have hQ2 : Q (some (zI (w32 ((zval own n fu 4 3 x) - 1)))) zSH (znts 50 43 73 (znt 50 43 73 f 81) (zlst own fu 4 3)) := hQ1
  have hr : znt 50 43 73 f 81 50 43 = f 50 43 + 1 := znt_r
  have hk1 : znt 50 43 73 f 81 50 44 = (own : Int) := (znt_o (by decide) (Or.inr (by decide))).trans hk
  have hn1 : znt 50 43 73 f 81 50 45 = n := (znt_o (by decide) (Or.inr (by decide))).trans hn
  refine rr73_251_0 (d := d + fu) ?_
  try rw [hn]
  refine zit (fun h24 => ?_) (fun h24 => ?_)
  · refine zix_p (by omega) (zov_p (by omega) ?_)
    rw [znt_1 h24]
    generalize znt 50 43 73 f 81 = F at *
    try rw [hk]
    refine zcallE (ih 4 3 x F _ (by omega) (by omega) hk1 hn1 hf (by omega) (by omega) ⟨rfl, rfl⟩) ?_
    exact hQ2
  · refine zov_p (by omega) ?_
    rw [znt_2 (t := 73) (v := 81) h24]
    generalize znt 50 43 73 f 81 = F at *
    try rw [hk]
    refine zcallE (ih 4 3 x F _ (by omega) (by omega) hk1 hn1 hf (by omega) (by omega) ⟨rfl, rfl⟩) ?_
    exact hQ2
theorem zrunC {sc : zC} {d own : Nat} {n : Int} (ho : own < 8) (hb : 0 ≤ n ∧ n < 50) : ∀ (fu k a : Nat) (x : Int) (f : zF) (e : Int) (Q : zQ), k < 8 → a < 4 → f 43 n.toNat = (own : Int) → zfin own fu k a = true → 0 ≤ f 42 3 → f 42 3 + ((zlst own fu k a).length : Int) ≤ 10000 → 0 ≤ e → e + (fu : Int) ≤ 40 → Q (some (zI (zval own n fu k a x))) zSH (znts 42 3 44 f (zlst own fu k a)) → zR sc (d + fu) 26 0 [] [(0, zP 42), (1, zI (k : Int)), (2, zI n), (3, zI (a : Int)), (4, zI x), (5, zI e)] 0 0 zSH f Q := by
  intro fu
  induction fu with
  | zero => intro k a x f e Q _ _ _ h; cases h
  | succ fu ih =>
    intro k a x f e Q h1 h2 hk hfin h0 hlen he hd hQ
    match k, a, h1, h2 with
    | 0, 0, _, _ => exact rcs_0_0 ho hb ih hk hfin h0 hlen he hd hQ
    | 0, 1, _, _ => exact rcs_0_1 ho hb ih hk hfin h0 hlen he hd hQ
    | 0, 2, _, _ => exact rcs_0_2 ho hb ih hk hfin h0 hlen he hd hQ
    | 0, 3, _, _ => exact rcs_0_3 ho hb ih hk hfin h0 hlen he hd hQ
    | 1, 0, _, _ => exact rcs_1_0 ho hb ih hk hfin h0 hlen he hd hQ
    | 1, 1, _, _ => exact rcs_1_1 ho hb ih hk hfin h0 hlen he hd hQ
    | 1, 2, _, _ => exact rcs_1_2 ho hb ih hk hfin h0 hlen he hd hQ
    | 1, 3, _, _ => exact rcs_1_3 ho hb ih hk hfin h0 hlen he hd hQ
    | 2, 0, _, _ => exact rcs_2_0 ho hb ih hk hfin h0 hlen he hd hQ
    | 2, 1, _, _ => exact rcs_2_1 ho hb ih hk hfin h0 hlen he hd hQ
    | 2, 2, _, _ => exact rcs_2_2 ho hb ih hk hfin h0 hlen he hd hQ
    | 2, 3, _, _ => exact rcs_2_3 ho hb ih hk hfin h0 hlen he hd hQ
    | 3, 0, _, _ => exact rcs_3_0 ho hb ih hk hfin h0 hlen he hd hQ
    | 3, 1, _, _ => exact rcs_3_1 ho hb ih hk hfin h0 hlen he hd hQ
    | 3, 2, _, _ => exact rcs_3_2 ho hb ih hk hfin h0 hlen he hd hQ
    | 3, 3, _, _ => exact rcs_3_3 ho hb ih hk hfin h0 hlen he hd hQ
    | 4, 0, _, _ => exact rcs_4_0 ho hb ih hk hfin h0 hlen he hd hQ
    | 4, 1, _, _ => exact rcs_4_1 ho hb ih hk hfin h0 hlen he hd hQ
    | 4, 2, _, _ => exact rcs_4_2 ho hb ih hk hfin h0 hlen he hd hQ
    | 4, 3, _, _ => exact rcs_4_3 ho hb ih hk hfin h0 hlen he hd hQ
    | 5, 0, _, _ => exact rcs_5_0 ho hb ih hk hfin h0 hlen he hd hQ
    | 5, 1, _, _ => exact rcs_5_1 ho hb ih hk hfin h0 hlen he hd hQ
    | 5, 2, _, _ => exact rcs_5_2 ho hb ih hk hfin h0 hlen he hd hQ
    | 5, 3, _, _ => exact rcs_5_3 ho hb ih hk hfin h0 hlen he hd hQ
    | 6, 0, _, _ => exact rcs_6_0 ho hb ih hk hfin h0 hlen he hd hQ
    | 6, 1, _, _ => exact rcs_6_1 ho hb ih hk hfin h0 hlen he hd hQ
    | 6, 2, _, _ => exact rcs_6_2 ho hb ih hk hfin h0 hlen he hd hQ
    | 6, 3, _, _ => exact rcs_6_3 ho hb ih hk hfin h0 hlen he hd hQ
    | 7, 0, _, _ => exact rcs_7_0 ho hb ih hk hfin h0 hlen he hd hQ
    | 7, 1, _, _ => exact rcs_7_1 ho hb ih hk hfin h0 hlen he hd hQ
    | 7, 2, _, _ => exact rcs_7_2 ho hb ih hk hfin h0 hlen he hd hQ
    | 7, 3, _, _ => exact rcs_7_3 ho hb ih hk hfin h0 hlen he hd hQ
    | k + 8, _, h1, _ => omega
    | _, a + 4, _, h2 => omega
theorem zrunR {sc : zC} {d own : Nat} {n : Int} (ho : own < 8) : ∀ (fu k a : Nat) (x : Int) (f : zF) (Q : zQ), k < 8 → a < 4 → f 50 44 = (own : Int) → f 50 45 = n → zfin own fu k a = true → 0 ≤ f 50 43 → f 50 43 + ((zlst own fu k a).length : Int) ≤ 10000 → Q (some (zI (zval own n fu k a x))) zSH (znts 50 43 73 f (zlst own fu k a)) → zR sc (d + fu) (248 + a) 0 [] [(0, zP 50), (1, zI (k : Int)), (2, zI x)] 0 0 zSH f Q := by
  intro fu
  induction fu with
  | zero => intro k a x f Q _ _ _ _ h; cases h
  | succ fu ih =>
    intro k a x f Q h1 h2 hk hn hfin h0 hlen hQ
    match k, a, h1, h2 with
    | 0, 0, _, _ => exact rrs_0_0 ho ih hk hn hfin h0 hlen hQ
    | 0, 1, _, _ => exact rrs_0_1 ho ih hk hn hfin h0 hlen hQ
    | 0, 2, _, _ => exact rrs_0_2 ho ih hk hn hfin h0 hlen hQ
    | 0, 3, _, _ => exact rrs_0_3 ho ih hk hn hfin h0 hlen hQ
    | 1, 0, _, _ => exact rrs_1_0 ho ih hk hn hfin h0 hlen hQ
    | 1, 1, _, _ => exact rrs_1_1 ho ih hk hn hfin h0 hlen hQ
    | 1, 2, _, _ => exact rrs_1_2 ho ih hk hn hfin h0 hlen hQ
    | 1, 3, _, _ => exact rrs_1_3 ho ih hk hn hfin h0 hlen hQ
    | 2, 0, _, _ => exact rrs_2_0 ho ih hk hn hfin h0 hlen hQ
    | 2, 1, _, _ => exact rrs_2_1 ho ih hk hn hfin h0 hlen hQ
    | 2, 2, _, _ => exact rrs_2_2 ho ih hk hn hfin h0 hlen hQ
    | 2, 3, _, _ => exact rrs_2_3 ho ih hk hn hfin h0 hlen hQ
    | 3, 0, _, _ => exact rrs_3_0 ho ih hk hn hfin h0 hlen hQ
    | 3, 1, _, _ => exact rrs_3_1 ho ih hk hn hfin h0 hlen hQ
    | 3, 2, _, _ => exact rrs_3_2 ho ih hk hn hfin h0 hlen hQ
    | 3, 3, _, _ => exact rrs_3_3 ho ih hk hn hfin h0 hlen hQ
    | 4, 0, _, _ => exact rrs_4_0 ho ih hk hn hfin h0 hlen hQ
    | 4, 1, _, _ => exact rrs_4_1 ho ih hk hn hfin h0 hlen hQ
    | 4, 2, _, _ => exact rrs_4_2 ho ih hk hn hfin h0 hlen hQ
    | 4, 3, _, _ => exact rrs_4_3 ho ih hk hn hfin h0 hlen hQ
    | 5, 0, _, _ => exact rrs_5_0 ho ih hk hn hfin h0 hlen hQ
    | 5, 1, _, _ => exact rrs_5_1 ho ih hk hn hfin h0 hlen hQ
    | 5, 2, _, _ => exact rrs_5_2 ho ih hk hn hfin h0 hlen hQ
    | 5, 3, _, _ => exact rrs_5_3 ho ih hk hn hfin h0 hlen hQ
    | 6, 0, _, _ => exact rrs_6_0 ho ih hk hn hfin h0 hlen hQ
    | 6, 1, _, _ => exact rrs_6_1 ho ih hk hn hfin h0 hlen hQ
    | 6, 2, _, _ => exact rrs_6_2 ho ih hk hn hfin h0 hlen hQ
    | 6, 3, _, _ => exact rrs_6_3 ho ih hk hn hfin h0 hlen hQ
    | 7, 0, _, _ => exact rrs_7_0 ho ih hk hn hfin h0 hlen hQ
    | 7, 1, _, _ => exact rrs_7_1 ho ih hk hn hfin h0 hlen hQ
    | 7, 2, _, _ => exact rrs_7_2 ho ih hk hn hfin h0 hlen hQ
    | 7, 3, _, _ => exact rrs_7_3 ho ih hk hn hfin h0 hlen hQ
    | k + 8, _, h1, _ => omega
    | _, a + 4, _, h2 => omega
set_option maxRecDepth 100000 in
theorem b153_0 {sc : zC} {a b c : Int} {f : zF} {Q : zQ} (h : if a < 0 then (Q (some (zI (0))) zSH (zup f (42) (3) (0))) else (if a < f (42) (1) then (if b < 0 then (Q (some (zI (0))) zSH (zup f (42) (3) (0))) else (if b < 4 then (zix a (50) (∃ A2 : zQ, zR sc (197) 26 0 [] [(0, zP (42)), (1, zI (f (43) (a.toNat))), (2, zI a), (3, zI b), (4, zI c), (5, zI (0))] 0 0 zSH (zup f (42) (3) (0)) A2 ∧ ∀ (r3 : Int) (f1 : zF), zIn r3 → A2 (some (zI r3)) zSH f1 → (Q (some (zI r3)) zSH f1))) else (Q (some (zI (0))) zSH (zup f (42) (3) (0))))) else (Q (some (zI (0))) zSH (zup f (42) (3) (0))))) : zR sc (199) 153 0 [] [(0, zP (0)), (1, zI a), (2, zI b), (3, zI c)] 0 0 zSH f Q := zwn_R (stp := fun _ _ => none) (inl := fun j => bif Nat.beq j 23 then true else bif Nat.beq j 18 then true else false) (nov := fun _ => true) 59 h
set_option maxRecDepth 100000 in
theorem b252_0 {sc : zC} {a b c : Int} {f : zF} {Q : zQ} (h : zov ((f (50) (40)) - (1)) (if zlcmp a (0) < 0 then (Q (some (zI (0))) zSH (zup f (50) (43) (0))) else (if 0 < zlcmp a ((f (50) (40)) - (1)) then (Q (some (zI (0))) zSH (zup f (50) (43) (0))) else (zix a (50) (if b = 0 then (∃ A2 : zQ, zR sc (198) 248 0 [] [(0, zP (50)), (1, zI (f (72) (a.toNat))), (2, zI c)] 0 0 zSH (zup (zup (zup f (50) (43) (0)) (50) (44) (f (72) (a.toNat))) (50) (45) a) A2 ∧ ∀ (r3 : Int) (f1 : zF), zIn r3 → A2 (some (zI r3)) zSH f1 → (Q (some (zI r3)) zSH f1)) else if b = 1 then (∃ A5 : zQ, zR sc (198) 249 0 [] [(0, zP (50)), (1, zI (f (72) (a.toNat))), (2, zI c)] 0 0 zSH (zup (zup (zup f (50) (43) (0)) (50) (44) (f (72) (a.toNat))) (50) (45) a) A5 ∧ ∀ (r6 : Int) (f4 : zF), zIn r6 → A5 (some (zI r6)) zSH f4 → (Q (some (zI r6)) zSH f4)) else if b = 2 then (∃ A8 : zQ, zR sc (198) 250 0 [] [(0, zP (50)), (1, zI (f (72) (a.toNat))), (2, zI c)] 0 0 zSH (zup (zup (zup f (50) (43) (0)) (50) (44) (f (72) (a.toNat))) (50) (45) a) A8 ∧ ∀ (r9 : Int) (f7 : zF), zIn r9 → A8 (some (zI r9)) zSH f7 → (Q (some (zI r9)) zSH f7)) else if b = 3 then (∃ A11 : zQ, zR sc (198) 251 0 [] [(0, zP (50)), (1, zI (f (72) (a.toNat))), (2, zI c)] 0 0 zSH (zup (zup (zup f (50) (43) (0)) (50) (44) (f (72) (a.toNat))) (50) (45) a) A11 ∧ ∀ (r12 : Int) (f10 : zF), zIn r12 → A11 (some (zI r12)) zSH f10 → (Q (some (zI r12)) zSH f10)) else (Q (some (zI (0))) zSH (zup (zup (zup f (50) (43) (0)) (50) (44) (f (72) (a.toNat))) (50) (45) a))))))) : zR sc (199) 252 0 [] [(0, zP (50)), (1, zI a), (2, zI b), (3, zI c)] 0 0 zSH f Q := zwn_R (stp := fun _ _ => none) (inl := fun j => bif Nat.beq j 243 then true else bif Nat.beq j 166 then true else false) (nov := fun _ => true) 79 h
theorem wI_ac {f f' : zF} (i : wI f) (o : ∀ a j, a ≠ 44 → a ≠ 73 → (a ≠ 42 ∨ j ≠ 3) → (a ≠ 50 ∨ (j ≠ 43 ∧ j ≠ 44 ∧ j ≠ 45)) → f' a j = f a j) (h3 : f' 42 3 = f' 50 43) (h4 : ∀ j, f' 44 j = f' 73 j) : wI f' := by
  obtain ⟨⟨i1, i2, i3, i4⟩, ⟨k1, k2, k3, k4⟩, s⟩ := i
  have u : ∀ a j, a ≠ 44 → a ≠ 73 → a ≠ 42 → a ≠ 50 → f' a j = f a j := fun a j h1 h2 h3 h4 => o a j h1 h2 (Or.inl h3) (Or.inl h4)
  refine ⟨⟨?_, ?_, h3, ?_⟩, ⟨fun j => ?_, h4, fun j => ?_, fun j => ?_⟩, fun d hd => ⟨?_, fun h j h1 h2 => ?_⟩⟩
  · rw [u 1 1 (by decide) (by decide) (by decide) (by decide), o 50 7 (by decide) (by decide) (by decide) (by decide), i1]
  · rw [o 42 1 (by decide) (by decide) (by decide) (by decide), o 50 40 (by decide) (by decide) (by decide) (by decide), i2]
  · rw [u 19 1 (by decide) (by decide) (by decide) (by decide), o 50 10 (by decide) (by decide) (by decide) (by decide), i4]
  · rw [u 43 j (by decide) (by decide) (by decide) (by decide), u 72 j (by decide) (by decide) (by decide) (by decide), k1]
  · rw [u 49 j (by decide) (by decide) (by decide) (by decide), u 76 j (by decide) (by decide) (by decide) (by decide), k3]
  · rw [u 20 j (by decide) (by decide) (by decide) (by decide), u 56 j (by decide) (by decide) (by decide) (by decide), k4]
  · rw [u 48 d (by decide) (by decide) (by decide) (by decide), u 75 d (by decide) (by decide) (by decide) (by decide), u 46 d (by decide) (by decide) (by decide) (by decide), u 74 d (by decide) (by decide) (by decide) (by decide), u 47 d (by decide) (by decide) (by decide) (by decide), o 42 1 (by decide) (by decide) (by decide) (by decide)]
    exact (s d hd).1
  · rw [u 49 j (by decide) (by decide) (by decide) (by decide)]
    rw [u 46 d (by decide) (by decide) (by decide) (by decide)] at h
    exact (s d hd).2 h j h1 h2
/-- where nothing runs -/
theorem wI_a0 {f : zF} (i : wI f) (x y : Int) : wI (zup (zup (zup (zup f 42 3 0) 50 43 0) 50 44 x) 50 45 y) := by
  refine wI_ac i (fun a j h1 h2 h3 h4 => ?_) rfl i.2.1.2.1
  rw [zup_at, zup_at, zup_at, zup_at]
  rcases h4 with h4 | h4
  · rw [if_neg h4, if_neg h4, if_neg h4]
    by_cases h : a = 42
    · rw [if_pos h, if_neg (by omega)]
    · rw [if_neg h]
  · by_cases h : a = 50
    · rw [if_pos h, if_pos h, if_pos h, if_neg h4.2.2, if_neg h4.2.1, if_neg h4.1, if_neg (by omega)]
    · rw [if_neg h, if_neg h, if_neg h]
      by_cases h : a = 42
      · rw [if_pos h, if_neg (by omega)]
      · rw [if_neg h]
theorem wI_a1 {f : zF} (i : wI f) (x y : Int) (L : List Int) : wI (znts 50 43 73 (zup (zup (zup (znts 42 3 44 (zup f 42 3 0) L) 50 43 0) 50 44 x) 50 45 y) L) := by
  have e := znts_eq (c := 42) (r := 3) (t := 44) (c' := 50) (r' := 43) (t' := 73) (by decide) (by decide) (L := L) (f := zup f 42 3 0) (g := zup (zup (zup (znts 42 3 44 (zup f 42 3 0) L) 50 43 0) 50 44 x) 50 45 y) rfl (fun j => by
    show f 44 j = znts 42 3 44 (zup f 42 3 0) L 73 j
    rw [znts_o (by decide) (Or.inl (by decide))]
    exact i.2.1.2.1 j)
  refine wI_ac i (fun a j h1 h2 h3 h4 => ?_) ?_ (fun j => ?_)
  · have h5 : a ≠ 50 ∨ j ≠ 43 := by omega
    rw [znts_o h2 h5]
    have : (zup (zup (zup (znts 42 3 44 (zup f 42 3 0) L) 50 43 0) 50 44 x) 50 45 y) a j = znts 42 3 44 (zup f 42 3 0) L a j := by
      rw [zup_at, zup_at, zup_at]
      by_cases h : a = 50
      · rw [if_pos h, if_pos h, if_pos h, if_neg (by omega), if_neg (by omega), if_neg (by omega)]
      · rw [if_neg h, if_neg h, if_neg h]
    rw [this, znts_o h1 h3, zup_at]
    by_cases h : a = 42
    · rw [if_pos h, if_neg (by omega)]
    · rw [if_neg h]
  · rw [← e.1, znts_o (by decide) (Or.inl (by decide))]
    rfl
  · rw [← e.2 j, znts_o (by decide) (Or.inl (by decide))]
    rfl
set_option maxHeartbeats 4000000 in
theorem jk_35 {sc : zC} {f0 : zF} (g0 : aGok wG (afx sc f0)) (i0 : wI f0) {a b c : Int} : zR sc 199 153 0 [] [(0, zP (0)), (1, zI a), (2, zI b), (3, zI c)] 0 0 zSH f0 (fun r _ f1 => ∃ v, r = some (zI v) ∧ zR sc 199 252 0 [] [(0, zP (50)), (1, zI a), (2, zI b), (3, zI c)] 0 0 zSH f1 (fun r _ f2 => ∃ w, r = some (zI w) ∧ wI f2 ∧ v = w)) := by
  obtain ⟨⟨i1, i2, i3, i4⟩, ⟨k1, k2, k3, k4⟩, s⟩ := id i0
  have e2 : (0 : Int) ≤ f0 42 1 ∧ f0 42 1 ≤ 50 := wG_at (F := afx sc f0) (c := 42) (j := 1) (I := (.ofNat 0, .ofNat 50)) g0.1 rfl
  by_cases ha : 0 ≤ a ∧ a < f0 42 1
  rotate_left
  · refine b153_0 ?_
    repeat' (first | (refine zix_p (by omega) ?_) | (refine zov_p (by omega) ?_) | (refine zit (fun h => ?_) (fun h => ?_)))
    all_goals try (exfalso; omega)
    all_goals refine ⟨_, rfl, b252_0 ?_⟩
    all_goals simp only [zlc_lt, zlc_gt, zup_at, Nat.reduceEqDiff, reduceIte]
    all_goals repeat' (first | (refine zix_p (by omega) ?_) | (refine zov_p (by omega) ?_) | (refine zit (fun h => ?_) (fun h => ?_)))
    all_goals try (exfalso; omega)
    all_goals refine ⟨_, rfl, ?_, rfl⟩
    all_goals (refine wI_ac i0 (fun a j h1 h2 h3 h4 => ?_) rfl k2; rw [zup_at, zup_at]; by_cases h : a = 50)
    all_goals try (rw [if_pos h, if_neg (by omega), if_neg (by omega)])
    all_goals (rw [if_neg h]; by_cases h : a = 42)
    all_goals try (rw [if_pos h, if_neg (by omega)])
    all_goals rw [if_neg h]
  have kq : (0 : Int) ≤ f0 43 a.toNat ∧ f0 43 a.toNat ≤ 7 := wG_rd (F := afx sc f0) (c := 43) (b := 50) (I := (.ofNat 0, .ofNat 7)) g0.1 rfl (by omega)
  by_cases hb : 0 ≤ b ∧ b < 4
  rotate_left
  · refine b153_0 ?_
    repeat' (first | (refine zix_p (by omega) ?_) | (refine zov_p (by omega) ?_) | (refine zit (fun h => ?_) (fun h => ?_)))
    all_goals try (exfalso; omega)
    all_goals refine ⟨_, rfl, b252_0 ?_⟩
    all_goals simp only [zlc_lt, zlc_gt, zup_at, Nat.reduceEqDiff, reduceIte]
    all_goals repeat' (first | (refine zix_p (by omega) ?_) | (refine zov_p (by omega) ?_) | (refine zit (fun h => ?_) (fun h => ?_)))
    all_goals try (exfalso; omega)
    all_goals exact ⟨_, rfl, wI_a0 i0 _ _, rfl⟩
  obtain ⟨own, ho⟩ : ∃ own : Nat, f0 43 a.toNat = (own : Int) := ⟨(f0 43 a.toNat).toNat, by omega⟩
  obtain ⟨bn, rfl⟩ : ∃ bn : Nat, b = (bn : Int) := ⟨b.toNat, by omega⟩
  have hown : own < 8 := by omega
  have hbn : bn < 4 := by omega
  obtain ⟨z1, z2⟩ := zfin_all own hown bn hbn
  refine b153_0 ?_
  rw [if_neg (by omega), if_pos (by omega), if_neg (by omega), if_pos (by omega)]
  refine zix_p (by omega) ?_
  rw [ho]
  refine zcallE (zrunC (d := 185) (own := own) hown (by omega) 12 own bn c (zup f0 42 3 0) 0 _ hown hbn ho z1 (Int.le_refl 0) (by show (0 : Int) + _ ≤ 10000; omega) (by omega) (by omega) ⟨rfl, rfl⟩) ?_
  refine ⟨_, rfl, b252_0 ?_⟩
  have o50 : ∀ j, znts 42 3 44 (zup f0 42 3 0) (zlst own 12 own bn) 50 j = f0 50 j := fun j => (znts_o (by decide) (Or.inl (by decide))).trans rfl
  have o72 : znts 42 3 44 (zup f0 42 3 0) (zlst own 12 own bn) 72 a.toNat = (own : Int) := ((znts_o (by decide) (Or.inl (by decide))).trans rfl).trans ((k1 _).symm.trans ho)
  have hR := fun (Q : zQ) => zrunR (sc := sc) (d := 186) (own := own) (n := a) hown 12 own bn c (zup (zup (zup (znts 42 3 44 (zup f0 42 3 0) (zlst own 12 own bn)) 50 43 0) 50 44 (own : Int)) 50 45 a) Q hown hbn rfl rfl z1 (Int.le_refl 0) (by show (0 : Int) + _ ≤ 10000; omega)
  have hw := wI_a1 i0 (own : Int) a (zlst own 12 own bn)
  rw [o50, o72]
  simp only [zlc_lt, zlc_gt]
  refine zov_p (by omega) ?_
  rw [if_neg (by omega), if_neg (by omega)]
  refine zix_p (by omega) ?_
  match bn, hbn with
  | 0, _ => rw [if_pos (by omega)]; exact zcallE (hR _ ⟨rfl, rfl⟩) ⟨_, rfl, hw, rfl⟩
  | 1, _ => rw [if_neg (by omega), if_pos (by omega)]; exact zcallE (hR _ ⟨rfl, rfl⟩) ⟨_, rfl, hw, rfl⟩
  | 2, _ => rw [if_neg (by omega), if_neg (by omega), if_pos (by omega)]; exact zcallE (hR _ ⟨rfl, rfl⟩) ⟨_, rfl, hw, rfl⟩
  | 3, _ => rw [if_neg (by omega), if_neg (by omega), if_neg (by omega), if_pos (by omega)]; exact zcallE (hR _ ⟨rfl, rfl⟩) ⟨_, rfl, hw, rfl⟩
  | n + 4, h => omega
end
