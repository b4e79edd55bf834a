noncomputable section
/-! fewest girls by whom all weeks are put by: sets, the fewest -/
set_option maxRecDepth 100000 in
theorem pk_zb : (List.range 128).all (fun s => (List.range 7).all (fun g => decide (zand (zshr (s : Int) (g : Int)) 1 = 0) || decide (zand (zshr (s : Int) (g : Int)) 1 = 1))) = true := by decide +kernel
set_option maxRecDepth 100000 in
theorem pk_z {x g : Nat} (h : x < 128) (hg : g < 7) : zand (zshr (x : Int) (g : Int)) 1 = 0 ∨ zand (zshr (x : Int) (g : Int)) 1 = 1 := by
  have := List.all_eq_true.1 (List.all_eq_true.1 pk_zb x (List.mem_range.2 h)) g (List.mem_range.2 hg)
  rw [Bool.or_eq_true] at this
  exact this.elim (fun k => Or.inl (of_decide_eq_true k)) (fun k => Or.inr (of_decide_eq_true k))
abbrev sub (s fr : Nat) : Prop := zand (s : Int) (fr : Int) = (s : Int)
set_option maxRecDepth 100000 in
theorem pk_1 : (List.range 128).all (fun fr => (List.range 128).all (fun s => !decide (sub s fr) || (decide (zand (fr : Int) (zxor (s : Int) (-1)) = (fr : Int) - (s : Int)) && decide (s ≤ fr)))) = true := by decide +kernel
set_option maxRecDepth 100000 in
theorem sub_d {s fr : Nat} (hf : fr < 128) (hs : s < 128) (h : sub s fr) : zand (fr : Int) (zxor (s : Int) (-1)) = ((fr - s : Nat) : Int) ∧ s ≤ fr := by
  have := List.all_eq_true.1 (List.all_eq_true.1 pk_1 fr (List.mem_range.2 hf)) s (List.mem_range.2 hs)
  rw [decide_eq_true h] at this
  have this : (decide (zand (fr : Int) (zxor (s : Int) (-1)) = (fr : Int) - (s : Int)) && decide (s ≤ fr)) = true := this
  rw [Bool.and_eq_true] at this
  have h1 := of_decide_eq_true this.1
  have h2 := of_decide_eq_true this.2
  exact ⟨h1.trans (by omega), h2⟩
set_option maxRecDepth 100000 in
theorem pk_2 : (List.range 8).all (fun G => (List.range (2 ^ G)).all (fun x => (List.range (2 ^ G)).all (fun s => decide (zand (s : Int) (x : Int) = 0 ↔ sub s (2 ^ G - 1 - x)) && (!decide (zand (s : Int) (x : Int) = 0) || decide (zor (x : Int) (s : Int) = (x : Int) + (s : Int)))))) = true := by decide +kernel
set_option maxRecDepth 100000 in
theorem sub_g {G s x : Nat} (hG : G ≤ 7) (hx : x < 2 ^ G) (hs : s < 2 ^ G) : (zand (s : Int) (x : Int) = 0 ↔ sub s (2 ^ G - 1 - x)) ∧ (zand (s : Int) (x : Int) = 0 → zor (x : Int) (s : Int) = ((x + s : Nat) : Int)) := by
  have := List.all_eq_true.1 (List.all_eq_true.1 (List.all_eq_true.1 pk_2 G (List.mem_range.2 (by omega))) x (List.mem_range.2 hx)) s (List.mem_range.2 hs)
  rw [Bool.and_eq_true] at this
  refine ⟨of_decide_eq_true this.1, fun h => ?_⟩
  have t := this.2
  rw [decide_eq_true h] at t
  have t : decide (zor (x : Int) (s : Int) = (x : Int) + (s : Int)) = true := t
  exact (of_decide_eq_true t).trans (by omega)
set_option maxRecDepth 100000 in
theorem pk_3 : (List.range 8).all (fun G => decide (zshl 1 (G : Int) = ((2 ^ G : Nat) : Int))) = true := by decide +kernel
set_option maxRecDepth 100000 in
theorem shl_g {G : Nat} (hG : G ≤ 7) : zshl 1 (G : Int) = ((2 ^ G : Nat) : Int) := of_decide_eq_true (List.all_eq_true.1 pk_3 G (List.mem_range.2 (by omega)))
/-- the class walks through the sets of the free ones in their order -/
def it (fr : Nat) : Nat → Int
  | 0 => 0
  | i + 1 => zand (it fr i - (fr : Int)) (fr : Int)
def cnt (fr : Nat) : Nat → Nat
  | 0 => 0
  | s + 1 => if sub s fr then cnt fr s + 1 else cnt fr s
def scan (fr : Nat) : Nat → Nat → Int → Nat → Bool
  | 0, _, _, i => decide (zshl 1 (bcR (fr : Int)) = (i : Int))
  | k + 1, s, e, i => if sub s fr then (decide (e = (s : Int)) && scan fr k (s + 1) (zand (e - (fr : Int)) (fr : Int)) (i + 1)) else scan fr k (s + 1) e i
set_option maxRecDepth 100000 in
theorem pk_4 : (List.range 128).all (fun fr => scan fr 128 0 0 0) = true := by decide +kernel
set_option maxRecDepth 100000 in
theorem scan_ok {fr : Nat} : ∀ k s : Nat, k + s = 128 → scan fr k s (it fr (cnt fr s)) (cnt fr s) = true → (∀ q, s ≤ q → q < 128 → sub q fr → it fr (cnt fr q) = (q : Int)) ∧ zshl 1 (bcR (fr : Int)) = ((cnt fr 128 : Nat) : Int)
  | 0, s, h, e => by
    have : s = 128 := by omega
    subst this
    exact ⟨fun q h1 h2 => absurd h2 (by omega), of_decide_eq_true e⟩
  | k + 1, s, h, e => by
    have e : (if sub s fr then (decide (it fr (cnt fr s) = (s : Int)) && scan fr k (s + 1) (zand (it fr (cnt fr s) - (fr : Int)) (fr : Int)) (cnt fr s + 1)) else scan fr k (s + 1) (it fr (cnt fr s)) (cnt fr s)) = true := e
    have s1 : cnt fr (s + 1) = if sub s fr then cnt fr s + 1 else cnt fr s := rfl
    by_cases c : sub s fr
    · rw [if_pos c, Bool.and_eq_true] at e
      rw [if_pos c] at s1
      have ih := scan_ok k (s + 1) (by omega) (by rw [s1]; exact e.2)
      refine ⟨fun q h1 h2 h3 => ?_, ih.2⟩
      by_cases c2 : q = s
      · rw [c2]; exact of_decide_eq_true e.1
      · exact ih.1 q (by omega) h2 h3
    · rw [if_neg c] at e s1
      have ih := scan_ok k (s + 1) (by omega) (by rw [s1]; exact e)
      refine ⟨fun q h1 h2 h3 => ?_, ih.2⟩
      by_cases c2 : q = s
      · rw [c2] at h3; exact absurd h3 c
      · exact ih.1 q (by omega) h2 h3
set_option maxRecDepth 100000 in
theorem it_ok {fr : Nat} (hf : fr < 128) : (∀ q, q < 128 → sub q fr → it fr (cnt fr q) = (q : Int)) ∧ zshl 1 (bcR (fr : Int)) = ((cnt fr 128 : Nat) : Int) := by
  have := scan_ok (fr := fr) 128 0 rfl (List.all_eq_true.1 pk_4 fr (List.mem_range.2 hf))
  exact ⟨fun q h1 h2 => this.1 q (Nat.zero_le _) h1 h2, this.2⟩
set_option maxRecDepth 100000 in
theorem cnt_le {fr : Nat} : ∀ n m : Nat, n ≤ m → cnt fr n ≤ cnt fr m := by
  intro n m h
  induction h with
  | refl => exact Nat.le_refl _
  | step _ ih =>
    refine Nat.le_trans ih ?_
    show _ ≤ (if sub _ fr then cnt fr _ + 1 else cnt fr _)
    split <;> omega
/-- the least of v on ok, c if none is less -/
def mnW (ok : Nat → Bool) (v : Nat → Int) (c : Int) : Nat → Int
  | 0 => c
  | s + 1 => if ok s = true then (if v s < mnW ok v c s then v s else mnW ok v c s) else mnW ok v c s
set_option maxRecDepth 100000 in
theorem mnW_le {ok : Nat → Bool} {v : Nat → Int} {c : Int} : ∀ n, mnW ok v c n ≤ c ∧ ∀ s, s < n → ok s = true → mnW ok v c n ≤ v s
  | 0 => ⟨Int.le_refl _, fun s h => absurd h (Nat.not_lt_zero s)⟩
  | n + 1 => by
    have ih := mnW_le (ok := ok) (v := v) (c := c) n
    have s1 : mnW ok v c (n + 1) = if ok n = true then (if v n < mnW ok v c n then v n else mnW ok v c n) else mnW ok v c n := rfl
    have h2 : mnW ok v c (n + 1) ≤ mnW ok v c n := by
      rw [s1]
      split
      · split <;> omega
      · omega
    refine ⟨by omega, fun s hs ho => ?_⟩
    by_cases e : s = n
    · rw [e] at ho ⊢
      rw [s1, if_pos ho]
      split <;> omega
    · have := ih.2 s (by omega) ho
      omega
set_option maxRecDepth 100000 in
theorem mnW_at {ok : Nat → Bool} {v : Nat → Int} {c : Int} : ∀ n, mnW ok v c n = c ∨ ∃ s, s < n ∧ ok s = true ∧ mnW ok v c n = v s
  | 0 => Or.inl rfl
  | n + 1 => by
    have ih := mnW_at (ok := ok) (v := v) (c := c) n
    have s1 : mnW ok v c (n + 1) = if ok n = true then (if v n < mnW ok v c n then v n else mnW ok v c n) else mnW ok v c n := rfl
    rw [s1]
    by_cases h : ok n = true
    · rw [if_pos h]
      by_cases h2 : v n < mnW ok v c n
      · rw [if_pos h2]
        exact Or.inr ⟨n, by omega, h, rfl⟩
      · rw [if_neg h2]
        exact ih.imp id (fun ⟨s, a, b, d⟩ => ⟨s, by omega, b, d⟩)
    · rw [if_neg h]
      exact ih.imp id (fun ⟨s, a, b, d⟩ => ⟨s, by omega, b, d⟩)
set_option maxRecDepth 100000 in
theorem mnW_to {ok : Nat → Bool} {v : Nat → Int} {c : Int} {m : Nat} (h : ∀ s, m ≤ s → s < 128 → ¬ ok s = true) : ∀ n, m + n ≤ 128 → mnW ok v c (m + n) = mnW ok v c m
  | 0, _ => rfl
  | n + 1, hn => (if_neg (h (m + n) (by omega) (by omega))).trans (mnW_to h n (by omega))
def cap (x : Int) : Int := if x < 99 then x else 99
set_option maxRecDepth 100000 in
theorem mnW_cap {ok : Nat → Bool} {v u : Nat → Int} {c : Int} (hc : 99 ≤ c) (h : ∀ s, s < 128 → ok s = true → u s = cap (v s)) : ∀ n, n ≤ 128 → mnW ok u 99 n = cap (mnW ok v c n)
  | 0, _ => by
    show (99 : Int) = if c < 99 then c else 99
    rw [if_neg (by omega)]
  | n + 1, hn => by
    have ih := mnW_cap hc h n (by omega)
    have s1 : mnW ok v c (n + 1) = if ok n = true then (if v n < mnW ok v c n then v n else mnW ok v c n) else mnW ok v c n := rfl
    have s2 : mnW ok u 99 (n + 1) = if ok n = true then (if u n < mnW ok u 99 n then u n else mnW ok u 99 n) else mnW ok u 99 n := rfl
    rw [s1, s2]
    by_cases e : ok n = true
    · rw [if_pos e, if_pos e, ih, h n (by omega) e]
      unfold cap
      repeat' split
      all_goals omega
    · rw [if_neg e, if_neg e, ih]
/-- the fewest from house n - k on, by the free ones: the reference's, the class's -/
def okW (wk : Nat → Int) (rm : Nat → Int) (h fr s : Nat) : Bool := decide (sub s fr ∧ wk h ≤ rm s)
def Wv (wk rm : Nat → Int) (n : Nat) : Nat → Nat → Int
  | 0, _ => 0
  | k + 1, fr => mnW (okW wk rm (n - (k + 1)) fr) (fun s => bcR (s : Int) + Wv wk rm n k (fr - s)) 1000000 128
def Wc (wk rm : Nat → Int) (n : Nat) : Nat → Nat → Int
  | 0, _ => 0
  | k + 1, fr => mnW (okW wk rm (n - (k + 1)) fr) (fun s => cap (bcR (s : Int) + Wc wk rm n k (fr - s))) 99 128
set_option maxRecDepth 100000 in
theorem bcR_b {s : Nat} (h : s < 128) : 0 ≤ bcR (s : Int) ∧ bcR (s : Int) ≤ 7 := by
  have e : ∀ k : Nat, k < 7 → 0 ≤ zand (zshr (s : Int) (k : Int)) 1 ∧ zand (zshr (s : Int) (k : Int)) 1 ≤ 1 := fun k hk => by
    rcases pk_z h hk with e | e <;> rw [e] <;> decide
  have h1 := sN_0 (F := fun k => zand (zshr (s : Int) (k : Int)) 1) 7 (fun k hk => (e k hk).1)
  have h2 := sN_u (F := fun k => zand (zshr (s : Int) (k : Int)) 1) (c := 1) 7 (fun k hk => (e k hk).2)
  unfold bcR
  omega
set_option maxRecDepth 100000 in
theorem Wc_v {wk rm : Nat → Int} {n : Nat} : ∀ k fr : Nat, Wc wk rm n k fr = cap (Wv wk rm n k fr)
  | 0, _ => rfl
  | k + 1, fr => mnW_cap (c := 1000000) (by decide) (fun s hs _ => by
      have h1 := Wc_v (wk := wk) (rm := rm) (n := n) k (fr - s)
      have h2 := bcR_b hs
      show cap (bcR (s : Int) + Wc wk rm n k (fr - s)) = cap (bcR (s : Int) + Wv wk rm n k (fr - s))
      rw [h1]
      unfold cap
      repeat' split
      all_goals omega) 128 (Nat.le_refl _)
set_option maxRecDepth 100000 in
theorem Wv_b {wk rm : Nat → Int} {n : Nat} : ∀ k fr : Nat, (0 ≤ Wv wk rm n k fr ∧ Wv wk rm n k fr ≤ 7 * (k : Int)) ∨ Wv wk rm n k fr = 1000000
  | 0, _ => Or.inl ⟨Int.le_refl _, Int.le_refl _⟩
  | k + 1, fr => by
    have s1 : Wv wk rm n (k + 1) fr = mnW (okW wk rm (n - (k + 1)) fr) (fun s => bcR (s : Int) + Wv wk rm n k (fr - s)) 1000000 128 := rfl
    rcases mnW_at (ok := okW wk rm (n - (k + 1)) fr) (v := fun s => bcR (s : Int) + Wv wk rm n k (fr - s)) (c := 1000000) 128 with h | ⟨s, h1, h2, h3⟩
    · exact Or.inr (s1.trans h)
    · have h4 := (mnW_le (ok := okW wk rm (n - (k + 1)) fr) (v := fun s => bcR (s : Int) + Wv wk rm n k (fr - s)) (c := 1000000) 128).1
      have h3 : _ = bcR (s : Int) + Wv wk rm n k (fr - s) := h3
      have h5 := bcR_b h1
      rw [← s1] at h3 h4
      rcases Wv_b (wk := wk) (rm := rm) (n := n) k (fr - s) with h6 | h6
      · exact Or.inl (by omega)
      · exact Or.inr (by omega)
set_option maxRecDepth 100000 in
theorem b33_0 {sc : zC} {d : Nat} {a : Int} {f : zF} {Q : zQ} (h : zR sc (d + 1) 33 2 [] [(0, zP (30)), (1, zP (1)), (2, zI a), (3, zI (0))] 0 0 zSH f Q) : zR sc (d + 1) 33 0 [] [(0, zP (30)), (1, zP (1)), (2, zI a)] 0 0 zSH f Q := zwn_R (stp := fun mi pc => bif Nat.beq mi 33 && Nat.beq pc 2 then some [0, 1, 2, 3] else none) (inl := fun _ => false) (nov := (fun j => bif Nat.beq j 143 then false else bif Nat.beq j 144 then false else bif Nat.beq j 242 then false else bif Nat.beq j 236 then false else bif Nat.beq j 237 then false else bif Nat.beq j 241 then false else bif Nat.beq j 239 then false else bif Nat.beq j 96 then false else true)) 4 h
set_option maxRecDepth 100000 in
theorem b33_2 {sc : zC} {d : Nat} {x2 x3 : Int} {f : zF} {Q : zQ} (h : if x3 < 128 then (∃ A2 : zQ, zR sc d 34 0 [] [(0, zP (1)), (1, zI x3)] 0 0 zSH f A2 ∧ ∀ (r3 : Int) (f1 : zF), zIn r3 → A2 (some (zI r3)) zSH f1 → (zix x3 (128) (zov (x2 * (128)) (zov ((x2 * (128)) + x3) (zix ((x2 * (128)) + x3) (896) (zov (x3 + 1) (zR sc (d + 1) 33 2 [] [(0, zP (30)), (1, zP (1)), (2, zI x2), (3, zI (x3 + 1))] 0 0 zSH (zup (zup f1 (31) (x3.toNat) r3) (32) (((x2 * (128)) + x3).toNat) (0)) Q))))))) else (zov (x2 - (1)) (zR sc (d + 1) 33 43 [] [(0, zP (30)), (1, zP (1)), (3, zI (x2 - (1)))] 0 0 zSH f Q))) : zR sc (d + 1) 33 2 [] [(0, zP (30)), (1, zP (1)), (2, zI x2), (3, zI x3)] 0 0 zSH f Q := zwn_R (stp := fun mi pc => bif Nat.beq mi 33 && Nat.beq pc 2 then some [0, 1, 2, 3] else bif Nat.beq mi 33 && Nat.beq pc 43 then some [0, 1, 3] else none) (inl := fun _ => false) (nov := (fun j => bif Nat.beq j 143 then false else bif Nat.beq j 144 then false else bif Nat.beq j 242 then false else bif Nat.beq j 236 then false else bif Nat.beq j 237 then false else bif Nat.beq j 241 then false else bif Nat.beq j 239 then false else bif Nat.beq j 96 then false else true)) 27 h
set_option maxRecDepth 100000 in
theorem b33_43 {sc : zC} {d : Nat} {x3 : Int} {f : zF} {Q : zQ} (h : if x3 < 0 then (Q none zSH f) else (zR sc (d + 1) 33 50 [] [(0, zP (30)), (1, zP (1)), (3, zI x3), (4, zI (0))] 0 0 zSH f Q)) : zR sc (d + 1) 33 43 [] [(0, zP (30)), (1, zP (1)), (3, zI x3)] 0 0 zSH f Q := zwn_R (stp := fun mi pc => bif Nat.beq mi 33 && Nat.beq pc 50 then some [0, 1, 3, 4] else none) (inl := fun _ => false) (nov := (fun j => bif Nat.beq j 143 then false else bif Nat.beq j 144 then false else bif Nat.beq j 242 then false else bif Nat.beq j 236 then false else bif Nat.beq j 237 then false else bif Nat.beq j 241 then false else bif Nat.beq j 239 then false else bif Nat.beq j 96 then false else true)) 7 h
set_option maxRecDepth 100000 in
theorem b33_50 {sc : zC} {d : Nat} {x3 x4 : Int} {f : zF} {Q : zQ} (h : if x4 < zshl (1) (f (1) (1)) then (zov (x3 * (128)) (zov ((x3 * (128)) + x4) (∃ A2 : zQ, zR sc d 82 0 [] [(0, zP (1)), (1, zI x3)] 0 0 zSH f A2 ∧ ∀ (r3 : Int) (f1 : zF), zIn r3 → A2 (some (zI r3)) zSH f1 → (∃ A5 : zQ, zR sc d 35 0 [] [(0, zP (30)), (1, zI r3), (2, zI x3), (3, zI x4)] 0 0 zSH f1 A5 ∧ ∀ (r6 : Int) (f4 : zF), zIn r6 → A5 (some (zI r6)) zSH f4 → (zix ((x3 * (128)) + x4) (896) (zov (x4 + 1) (zR sc (d + 1) 33 50 [] [(0, zP (30)), (1, zP (1)), (3, zI x3), (4, zI (x4 + 1))] 0 0 zSH (zup f4 (32) (((x3 * (128)) + x4).toNat) r6) Q))))))) else (zov (x3 + (-1)) (zR sc (d + 1) 33 43 [] [(0, zP (30)), (1, zP (1)), (3, zI (x3 + (-1)))] 0 0 zSH f Q))) : zR sc (d + 1) 33 50 [] [(0, zP (30)), (1, zP (1)), (3, zI x3), (4, zI x4)] 0 0 zSH f Q := zwn_R (stp := fun mi pc => bif Nat.beq mi 33 && Nat.beq pc 43 then some [0, 1, 3] else bif Nat.beq mi 33 && Nat.beq pc 50 then some [0, 1, 3, 4] else none) (inl := fun _ => false) (nov := (fun j => bif Nat.beq j 143 then false else bif Nat.beq j 144 then false else bif Nat.beq j 242 then false else bif Nat.beq j 236 then false else bif Nat.beq j 237 then false else bif Nat.beq j 241 then false else bif Nat.beq j 239 then false else bif Nat.beq j 96 then false else true)) 27 h
set_option maxRecDepth 100000 in
theorem b34_0 {sc : zC} {d : Nat} {a : Int} {f : zF} {Q : zQ} (h : zR sc (d + 1) 34 4 [] [(0, zP (1)), (1, zI a), (2, zI (0)), (3, zI (0))] 0 0 zSH f Q) : zR sc (d + 1) 34 0 [] [(0, zP (1)), (1, zI a)] 0 0 zSH f Q := zwn_R (stp := fun mi pc => bif Nat.beq mi 34 && Nat.beq pc 4 then some [0, 1, 2, 3] else none) (inl := fun _ => false) (nov := (fun j => bif Nat.beq j 143 then false else bif Nat.beq j 144 then false else bif Nat.beq j 242 then false else bif Nat.beq j 236 then false else bif Nat.beq j 237 then false else bif Nat.beq j 241 then false else bif Nat.beq j 239 then false else bif Nat.beq j 96 then false else true)) 6 h
set_option maxRecDepth 100000 in
theorem b34_4 {sc : zC} {d : Nat} {x1 x2 x3 : Int} {f : zF} {Q : zQ} (h : if x3 < f (1) (1) then (if zand (zshr x1 x3) (1) = 0 then (zov (x3 + 1) (zR sc (d + 1) 34 4 [] [(0, zP (1)), (1, zI x1), (2, zI x2), (3, zI (x3 + 1))] 0 0 zSH f Q)) else (zov ((30) + x3) (zix ((30) + x3) (60) (zov (x2 + (f (2) (((30) + x3).toNat))) (zov (x3 + 1) (zR sc (d + 1) 34 4 [] [(0, zP (1)), (1, zI x1), (2, zI (x2 + (f (2) (((30) + x3).toNat)))), (3, zI (x3 + 1))] 0 0 zSH f Q)))))) else (Q (some (zI x2)) zSH f)) : zR sc (d + 1) 34 4 [] [(0, zP (1)), (1, zI x1), (2, zI x2), (3, zI x3)] 0 0 zSH f Q := zwn_R (stp := fun mi pc => bif Nat.beq mi 34 && Nat.beq pc 4 then some [0, 1, 2, 3] else none) (inl := fun _ => false) (nov := (fun j => bif Nat.beq j 143 then false else bif Nat.beq j 144 then false else bif Nat.beq j 242 then false else bif Nat.beq j 236 then false else bif Nat.beq j 237 then false else bif Nat.beq j 241 then false else bif Nat.beq j 239 then false else bif Nat.beq j 96 then false else true)) 27 h
set_option maxRecDepth 100000 in
theorem b35_0 {sc : zC} {d : Nat} {a b c : Int} {f : zF} {Q : zQ} (h : zR sc (d + 1) 35 10 [] [(0, zP (30)), (1, zI a), (2, zI b), (3, zI c), (4, zI (99)), (5, zI (0)), (6, zI (0))] 0 0 zSH f Q) : zR sc (d + 1) 35 0 [] [(0, zP (30)), (1, zI a), (2, zI b), (3, zI c)] 0 0 zSH f Q := zwn_R (stp := fun mi pc => bif Nat.beq mi 35 && Nat.beq pc 10 then some [0, 1, 2, 3, 4, 5, 6] else none) (inl := fun _ => false) (nov := (fun j => bif Nat.beq j 143 then false else bif Nat.beq j 144 then false else bif Nat.beq j 242 then false else bif Nat.beq j 236 then false else bif Nat.beq j 237 then false else bif Nat.beq j 241 then false else bif Nat.beq j 239 then false else bif Nat.beq j 96 then false else true)) 8 h
set_option maxRecDepth 100000 in
theorem b35_10 {sc : zC} {d : Nat} {x1 x2 x3 x4 x5 x6 : Int} {f : zF} {Q : zQ} (h : ∃ A2 : zQ, zR sc d 264 0 [] [(0, zI x3)] 0 0 zSH f A2 ∧ ∀ (r3 : Int) (f1 : zF), zIn r3 → A2 (some (zI r3)) zSH f1 → (if x6 < zshl (1) r3 then (zix x5 (128) (if f1 (31) (x5.toNat) < x1 then (∃ A5 : zQ, zR sc d 37 0 [] [(0, zI x3), (1, zI x5)] 0 0 zSH f1 A5 ∧ ∀ (r6 : Int) (f4 : zF), zIn r6 → A5 (some (zI r6)) zSH f4 → (zov (x6 + 1) (zR sc (d + 1) 35 10 [] [(0, zP (30)), (1, zI x1), (2, zI x2), (3, zI x3), (4, zI x4), (5, zI r6), (6, zI (x6 + 1))] 0 0 zSH f4 Q))) else (∃ A8 : zQ, zR sc d 36 0 [] [(0, zP (30)), (1, zI x2), (2, zI x3), (3, zI x5)] 0 0 zSH f1 A8 ∧ ∀ (r9 : Int) (f7 : zF), zIn r9 → A8 (some (zI r9)) zSH f7 → (∃ A11 : zQ, zR sc d 37 0 [] [(0, zI x3), (1, zI x5)] 0 0 zSH f7 A11 ∧ ∀ (r12 : Int) (f10 : zF), zIn r12 → A11 (some (zI r12)) zSH f10 → (zov (x6 + 1) (zR sc (d + 1) 35 10 [] [(0, zP (30)), (1, zI x1), (2, zI x2), (3, zI x3), (4, zI (if r9 < x4 then r9 else x4)), (5, zI r12), (6, zI (x6 + 1))] 0 0 zSH f10 Q)))))) else (Q (some (zI x4)) zSH f1))) : zR sc (d + 1) 35 10 [] [(0, zP (30)), (1, zI x1), (2, zI x2), (3, zI x3), (4, zI x4), (5, zI x5), (6, zI x6)] 0 0 zSH f Q := zwn_R (stp := fun mi pc => bif Nat.beq mi 35 && Nat.beq pc 10 then some [0, 1, 2, 3, 4, 5, 6] else none) (inl := fun _ => false) (nov := (fun j => bif Nat.beq j 143 then false else bif Nat.beq j 144 then false else bif Nat.beq j 242 then false else bif Nat.beq j 236 then false else bif Nat.beq j 237 then false else bif Nat.beq j 241 then false else bif Nat.beq j 239 then false else bif Nat.beq j 96 then false else true)) 36 h
set_option maxRecDepth 100000 in
theorem b36_0 {sc : zC} {d : Nat} {a b c : Int} {f : zF} {Q : zQ} (h : zov (a + (1)) (zov ((a + (1)) * (128)) (zov (((a + (1)) * (128)) + (zand b (zxor c (-1)))) (zix (((a + (1)) * (128)) + (zand b (zxor c (-1)))) (896) (∃ A2 : zQ, zR sc d 264 0 [] [(0, zI c)] 0 0 zSH f A2 ∧ ∀ (r3 : Int) (f1 : zF), zIn r3 → A2 (some (zI r3)) zSH f1 → (zov (r3 + (f (32) ((((a + (1)) * (128)) + (zand b (zxor c (-1)))).toNat))) (Q (some (zI (if r3 + (f (32) ((((a + (1)) * (128)) + (zand b (zxor c (-1)))).toNat)) < 99 then r3 + (f (32) ((((a + (1)) * (128)) + (zand b (zxor c (-1)))).toNat)) else 99))) zSH f1))))))) : zR sc (d + 1) 36 0 [] [(0, zP (30)), (1, zI a), (2, zI b), (3, zI c)] 0 0 zSH f Q := zwn_R (stp := fun _ _ => none) (inl := fun _ => false) (nov := (fun j => bif Nat.beq j 143 then false else bif Nat.beq j 144 then false else bif Nat.beq j 242 then false else bif Nat.beq j 236 then false else bif Nat.beq j 237 then false else bif Nat.beq j 241 then false else bif Nat.beq j 239 then false else bif Nat.beq j 96 then false else true)) 24 h
set_option maxRecDepth 100000 in
theorem b37_0 {sc : zC} {d : Nat} {a b : Int} {f : zF} {Q : zQ} (h : zov (b - a) (Q (some (zI (zand (b - a) a))) zSH f)) : zR sc (d + 1) 37 0 [] [(0, zI a), (1, zI b)] 0 0 zSH f Q := zwn_R (stp := fun _ _ => none) (inl := fun _ => false) (nov := (fun j => bif Nat.beq j 143 then false else bif Nat.beq j 144 then false else bif Nat.beq j 242 then false else bif Nat.beq j 236 then false else bif Nat.beq j 237 then false else bif Nat.beq j 241 then false else bif Nat.beq j 239 then false else bif Nat.beq j 96 then false else true)) 8 h
set_option maxRecDepth 100000 in
theorem b38_0 {sc : zC} {d : Nat} {f : zF} {Q : zQ} (h : ∃ A2 : zQ, zR sc d 39 0 [] [(0, zP (30)), (1, zP (1))] 0 0 zSH f A2 ∧ ∀ (r3 : Int) (f1 : zF), zIn r3 → A2 (some (zI r3)) zSH f1 → (if r3 < 99 then (Q (some (zI (1))) zSH f1) else (Q (some (zI (0))) zSH f1))) : zR sc (d + 1) 38 0 [] [(0, zP (30)), (1, zP (1))] 0 0 zSH f Q := zwn_R (stp := fun _ _ => none) (inl := fun _ => false) (nov := (fun j => bif Nat.beq j 143 then false else bif Nat.beq j 144 then false else bif Nat.beq j 242 then false else bif Nat.beq j 236 then false else bif Nat.beq j 237 then false else bif Nat.beq j 241 then false else bif Nat.beq j 239 then false else bif Nat.beq j 96 then false else true)) 12 h
set_option maxRecDepth 100000 in
theorem b39_0 {sc : zC} {d : Nat} {f : zF} {Q : zQ} (h : zov ((zshl (1) (f (1) (1))) - (1)) (zix ((zshl (1) (f (1) (1))) - (1)) (896) (Q (some (zI (f (32) (((zshl (1) (f (1) (1))) - (1)).toNat)))) zSH f))) : zR sc (d + 1) 39 0 [] [(0, zP (30)), (1, zP (1))] 0 0 zSH f Q := zwn_R (stp := fun _ _ => none) (inl := fun _ => false) (nov := (fun j => bif Nat.beq j 143 then false else bif Nat.beq j 144 then false else bif Nat.beq j 242 then false else bif Nat.beq j 236 then false else bif Nat.beq j 237 then false else bif Nat.beq j 241 then false else bif Nat.beq j 239 then false else bif Nat.beq j 96 then false else true)) 12 h
set_option maxRecDepth 100000 in
theorem b40_0 {sc : zC} {d : Nat} {a : Int} {f : zF} {Q : zQ} (h : zov ((zshl (1) (f (1) (1))) - (1)) (zR sc (d + 1) 40 15 [] [(0, zP (30)), (1, zP (1)), (2, zI a), (3, zI ((zshl (1) (f (1) (1))) - (1))), (4, zI (0)), (5, zI (0))] 0 0 zSH f Q)) : zR sc (d + 1) 40 0 [] [(0, zP (30)), (1, zP (1)), (2, zI a)] 0 0 zSH f Q := zwn_R (stp := fun mi pc => bif Nat.beq mi 40 && Nat.beq pc 15 then some [0, 1, 2, 3, 4, 5] else none) (inl := fun _ => false) (nov := (fun j => bif Nat.beq j 143 then false else bif Nat.beq j 144 then false else bif Nat.beq j 242 then false else bif Nat.beq j 236 then false else bif Nat.beq j 237 then false else bif Nat.beq j 241 then false else bif Nat.beq j 239 then false else bif Nat.beq j 96 then false else true)) 13 h
set_option maxRecDepth 100000 in
theorem b40_15 {sc : zC} {d : Nat} {x2 x3 x4 x5 : Int} {f : zF} {Q : zQ} (h : if x2 < x5 then (Q (some (zI x4)) zSH f) else (∃ A2 : zQ, zR sc d 82 0 [] [(0, zP (1)), (1, zI x5)] 0 0 zSH f A2 ∧ ∀ (r3 : Int) (f1 : zF), zIn r3 → A2 (some (zI r3)) zSH f1 → (∃ A5 : zQ, zR sc d 41 0 [] [(0, zP (30)), (1, zI r3), (2, zI x5), (3, zI (zand x3 (zxor x4 (-1))))] 0 0 zSH f1 A5 ∧ ∀ (r6 : Int) (f4 : zF), zIn r6 → A5 (some (zI r6)) zSH f4 → (zov (x5 + 1) (zR sc (d + 1) 40 15 [] [(0, zP (30)), (1, zP (1)), (2, zI x2), (3, zI (zand x3 (zxor x4 (-1)))), (4, zI r6), (5, zI (x5 + 1))] 0 0 zSH f4 Q))))) : zR sc (d + 1) 40 15 [] [(0, zP (30)), (1, zP (1)), (2, zI x2), (3, zI x3), (4, zI x4), (5, zI x5)] 0 0 zSH f Q := zwn_R (stp := fun mi pc => bif Nat.beq mi 40 && Nat.beq pc 15 then some [0, 1, 2, 3, 4, 5] else none) (inl := fun _ => false) (nov := (fun j => bif Nat.beq j 143 then false else bif Nat.beq j 144 then false else bif Nat.beq j 242 then false else bif Nat.beq j 236 then false else bif Nat.beq j 237 then false else bif Nat.beq j 241 then false else bif Nat.beq j 239 then false else bif Nat.beq j 96 then false else true)) 23 h
set_option maxRecDepth 100000 in
theorem b41_0 {sc : zC} {d : Nat} {a b c : Int} {f : zF} {Q : zQ} (h : zR sc (d + 1) 41 6 [] [(0, zP (30)), (1, zI a), (2, zI b), (3, zI c), (4, zI (0)), (5, zI (0))] 0 0 zSH f Q) : zR sc (d + 1) 41 0 [] [(0, zP (30)), (1, zI a), (2, zI b), (3, zI c)] 0 0 zSH f Q := zwn_R (stp := fun mi pc => bif Nat.beq mi 41 && Nat.beq pc 6 then some [0, 1, 2, 3, 4, 5] else none) (inl := fun _ => false) (nov := (fun j => bif Nat.beq j 143 then false else bif Nat.beq j 144 then false else bif Nat.beq j 242 then false else bif Nat.beq j 236 then false else bif Nat.beq j 237 then false else bif Nat.beq j 241 then false else bif Nat.beq j 239 then false else bif Nat.beq j 96 then false else true)) 6 h
set_option maxRecDepth 100000 in
theorem b41_6 {sc : zC} {d : Nat} {x1 x2 x3 x4 x5 : Int} {f : zF} {Q : zQ} (h : ∃ A2 : zQ, zR sc d 264 0 [] [(0, zI x3)] 0 0 zSH f A2 ∧ ∀ (r3 : Int) (f1 : zF), zIn r3 → A2 (some (zI r3)) zSH f1 → (if x5 < zshl (1) r3 then (zix x4 (128) (if f1 (31) (x4.toNat) < x1 then (∃ A5 : zQ, zR sc d 37 0 [] [(0, zI x3), (1, zI x4)] 0 0 zSH f1 A5 ∧ ∀ (r6 : Int) (f4 : zF), zIn r6 → A5 (some (zI r6)) zSH f4 → (zov (x5 + 1) (zR sc (d + 1) 41 6 [] [(0, zP (30)), (1, zI x1), (2, zI x2), (3, zI x3), (4, zI r6), (5, zI (x5 + 1))] 0 0 zSH f4 Q))) else (∃ A8 : zQ, zR sc d 36 0 [] [(0, zP (30)), (1, zI x2), (2, zI x3), (3, zI x4)] 0 0 zSH f1 A8 ∧ ∀ (r9 : Int) (f7 : zF), zIn r9 → A8 (some (zI r9)) zSH f7 → (zov (x2 * (128)) (zov ((x2 * (128)) + x3) (zix ((x2 * (128)) + x3) (896) (if r9 = f7 (32) (((x2 * (128)) + x3).toNat) then (Q (some (zI x4)) zSH f7) else (∃ A11 : zQ, zR sc d 37 0 [] [(0, zI x3), (1, zI x4)] 0 0 zSH f7 A11 ∧ ∀ (r12 : Int) (f10 : zF), zIn r12 → A11 (some (zI r12)) zSH f10 → (zov (x5 + 1) (zR sc (d + 1) 41 6 [] [(0, zP (30)), (1, zI x1), (2, zI x2), (3, zI x3), (4, zI r12), (5, zI (x5 + 1))] 0 0 zSH f10 Q)))))))))) else (Q (some (zI (0))) zSH f1))) : zR sc (d + 1) 41 6 [] [(0, zP (30)), (1, zI x1), (2, zI x2), (3, zI x3), (4, zI x4), (5, zI x5)] 0 0 zSH f Q := zwn_R (stp := fun mi pc => bif Nat.beq mi 41 && Nat.beq pc 6 then some [0, 1, 2, 3, 4, 5] else none) (inl := fun _ => false) (nov := (fun j => bif Nat.beq j 143 then false else bif Nat.beq j 144 then false else bif Nat.beq j 242 then false else bif Nat.beq j 236 then false else bif Nat.beq j 237 then false else bif Nat.beq j 241 then false else bif Nat.beq j 239 then false else bif Nat.beq j 96 then false else true)) 44 h
set_option maxRecDepth 100000 in
theorem b210_0 {sc : zC} {d : Nat} {a : Int} {f : zF} {Q : zQ} (h : zR sc (d + 1) 210 4 [] [(0, zP (50)), (1, zI a), (2, zI (0)), (3, zI (0))] 0 0 zSH f Q) : zR sc (d + 1) 210 0 [] [(0, zP (50)), (1, zI a)] 0 0 zSH f Q := zwn_R (stp := fun mi pc => bif Nat.beq mi 210 && Nat.beq pc 4 then some [0, 1, 2, 3] else none) (inl := fun j => bif Nat.beq j 14 then true else bif Nat.beq j 15 then true else bif Nat.beq j 16 then true else bif Nat.beq j 17 then true else bif Nat.beq j 18 then true else bif Nat.beq j 19 then true else bif Nat.beq j 20 then true else bif Nat.beq j 22 then true else bif Nat.beq j 23 then true else bif Nat.beq j 25 then true else bif Nat.beq j 28 then true else bif Nat.beq j 50 then true else bif Nat.beq j 51 then true else bif Nat.beq j 52 then true else bif Nat.beq j 53 then true else bif Nat.beq j 54 then true else bif Nat.beq j 55 then true else bif Nat.beq j 56 then true else bif Nat.beq j 57 then true else bif Nat.beq j 58 then true else bif Nat.beq j 59 then true else bif Nat.beq j 60 then true else bif Nat.beq j 62 then true else bif Nat.beq j 63 then true else bif Nat.beq j 64 then true else bif Nat.beq j 65 then true else bif Nat.beq j 66 then true else bif Nat.beq j 67 then true else bif Nat.beq j 68 then true else bif Nat.beq j 69 then true else bif Nat.beq j 70 then true else bif Nat.beq j 71 then true else bif Nat.beq j 72 then true else bif Nat.beq j 73 then true else bif Nat.beq j 74 then true else bif Nat.beq j 75 then true else bif Nat.beq j 76 then true else bif Nat.beq j 77 then true else bif Nat.beq j 78 then true else bif Nat.beq j 79 then true else bif Nat.beq j 85 then true else bif Nat.beq j 86 then true else bif Nat.beq j 87 then true else bif Nat.beq j 92 then true else bif Nat.beq j 93 then true else bif Nat.beq j 95 then true else bif Nat.beq j 96 then true else bif Nat.beq j 97 then true else bif Nat.beq j 98 then true else bif Nat.beq j 99 then true else bif Nat.beq j 165 then true else bif Nat.beq j 166 then true else bif Nat.beq j 167 then true else bif Nat.beq j 170 then true else bif Nat.beq j 171 then true else bif Nat.beq j 172 then true else bif Nat.beq j 173 then true else bif Nat.beq j 174 then true else bif Nat.beq j 175 then true else bif Nat.beq j 176 then true else bif Nat.beq j 177 then true else bif Nat.beq j 178 then true else bif Nat.beq j 180 then true else bif Nat.beq j 181 then true else bif Nat.beq j 182 then true else bif Nat.beq j 183 then true else bif Nat.beq j 184 then true else bif Nat.beq j 185 then true else bif Nat.beq j 186 then true else bif Nat.beq j 187 then true else bif Nat.beq j 188 then true else bif Nat.beq j 191 then true else bif Nat.beq j 194 then true else bif Nat.beq j 200 then true else bif Nat.beq j 204 then true else bif Nat.beq j 205 then true else bif Nat.beq j 206 then true else bif Nat.beq j 209 then true else bif Nat.beq j 215 then true else bif Nat.beq j 220 then true else bif Nat.beq j 223 then true else bif Nat.beq j 224 then true else bif Nat.beq j 237 then true else bif Nat.beq j 238 then true else bif Nat.beq j 239 then true else bif Nat.beq j 240 then true else bif Nat.beq j 243 then true else bif Nat.beq j 244 then true else bif Nat.beq j 245 then true else bif Nat.beq j 246 then true else bif Nat.beq j 247 then true else bif Nat.beq j 252 then true else bif Nat.beq j 253 then true else bif Nat.beq j 254 then true else bif Nat.beq j 255 then true else bif Nat.beq j 257 then true else bif Nat.beq j 258 then true else bif Nat.beq j 259 then true else bif Nat.beq j 260 then true else bif Nat.beq j 263 then true else false) (nov := (fun j => bif Nat.beq j 143 then false else bif Nat.beq j 144 then false else bif Nat.beq j 242 then false else bif Nat.beq j 236 then false else bif Nat.beq j 237 then false else bif Nat.beq j 241 then false else bif Nat.beq j 239 then false else bif Nat.beq j 96 then false else true)) 6 h
set_option maxRecDepth 100000 in
theorem b210_4 {sc : zC} {d : Nat} {x1 x2 x3 : Int} {f : zF} {Q : zQ} (h : if x3 < f (50) (7) then (if zand (zshr x1 x3) (1) = 1 then (zov ((30) + x3) (zix ((30) + x3) (60) (zov (x2 + (f (51) (((30) + x3).toNat))) (zov (x3 + 1) (zR sc (d + 1) 210 4 [] [(0, zP (50)), (1, zI x1), (2, zI (x2 + (f (51) (((30) + x3).toNat)))), (3, zI (x3 + 1))] 0 0 zSH f Q))))) else (zov (x2 + (0)) (zov (x3 + 1) (zR sc (d + 1) 210 4 [] [(0, zP (50)), (1, zI x1), (2, zI (x2 + (0))), (3, zI (x3 + 1))] 0 0 zSH f Q)))) else (Q (some (zI x2)) zSH f)) : zR sc (d + 1) 210 4 [] [(0, zP (50)), (1, zI x1), (2, zI x2), (3, zI x3)] 0 0 zSH f Q := zwn_R (stp := fun mi pc => bif Nat.beq mi 210 && Nat.beq pc 4 then some [0, 1, 2, 3] else none) (inl := fun j => bif Nat.beq j 14 then true else bif Nat.beq j 15 then true else bif Nat.beq j 16 then true else bif Nat.beq j 17 then true else bif Nat.beq j 18 then true else bif Nat.beq j 19 then true else bif Nat.beq j 20 then true else bif Nat.beq j 22 then true else bif Nat.beq j 23 then true else bif Nat.beq j 25 then true else bif Nat.beq j 28 then true else bif Nat.beq j 50 then true else bif Nat.beq j 51 then true else bif Nat.beq j 52 then true else bif Nat.beq j 53 then true else bif Nat.beq j 54 then true else bif Nat.beq j 55 then true else bif Nat.beq j 56 then true else bif Nat.beq j 57 then true else bif Nat.beq j 58 then true else bif Nat.beq j 59 then true else bif Nat.beq j 60 then true else bif Nat.beq j 62 then true else bif Nat.beq j 63 then true else bif Nat.beq j 64 then true else bif Nat.beq j 65 then true else bif Nat.beq j 66 then true else bif Nat.beq j 67 then true else bif Nat.beq j 68 then true else bif Nat.beq j 69 then true else bif Nat.beq j 70 then true else bif Nat.beq j 71 then true else bif Nat.beq j 72 then true else bif Nat.beq j 73 then true else bif Nat.beq j 74 then true else bif Nat.beq j 75 then true else bif Nat.beq j 76 then true else bif Nat.beq j 77 then true else bif Nat.beq j 78 then true else bif Nat.beq j 79 then true else bif Nat.beq j 85 then true else bif Nat.beq j 86 then true else bif Nat.beq j 87 then true else bif Nat.beq j 92 then true else bif Nat.beq j 93 then true else bif Nat.beq j 95 then true else bif Nat.beq j 96 then true else bif Nat.beq j 97 then true else bif Nat.beq j 98 then true else bif Nat.beq j 99 then true else bif Nat.beq j 165 then true else bif Nat.beq j 166 then true else bif Nat.beq j 167 then true else bif Nat.beq j 170 then true else bif Nat.beq j 171 then true else bif Nat.beq j 172 then true else bif Nat.beq j 173 then true else bif Nat.beq j 174 then true else bif Nat.beq j 175 then true else bif Nat.beq j 176 then true else bif Nat.beq j 177 then true else bif Nat.beq j 178 then true else bif Nat.beq j 180 then true else bif Nat.beq j 181 then true else bif Nat.beq j 182 then true else bif Nat.beq j 183 then true else bif Nat.beq j 184 then true else bif Nat.beq j 185 then true else bif Nat.beq j 186 then true else bif Nat.beq j 187 then true else bif Nat.beq j 188 then true else bif Nat.beq j 191 then true else bif Nat.beq j 194 then true else bif Nat.beq j 200 then true else bif Nat.beq j 204 then true else bif Nat.beq j 205 then true else bif Nat.beq j 206 then true else bif Nat.beq j 209 then true else bif Nat.beq j 215 then true else bif Nat.beq j 220 then true else bif Nat.beq j 223 then true else bif Nat.beq j 224 then true else bif Nat.beq j 237 then true else bif Nat.beq j 238 then true else bif Nat.beq j 239 then true else bif Nat.beq j 240 then true else bif Nat.beq j 243 then true else bif Nat.beq j 244 then true else bif Nat.beq j 245 then true else bif Nat.beq j 246 then true else bif Nat.beq j 247 then true else bif Nat.beq j 252 then true else bif Nat.beq j 253 then true else bif Nat.beq j 254 then true else bif Nat.beq j 255 then true else bif Nat.beq j 257 then true else bif Nat.beq j 258 then true else bif Nat.beq j 259 then true else bif Nat.beq j 260 then true else bif Nat.beq j 263 then true else false) (nov := (fun j => bif Nat.beq j 143 then false else bif Nat.beq j 144 then false else bif Nat.beq j 242 then false else bif Nat.beq j 236 then false else bif Nat.beq j 237 then false else bif Nat.beq j 241 then false else bif Nat.beq j 239 then false else bif Nat.beq j 96 then false else true)) 42 h
set_option maxRecDepth 100000 in
theorem b211_0 {sc : zC} {d : Nat} {a : Int} {f : zF} {Q : zQ} (h : zR sc (d + 1) 211 2 [] [(0, zP (50)), (1, zI a), (2, zI a)] 0 0 zSH f Q) : zR sc (d + 1) 211 0 [] [(0, zP (50)), (1, zI a)] 0 0 zSH f Q := zwn_R (stp := fun mi pc => bif Nat.beq mi 211 && Nat.beq pc 2 then some [0, 1, 2] else none) (inl := fun j => bif Nat.beq j 14 then true else bif Nat.beq j 15 then true else bif Nat.beq j 16 then true else bif Nat.beq j 17 then true else bif Nat.beq j 18 then true else bif Nat.beq j 19 then true else bif Nat.beq j 20 then true else bif Nat.beq j 22 then true else bif Nat.beq j 23 then true else bif Nat.beq j 25 then true else bif Nat.beq j 28 then true else bif Nat.beq j 50 then true else bif Nat.beq j 51 then true else bif Nat.beq j 52 then true else bif Nat.beq j 53 then true else bif Nat.beq j 54 then true else bif Nat.beq j 55 then true else bif Nat.beq j 56 then true else bif Nat.beq j 57 then true else bif Nat.beq j 58 then true else bif Nat.beq j 59 then true else bif Nat.beq j 60 then true else bif Nat.beq j 62 then true else bif Nat.beq j 63 then true else bif Nat.beq j 64 then true else bif Nat.beq j 65 then true else bif Nat.beq j 66 then true else bif Nat.beq j 67 then true else bif Nat.beq j 68 then true else bif Nat.beq j 69 then true else bif Nat.beq j 70 then true else bif Nat.beq j 71 then true else bif Nat.beq j 72 then true else bif Nat.beq j 73 then true else bif Nat.beq j 74 then true else bif Nat.beq j 75 then true else bif Nat.beq j 76 then true else bif Nat.beq j 77 then true else bif Nat.beq j 78 then true else bif Nat.beq j 79 then true else bif Nat.beq j 85 then true else bif Nat.beq j 86 then true else bif Nat.beq j 87 then true else bif Nat.beq j 92 then true else bif Nat.beq j 93 then true else bif Nat.beq j 95 then true else bif Nat.beq j 96 then true else bif Nat.beq j 97 then true else bif Nat.beq j 98 then true else bif Nat.beq j 99 then true else bif Nat.beq j 165 then true else bif Nat.beq j 166 then true else bif Nat.beq j 167 then true else bif Nat.beq j 170 then true else bif Nat.beq j 171 then true else bif Nat.beq j 172 then true else bif Nat.beq j 173 then true else bif Nat.beq j 174 then true else bif Nat.beq j 175 then true else bif Nat.beq j 176 then true else bif Nat.beq j 177 then true else bif Nat.beq j 178 then true else bif Nat.beq j 180 then true else bif Nat.beq j 181 then true else bif Nat.beq j 182 then true else bif Nat.beq j 183 then true else bif Nat.beq j 184 then true else bif Nat.beq j 185 then true else bif Nat.beq j 186 then true else bif Nat.beq j 187 then true else bif Nat.beq j 188 then true else bif Nat.beq j 191 then true else bif Nat.beq j 194 then true else bif Nat.beq j 200 then true else bif Nat.beq j 204 then true else bif Nat.beq j 205 then true else bif Nat.beq j 206 then true else bif Nat.beq j 209 then true else bif Nat.beq j 215 then true else bif Nat.beq j 220 then true else bif Nat.beq j 223 then true else bif Nat.beq j 224 then true else bif Nat.beq j 237 then true else bif Nat.beq j 238 then true else bif Nat.beq j 239 then true else bif Nat.beq j 240 then true else bif Nat.beq j 243 then true else bif Nat.beq j 244 then true else bif Nat.beq j 245 then true else bif Nat.beq j 246 then true else bif Nat.beq j 247 then true else bif Nat.beq j 252 then true else bif Nat.beq j 253 then true else bif Nat.beq j 254 then true else bif Nat.beq j 255 then true else bif Nat.beq j 257 then true else bif Nat.beq j 258 then true else bif Nat.beq j 259 then true else bif Nat.beq j 260 then true else bif Nat.beq j 263 then true else false) (nov := (fun j => bif Nat.beq j 143 then false else bif Nat.beq j 144 then false else bif Nat.beq j 242 then false else bif Nat.beq j 236 then false else bif Nat.beq j 237 then false else bif Nat.beq j 241 then false else bif Nat.beq j 239 then false else bif Nat.beq j 96 then false else true)) 4 h
set_option maxRecDepth 100000 in
theorem b211_2 {sc : zC} {d : Nat} {x1 x2 : Int} {f : zF} {Q : zQ} (h : if x2 < 0 then (Q none zSH f) else (zR sc (d + 1) 211 8 [] [(0, zP (50)), (1, zI x1), (2, zI x2), (3, zI (0))] 0 0 zSH f Q)) : zR sc (d + 1) 211 2 [] [(0, zP (50)), (1, zI x1), (2, zI x2)] 0 0 zSH f Q := zwn_R (stp := fun mi pc => bif Nat.beq mi 211 && Nat.beq pc 8 then some [0, 1, 2, 3] else none) (inl := fun j => bif Nat.beq j 14 then true else bif Nat.beq j 15 then true else bif Nat.beq j 16 then true else bif Nat.beq j 17 then true else bif Nat.beq j 18 then true else bif Nat.beq j 19 then true else bif Nat.beq j 20 then true else bif Nat.beq j 22 then true else bif Nat.beq j 23 then true else bif Nat.beq j 25 then true else bif Nat.beq j 28 then true else bif Nat.beq j 50 then true else bif Nat.beq j 51 then true else bif Nat.beq j 52 then true else bif Nat.beq j 53 then true else bif Nat.beq j 54 then true else bif Nat.beq j 55 then true else bif Nat.beq j 56 then true else bif Nat.beq j 57 then true else bif Nat.beq j 58 then true else bif Nat.beq j 59 then true else bif Nat.beq j 60 then true else bif Nat.beq j 62 then true else bif Nat.beq j 63 then true else bif Nat.beq j 64 then true else bif Nat.beq j 65 then true else bif Nat.beq j 66 then true else bif Nat.beq j 67 then true else bif Nat.beq j 68 then true else bif Nat.beq j 69 then true else bif Nat.beq j 70 then true else bif Nat.beq j 71 then true else bif Nat.beq j 72 then true else bif Nat.beq j 73 then true else bif Nat.beq j 74 then true else bif Nat.beq j 75 then true else bif Nat.beq j 76 then true else bif Nat.beq j 77 then true else bif Nat.beq j 78 then true else bif Nat.beq j 79 then true else bif Nat.beq j 85 then true else bif Nat.beq j 86 then true else bif Nat.beq j 87 then true else bif Nat.beq j 92 then true else bif Nat.beq j 93 then true else bif Nat.beq j 95 then true else bif Nat.beq j 96 then true else bif Nat.beq j 97 then true else bif Nat.beq j 98 then true else bif Nat.beq j 99 then true else bif Nat.beq j 165 then true else bif Nat.beq j 166 then true else bif Nat.beq j 167 then true else bif Nat.beq j 170 then true else bif Nat.beq j 171 then true else bif Nat.beq j 172 then true else bif Nat.beq j 173 then true else bif Nat.beq j 174 then true else bif Nat.beq j 175 then true else bif Nat.beq j 176 then true else bif Nat.beq j 177 then true else bif Nat.beq j 178 then true else bif Nat.beq j 180 then true else bif Nat.beq j 181 then true else bif Nat.beq j 182 then true else bif Nat.beq j 183 then true else bif Nat.beq j 184 then true else bif Nat.beq j 185 then true else bif Nat.beq j 186 then true else bif Nat.beq j 187 then true else bif Nat.beq j 188 then true else bif Nat.beq j 191 then true else bif Nat.beq j 194 then true else bif Nat.beq j 200 then true else bif Nat.beq j 204 then true else bif Nat.beq j 205 then true else bif Nat.beq j 206 then true else bif Nat.beq j 209 then true else bif Nat.beq j 215 then true else bif Nat.beq j 220 then true else bif Nat.beq j 223 then true else bif Nat.beq j 224 then true else bif Nat.beq j 237 then true else bif Nat.beq j 238 then true else bif Nat.beq j 239 then true else bif Nat.beq j 240 then true else bif Nat.beq j 243 then true else bif Nat.beq j 244 then true else bif Nat.beq j 245 then true else bif Nat.beq j 246 then true else bif Nat.beq j 247 then true else bif Nat.beq j 252 then true else bif Nat.beq j 253 then true else bif Nat.beq j 254 then true else bif Nat.beq j 255 then true else bif Nat.beq j 257 then true else bif Nat.beq j 258 then true else bif Nat.beq j 259 then true else bif Nat.beq j 260 then true else bif Nat.beq j 263 then true else false) (nov := (fun j => bif Nat.beq j 143 then false else bif Nat.beq j 144 then false else bif Nat.beq j 242 then false else bif Nat.beq j 236 then false else bif Nat.beq j 237 then false else bif Nat.beq j 241 then false else bif Nat.beq j 239 then false else bif Nat.beq j 96 then false else true)) 7 h
set_option maxRecDepth 100000 in
theorem b211_8 {sc : zC} {d : Nat} {x1 x2 x3 : Int} {f : zF} {Q : zQ} (h : if x3 < zshl (1) (f (50) (7)) then (if x2 = x1 then (zR sc (d + 1) 211 35 [] [(0, zP (50)), (1, zI x1), (2, zI x2), (3, zI x3), (4, zI (0)), (5, zI (0))] 0 0 zSH f Q) else (zR sc (d + 1) 211 35 [] [(0, zP (50)), (1, zI x1), (2, zI x2), (3, zI x3), (4, zI (1000000)), (5, zI (0))] 0 0 zSH f Q)) else (zov (x2 + (-1)) (zR sc (d + 1) 211 2 [] [(0, zP (50)), (1, zI x1), (2, zI (x2 + (-1)))] 0 0 zSH f Q))) : zR sc (d + 1) 211 8 [] [(0, zP (50)), (1, zI x1), (2, zI x2), (3, zI x3)] 0 0 zSH f Q := zwn_R (stp := fun mi pc => bif Nat.beq mi 211 && Nat.beq pc 2 then some [0, 1, 2] else bif Nat.beq mi 211 && Nat.beq pc 35 then some [0, 1, 2, 3, 4, 5] else none) (inl := fun j => bif Nat.beq j 14 then true else bif Nat.beq j 15 then true else bif Nat.beq j 16 then true else bif Nat.beq j 17 then true else bif Nat.beq j 18 then true else bif Nat.beq j 19 then true else bif Nat.beq j 20 then true else bif Nat.beq j 22 then true else bif Nat.beq j 23 then true else bif Nat.beq j 25 then true else bif Nat.beq j 28 then true else bif Nat.beq j 50 then true else bif Nat.beq j 51 then true else bif Nat.beq j 52 then true else bif Nat.beq j 53 then true else bif Nat.beq j 54 then true else bif Nat.beq j 55 then true else bif Nat.beq j 56 then true else bif Nat.beq j 57 then true else bif Nat.beq j 58 then true else bif Nat.beq j 59 then true else bif Nat.beq j 60 then true else bif Nat.beq j 62 then true else bif Nat.beq j 63 then true else bif Nat.beq j 64 then true else bif Nat.beq j 65 then true else bif Nat.beq j 66 then true else bif Nat.beq j 67 then true else bif Nat.beq j 68 then true else bif Nat.beq j 69 then true else bif Nat.beq j 70 then true else bif Nat.beq j 71 then true else bif Nat.beq j 72 then true else bif Nat.beq j 73 then true else bif Nat.beq j 74 then true else bif Nat.beq j 75 then true else bif Nat.beq j 76 then true else bif Nat.beq j 77 then true else bif Nat.beq j 78 then true else bif Nat.beq j 79 then true else bif Nat.beq j 85 then true else bif Nat.beq j 86 then true else bif Nat.beq j 87 then true else bif Nat.beq j 92 then true else bif Nat.beq j 93 then true else bif Nat.beq j 95 then true else bif Nat.beq j 96 then true else bif Nat.beq j 97 then true else bif Nat.beq j 98 then true else bif Nat.beq j 99 then true else bif Nat.beq j 165 then true else bif Nat.beq j 166 then true else bif Nat.beq j 167 then true else bif Nat.beq j 170 then true else bif Nat.beq j 171 then true else bif Nat.beq j 172 then true else bif Nat.beq j 173 then true else bif Nat.beq j 174 then true else bif Nat.beq j 175 then true else bif Nat.beq j 176 then true else bif Nat.beq j 177 then true else bif Nat.beq j 178 then true else bif Nat.beq j 180 then true else bif Nat.beq j 181 then true else bif Nat.beq j 182 then true else bif Nat.beq j 183 then true else bif Nat.beq j 184 then true else bif Nat.beq j 185 then true else bif Nat.beq j 186 then true else bif Nat.beq j 187 then true else bif Nat.beq j 188 then true else bif Nat.beq j 191 then true else bif Nat.beq j 194 then true else bif Nat.beq j 200 then true else bif Nat.beq j 204 then true else bif Nat.beq j 205 then true else bif Nat.beq j 206 then true else bif Nat.beq j 209 then true else bif Nat.beq j 215 then true else bif Nat.beq j 220 then true else bif Nat.beq j 223 then true else bif Nat.beq j 224 then true else bif Nat.beq j 237 then true else bif Nat.beq j 238 then true else bif Nat.beq j 239 then true else bif Nat.beq j 240 then true else bif Nat.beq j 243 then true else bif Nat.beq j 244 then true else bif Nat.beq j 245 then true else bif Nat.beq j 246 then true else bif Nat.beq j 247 then true else bif Nat.beq j 252 then true else bif Nat.beq j 253 then true else bif Nat.beq j 254 then true else bif Nat.beq j 255 then true else bif Nat.beq j 257 then true else bif Nat.beq j 258 then true else bif Nat.beq j 259 then true else bif Nat.beq j 260 then true else bif Nat.beq j 263 then true else false) (nov := (fun j => bif Nat.beq j 143 then false else bif Nat.beq j 144 then false else bif Nat.beq j 242 then false else bif Nat.beq j 236 then false else bif Nat.beq j 237 then false else bif Nat.beq j 241 then false else bif Nat.beq j 239 then false else bif Nat.beq j 96 then false else true)) 22 h
set_option maxRecDepth 100000 in
theorem b211_35 {sc : zC} {d : Nat} {x1 x2 x3 x4 x5 : Int} {f : zF} {Q : zQ} (h : if x5 < zshl (1) (f (50) (7)) then (if x2 < x1 then (if zand x5 x3 = 0 then (∃ A2 : zQ, zR sc d 210 0 [] [(0, zP (50)), (1, zI x5)] 0 0 zSH f A2 ∧ ∀ (r3 : Int) (f1 : zF), zIn r3 → A2 (some (zI r3)) zSH f1 → (∃ A5 : zQ, zR sc d 208 0 [] [(0, zP (50)), (1, zI x2)] 0 0 zSH f1 A5 ∧ ∀ (r6 : Int) (f4 : zF), zIn r6 → A5 (some (zI r6)) zSH f4 → (if r3 < r6 then (zov (x5 + 1) (zR sc (d + 1) 211 35 [] [(0, zP (50)), (1, zI x1), (2, zI x2), (3, zI x3), (4, zI x4), (5, zI (x5 + 1))] 0 0 zSH f4 Q)) else (∃ A8 : zQ, zR sc d 168 0 [] [(0, zI x5)] 0 0 zSH f4 A8 ∧ ∀ (r9 : Int) (f7 : zF), zIn r9 → A8 (some (zI r9)) zSH f7 → (zov (x2 + (1)) (zov ((128) * (x2 + (1))) (zov (((128) * (x2 + (1))) + (zor x3 x5)) (zix (((128) * (x2 + (1))) + (zor x3 x5)) (896) (zov (r9 + (f7 (64) ((((128) * (x2 + (1))) + (zor x3 x5)).toNat))) (if r9 + (f7 (64) ((((128) * (x2 + (1))) + (zor x3 x5)).toNat)) < x4 then (zov (x5 + 1) (zR sc (d + 1) 211 35 [] [(0, zP (50)), (1, zI x1), (2, zI x2), (3, zI x3), (4, zI (r9 + (f7 (64) ((((128) * (x2 + (1))) + (zor x3 x5)).toNat)))), (5, zI (x5 + 1))] 0 0 zSH f7 Q)) else (zov (x5 + 1) (zR sc (d + 1) 211 35 [] [(0, zP (50)), (1, zI x1), (2, zI x2), (3, zI x3), (4, zI x4), (5, zI (x5 + 1))] 0 0 zSH f7 Q)))))))))))) else (zov (x5 + 1) (zR sc (d + 1) 211 35 [] [(0, zP (50)), (1, zI x1), (2, zI x2), (3, zI x3), (4, zI x4), (5, zI (x5 + 1))] 0 0 zSH f Q))) else (zov ((128) * x2) (zov (((128) * x2) + x3) (if x4 < 1000000 then (zix (((128) * x2) + x3) (896) (zov (x3 + 1) (zR sc (d + 1) 211 8 [] [(0, zP (50)), (1, zI x1), (2, zI x2), (3, zI (x3 + 1))] 0 0 zSH (zup f (64) ((((128) * x2) + x3).toNat) x4) Q))) else (zix (((128) * x2) + x3) (896) (zov (x3 + 1) (zR sc (d + 1) 211 8 [] [(0, zP (50)), (1, zI x1), (2, zI x2), (3, zI (x3 + 1))] 0 0 zSH (zup f (64) ((((128) * x2) + x3).toNat) (1000000)) Q))))))) else (zov ((128) * x2) (zov (((128) * x2) + x3) (if x4 < 1000000 then (zix (((128) * x2) + x3) (896) (zov (x3 + 1) (zR sc (d + 1) 211 8 [] [(0, zP (50)), (1, zI x1), (2, zI x2), (3, zI (x3 + 1))] 0 0 zSH (zup f (64) ((((128) * x2) + x3).toNat) x4) Q))) else (zix (((128) * x2) + x3) (896) (zov (x3 + 1) (zR sc (d + 1) 211 8 [] [(0, zP (50)), (1, zI x1), (2, zI x2), (3, zI (x3 + 1))] 0 0 zSH (zup f (64) ((((128) * x2) + x3).toNat) (1000000)) Q))))))) : zR sc (d + 1) 211 35 [] [(0, zP (50)), (1, zI x1), (2, zI x2), (3, zI x3), (4, zI x4), (5, zI x5)] 0 0 zSH f Q := zwn_R (stp := fun mi pc => bif Nat.beq mi 211 && Nat.beq pc 8 then some [0, 1, 2, 3] else bif Nat.beq mi 211 && Nat.beq pc 35 then some [0, 1, 2, 3, 4, 5] else none) (inl := fun j => bif Nat.beq j 14 then true else bif Nat.beq j 15 then true else bif Nat.beq j 16 then true else bif Nat.beq j 17 then true else bif Nat.beq j 18 then true else bif Nat.beq j 19 then true else bif Nat.beq j 20 then true else bif Nat.beq j 22 then true else bif Nat.beq j 23 then true else bif Nat.beq j 25 then true else bif Nat.beq j 28 then true else bif Nat.beq j 50 then true else bif Nat.beq j 51 then true else bif Nat.beq j 52 then true else bif Nat.beq j 53 then true else bif Nat.beq j 54 then true else bif Nat.beq j 55 then true else bif Nat.beq j 56 then true else bif Nat.beq j 57 then true else bif Nat.beq j 58 then true else bif Nat.beq j 59 then true else bif Nat.beq j 60 then true else bif Nat.beq j 62 then true else bif Nat.beq j 63 then true else bif Nat.beq j 64 then true else bif Nat.beq j 65 then true else bif Nat.beq j 66 then true else bif Nat.beq j 67 then true else bif Nat.beq j 68 then true else bif Nat.beq j 69 then true else bif Nat.beq j 70 then true else bif Nat.beq j 71 then true else bif Nat.beq j 72 then true else bif Nat.beq j 73 then true else bif Nat.beq j 74 then true else bif Nat.beq j 75 then true else bif Nat.beq j 76 then true else bif Nat.beq j 77 then true else bif Nat.beq j 78 then true else bif Nat.beq j 79 then true else bif Nat.beq j 85 then true else bif Nat.beq j 86 then true else bif Nat.beq j 87 then true else bif Nat.beq j 92 then true else bif Nat.beq j 93 then true else bif Nat.beq j 95 then true else bif Nat.beq j 96 then true else bif Nat.beq j 97 then true else bif Nat.beq j 98 then true else bif Nat.beq j 99 then true else bif Nat.beq j 165 then true else bif Nat.beq j 166 then true else bif Nat.beq j 167 then true else bif Nat.beq j 170 then true else bif Nat.beq j 171 then true else bif Nat.beq j 172 then true else bif Nat.beq j 173 then true else bif Nat.beq j 174 then true else bif Nat.beq j 175 then true else bif Nat.beq j 176 then true else bif Nat.beq j 177 then true else bif Nat.beq j 178 then true else bif Nat.beq j 180 then true else bif Nat.beq j 181 then true else bif Nat.beq j 182 then true else bif Nat.beq j 183 then true else bif Nat.beq j 184 then true else bif Nat.beq j 185 then true else bif Nat.beq j 186 then true else bif Nat.beq j 187 then true else bif Nat.beq j 188 then true else bif Nat.beq j 191 then true else bif Nat.beq j 194 then true else bif Nat.beq j 200 then true else bif Nat.beq j 204 then true else bif Nat.beq j 205 then true else bif Nat.beq j 206 then true else bif Nat.beq j 209 then true else bif Nat.beq j 215 then true else bif Nat.beq j 220 then true else bif Nat.beq j 223 then true else bif Nat.beq j 224 then true else bif Nat.beq j 237 then true else bif Nat.beq j 238 then true else bif Nat.beq j 239 then true else bif Nat.beq j 240 then true else bif Nat.beq j 243 then true else bif Nat.beq j 244 then true else bif Nat.beq j 245 then true else bif Nat.beq j 246 then true else bif Nat.beq j 247 then true else bif Nat.beq j 252 then true else bif Nat.beq j 253 then true else bif Nat.beq j 254 then true else bif Nat.beq j 255 then true else bif Nat.beq j 257 then true else bif Nat.beq j 258 then true else bif Nat.beq j 259 then true else bif Nat.beq j 260 then true else bif Nat.beq j 263 then true else false) (nov := (fun j => bif Nat.beq j 143 then false else bif Nat.beq j 144 then false else bif Nat.beq j 242 then false else bif Nat.beq j 236 then false else bif Nat.beq j 237 then false else bif Nat.beq j 241 then false else bif Nat.beq j 239 then false else bif Nat.beq j 96 then false else true)) 92 h
def rmN (R : Nat → Int) (s : Nat) : Nat → Int
  | 0 => 0
  | g + 1 => if zand (zshr (s : Int) (g : Int)) 1 = 0 then rmN R s g else rmN R s g + R g
section PCK
variable {sc : zC} {f f0 : zF} {Q : zQ} {d : Nat} {R wk rm : Nat → Int} {G s fr n k h : Nat}
set_option maxRecDepth 100000 in
theorem rmN_b (hR : ∀ g, g < 7 → 0 ≤ R g ∧ R g ≤ 99) : ∀ g : Nat, g ≤ 7 → 0 ≤ rmN R s g ∧ rmN R s g ≤ 99 * (g : Int)
  | 0, _ => ⟨Int.le_refl _, Int.le_refl _⟩
  | g + 1, hg => by
    have h1 := rmN_b hR g (by omega)
    have h2 := hR g (by omega)
    show 0 ≤ (if zand (zshr (s : Int) (g : Int)) 1 = 0 then rmN R s g else rmN R s g + R g) ∧ (if zand (zshr (s : Int) (g : Int)) 1 = 0 then rmN R s g else rmN R s g + R g) ≤ 99 * ((g + 1 : Nat) : Int)
    split <;> omega
set_option maxRecDepth 100000 in
theorem c_rm (hR : ∀ g, g < 7 → 0 ≤ R g ∧ R g ≤ 99) (h1 : f 1 1 = (G : Int)) (hG : G ≤ 7) (h2 : ∀ g, g < 7 → f 2 (30 + g) = R g) (K : Q (some (zI (rmN R s G))) zSH f) : zR sc (d + 1) 34 0 [] [(0, zP 1), (1, zI (s : Int))] 0 0 zSH f Q := by
  refine b34_0 (d := d) ?_
  have L : ∀ g, g ≤ G → zR sc (d + 1) 34 4 [] [(0, zP 1), (1, zI (s : Int)), (2, zI (rmN R s g)), (3, zI (g : Int))] 0 0 zSH f Q := by
    refine zloop G (fun g hg ih => ?_) ?_
    · refine b34_4 (d := d) ?_
      have s1 : rmN R s (g + 1) = if zand (zshr (s : Int) (g : Int)) 1 = 0 then rmN R s g else rmN R s g + R g := rfl
      have r1 := rmN_b (s := s) hR g (by omega)
      have r2 := hR g (by omega)
      rw [s1, show ((g + 1 : Nat) : Int) = (g : Int) + 1 by omega] at ih
      rw [h1, if_pos (by omega), show (30 + (g : Int)).toNat = 30 + g by omega, h2 g (by omega)]
      refine zit (fun c => ?_) (fun c => ?_)
      · rw [if_pos c] at ih
        exact zov_p (by omega) ih
      · rw [if_neg c] at ih
        exact zov_p (by omega) (zix_p (by omega) (zov_p (by omega) (zov_p (by omega) ih)))
    · refine b34_4 (d := d) ?_
      rw [h1, if_neg (by omega)]
      exact K
  exact L 0 (Nat.zero_le _)
set_option maxRecDepth 100000 in
theorem r_rm (hR : ∀ g, g < 7 → 0 ≤ R g ∧ R g ≤ 99) (hs : s < 128) (h1 : f 50 7 = (G : Int)) (hG : G ≤ 7) (h2 : ∀ g, g < 7 → f 51 (30 + g) = R g) (K : Q (some (zI (rmN R s G))) zSH f) : zR sc (d + 1) 210 0 [] [(0, zP 50), (1, zI (s : Int))] 0 0 zSH f Q := by
  refine b210_0 (d := d) ?_
  have L : ∀ g, g ≤ G → zR sc (d + 1) 210 4 [] [(0, zP 50), (1, zI (s : Int)), (2, zI (rmN R s g)), (3, zI (g : Int))] 0 0 zSH f Q := by
    refine zloop G (fun g hg ih => ?_) ?_
    · refine b210_4 (d := d) ?_
      have s1 : rmN R s (g + 1) = if zand (zshr (s : Int) (g : Int)) 1 = 0 then rmN R s g else rmN R s g + R g := rfl
      have r1 := rmN_b (s := s) hR g (by omega)
      have r2 := hR g (by omega)
      rw [s1, show ((g + 1 : Nat) : Int) = (g : Int) + 1 by omega] at ih
      rw [h1, if_pos (by omega), show (30 + (g : Int)).toNat = 30 + g by omega, h2 g (by omega)]
      have z := pk_z hs (show g < 7 by omega)
      refine zit (fun c => ?_) (fun c => ?_)
      · rw [if_neg (by omega)] at ih
        exact zov_p (by omega) (zix_p (by omega) (zov_p (by omega) (zov_p (by omega) ih)))
      · rw [if_pos (by omega)] at ih
        refine zov_p (by omega) (zov_p (by omega) ?_)
        rw [Int.add_zero]
        exact ih
    · refine b210_4 (d := d) ?_
      rw [h1, if_neg (by omega)]
      exact K
  exact L 0 (Nat.zero_le _)
set_option maxRecDepth 100000 in
theorem cap_b {x : Int} (h : 0 ≤ x) : 0 ≤ cap x ∧ cap x ≤ 99 := by
  unfold cap
  split <;> omega
set_option maxRecDepth 100000 in
theorem Wc_b {wk rm : Nat → Int} {n k fr : Nat} : 0 ≤ Wc wk rm n k fr ∧ Wc wk rm n k fr ≤ 99 := by
  rw [Wc_v]
  refine cap_b ?_
  rcases Wv_b (wk := wk) (rm := rm) (n := n) k fr with h | h <;> omega
set_option maxRecDepth 100000 in
theorem c_gw {F : Int} (hs : s < 128) (hf : fr < 128) (hc : sub s fr) (hh : h < 6) (e : f 32 ((h + 1) * 128 + (fr - s)) = F) (hF : 0 ≤ F ∧ F ≤ 99) (K : Q (some (zI (cap (bcR (s : Int) + F)))) zSH f) : zR sc (d + 2) 36 0 [] [(0, zP 30), (1, zI (h : Int)), (2, zI (fr : Int)), (3, zI (s : Int))] 0 0 zSH f Q := by
  have hb := bcR_b hs
  refine b36_0 (d := d + 1) ?_
  rw [(sub_d hf hs hc).1]
  refine zov_p (by omega) (zov_p (by omega) (zov_p (by omega) (zix_p (by omega) (zcallE (c_bc (d := d) (by omega) ⟨rfl, rfl⟩) ?_))))
  rw [show (((h : Int) + 1) * 128 + ((fr - s : Nat) : Int)).toNat = (h + 1) * 128 + (fr - s) by omega, e]
  refine zov_p (by omega) ?_
  exact K
set_option maxRecDepth 100000 in
theorem c_nw {x : Int} (hx : 0 ≤ x ∧ x < 128) (hf : fr < 128) (K : Q (some (zI (zand (x - (fr : Int)) (fr : Int)))) zSH f) : zR sc (d + 1) 37 0 [] [(0, zI (fr : Int)), (1, zI x)] 0 0 zSH f Q := by
  refine b37_0 (d := d) ?_
  exact zov_p (by omega) K
set_option maxRecDepth 100000 in
theorem c_ff (hf : fr < 128) (hh : h < 6) (h31 : ∀ s, s < 128 → f 31 s = rm s) (h32 : ∀ s, s ≤ fr → f 32 ((h + 1) * 128 + (fr - s)) = Wc wk rm n k (fr - s)) (hn : n - (k + 1) = h) (K : Q (some (zI (Wc wk rm n (k + 1) fr))) zSH f) : zR sc (d + 3) 35 0 [] [(0, zP 30), (1, zI (wk h)), (2, zI (h : Int)), (3, zI (fr : Int))] 0 0 zSH f Q := by
  obtain ⟨t1, t2⟩ := it_ok hf
  have cb : ∀ s, s ≤ 128 → cnt fr s ≤ s := fun s => by
    induction s with
    | zero => exact fun _ => Nat.le_refl _
    | succ s ih =>
      intro hs
      have := ih (by omega)
      show (if sub s fr then cnt fr s + 1 else cnt fr s) ≤ s + 1
      split <;> omega
  have s0 : Wc wk rm n (k + 1) fr = mnW (okW wk rm h fr) (fun s => cap (bcR (s : Int) + Wc wk rm n k (fr - s))) 99 128 := by rw [← hn]; rfl
  rw [s0] at K
  refine b35_0 (d := d + 2) ?_
  have L : ∀ s, s ≤ 128 → zR sc (d + 3) 35 10 [] [(0, zP 30), (1, zI (wk h)), (2, zI (h : Int)), (3, zI (fr : Int)), (4, zI (mnW (okW wk rm h fr) (fun s => cap (bcR (s : Int) + Wc wk rm n k (fr - s))) 99 s)), (5, zI (it fr (cnt fr s))), (6, zI (cnt fr s : Int))] 0 0 zSH f Q := by
    refine zloop 128 (fun s hs ih => ?_) ?_
    · have s1 : mnW (okW wk rm h fr) (fun s => cap (bcR (s : Int) + Wc wk rm n k (fr - s))) 99 (s + 1) = if okW wk rm h fr s = true then (if cap (bcR (s : Int) + Wc wk rm n k (fr - s)) < mnW (okW wk rm h fr) (fun s => cap (bcR (s : Int) + Wc wk rm n k (fr - s))) 99 s then cap (bcR (s : Int) + Wc wk rm n k (fr - s)) else mnW (okW wk rm h fr) (fun s => cap (bcR (s : Int) + Wc wk rm n k (fr - s))) 99 s) else mnW (okW wk rm h fr) (fun s => cap (bcR (s : Int) + Wc wk rm n k (fr - s))) 99 s := rfl
      have s2 : cnt fr (s + 1) = if sub s fr then cnt fr s + 1 else cnt fr s := rfl
      rw [s1, s2] at ih
      generalize mnW (okW wk rm h fr) (fun s => cap (bcR (s : Int) + Wc wk rm n k (fr - s))) 99 s = B at ih ⊢
      by_cases c : sub s fr
      · rw [if_pos c] at ih s2
        have c1 := cnt_le (fr := fr) (s + 1) 128 (by omega)
        have c2 := cb s (by omega)
        have e1 := t1 s hs c
        have s3 : it fr (cnt fr s + 1) = zand ((s : Int) - (fr : Int)) (fr : Int) := by rw [← e1]; rfl
        rw [s3, show ((cnt fr s + 1 : Nat) : Int) = (cnt fr s : Int) + 1 by omega] at ih
        refine b35_10 (d := d + 2) (zcallE (c_bc (d := d + 1) (by omega) ⟨rfl, rfl⟩) ?_)
        rw [t2, if_pos (by omega), e1]
        refine zix_p (by omega) ?_
        rw [Int.toNat_natCast, h31 s hs]
        refine zit (fun o => ?_) (fun o => ?_)
        · rw [if_neg (fun x => by have := (of_decide_eq_true x).2; omega)] at ih
          exact zcallE (c_nw (d := d + 1) (by omega) hf ⟨rfl, rfl⟩) (zov_p (by omega) ih)
        · have ok : okW wk rm h fr s = true := decide_eq_true ⟨c, by omega⟩
          rw [if_pos ok] at ih
          exact zcallE (c_gw (d := d) hs hf c hh (h32 s (sub_d hf hs c).2) Wc_b ⟨rfl, rfl⟩) (zcallE (c_nw (d := d + 1) (by omega) hf ⟨rfl, rfl⟩) (zov_p (by omega) ih))
      · rw [if_neg c, if_neg (fun x => c (of_decide_eq_true x).1)] at ih
        exact ih
    · refine b35_10 (d := d + 2) (zcallE (c_bc (d := d + 1) (by omega) ⟨rfl, rfl⟩) ?_)
      rw [t2, if_neg (by omega)]
      exact K
  exact L 0 (Nat.zero_le _)
/-- what the class has worked out -/
def pkC (wk R : Nat → Int) (f0 : zF) (G n k : Nat) (f : zF) : Prop := (∀ s, s < 128 → f 31 s = rmN R s G) ∧ (∀ i, i ≤ k → ∀ q, q < 2 ^ G → f 32 ((n - i) * 128 + q) = Wc wk (fun s => rmN R s G) n i q) ∧ ∀ c j, c ≠ 31 → c ≠ 32 → f c j = f0 c j
set_option maxRecDepth 100000 in
theorem pw_b (hG : G ≤ 7) : 1 ≤ 2 ^ G ∧ 2 ^ G ≤ 128 := by
  have := Nat.pow_le_pow_right (n := 2) (by decide) hG
  have := Nat.pow_le_pow_right (n := 2) (by decide) (Nat.zero_le G)
  omega
set_option maxRecDepth 100000 in
theorem c_fill (hR : ∀ g, g < 7 → 0 ≤ R g ∧ R g ≤ 99) (hW : ∀ j, j < 24 → 0 ≤ f0 2 j ∧ f0 2 j ≤ 9) (h1 : f0 1 1 = (G : Int)) (hG : G ≤ 7) (h2 : ∀ g, g < 7 → f0 2 (30 + g) = R g) (hn : n ≤ 6) {fi : zF} (fr0 : ∀ c j, c ≠ 31 → c ≠ 32 → fi c j = f0 c j) (K : ∀ f1, pkC (wkM (f0 2)) R f0 G n n f1 → Q none zSH f1) : zR sc (d + 4) 33 0 [] [(0, zP 30), (1, zP 1), (2, zI (n : Int))] 0 0 zSH fi Q := by
  have pw := pw_b hG
  refine b33_0 (d := d + 3) ?_
  have L2 : ∀ i, i ≤ n → ∀ f1, pkC (wkM (f0 2)) R f0 G n i f1 → zR sc (d + 4) 33 43 [] [(0, zP 30), (1, zP 1), (3, zI ((n : Int) - 1 - (i : Int)))] 0 0 zSH f1 Q := by
    refine zloop n (fun i hi ih f1 m => ?_) (fun f1 m => ?_)
    · refine b33_43 (d := d + 3) ?_
      rw [if_neg (by omega)]
      obtain ⟨h, hh⟩ : ∃ h : Nat, h = n - (i + 1) := ⟨_, rfl⟩
      have L3 : ∀ q, q ≤ 2 ^ G → ∀ f2 : zF, pkC (wkM (f0 2)) R f0 G n i f2 → (∀ p, p < q → f2 32 (h * 128 + p) = Wc (wkM (f0 2)) (fun s => rmN R s G) n (i + 1) p) → zR sc (d + 4) 33 50 [] [(0, zP 30), (1, zP 1), (3, zI ((n : Int) - 1 - (i : Int))), (4, zI (q : Int))] 0 0 zSH f2 Q := by
        refine zloop (2 ^ G) (fun q hq ih2 f2 m2 e2 => ?_) (fun f2 m2 e2 => ?_)
        · refine b33_50 (d := d + 3) ?_
          rw [m2.2.2 1 1 (by decide) (by decide), h1, shl_g hG, if_pos (by omega), show (n : Int) - 1 - (i : Int) = (h : Int) by omega]
          refine zov_p (by omega) (zov_p (by omega) ?_)
          refine zcallE (c_wk (d := d + 2) (M := f0 2) (fun j _ => m2.2.2 2 j (by decide) (by decide)) hW (by omega) ⟨rfl, rfl⟩) ?_
          refine zcallE (c_ff (d := d) (wk := wkM (f0 2)) (rm := fun s => rmN R s G) (n := n) (k := i) (by omega) (by omega) m2.1 (fun s hs => by
            have := m2.2.1 i (Nat.le_refl _) (q - s) (by omega)
            rw [show n - i = h + 1 by omega] at this
            exact this) hh.symm ⟨rfl, rfl⟩) (zix_p (by omega) (zov_p (by omega) ?_))
          rw [show ((h : Int) * 128 + (q : Int)).toNat = h * 128 + q by omega, show (q : Int) + 1 = ((q + 1 : Nat) : Int) by omega, show (h : Int) = (n : Int) - 1 - (i : Int) by omega]
          refine ih2 _ ⟨fun s hs => ?_, fun i2 hi2 p hp => ?_, fun c j a b => ?_⟩ (fun p hp => ?_)
          · rw [zup_at, if_neg (by decide)]
            exact m2.1 s hs
          · rw [zup_at, if_pos rfl, if_neg (by omega)]
            exact m2.2.1 i2 hi2 p hp
          · rw [zup_at, if_neg b]
            exact m2.2.2 c j a b
          · rw [zup_at, if_pos rfl]
            by_cases e : p = q
            · rw [if_pos (by omega), e]
            · rw [if_neg (by omega)]
              exact e2 p (by omega)
        · refine b33_50 (d := d + 3) ?_
          rw [m2.2.2 1 1 (by decide) (by decide), h1, shl_g hG, if_neg (by omega)]
          refine zov_p (by omega) ?_
          rw [show (n : Int) - 1 - (i : Int) + -1 = (n : Int) - 1 - ((i + 1 : Nat) : Int) by omega]
          refine ih f2 ⟨m2.1, fun i2 hi2 p hp => ?_, m2.2.2⟩
          by_cases e : i2 = i + 1
          · rw [e, ← hh]
            exact e2 p hp
          · exact m2.2.1 i2 (by omega) p hp
      exact L3 0 (Nat.zero_le _) f1 m (fun p hp => absurd hp (Nat.not_lt_zero p))
    · refine b33_43 (d := d + 3) ?_
      rw [if_pos (by omega)]
      exact K f1 m
  have L1 : ∀ s, s ≤ 128 → ∀ f1 : zF, (∀ c j, c ≠ 31 → c ≠ 32 → f1 c j = f0 c j) → (∀ q, q < s → f1 31 q = rmN R q G ∧ f1 32 (n * 128 + q) = 0) → zR sc (d + 4) 33 2 [] [(0, zP 30), (1, zP 1), (2, zI (n : Int)), (3, zI (s : Int))] 0 0 zSH f1 Q := by
    refine zloop 128 (fun s hs ih f1 m e => ?_) (fun f1 m e => ?_)
    · refine b33_2 (d := d + 3) ?_
      rw [if_pos (by omega)]
      refine zcallE (c_rm (d := d + 2) hR ((m 1 1 (by decide) (by decide)).trans h1) hG (fun g hg => (m 2 _ (by decide) (by decide)).trans (h2 g hg)) ⟨rfl, rfl⟩) (zix_p (by omega) (zov_p (by omega) (zov_p (by omega) (zix_p (by omega) (zov_p (by omega) ?_)))))
      rw [show ((n : Int) * 128 + (s : Int)).toNat = n * 128 + s by omega, show (s : Int) + 1 = ((s + 1 : Nat) : Int) by omega, Int.toNat_natCast]
      refine ih _ (fun c j a b => ?_) (fun q hq => ?_)
      · rw [zup_at, if_neg b, zup_at, if_neg a]
        exact m c j a b
      · rw [zup_at, if_neg (by decide), zup_at, if_pos rfl, zup_at, if_pos rfl]
        by_cases e2 : q = s
        · rw [if_pos e2, if_pos (by omega), e2]
          exact ⟨rfl, rfl⟩
        · rw [if_neg e2, if_neg (by omega), zup_at, if_neg (by decide)]
          exact e q (by omega)
    · refine b33_2 (d := d + 3) ?_
      rw [if_neg (by omega)]
      refine zov_p (by omega) ?_
      have := L2 0 (Nat.zero_le _) f1 ⟨fun s hs => (e s hs).1, fun i hi q hq => by
        rw [show i = 0 by omega, Nat.sub_zero]
        exact (e q (by omega)).2, m⟩
      rw [show (n : Int) - 1 - ((0 : Nat) : Int) = (n : Int) - 1 by omega] at this
      exact this
  exact L1 0 (Nat.zero_le _) fi fr0 (fun q hq => absurd hq (Nat.not_lt_zero q))
/-- what the reference has worked out -/
def pkR (wk R : Nat → Int) (f0 : zF) (G n k : Nat) (f : zF) : Prop := (∀ i, i < k → ∀ x, x < 2 ^ G → f 64 (128 * (n - i) + x) = Wv wk (fun s => rmN R s G) n i (2 ^ G - 1 - x)) ∧ ∀ c j, c ≠ 64 → f c j = f0 c j
set_option maxRecDepth 100000 in
theorem r_fill {M : Nat → Int} (hR : ∀ g, g < 7 → 0 ≤ R g ∧ R g ≤ 99) (hM : ∀ j, j < 24 → f0 51 j = M j) (hW : ∀ j, j < 24 → 0 ≤ M j ∧ M j ≤ 9) (h1 : f0 50 7 = (G : Int)) (hG : G ≤ 7) (h2 : ∀ g, g < 7 → f0 51 (30 + g) = R g) (hn : n ≤ 6) {fi : zF} (fr0 : ∀ c j, c ≠ 64 → fi c j = f0 c j) (K : ∀ f1, pkR (wkM M) R f0 G n (n + 1) f1 → Q none zSH f1) : zR sc (d + 2) 211 0 [] [(0, zP 50), (1, zI (n : Int))] 0 0 zSH fi Q := by
  have pw := pw_b hG
  refine b211_0 (d := d + 1) ?_
  have L2 : ∀ i, i ≤ n + 1 → ∀ f1, pkR (wkM M) R f0 G n i f1 → zR sc (d + 2) 211 2 [] [(0, zP 50), (1, zI (n : Int)), (2, zI ((n : Int) - (i : Int)))] 0 0 zSH f1 Q := by
    refine zloop (n + 1) (fun i hi ih f1 m => ?_) (fun f1 m => ?_)
    · refine b211_2 (d := d + 1) ?_
      rw [if_neg (by omega)]
      obtain ⟨h, hh⟩ : ∃ h : Nat, h = n - i := ⟨_, rfl⟩
      rw [show (n : Int) - (i : Int) = (h : Int) by omega]
      have L3 : ∀ x, x ≤ 2 ^ G → ∀ f2 : zF, pkR (wkM M) R f0 G n i f2 → (∀ p, p < x → f2 64 (128 * h + p) = Wv (wkM M) (fun s => rmN R s G) n i (2 ^ G - 1 - p)) → zR sc (d + 2) 211 8 [] [(0, zP 50), (1, zI (n : Int)), (2, zI (h : Int)), (3, zI (x : Int))] 0 0 zSH f2 Q := by
        refine zloop (2 ^ G) (fun x hx ih2 f2 m2 e2 => ?_) (fun f2 m2 e2 => ?_)
        · have e50 : f2 50 7 = (G : Int) := (m2.2 50 7 (by decide)).trans h1
          have st : ∀ v : Int, v = Wv (wkM M) (fun s => rmN R s G) n i (2 ^ G - 1 - x) → zR sc (d + 2) 211 8 [] [(0, zP 50), (1, zI (n : Int)), (2, zI (h : Int)), (3, zI ((x : Int) + 1))] 0 0 zSH (zup f2 64 (128 * h + x) v) Q := fun v hv => by
            rw [show (x : Int) + 1 = ((x + 1 : Nat) : Int) by omega]
            refine ih2 _ ⟨fun i2 hi2 p hp => ?_, fun c j a => ?_⟩ (fun p hp => ?_)
            · rw [zup_at, if_pos rfl, if_neg (by omega)]
              exact m2.1 i2 hi2 p hp
            · rw [zup_at, if_neg a]
              exact m2.2 c j a
            · rw [zup_at, if_pos rfl]
              by_cases e : p = x
              · rw [if_pos (by omega), e]
                exact hv
              · rw [if_neg (by omega)]
                exact e2 p (by omega)
          refine b211_8 (d := d + 1) ?_
          rw [e50, shl_g hG, if_pos (by omega)]
          refine zit (fun c => ?_) (fun c => ?_)
          · refine b211_35 (d := d + 1) ?_
            rw [e50, shl_g hG, if_pos (by omega), if_neg (by omega), if_pos (by decide)]
            refine zov_p (by omega) (zov_p (by omega) (zix_p (by omega) (zov_p (by omega) ?_)))
            rw [show (128 * (h : Int) + (x : Int)).toNat = 128 * h + x by omega]
            refine st 0 ?_
            rw [show i = 0 by omega]
            rfl
          · obtain ⟨k, rfl⟩ : ∃ k, i = k + 1 := ⟨i - 1, by omega⟩
            have s0 : Wv (wkM M) (fun s => rmN R s G) n (k + 1) (2 ^ G - 1 - x) = mnW (okW (wkM M) (fun s => rmN R s G) h (2 ^ G - 1 - x)) (fun s => bcR (s : Int) + Wv (wkM M) (fun s => rmN R s G) n k (2 ^ G - 1 - x - s)) 1000000 128 := by rw [hh]; rfl
            have s9 := mnW_to (ok := okW (wkM M) (fun s => rmN R s G) h (2 ^ G - 1 - x)) (v := fun s => bcR (s : Int) + Wv (wkM M) (fun s => rmN R s G) n k (2 ^ G - 1 - x - s)) (c := 1000000) (m := 2 ^ G) (fun s a b o => by
              have := (sub_d (by omega) b (of_decide_eq_true o).1).2
              omega) (128 - 2 ^ G) (by omega)
            rw [show 2 ^ G + (128 - 2 ^ G) = 128 by omega] at s9
            rw [s9] at s0
            have L4 : ∀ s, s ≤ 2 ^ G → zR sc (d + 2) 211 35 [] [(0, zP 50), (1, zI (n : Int)), (2, zI (h : Int)), (3, zI (x : Int)), (4, zI (mnW (okW (wkM M) (fun s => rmN R s G) h (2 ^ G - 1 - x)) (fun s => bcR (s : Int) + Wv (wkM M) (fun s => rmN R s G) n k (2 ^ G - 1 - x - s)) 1000000 s)), (5, zI (s : Int))] 0 0 zSH f2 Q := by
              refine zloop (2 ^ G) (fun s hs ih3 => ?_) ?_
              · have s1 : mnW (okW (wkM M) (fun s => rmN R s G) h (2 ^ G - 1 - x)) (fun s => bcR (s : Int) + Wv (wkM M) (fun s => rmN R s G) n k (2 ^ G - 1 - x - s)) 1000000 (s + 1) = if okW (wkM M) (fun s => rmN R s G) h (2 ^ G - 1 - x) s = true then (if bcR (s : Int) + Wv (wkM M) (fun s => rmN R s G) n k (2 ^ G - 1 - x - s) < mnW (okW (wkM M) (fun s => rmN R s G) h (2 ^ G - 1 - x)) (fun s => bcR (s : Int) + Wv (wkM M) (fun s => rmN R s G) n k (2 ^ G - 1 - x - s)) 1000000 s then bcR (s : Int) + Wv (wkM M) (fun s => rmN R s G) n k (2 ^ G - 1 - x - s) else mnW (okW (wkM M) (fun s => rmN R s G) h (2 ^ G - 1 - x)) (fun s => bcR (s : Int) + Wv (wkM M) (fun s => rmN R s G) n k (2 ^ G - 1 - x - s)) 1000000 s) else mnW (okW (wkM M) (fun s => rmN R s G) h (2 ^ G - 1 - x)) (fun s => bcR (s : Int) + Wv (wkM M) (fun s => rmN R s G) n k (2 ^ G - 1 - x - s)) 1000000 s := rfl
                rw [s1, show ((s + 1 : Nat) : Int) = (s : Int) + 1 by omega] at ih3
                generalize mnW (okW (wkM M) (fun s => rmN R s G) h (2 ^ G - 1 - x)) (fun s => bcR (s : Int) + Wv (wkM M) (fun s => rmN R s G) n k (2 ^ G - 1 - x - s)) 1000000 s = B at ih3 ⊢
                obtain ⟨g1, g2⟩ := sub_g hG hx hs
                refine b211_35 (d := d + 1) ?_
                rw [e50, shl_g hG, if_pos (by omega), if_pos (by omega)]
                refine zit (fun c1 => ?_) (fun c1 => ?_)
                · refine zcallE (r_rm (d := d) hR (by omega) e50 hG (fun g hg => (m2.2 51 _ (by decide)).trans (h2 g hg)) ⟨rfl, rfl⟩) (zcallE (r_wk (d := d) (M := M) (fun j hj => (m2.2 51 j (by decide)).trans (hM j hj)) hW (by omega) ⟨rfl, rfl⟩) ?_)
                  refine zit (fun o => ?_) (fun o => ?_)
                  · rw [if_neg (fun y => by have t : wkM M h ≤ rmN R s G := (of_decide_eq_true y).2; omega)] at ih3
                    exact zov_p (by omega) ih3
                  · have ok : okW (wkM M) (fun s => rmN R s G) h (2 ^ G - 1 - x) s = true := decide_eq_true ⟨g1.1 c1, show wkM M h ≤ rmN R s G by omega⟩
                    rw [if_pos ok] at ih3
                    have hb := bcR_b (s := s) (by omega)
                    have hd := (sub_d (by omega) (by omega) (g1.1 c1)).2
                    have e64 := m2.1 k (by omega) (x + s) (by omega)
                    rw [show n - k = h + 1 by omega, show 2 ^ G - 1 - (x + s) = 2 ^ G - 1 - x - s by omega] at e64
                    have vb : 0 ≤ Wv (wkM M) (fun s => rmN R s G) n k (2 ^ G - 1 - x - s) ∧ Wv (wkM M) (fun s => rmN R s G) n k (2 ^ G - 1 - x - s) ≤ 1000000 := by
                      rcases Wv_b (wk := wkM M) (rm := fun s => rmN R s G) (n := n) k (2 ^ G - 1 - x - s) with h | h <;> omega
                    refine zcallE (r_bc (d := d) (by omega) ⟨rfl, rfl⟩) ?_
                    rw [g2 c1]
                    refine zov_p (by omega) (zov_p (by omega) (zov_p (by omega) (zix_p (by omega) ?_)))
                    rw [show (128 * ((h : Int) + 1) + ((x + s : Nat) : Int)).toNat = 128 * (h + 1) + (x + s) by omega, e64]
                    refine zov_p (by omega) (zit (fun c2 => ?_) (fun c2 => ?_))
                    · rw [if_pos c2] at ih3
                      exact zov_p (by omega) ih3
                    · rw [if_neg c2] at ih3
                      exact zov_p (by omega) ih3
                · rw [if_neg (fun o => c1 (g1.2 (of_decide_eq_true o).1))] at ih3
                  exact zov_p (by omega) ih3
              · refine b211_35 (d := d + 1) ?_
                have le := (mnW_le (ok := okW (wkM M) (fun s => rmN R s G) h (2 ^ G - 1 - x)) (v := fun s => bcR (s : Int) + Wv (wkM M) (fun s => rmN R s G) n k (2 ^ G - 1 - x - s)) (c := 1000000) (2 ^ G)).1
                generalize mnW (okW (wkM M) (fun s => rmN R s G) h (2 ^ G - 1 - x)) (fun s => bcR (s : Int) + Wv (wkM M) (fun s => rmN R s G) n k (2 ^ G - 1 - x - s)) 1000000 (2 ^ G) = B at s0 le ⊢
                rw [e50, shl_g hG, if_neg (by omega)]
                refine zov_p (by omega) (zov_p (by omega) ?_)
                rw [show (128 * (h : Int) + (x : Int)).toNat = 128 * h + x by omega]
                refine zit (fun c2 => ?_) (fun c2 => ?_)
                · exact zix_p (by omega) (zov_p (by omega) (st B s0.symm))
                · exact zix_p (by omega) (zov_p (by omega) (st 1000000 (by omega)))
            exact L4 0 (Nat.zero_le _)
        · refine b211_8 (d := d + 1) ?_
          rw [m2.2 50 7 (by decide), h1, shl_g hG, if_neg (by omega)]
          refine zov_p (by omega) ?_
          rw [show (h : Int) + -1 = (n : Int) - ((i + 1 : Nat) : Int) by omega]
          refine ih f2 ⟨fun i2 hi2 p hp => ?_, m2.2⟩
          by_cases e : i2 = i
          · rw [e, ← hh]
            exact e2 p hp
          · exact m2.1 i2 (by omega) p hp
      exact L3 0 (Nat.zero_le _) f1 m (fun p hp => absurd hp (Nat.not_lt_zero p))
    · refine b211_2 (d := d + 1) ?_
      rw [if_pos (by omega)]
      exact K f1 m
  have := L2 0 (Nat.zero_le _) fi ⟨fun i hi => absurd hi (Nat.not_lt_zero i), fr0⟩
  rw [show (n : Int) - ((0 : Nat) : Int) = (n : Int) by omega] at this
  exact this
end PCK
set_option maxRecDepth 100000 in
theorem b130_0 {sc : zC} {a : Int} {f : zF} {Q : zQ} (h : if a = (-1) then (∃ A2 : zQ, zR sc (198) 33 0 [] [(0, zP (30)), (1, zP (1)), (2, zI (f (1) (0)))] 0 0 zSH f A2 ∧ ∀ f1 : zF, A2 none zSH f1 → (∃ A4 : zQ, zR sc (198) 38 0 [] [(0, zP (30)), (1, zP (1))] 0 0 zSH f1 A4 ∧ ∀ (r5 : Int) (f3 : zF), (r5 = 0 ∨ r5 = 1) → A4 (some (zI r5)) zSH f3 → (if r5 = 0 then (Q (some (zI (-2))) zSH f3) else (if a = (-1) then (∃ A7 : zQ, zR sc (198) 39 0 [] [(0, zP (30)), (1, zP (1))] 0 0 zSH f3 A7 ∧ ∀ (r8 : Int) (f6 : zF), zIn r8 → A7 (some (zI r8)) zSH f6 → (Q (some (zI r8)) zSH f6)) else (∃ A10 : zQ, zR sc (198) 40 0 [] [(0, zP (30)), (1, zP (1)), (2, zI a)] 0 0 zSH f3 A10 ∧ ∀ (r11 : Int) (f9 : zF), zIn r11 → A10 (some (zI r11)) zSH f9 → (Q (some (zI r11)) zSH f9)))))) else (if a < 0 then (Q (some (zI (-1))) zSH f) else (if a < f (1) (0) then (∃ A13 : zQ, zR sc (198) 33 0 [] [(0, zP (30)), (1, zP (1)), (2, zI (f (1) (0)))] 0 0 zSH f A13 ∧ ∀ f12 : zF, A13 none zSH f12 → (∃ A15 : zQ, zR sc (198) 38 0 [] [(0, zP (30)), (1, zP (1))] 0 0 zSH f12 A15 ∧ ∀ (r16 : Int) (f14 : zF), (r16 = 0 ∨ r16 = 1) → A15 (some (zI r16)) zSH f14 → (if r16 = 0 then (Q (some (zI (-2))) zSH f14) else (if a = (-1) then (∃ A18 : zQ, zR sc (198) 39 0 [] [(0, zP (30)), (1, zP (1))] 0 0 zSH f14 A18 ∧ ∀ (r19 : Int) (f17 : zF), zIn r19 → A18 (some (zI r19)) zSH f17 → (Q (some (zI r19)) zSH f17)) else (∃ A21 : zQ, zR sc (198) 40 0 [] [(0, zP (30)), (1, zP (1)), (2, zI a)] 0 0 zSH f14 A21 ∧ ∀ (r22 : Int) (f20 : zF), zIn r22 → A21 (some (zI r22)) zSH f20 → (Q (some (zI r22)) zSH f20)))))) else (Q (some (zI (-1))) zSH f)))) : zR sc (199) 130 0 [] [(0, zP (0)), (1, zI a)] 0 0 zSH f Q := zwn_R (stp := fun _ _ => none) (inl := fun j => bif Nat.beq j 14 then true else bif Nat.beq j 15 then true else bif Nat.beq j 16 then true else bif Nat.beq j 17 then true else bif Nat.beq j 18 then true else bif Nat.beq j 19 then true else bif Nat.beq j 20 then true else bif Nat.beq j 22 then true else bif Nat.beq j 23 then true else bif Nat.beq j 25 then true else bif Nat.beq j 28 then true else bif Nat.beq j 50 then true else bif Nat.beq j 51 then true else bif Nat.beq j 52 then true else bif Nat.beq j 53 then true else bif Nat.beq j 54 then true else bif Nat.beq j 55 then true else bif Nat.beq j 56 then true else bif Nat.beq j 57 then true else bif Nat.beq j 58 then true else bif Nat.beq j 59 then true else bif Nat.beq j 60 then true else bif Nat.beq j 62 then true else bif Nat.beq j 63 then true else bif Nat.beq j 64 then true else bif Nat.beq j 65 then true else bif Nat.beq j 66 then true else bif Nat.beq j 67 then true else bif Nat.beq j 68 then true else bif Nat.beq j 69 then true else bif Nat.beq j 70 then true else bif Nat.beq j 71 then true else bif Nat.beq j 72 then true else bif Nat.beq j 73 then true else bif Nat.beq j 74 then true else bif Nat.beq j 75 then true else bif Nat.beq j 76 then true else bif Nat.beq j 77 then true else bif Nat.beq j 78 then true else bif Nat.beq j 79 then true else bif Nat.beq j 85 then true else bif Nat.beq j 86 then true else bif Nat.beq j 87 then true else bif Nat.beq j 92 then true else bif Nat.beq j 93 then true else bif Nat.beq j 95 then true else bif Nat.beq j 96 then true else bif Nat.beq j 97 then true else bif Nat.beq j 98 then true else bif Nat.beq j 99 then true else bif Nat.beq j 165 then true else bif Nat.beq j 166 then true else bif Nat.beq j 167 then true else bif Nat.beq j 170 then true else bif Nat.beq j 171 then true else bif Nat.beq j 172 then true else bif Nat.beq j 173 then true else bif Nat.beq j 174 then true else bif Nat.beq j 175 then true else bif Nat.beq j 176 then true else bif Nat.beq j 177 then true else bif Nat.beq j 178 then true else bif Nat.beq j 180 then true else bif Nat.beq j 181 then true else bif Nat.beq j 182 then true else bif Nat.beq j 183 then true else bif Nat.beq j 184 then true else bif Nat.beq j 185 then true else bif Nat.beq j 186 then true else bif Nat.beq j 187 then true else bif Nat.beq j 188 then true else bif Nat.beq j 191 then true else bif Nat.beq j 194 then true else bif Nat.beq j 200 then true else bif Nat.beq j 204 then true else bif Nat.beq j 205 then true else bif Nat.beq j 206 then true else bif Nat.beq j 209 then true else bif Nat.beq j 215 then true else bif Nat.beq j 220 then true else bif Nat.beq j 223 then true else bif Nat.beq j 224 then true else bif Nat.beq j 237 then true else bif Nat.beq j 238 then true else bif Nat.beq j 239 then true else bif Nat.beq j 240 then true else bif Nat.beq j 243 then true else bif Nat.beq j 244 then true else bif Nat.beq j 245 then true else bif Nat.beq j 246 then true else bif Nat.beq j 247 then true else bif Nat.beq j 252 then true else bif Nat.beq j 253 then true else bif Nat.beq j 254 then true else bif Nat.beq j 255 then true else bif Nat.beq j 257 then true else bif Nat.beq j 258 then true else bif Nat.beq j 259 then true else bif Nat.beq j 260 then true else bif Nat.beq j 263 then true else false) (nov := (fun j => bif Nat.beq j 143 then false else bif Nat.beq j 144 then false else bif Nat.beq j 242 then false else bif Nat.beq j 236 then false else bif Nat.beq j 237 then false else bif Nat.beq j 241 then false else bif Nat.beq j 239 then false else bif Nat.beq j 96 then false else true)) 95 h
set_option maxRecDepth 100000 in
theorem b131_0 {sc : zC} {f : zF} {Q : zQ} (h : zR sc (199) 131 2 [] [(0, zP (0)), (1, zI (0))] 0 0 zSH f Q) : zR sc (199) 131 0 [] [(0, zP (0))] 0 0 zSH f Q := zwn_R (stp := fun mi pc => bif Nat.beq mi 131 && Nat.beq pc 2 then some [0, 1] else none) (inl := fun j => bif Nat.beq j 14 then true else bif Nat.beq j 15 then true else bif Nat.beq j 16 then true else bif Nat.beq j 17 then true else bif Nat.beq j 18 then true else bif Nat.beq j 19 then true else bif Nat.beq j 20 then true else bif Nat.beq j 22 then true else bif Nat.beq j 23 then true else bif Nat.beq j 25 then true else bif Nat.beq j 28 then true else bif Nat.beq j 50 then true else bif Nat.beq j 51 then true else bif Nat.beq j 52 then true else bif Nat.beq j 53 then true else bif Nat.beq j 54 then true else bif Nat.beq j 55 then true else bif Nat.beq j 56 then true else bif Nat.beq j 57 then true else bif Nat.beq j 58 then true else bif Nat.beq j 59 then true else bif Nat.beq j 60 then true else bif Nat.beq j 62 then true else bif Nat.beq j 63 then true else bif Nat.beq j 64 then true else bif Nat.beq j 65 then true else bif Nat.beq j 66 then true else bif Nat.beq j 67 then true else bif Nat.beq j 68 then true else bif Nat.beq j 69 then true else bif Nat.beq j 70 then true else bif Nat.beq j 71 then true else bif Nat.beq j 72 then true else bif Nat.beq j 73 then true else bif Nat.beq j 74 then true else bif Nat.beq j 75 then true else bif Nat.beq j 76 then true else bif Nat.beq j 77 then true else bif Nat.beq j 78 then true else bif Nat.beq j 79 then true else bif Nat.beq j 85 then true else bif Nat.beq j 86 then true else bif Nat.beq j 87 then true else bif Nat.beq j 92 then true else bif Nat.beq j 93 then true else bif Nat.beq j 95 then true else bif Nat.beq j 96 then true else bif Nat.beq j 97 then true else bif Nat.beq j 98 then true else bif Nat.beq j 99 then true else bif Nat.beq j 165 then true else bif Nat.beq j 166 then true else bif Nat.beq j 167 then true else bif Nat.beq j 170 then true else bif Nat.beq j 171 then true else bif Nat.beq j 172 then true else bif Nat.beq j 173 then true else bif Nat.beq j 174 then true else bif Nat.beq j 175 then true else bif Nat.beq j 176 then true else bif Nat.beq j 177 then true else bif Nat.beq j 178 then true else bif Nat.beq j 180 then true else bif Nat.beq j 181 then true else bif Nat.beq j 182 then true else bif Nat.beq j 183 then true else bif Nat.beq j 184 then true else bif Nat.beq j 185 then true else bif Nat.beq j 186 then true else bif Nat.beq j 187 then true else bif Nat.beq j 188 then true else bif Nat.beq j 191 then true else bif Nat.beq j 194 then true else bif Nat.beq j 200 then true else bif Nat.beq j 204 then true else bif Nat.beq j 205 then true else bif Nat.beq j 206 then true else bif Nat.beq j 209 then true else bif Nat.beq j 215 then true else bif Nat.beq j 220 then true else bif Nat.beq j 223 then true else bif Nat.beq j 224 then true else bif Nat.beq j 237 then true else bif Nat.beq j 238 then true else bif Nat.beq j 239 then true else bif Nat.beq j 240 then true else bif Nat.beq j 243 then true else bif Nat.beq j 244 then true else bif Nat.beq j 245 then true else bif Nat.beq j 246 then true else bif Nat.beq j 247 then true else bif Nat.beq j 252 then true else bif Nat.beq j 253 then true else bif Nat.beq j 254 then true else bif Nat.beq j 255 then true else bif Nat.beq j 257 then true else bif Nat.beq j 258 then true else bif Nat.beq j 259 then true else bif Nat.beq j 260 then true else bif Nat.beq j 263 then true else false) (nov := (fun j => bif Nat.beq j 143 then false else bif Nat.beq j 144 then false else bif Nat.beq j 242 then false else bif Nat.beq j 236 then false else bif Nat.beq j 237 then false else bif Nat.beq j 241 then false else bif Nat.beq j 239 then false else bif Nat.beq j 96 then false else true)) 4 h
set_option maxRecDepth 100000 in
theorem b131_2 {sc : zC} {x1 : Int} {f : zF} {Q : zQ} (h : if x1 < f (1) (0) then (zov (x1 + (1)) (∃ A2 : zQ, zR sc (198) 33 0 [] [(0, zP (30)), (1, zP (1)), (2, zI (x1 + (1)))] 0 0 zSH f A2 ∧ ∀ f1 : zF, A2 none zSH f1 → (∃ A4 : zQ, zR sc (198) 38 0 [] [(0, zP (30)), (1, zP (1))] 0 0 zSH f1 A4 ∧ ∀ (r5 : Int) (f3 : zF), (r5 = 0 ∨ r5 = 1) → A4 (some (zI r5)) zSH f3 → (if r5 = 0 then (Q (some (zI x1)) zSH f3) else (zov (x1 + 1) (zR sc (199) 131 2 [] [(0, zP (0)), (1, zI (x1 + 1))] 0 0 zSH f3 Q)))))) else (Q (some (zI (-2))) zSH f)) : zR sc (199) 131 2 [] [(0, zP (0)), (1, zI x1)] 0 0 zSH f Q := zwn_R (stp := fun mi pc => bif Nat.beq mi 131 && Nat.beq pc 2 then some [0, 1] else none) (inl := fun j => bif Nat.beq j 14 then true else bif Nat.beq j 15 then true else bif Nat.beq j 16 then true else bif Nat.beq j 17 then true else bif Nat.beq j 18 then true else bif Nat.beq j 19 then true else bif Nat.beq j 20 then true else bif Nat.beq j 22 then true else bif Nat.beq j 23 then true else bif Nat.beq j 25 then true else bif Nat.beq j 28 then true else bif Nat.beq j 50 then true else bif Nat.beq j 51 then true else bif Nat.beq j 52 then true else bif Nat.beq j 53 then true else bif Nat.beq j 54 then true else bif Nat.beq j 55 then true else bif Nat.beq j 56 then true else bif Nat.beq j 57 then true else bif Nat.beq j 58 then true else bif Nat.beq j 59 then true else bif Nat.beq j 60 then true else bif Nat.beq j 62 then true else bif Nat.beq j 63 then true else bif Nat.beq j 64 then true else bif Nat.beq j 65 then true else bif Nat.beq j 66 then true else bif Nat.beq j 67 then true else bif Nat.beq j 68 then true else bif Nat.beq j 69 then true else bif Nat.beq j 70 then true else bif Nat.beq j 71 then true else bif Nat.beq j 72 then true else bif Nat.beq j 73 then true else bif Nat.beq j 74 then true else bif Nat.beq j 75 then true else bif Nat.beq j 76 then true else bif Nat.beq j 77 then true else bif Nat.beq j 78 then true else bif Nat.beq j 79 then true else bif Nat.beq j 85 then true else bif Nat.beq j 86 then true else bif Nat.beq j 87 then true else bif Nat.beq j 92 then true else bif Nat.beq j 93 then true else bif Nat.beq j 95 then true else bif Nat.beq j 96 then true else bif Nat.beq j 97 then true else bif Nat.beq j 98 then true else bif Nat.beq j 99 then true else bif Nat.beq j 165 then true else bif Nat.beq j 166 then true else bif Nat.beq j 167 then true else bif Nat.beq j 170 then true else bif Nat.beq j 171 then true else bif Nat.beq j 172 then true else bif Nat.beq j 173 then true else bif Nat.beq j 174 then true else bif Nat.beq j 175 then true else bif Nat.beq j 176 then true else bif Nat.beq j 177 then true else bif Nat.beq j 178 then true else bif Nat.beq j 180 then true else bif Nat.beq j 181 then true else bif Nat.beq j 182 then true else bif Nat.beq j 183 then true else bif Nat.beq j 184 then true else bif Nat.beq j 185 then true else bif Nat.beq j 186 then true else bif Nat.beq j 187 then true else bif Nat.beq j 188 then true else bif Nat.beq j 191 then true else bif Nat.beq j 194 then true else bif Nat.beq j 200 then true else bif Nat.beq j 204 then true else bif Nat.beq j 205 then true else bif Nat.beq j 206 then true else bif Nat.beq j 209 then true else bif Nat.beq j 215 then true else bif Nat.beq j 220 then true else bif Nat.beq j 223 then true else bif Nat.beq j 224 then true else bif Nat.beq j 237 then true else bif Nat.beq j 238 then true else bif Nat.beq j 239 then true else bif Nat.beq j 240 then true else bif Nat.beq j 243 then true else bif Nat.beq j 244 then true else bif Nat.beq j 245 then true else bif Nat.beq j 246 then true else bif Nat.beq j 247 then true else bif Nat.beq j 252 then true else bif Nat.beq j 253 then true else bif Nat.beq j 254 then true else bif Nat.beq j 255 then true else bif Nat.beq j 257 then true else bif Nat.beq j 258 then true else bif Nat.beq j 259 then true else bif Nat.beq j 260 then true else bif Nat.beq j 263 then true else false) (nov := (fun j => bif Nat.beq j 143 then false else bif Nat.beq j 144 then false else bif Nat.beq j 242 then false else bif Nat.beq j 236 then false else bif Nat.beq j 237 then false else bif Nat.beq j 241 then false else bif Nat.beq j 239 then false else bif Nat.beq j 96 then false else true)) 27 h
set_option maxRecDepth 100000 in
theorem b212_0 {sc : zC} {a : Int} {f : zF} {Q : zQ} (h : zov ((f (50) (6)) - (1)) (if zlcmp a (-1) < 0 then (Q (some (zI (-1))) zSH f) else (if 0 < zlcmp a ((f (50) (6)) - (1)) then (Q (some (zI (-1))) zSH f) else (∃ A2 : zQ, zR sc (198) 211 0 [] [(0, zP (50)), (1, zI (f (50) (6)))] 0 0 zSH f A2 ∧ ∀ f1 : zF, A2 none zSH f1 → (if f1 (64) (0) = 1000000 then (Q (some (zI (-2))) zSH f1) else (if a = (-1) then (Q (some (zI (f1 (64) (0)))) zSH f1) else (zR sc (199) 212 62 [] [(0, zP (50)), (1, zI a), (2, zI (0)), (3, zI (0)), (4, zI (0))] 0 0 zSH f1 Q))))))) : zR sc (199) 212 0 [] [(0, zP (50)), (1, zI a)] 0 0 zSH f Q := zwn_R (stp := fun mi pc => bif Nat.beq mi 212 && Nat.beq pc 62 then some [0, 1, 2, 3, 4] else none) (inl := fun j => bif Nat.beq j 14 then true else bif Nat.beq j 15 then true else bif Nat.beq j 16 then true else bif Nat.beq j 17 then true else bif Nat.beq j 18 then true else bif Nat.beq j 19 then true else bif Nat.beq j 20 then true else bif Nat.beq j 22 then true else bif Nat.beq j 23 then true else bif Nat.beq j 25 then true else bif Nat.beq j 28 then true else bif Nat.beq j 50 then true else bif Nat.beq j 51 then true else bif Nat.beq j 52 then true else bif Nat.beq j 53 then true else bif Nat.beq j 54 then true else bif Nat.beq j 55 then true else bif Nat.beq j 56 then true else bif Nat.beq j 57 then true else bif Nat.beq j 58 then true else bif Nat.beq j 59 then true else bif Nat.beq j 60 then true else bif Nat.beq j 62 then true else bif Nat.beq j 63 then true else bif Nat.beq j 64 then true else bif Nat.beq j 65 then true else bif Nat.beq j 66 then true else bif Nat.beq j 67 then true else bif Nat.beq j 68 then true else bif Nat.beq j 69 then true else bif Nat.beq j 70 then true else bif Nat.beq j 71 then true else bif Nat.beq j 72 then true else bif Nat.beq j 73 then true else bif Nat.beq j 74 then true else bif Nat.beq j 75 then true else bif Nat.beq j 76 then true else bif Nat.beq j 77 then true else bif Nat.beq j 78 then true else bif Nat.beq j 79 then true else bif Nat.beq j 85 then true else bif Nat.beq j 86 then true else bif Nat.beq j 87 then true else bif Nat.beq j 92 then true else bif Nat.beq j 93 then true else bif Nat.beq j 95 then true else bif Nat.beq j 96 then true else bif Nat.beq j 97 then true else bif Nat.beq j 98 then true else bif Nat.beq j 99 then true else bif Nat.beq j 165 then true else bif Nat.beq j 166 then true else bif Nat.beq j 167 then true else bif Nat.beq j 170 then true else bif Nat.beq j 171 then true else bif Nat.beq j 172 then true else bif Nat.beq j 173 then true else bif Nat.beq j 174 then true else bif Nat.beq j 175 then true else bif Nat.beq j 176 then true else bif Nat.beq j 177 then true else bif Nat.beq j 178 then true else bif Nat.beq j 180 then true else bif Nat.beq j 181 then true else bif Nat.beq j 182 then true else bif Nat.beq j 183 then true else bif Nat.beq j 184 then true else bif Nat.beq j 185 then true else bif Nat.beq j 186 then true else bif Nat.beq j 187 then true else bif Nat.beq j 188 then true else bif Nat.beq j 191 then true else bif Nat.beq j 194 then true else bif Nat.beq j 200 then true else bif Nat.beq j 204 then true else bif Nat.beq j 205 then true else bif Nat.beq j 206 then true else bif Nat.beq j 209 then true else bif Nat.beq j 215 then true else bif Nat.beq j 220 then true else bif Nat.beq j 223 then true else bif Nat.beq j 224 then true else bif Nat.beq j 237 then true else bif Nat.beq j 238 then true else bif Nat.beq j 239 then true else bif Nat.beq j 240 then true else bif Nat.beq j 243 then true else bif Nat.beq j 244 then true else bif Nat.beq j 245 then true else bif Nat.beq j 246 then true else bif Nat.beq j 247 then true else bif Nat.beq j 252 then true else bif Nat.beq j 253 then true else bif Nat.beq j 254 then true else bif Nat.beq j 255 then true else bif Nat.beq j 257 then true else bif Nat.beq j 258 then true else bif Nat.beq j 259 then true else bif Nat.beq j 260 then true else bif Nat.beq j 263 then true else false) (nov := (fun j => bif Nat.beq j 143 then false else bif Nat.beq j 144 then false else bif Nat.beq j 242 then false else bif Nat.beq j 236 then false else bif Nat.beq j 237 then false else bif Nat.beq j 241 then false else bif Nat.beq j 239 then false else bif Nat.beq j 96 then false else true)) 59 h
set_option maxRecDepth 100000 in
theorem b212_62 {sc : zC} {x1 x2 x3 x4 : Int} {f : zF} {Q : zQ} (h : if x1 < x4 then (Q (some (zI x3)) zSH f) else (zR sc (199) 212 70 [] [(0, zP (50)), (1, zI x1), (2, zI x2), (3, zI (0)), (4, zI x4)] 0 0 zSH f Q)) : zR sc (199) 212 62 [] [(0, zP (50)), (1, zI x1), (2, zI x2), (3, zI x3), (4, zI x4)] 0 0 zSH f Q := zwn_R (stp := fun mi pc => bif Nat.beq mi 212 && Nat.beq pc 70 then some [0, 1, 2, 3, 4] else none) (inl := fun j => bif Nat.beq j 14 then true else bif Nat.beq j 15 then true else bif Nat.beq j 16 then true else bif Nat.beq j 17 then true else bif Nat.beq j 18 then true else bif Nat.beq j 19 then true else bif Nat.beq j 20 then true else bif Nat.beq j 22 then true else bif Nat.beq j 23 then true else bif Nat.beq j 25 then true else bif Nat.beq j 28 then true else bif Nat.beq j 50 then true else bif Nat.beq j 51 then true else bif Nat.beq j 52 then true else bif Nat.beq j 53 then true else bif Nat.beq j 54 then true else bif Nat.beq j 55 then true else bif Nat.beq j 56 then true else bif Nat.beq j 57 then true else bif Nat.beq j 58 then true else bif Nat.beq j 59 then true else bif Nat.beq j 60 then true else bif Nat.beq j 62 then true else bif Nat.beq j 63 then true else bif Nat.beq j 64 then true else bif Nat.beq j 65 then true else bif Nat.beq j 66 then true else bif Nat.beq j 67 then true else bif Nat.beq j 68 then true else bif Nat.beq j 69 then true else bif Nat.beq j 70 then true else bif Nat.beq j 71 then true else bif Nat.beq j 72 then true else bif Nat.beq j 73 then true else bif Nat.beq j 74 then true else bif Nat.beq j 75 then true else bif Nat.beq j 76 then true else bif Nat.beq j 77 then true else bif Nat.beq j 78 then true else bif Nat.beq j 79 then true else bif Nat.beq j 85 then true else bif Nat.beq j 86 then true else bif Nat.beq j 87 then true else bif Nat.beq j 92 then true else bif Nat.beq j 93 then true else bif Nat.beq j 95 then true else bif Nat.beq j 96 then true else bif Nat.beq j 97 then true else bif Nat.beq j 98 then true else bif Nat.beq j 99 then true else bif Nat.beq j 165 then true else bif Nat.beq j 166 then true else bif Nat.beq j 167 then true else bif Nat.beq j 170 then true else bif Nat.beq j 171 then true else bif Nat.beq j 172 then true else bif Nat.beq j 173 then true else bif Nat.beq j 174 then true else bif Nat.beq j 175 then true else bif Nat.beq j 176 then true else bif Nat.beq j 177 then true else bif Nat.beq j 178 then true else bif Nat.beq j 180 then true else bif Nat.beq j 181 then true else bif Nat.beq j 182 then true else bif Nat.beq j 183 then true else bif Nat.beq j 184 then true else bif Nat.beq j 185 then true else bif Nat.beq j 186 then true else bif Nat.beq j 187 then true else bif Nat.beq j 188 then true else bif Nat.beq j 191 then true else bif Nat.beq j 194 then true else bif Nat.beq j 200 then true else bif Nat.beq j 204 then true else bif Nat.beq j 205 then true else bif Nat.beq j 206 then true else bif Nat.beq j 209 then true else bif Nat.beq j 215 then true else bif Nat.beq j 220 then true else bif Nat.beq j 223 then true else bif Nat.beq j 224 then true else bif Nat.beq j 237 then true else bif Nat.beq j 238 then true else bif Nat.beq j 239 then true else bif Nat.beq j 240 then true else bif Nat.beq j 243 then true else bif Nat.beq j 244 then true else bif Nat.beq j 245 then true else bif Nat.beq j 246 then true else bif Nat.beq j 247 then true else bif Nat.beq j 252 then true else bif Nat.beq j 253 then true else bif Nat.beq j 254 then true else bif Nat.beq j 255 then true else bif Nat.beq j 257 then true else bif Nat.beq j 258 then true else bif Nat.beq j 259 then true else bif Nat.beq j 260 then true else bif Nat.beq j 263 then true else false) (nov := (fun j => bif Nat.beq j 143 then false else bif Nat.beq j 144 then false else bif Nat.beq j 242 then false else bif Nat.beq j 236 then false else bif Nat.beq j 237 then false else bif Nat.beq j 241 then false else bif Nat.beq j 239 then false else bif Nat.beq j 96 then false else true)) 9 h
set_option maxRecDepth 100000 in
theorem b212_70 {sc : zC} {x1 x2 x3 x4 : Int} {f : zF} {Q : zQ} (h : if zand x3 x2 = 0 then (∃ A2 : zQ, zR sc (198) 210 0 [] [(0, zP (50)), (1, zI x3)] 0 0 zSH f A2 ∧ ∀ (r3 : Int) (f1 : zF), zIn r3 → A2 (some (zI r3)) zSH f1 → (∃ A5 : zQ, zR sc (198) 208 0 [] [(0, zP (50)), (1, zI x4)] 0 0 zSH f1 A5 ∧ ∀ (r6 : Int) (f4 : zF), zIn r6 → A5 (some (zI r6)) zSH f4 → (if r3 < r6 then (zov (x3 + 1) (zR sc (199) 212 70 [] [(0, zP (50)), (1, zI x1), (2, zI x2), (3, zI (x3 + 1)), (4, zI x4)] 0 0 zSH f4 Q)) else (∃ A8 : zQ, zR sc (198) 168 0 [] [(0, zI x3)] 0 0 zSH f4 A8 ∧ ∀ (r9 : Int) (f7 : zF), zIn r9 → A8 (some (zI r9)) zSH f7 → (zov (x4 + (1)) (zov ((128) * (x4 + (1))) (zov (((128) * (x4 + (1))) + (zor x2 x3)) (zix (((128) * (x4 + (1))) + (zor x2 x3)) (896) (zov (r9 + (f7 (64) ((((128) * (x4 + (1))) + (zor x2 x3)).toNat))) (zov ((128) * x4) (zov (((128) * x4) + x2) (zix (((128) * x4) + x2) (896) (if r9 + (f7 (64) ((((128) * (x4 + (1))) + (zor x2 x3)).toNat)) = f7 (64) ((((128) * x4) + x2).toNat) then (zov (x4 + 1) (zR sc (199) 212 62 [] [(0, zP (50)), (1, zI x1), (2, zI (zor x2 x3)), (3, zI x3), (4, zI (x4 + 1))] 0 0 zSH f7 Q)) else (zov (x3 + 1) (zR sc (199) 212 70 [] [(0, zP (50)), (1, zI x1), (2, zI x2), (3, zI (x3 + 1)), (4, zI x4)] 0 0 zSH f7 Q))))))))))))))) else (zov (x3 + 1) (zR sc (199) 212 70 [] [(0, zP (50)), (1, zI x1), (2, zI x2), (3, zI (x3 + 1)), (4, zI x4)] 0 0 zSH f Q))) : zR sc (199) 212 70 [] [(0, zP (50)), (1, zI x1), (2, zI x2), (3, zI x3), (4, zI x4)] 0 0 zSH f Q := zwn_R (stp := fun mi pc => bif Nat.beq mi 212 && Nat.beq pc 62 then some [0, 1, 2, 3, 4] else bif Nat.beq mi 212 && Nat.beq pc 70 then some [0, 1, 2, 3, 4] else none) (inl := fun j => bif Nat.beq j 14 then true else bif Nat.beq j 15 then true else bif Nat.beq j 16 then true else bif Nat.beq j 17 then true else bif Nat.beq j 18 then true else bif Nat.beq j 19 then true else bif Nat.beq j 20 then true else bif Nat.beq j 22 then true else bif Nat.beq j 23 then true else bif Nat.beq j 25 then true else bif Nat.beq j 28 then true else bif Nat.beq j 50 then true else bif Nat.beq j 51 then true else bif Nat.beq j 52 then true else bif Nat.beq j 53 then true else bif Nat.beq j 54 then true else bif Nat.beq j 55 then true else bif Nat.beq j 56 then true else bif Nat.beq j 57 then true else bif Nat.beq j 58 then true else bif Nat.beq j 59 then true else bif Nat.beq j 60 then true else bif Nat.beq j 62 then true else bif Nat.beq j 63 then true else bif Nat.beq j 64 then true else bif Nat.beq j 65 then true else bif Nat.beq j 66 then true else bif Nat.beq j 67 then true else bif Nat.beq j 68 then true else bif Nat.beq j 69 then true else bif Nat.beq j 70 then true else bif Nat.beq j 71 then true else bif Nat.beq j 72 then true else bif Nat.beq j 73 then true else bif Nat.beq j 74 then true else bif Nat.beq j 75 then true else bif Nat.beq j 76 then true else bif Nat.beq j 77 then true else bif Nat.beq j 78 then true else bif Nat.beq j 79 then true else bif Nat.beq j 85 then true else bif Nat.beq j 86 then true else bif Nat.beq j 87 then true else bif Nat.beq j 92 then true else bif Nat.beq j 93 then true else bif Nat.beq j 95 then true else bif Nat.beq j 96 then true else bif Nat.beq j 97 then true else bif Nat.beq j 98 then true else bif Nat.beq j 99 then true else bif Nat.beq j 165 then true else bif Nat.beq j 166 then true else bif Nat.beq j 167 then true else bif Nat.beq j 170 then true else bif Nat.beq j 171 then true else bif Nat.beq j 172 then true else bif Nat.beq j 173 then true else bif Nat.beq j 174 then true else bif Nat.beq j 175 then true else bif Nat.beq j 176 then true else bif Nat.beq j 177 then true else bif Nat.beq j 178 then true else bif Nat.beq j 180 then true else bif Nat.beq j 181 then true else bif Nat.beq j 182 then true else bif Nat.beq j 183 then true else bif Nat.beq j 184 then true else bif Nat.beq j 185 then true else bif Nat.beq j 186 then true else bif Nat.beq j 187 then true else bif Nat.beq j 188 then true else bif Nat.beq j 191 then true else bif Nat.beq j 194 then true else bif Nat.beq j 200 then true else bif Nat.beq j 204 then true else bif Nat.beq j 205 then true else bif Nat.beq j 206 then true else bif Nat.beq j 209 then true else bif Nat.beq j 215 then true else bif Nat.beq j 220 then true else bif Nat.beq j 223 then true else bif Nat.beq j 224 then true else bif Nat.beq j 237 then true else bif Nat.beq j 238 then true else bif Nat.beq j 239 then true else bif Nat.beq j 240 then true else bif Nat.beq j 243 then true else bif Nat.beq j 244 then true else bif Nat.beq j 245 then true else bif Nat.beq j 246 then true else bif Nat.beq j 247 then true else bif Nat.beq j 252 then true else bif Nat.beq j 253 then true else bif Nat.beq j 254 then true else bif Nat.beq j 255 then true else bif Nat.beq j 257 then true else bif Nat.beq j 258 then true else bif Nat.beq j 259 then true else bif Nat.beq j 260 then true else bif Nat.beq j 263 then true else false) (nov := (fun j => bif Nat.beq j 143 then false else bif Nat.beq j 144 then false else bif Nat.beq j 242 then false else bif Nat.beq j 236 then false else bif Nat.beq j 237 then false else bif Nat.beq j 241 then false else bif Nat.beq j 239 then false else bif Nat.beq j 96 then false else true)) 49 h
set_option maxRecDepth 100000 in
theorem b213_0 {sc : zC} {f : zF} {Q : zQ} (h : zR sc (199) 213 2 [] [(0, zP (50)), (1, zI (0))] 0 0 zSH f Q) : zR sc (199) 213 0 [] [(0, zP (50))] 0 0 zSH f Q := zwn_R (stp := fun mi pc => bif Nat.beq mi 213 && Nat.beq pc 2 then some [0, 1] else none) (inl := fun j => bif Nat.beq j 14 then true else bif Nat.beq j 15 then true else bif Nat.beq j 16 then true else bif Nat.beq j 17 then true else bif Nat.beq j 18 then true else bif Nat.beq j 19 then true else bif Nat.beq j 20 then true else bif Nat.beq j 22 then true else bif Nat.beq j 23 then true else bif Nat.beq j 25 then true else bif Nat.beq j 28 then true else bif Nat.beq j 50 then true else bif Nat.beq j 51 then true else bif Nat.beq j 52 then true else bif Nat.beq j 53 then true else bif Nat.beq j 54 then true else bif Nat.beq j 55 then true else bif Nat.beq j 56 then true else bif Nat.beq j 57 then true else bif Nat.beq j 58 then true else bif Nat.beq j 59 then true else bif Nat.beq j 60 then true else bif Nat.beq j 62 then true else bif Nat.beq j 63 then true else bif Nat.beq j 64 then true else bif Nat.beq j 65 then true else bif Nat.beq j 66 then true else bif Nat.beq j 67 then true else bif Nat.beq j 68 then true else bif Nat.beq j 69 then true else bif Nat.beq j 70 then true else bif Nat.beq j 71 then true else bif Nat.beq j 72 then true else bif Nat.beq j 73 then true else bif Nat.beq j 74 then true else bif Nat.beq j 75 then true else bif Nat.beq j 76 then true else bif Nat.beq j 77 then true else bif Nat.beq j 78 then true else bif Nat.beq j 79 then true else bif Nat.beq j 85 then true else bif Nat.beq j 86 then true else bif Nat.beq j 87 then true else bif Nat.beq j 92 then true else bif Nat.beq j 93 then true else bif Nat.beq j 95 then true else bif Nat.beq j 96 then true else bif Nat.beq j 97 then true else bif Nat.beq j 98 then true else bif Nat.beq j 99 then true else bif Nat.beq j 165 then true else bif Nat.beq j 166 then true else bif Nat.beq j 167 then true else bif Nat.beq j 170 then true else bif Nat.beq j 171 then true else bif Nat.beq j 172 then true else bif Nat.beq j 173 then true else bif Nat.beq j 174 then true else bif Nat.beq j 175 then true else bif Nat.beq j 176 then true else bif Nat.beq j 177 then true else bif Nat.beq j 178 then true else bif Nat.beq j 180 then true else bif Nat.beq j 181 then true else bif Nat.beq j 182 then true else bif Nat.beq j 183 then true else bif Nat.beq j 184 then true else bif Nat.beq j 185 then true else bif Nat.beq j 186 then true else bif Nat.beq j 187 then true else bif Nat.beq j 188 then true else bif Nat.beq j 191 then true else bif Nat.beq j 194 then true else bif Nat.beq j 200 then true else bif Nat.beq j 204 then true else bif Nat.beq j 205 then true else bif Nat.beq j 206 then true else bif Nat.beq j 209 then true else bif Nat.beq j 215 then true else bif Nat.beq j 220 then true else bif Nat.beq j 223 then true else bif Nat.beq j 224 then true else bif Nat.beq j 237 then true else bif Nat.beq j 238 then true else bif Nat.beq j 239 then true else bif Nat.beq j 240 then true else bif Nat.beq j 243 then true else bif Nat.beq j 244 then true else bif Nat.beq j 245 then true else bif Nat.beq j 246 then true else bif Nat.beq j 247 then true else bif Nat.beq j 252 then true else bif Nat.beq j 253 then true else bif Nat.beq j 254 then true else bif Nat.beq j 255 then true else bif Nat.beq j 257 then true else bif Nat.beq j 258 then true else bif Nat.beq j 259 then true else bif Nat.beq j 260 then true else bif Nat.beq j 263 then true else false) (nov := (fun j => bif Nat.beq j 143 then false else bif Nat.beq j 144 then false else bif Nat.beq j 242 then false else bif Nat.beq j 236 then false else bif Nat.beq j 237 then false else bif Nat.beq j 241 then false else bif Nat.beq j 239 then false else bif Nat.beq j 96 then false else true)) 4 h
set_option maxRecDepth 100000 in
theorem b213_2 {sc : zC} {x1 : Int} {f : zF} {Q : zQ} (h : if x1 < f (50) (6) then (zov (x1 + (1)) (∃ A2 : zQ, zR sc (198) 211 0 [] [(0, zP (50)), (1, zI (x1 + (1)))] 0 0 zSH f A2 ∧ ∀ f1 : zF, A2 none zSH f1 → (if f1 (64) (0) = 1000000 then (Q (some (zI x1)) zSH f1) else (zov (x1 + 1) (zR sc (199) 213 2 [] [(0, zP (50)), (1, zI (x1 + 1))] 0 0 zSH f1 Q))))) else (Q (some (zI (-2))) zSH f)) : zR sc (199) 213 2 [] [(0, zP (50)), (1, zI x1)] 0 0 zSH f Q := zwn_R (stp := fun mi pc => bif Nat.beq mi 213 && Nat.beq pc 2 then some [0, 1] else none) (inl := fun j => bif Nat.beq j 14 then true else bif Nat.beq j 15 then true else bif Nat.beq j 16 then true else bif Nat.beq j 17 then true else bif Nat.beq j 18 then true else bif Nat.beq j 19 then true else bif Nat.beq j 20 then true else bif Nat.beq j 22 then true else bif Nat.beq j 23 then true else bif Nat.beq j 25 then true else bif Nat.beq j 28 then true else bif Nat.beq j 50 then true else bif Nat.beq j 51 then true else bif Nat.beq j 52 then true else bif Nat.beq j 53 then true else bif Nat.beq j 54 then true else bif Nat.beq j 55 then true else bif Nat.beq j 56 then true else bif Nat.beq j 57 then true else bif Nat.beq j 58 then true else bif Nat.beq j 59 then true else bif Nat.beq j 60 then true else bif Nat.beq j 62 then true else bif Nat.beq j 63 then true else bif Nat.beq j 64 then true else bif Nat.beq j 65 then true else bif Nat.beq j 66 then true else bif Nat.beq j 67 then true else bif Nat.beq j 68 then true else bif Nat.beq j 69 then true else bif Nat.beq j 70 then true else bif Nat.beq j 71 then true else bif Nat.beq j 72 then true else bif Nat.beq j 73 then true else bif Nat.beq j 74 then true else bif Nat.beq j 75 then true else bif Nat.beq j 76 then true else bif Nat.beq j 77 then true else bif Nat.beq j 78 then true else bif Nat.beq j 79 then true else bif Nat.beq j 85 then true else bif Nat.beq j 86 then true else bif Nat.beq j 87 then true else bif Nat.beq j 92 then true else bif Nat.beq j 93 then true else bif Nat.beq j 95 then true else bif Nat.beq j 96 then true else bif Nat.beq j 97 then true else bif Nat.beq j 98 then true else bif Nat.beq j 99 then true else bif Nat.beq j 165 then true else bif Nat.beq j 166 then true else bif Nat.beq j 167 then true else bif Nat.beq j 170 then true else bif Nat.beq j 171 then true else bif Nat.beq j 172 then true else bif Nat.beq j 173 then true else bif Nat.beq j 174 then true else bif Nat.beq j 175 then true else bif Nat.beq j 176 then true else bif Nat.beq j 177 then true else bif Nat.beq j 178 then true else bif Nat.beq j 180 then true else bif Nat.beq j 181 then true else bif Nat.beq j 182 then true else bif Nat.beq j 183 then true else bif Nat.beq j 184 then true else bif Nat.beq j 185 then true else bif Nat.beq j 186 then true else bif Nat.beq j 187 then true else bif Nat.beq j 188 then true else bif Nat.beq j 191 then true else bif Nat.beq j 194 then true else bif Nat.beq j 200 then true else bif Nat.beq j 204 then true else bif Nat.beq j 205 then true else bif Nat.beq j 206 then true else bif Nat.beq j 209 then true else bif Nat.beq j 215 then true else bif Nat.beq j 220 then true else bif Nat.beq j 223 then true else bif Nat.beq j 224 then true else bif Nat.beq j 237 then true else bif Nat.beq j 238 then true else bif Nat.beq j 239 then true else bif Nat.beq j 240 then true else bif Nat.beq j 243 then true else bif Nat.beq j 244 then true else bif Nat.beq j 245 then true else bif Nat.beq j 246 then true else bif Nat.beq j 247 then true else bif Nat.beq j 252 then true else bif Nat.beq j 253 then true else bif Nat.beq j 254 then true else bif Nat.beq j 255 then true else bif Nat.beq j 257 then true else bif Nat.beq j 258 then true else bif Nat.beq j 259 then true else bif Nat.beq j 260 then true else bif Nat.beq j 263 then true else false) (nov := (fun j => bif Nat.beq j 143 then false else bif Nat.beq j 144 then false else bif Nat.beq j 242 then false else bif Nat.beq j 236 then false else bif Nat.beq j 237 then false else bif Nat.beq j 241 then false else bif Nat.beq j 239 then false else bif Nat.beq j 96 then false else true)) 23 h
section WHO
variable {sc : zC} {f f0 F : zF} {Q : zQ} {d : Nat} {R M wk rm : Nat → Int} {G H s fr n k h : Nat}
def pkW (M R : Nat → Int) (G n : Nat) : Int := Wv (wkM M) (fun s => rmN R s G) n n (2 ^ G - 1)
set_option maxRecDepth 100000 in
theorem pkW_b : (0 ≤ pkW M R G n ∧ pkW M R G n ≤ 7 * (n : Int)) ∨ pkW M R G n = 1000000 := Wv_b n _
set_option maxRecDepth 100000 in
theorem c_fw (m : pkC (wkM M) R f0 G n n f) (h1 : f0 1 1 = (G : Int)) (hG : G ≤ 7) (K : Q (some (zI (cap (pkW M R G n)))) zSH f) : zR sc (d + 1) 39 0 [] [(0, zP 30), (1, zP 1)] 0 0 zSH f Q := by
  have pw := pw_b hG
  have e := m.2.1 n (Nat.le_refl _) (2 ^ G - 1) (by omega)
  rw [Nat.sub_self, Nat.zero_mul, Nat.zero_add, Wc_v] at e
  refine b39_0 (d := d) ?_
  rw [m.2.2 1 1 (by decide) (by decide), h1, shl_g hG, show (((2 ^ G : Nat) : Int) - 1).toNat = 2 ^ G - 1 by omega, e]
  exact zov_p (by omega) (zix_p (by omega) K)
set_option maxRecDepth 100000 in
theorem c_can (m : pkC (wkM M) R f0 G n n f) (h1 : f0 1 1 = (G : Int)) (hG : G ≤ 7) (hn : n ≤ 6) (K : Q (some (zI (if pkW M R G n = 1000000 then 0 else 1))) zSH f) : zR sc (d + 2) 38 0 [] [(0, zP 30), (1, zP 1)] 0 0 zSH f Q := by
  refine b38_0 (d := d + 1) (zcallE (c_fw (d := d) m h1 hG ⟨rfl, rfl⟩) ?_)
  have b := pkW_b (M := M) (R := R) (G := G) (n := n)
  unfold cap
  refine zit (fun c => ?_) (fun c => ?_)
  · rw [if_neg (by split at c <;> omega)] at K
    exact K
  · rw [if_pos (by split at c <;> omega)] at K
    exact K
set_option maxRecDepth 100000 in
theorem c_who (hR : ∀ g, g < 7 → 0 ≤ R g ∧ R g ≤ 99) (hW : ∀ j, j < 24 → 0 ≤ f0 2 j ∧ f0 2 j ≤ 9) (h0 : f0 1 0 = (H : Int)) (hH : H ≤ 6) (h1 : f0 1 1 = (G : Int)) (hG : G ≤ 7) (h2 : ∀ g, g < 7 → f0 2 (30 + g) = R g) (K : ∀ v f1, fsN (fun h => pkW (f0 2) R G (h + 1) = 1000000) H v → (∀ c j, c ≠ 31 → c ≠ 32 → f1 c j = f0 c j) → Q (some (zI v)) zSH f1) : zR sc 199 131 0 [] [(0, zP 0)] 0 0 zSH f0 Q := by
  refine b131_0 ?_
  have L : ∀ h, h ≤ H → ∀ f : zF, (∀ c j, c ≠ 31 → c ≠ 32 → f c j = f0 c j) → (∀ k, k < h → ¬ pkW (f0 2) R G (k + 1) = 1000000) → zR sc 199 131 2 [] [(0, zP 0), (1, zI (h : Int))] 0 0 zSH f Q := by
    refine zloop H (fun h hh ih f m hk => ?_) (fun f m hk => ?_)
    · refine b131_2 ?_
      rw [m 1 0 (by decide) (by decide), h0, if_pos (by omega), show (h : Int) + 1 = ((h + 1 : Nat) : Int) by omega]
      refine zov_p (by omega) (zcall (fun f1 => pkC (wkM (f0 2)) R f0 G (h + 1) (h + 1) f1) (c_fill (d := 194) hR hW h1 hG h2 (by omega) m (fun f1 m1 => m1)) (fun f1 m1 => ?_))
      refine zcallB (f' := f1) (v := if pkW (f0 2) R G (h + 1) = 1000000 then 0 else 1) (c_can (d := 196) m1 h1 hG (by omega) ⟨rfl, rfl⟩) ?_
      by_cases c : pkW (f0 2) R G (h + 1) = 1000000
      · rw [if_pos c, if_pos rfl]
        exact K _ f1 (Or.inl ⟨h, rfl, hh, c, hk⟩) m1.2.2
      · rw [if_neg c, if_neg (by decide)]
        refine zov_p (by omega) (ih f1 m1.2.2 (fun k hk2 => ?_))
        by_cases e : k = h
        · rw [e]; exact c
        · exact hk k (by omega)
    · refine b131_2 ?_
      rw [m 1 0 (by decide) (by decide), h0, if_neg (by omega)]
      exact K _ f (Or.inr ⟨rfl, hk⟩) m
  exact L 0 (Nat.zero_le _) f0 (fun _ _ _ _ => rfl) (fun k hk => absurd hk (Nat.not_lt_zero k))
set_option maxRecDepth 100000 in
theorem pkR_0 {j : Nat} (m : pkR (wkM M) R F G n j f) (hj : n < j) (hG : G ≤ 7) : f 64 0 = pkW M R G n := by
  have pw := pw_b hG
  have := m.1 n hj 0 (by omega)
  rw [Nat.sub_self, Nat.mul_zero, Nat.sub_zero] at this
  exact this
set_option maxRecDepth 100000 in
theorem r_who (hR : ∀ g, g < 7 → 0 ≤ R g ∧ R g ≤ 99) (hM : ∀ j, j < 24 → F 51 j = M j) (hW : ∀ j, j < 24 → 0 ≤ M j ∧ M j ≤ 9) (h0 : F 50 6 = (H : Int)) (hH : H ≤ 6) (h1 : F 50 7 = (G : Int)) (hG : G ≤ 7) (h2 : ∀ g, g < 7 → F 51 (30 + g) = R g) (K : ∀ v f1, fsN (fun h => pkW M R G (h + 1) = 1000000) H v → Q (some (zI v)) zSH f1) : zR sc 199 213 0 [] [(0, zP 50)] 0 0 zSH F Q := by
  refine b213_0 ?_
  have L : ∀ h, h ≤ H → ∀ f : zF, (∀ c j, c ≠ 64 → f c j = F c j) → (∀ k, k < h → ¬ pkW M R G (k + 1) = 1000000) → zR sc 199 213 2 [] [(0, zP 50), (1, zI (h : Int))] 0 0 zSH f Q := by
    refine zloop H (fun h hh ih f m hk => ?_) (fun f m hk => ?_)
    · refine b213_2 ?_
      rw [m 50 6 (by decide), h0, if_pos (by omega), show (h : Int) + 1 = ((h + 1 : Nat) : Int) by omega]
      refine zov_p (by omega) (zcall (fun f1 => pkR (wkM M) R F G (h + 1) (h + 1 + 1) f1) (r_fill (d := 196) hR hM hW h1 hG h2 (by omega) m (fun f1 m1 => m1)) (fun f1 m1 => ?_))
      rw [pkR_0 m1 (by omega) hG]
      refine zit (fun c => ?_) (fun c => ?_)
      · exact K _ f1 (Or.inl ⟨h, rfl, hh, c, hk⟩)
      · refine zov_p (by omega) (ih f1 m1.2 (fun k hk2 => ?_))
        by_cases e : k = h
        · rw [e]; exact c
        · exact hk k (by omega)
    · refine b213_2 ?_
      rw [m 50 6 (by decide), h0, if_neg (by omega)]
      exact K _ f (Or.inr ⟨rfl, hk⟩)
  exact L 0 (Nat.zero_le _) F (fun _ _ _ => rfl) (fun k hk => absurd hk (Nat.not_lt_zero k))
end WHO
set_option maxRecDepth 100000 in
set_option maxHeartbeats 1000000 in
theorem jq_13 {sc : zC} {f0 : zF} (g0 : aGok wG (afx sc f0)) (i0 : wD f0) : zR sc 199 131 0 [] [(0, zP (0))] 0 0 zSH f0 (fun r _ f1 => ∃ v, r = some (zI v) ∧ zR sc 199 213 0 [] [(0, zP (50))] 0 0 zSH f1 (fun r _ f2 => ∃ w, r = some (zI w) ∧ v = w)) := by
  obtain ⟨⟨s1, s1'⟩, s2, s3, s5, ch, im, la⟩ := id i0
  have e0 := g_10 g0
  have e1 := g_11 g0
  obtain ⟨H, hH⟩ : ∃ H : Nat, f0 1 0 = (H : Int) := ⟨(f0 1 0).toNat, by omega⟩
  obtain ⟨G, hG⟩ : ∃ G : Nat, f0 1 1 = (G : Int) := ⟨(f0 1 1).toNat, by omega⟩
  have hR : ∀ g, g < 7 → 0 ≤ f0 2 (30 + g) ∧ f0 2 (30 + g) ≤ 99 := fun g hg => (s2 (30 + g) (by omega)).2.2.2.1 (by omega) (by omega)
  have hW : ∀ j, j < 24 → 0 ≤ f0 2 j ∧ f0 2 j ≤ 9 := fun j hj => (s2 j (by omega)).2.1 hj
  refine c_who (R := fun g => f0 2 (30 + g)) hR hW hH (by omega) hG (by omega) (fun _ _ => rfl) (fun v f1 hv m => ⟨v, rfl, ?_⟩)
  have e51 : ∀ j, j < 60 → f1 51 j = f0 2 j := fun j hj => (m 51 j (by decide) (by decide)).trans (s2 j hj).1.symm
  exact r_who (M := f0 2) (R := fun g => f0 2 (30 + g)) (G := G) (H := H) hR (fun j hj => e51 j (by omega)) hW ((m 50 6 (by decide) (by decide)).trans (s1.symm.trans hH)) (by omega) ((m 50 7 (by decide) (by decide)).trans (s1'.symm.trans hG)) (by omega) (fun g hg => e51 _ (by omega)) (fun w f2 hw => ⟨w, rfl, fsN_u hv hw⟩)
/-- who for house h: the least set by which the fewest is had -/
def pS (wk rm : Nat → Int) (n k fr s : Nat) : Bool := decide (okW wk rm (n - (k + 1)) fr s = true ∧ bcR (s : Int) + Wv wk rm n k (fr - s) = Wv wk rm n (k + 1) fr)
def lsF (p : Nat → Bool) : Nat → Nat
  | 0 => 128
  | n + 1 => if lsF p n < 128 then lsF p n else if p n = true then n else 128
def gfr (wk rm : Nat → Int) (n G : Nat) : Nat → Nat × Nat
  | 0 => (2 ^ G - 1, 0)
  | h + 1 => ((gfr wk rm n G h).1 - lsF (pS wk rm n (n - (h + 1)) (gfr wk rm n G h).1) 128, lsF (pS wk rm n (n - (h + 1)) (gfr wk rm n G h).1) 128)
set_option maxRecDepth 100000 in
theorem lsF_i {p : Nat → Bool} : ∀ n, n ≤ 128 → (lsF p n < 128 → lsF p n < n ∧ p (lsF p n) = true ∧ ∀ q, q < lsF p n → ¬ p q = true) ∧ (¬ lsF p n < 128 → ∀ q, q < n → ¬ p q = true)
  | 0, _ => ⟨fun h => absurd h (show ¬ (128 : Nat) < 128 by decide), fun _ q h => absurd h (Nat.not_lt_zero q)⟩
  | n + 1, hn => by
    obtain ⟨i1, i2⟩ := lsF_i (p := p) n (by omega)
    have s1 : lsF p (n + 1) = if lsF p n < 128 then lsF p n else if p n = true then n else 128 := rfl
    rw [s1]
    by_cases c : lsF p n < 128
    · rw [if_pos c]
      exact ⟨fun _ => ⟨by have := (i1 c).1; omega, (i1 c).2⟩, fun h => absurd c h⟩
    · rw [if_neg c]
      by_cases e : p n = true
      · rw [if_pos e]
        exact ⟨fun _ => ⟨by omega, e, i2 c⟩, fun h => absurd (show n < 128 by omega) h⟩
      · rw [if_neg e]
        refine ⟨fun h => absurd h (show ¬ (128 : Nat) < 128 by decide), fun _ q hq => ?_⟩
        by_cases x : q = n
        · rw [x]; exact e
        · exact i2 c q (by omega)
set_option maxRecDepth 100000 in
theorem gfr_1 {wk rm : Nat → Int} {n G h : Nat} : (gfr wk rm n G (h + 1)).1 = (gfr wk rm n G h).1 - lsF (pS wk rm n (n - (h + 1)) (gfr wk rm n G h).1) 128 := by rw [gfr]
set_option maxRecDepth 100000 in
theorem gfr_2 {wk rm : Nat → Int} {n G h : Nat} : (gfr wk rm n G (h + 1)).2 = lsF (pS wk rm n (n - (h + 1)) (gfr wk rm n G h).1) 128 := by rw [gfr]
section GF
variable {sc : zC} {f f0 F : zF} {Q : zQ} {d : Nat} {R M wk rm : Nat → Int} {G H s fr n k h : Nat}
set_option maxRecDepth 100000 in
theorem ls_ok (hw : ¬ Wv wk rm n (k + 1) fr = 1000000) (hf : fr < 128) : ∃ s, lsF (pS wk rm n k fr) 128 = s ∧ s < 128 ∧ sub s fr ∧ wk (n - (k + 1)) ≤ rm s ∧ bcR (s : Int) + Wv wk rm n k (fr - s) = Wv wk rm n (k + 1) fr ∧ ∀ q, q < s → ¬ pS wk rm n k fr q = true := by
  obtain ⟨i1, i2⟩ := lsF_i (p := pS wk rm n k fr) 128 (Nat.le_refl _)
  by_cases c : lsF (pS wk rm n k fr) 128 < 128
  · obtain ⟨j1, j2, j3⟩ := i1 c
    have j4 := of_decide_eq_true j2
    have j5 := of_decide_eq_true j4.1
    exact ⟨_, rfl, c, j5.1, j5.2, j4.2, j3⟩
  · exfalso
    rcases mnW_at (ok := okW wk rm (n - (k + 1)) fr) (v := fun s => bcR (s : Int) + Wv wk rm n k (fr - s)) (c := 1000000) 128 with h | ⟨s, h1, h2, h3⟩
    · exact hw h
    · exact i2 c s h1 (decide_eq_true ⟨h2, h3.symm⟩)
set_option maxRecDepth 100000 in
theorem gfr_ok (hG : G ≤ 7) (hw : ¬ Wv wk rm n n (2 ^ G - 1) = 1000000) : ∀ h, h ≤ n → (gfr wk rm n G h).1 < 2 ^ G ∧ ¬ Wv wk rm n (n - h) (gfr wk rm n G h).1 = 1000000
  | 0, _ => ⟨by have := pw_b hG; show 2 ^ G - 1 < 2 ^ G; omega, hw⟩
  | h + 1, hh => by
    have pw := pw_b hG
    obtain ⟨i1, i2⟩ := gfr_ok hG hw h (by omega)
    rw [show n - h = n - (h + 1) + 1 by omega] at i2
    obtain ⟨s, e, l1, l2, l3, l4, l5⟩ := ls_ok i2 (by omega)
    have l6 := (sub_d (by omega) l1 l2).2
    rw [gfr_1, e]
    have b := bcR_b l1
    refine ⟨by omega, fun x => ?_⟩
    rcases Wv_b (wk := wk) (rm := rm) (n := n) (n - (h + 1) + 1) (gfr wk rm n G h).1 with y | y
    · have : ((n - (h + 1) + 1 : Nat) : Int) ≤ (n : Int) := by omega
      by_cases z : n ≤ 100
      · omega
      · rw [x] at l4
        have t := (mnW_le (ok := okW wk rm (n - (n - (h + 1) + 1)) (gfr wk rm n G h).1) (v := fun s => bcR (s : Int) + Wv wk rm n (n - (h + 1)) ((gfr wk rm n G h).1 - s)) (c := 1000000) 128).1
        have t : Wv wk rm n (n - (h + 1) + 1) (gfr wk rm n G h).1 ≤ 1000000 := t
        omega
    · exact i2 y
set_option maxRecDepth 100000 in
theorem c_ls (hf : fr < 128) (hh : h < 6) (hn6 : n ≤ 6) (h31 : ∀ s, s < 128 → f 31 s = rm s) (h32 : ∀ s, s ≤ fr → f 32 ((h + 1) * 128 + (fr - s)) = Wc wk rm n k (fr - s)) (h33 : f 32 (h * 128 + fr) = Wc wk rm n (k + 1) fr) (hn : n - (k + 1) = h) (hk : k < n) (hw : ¬ Wv wk rm n (k + 1) fr = 1000000) {s0 : Nat} (es : lsF (pS wk rm n k fr) 128 = s0) (K : Q (some (zI (s0 : Int))) zSH f) : zR sc (d + 3) 41 0 [] [(0, zP 30), (1, zI (wk h)), (2, zI (h : Int)), (3, zI (fr : Int))] 0 0 zSH f Q := by
  obtain ⟨t1, t2⟩ := it_ok hf
  obtain ⟨s9, e0, l1, l2, l3, l4, l5⟩ := ls_ok hw hf
  rw [es] at e0
  rw [← e0] at l1 l2 l3 l4 l5
  rw [hn] at l3
  have wb : 0 ≤ Wv wk rm n (k + 1) fr ∧ Wv wk rm n (k + 1) fr ≤ 42 := by
    rcases Wv_b (wk := wk) (rm := rm) (n := n) (k + 1) fr with y | y
    · omega
    · exact absurd y hw
  have cb : ∀ s, s ≤ 128 → cnt fr s ≤ s := fun s => by
    induction s with
    | zero => exact fun _ => Nat.le_refl _
    | succ s ih =>
      intro hs
      have := ih (by omega)
      show (if sub s fr then cnt fr s + 1 else cnt fr s) ≤ s + 1
      split <;> omega
  have eqv : ∀ s : Nat, s < 128 → (cap (bcR (s : Int) + Wc wk rm n k (fr - s)) = Wc wk rm n (k + 1) fr ↔ bcR (s : Int) + Wv wk rm n k (fr - s) = Wv wk rm n (k + 1) fr) := fun s hs => by
    rw [Wc_v, Wc_v]
    have b := bcR_b hs
    rcases Wv_b (wk := wk) (rm := rm) (n := n) k (fr - s) with y | y
    all_goals
      unfold cap
      repeat' split
      all_goals omega
  refine b41_0 (d := d + 2) ?_
  have L : ∀ s, s ≤ s0 → zR sc (d + 3) 41 6 [] [(0, zP 30), (1, zI (wk h)), (2, zI (h : Int)), (3, zI (fr : Int)), (4, zI (it fr (cnt fr s))), (5, zI (cnt fr s : Int))] 0 0 zSH f Q := by
    refine zloop s0 (fun s hs ih => ?_) ?_
    · have s2 : cnt fr (s + 1) = if sub s fr then cnt fr s + 1 else cnt fr s := rfl
      rw [s2] at ih
      by_cases c : sub s fr
      · rw [if_pos c] at ih s2
        have c1 := cnt_le (fr := fr) (s + 1) 128 (by omega)
        have c2 := cb s (by omega)
        have e1 := t1 s (by omega) c
        have s3 : it fr (cnt fr s + 1) = zand ((s : Int) - (fr : Int)) (fr : Int) := by rw [← e1]; rfl
        rw [s3, show ((cnt fr s + 1 : Nat) : Int) = (cnt fr s : Int) + 1 by omega] at ih
        refine b41_6 (d := d + 2) (zcallE (c_bc (d := d + 1) (by omega) ⟨rfl, rfl⟩) ?_)
        rw [t2, if_pos (by omega), e1]
        refine zix_p (by omega) ?_
        rw [Int.toNat_natCast, h31 s (by omega)]
        refine zit (fun o => ?_) (fun o => ?_)
        · exact zcallE (c_nw (d := d + 1) (by omega) hf ⟨rfl, rfl⟩) (zov_p (by omega) ih)
        · refine zcallE (c_gw (d := d) (by omega) hf c hh (h32 s (sub_d hf (by omega) c).2) Wc_b ⟨rfl, rfl⟩) (zov_p (by omega) (zov_p (by omega) (zix_p (by omega) ?_)))
          rw [show ((h : Int) * 128 + (fr : Int)).toNat = h * 128 + fr by omega, h33, if_neg (fun x => l5 s hs (decide_eq_true ⟨decide_eq_true ⟨c, by rw [hn]; omega⟩, (eqv s (by omega)).1 x⟩))]
          exact zcallE (c_nw (d := d + 1) (by omega) hf ⟨rfl, rfl⟩) (zov_p (by omega) ih)
      · rw [if_neg c] at ih
        exact ih
    · have s2 : cnt fr (s0 + 1) = if sub s0 fr then cnt fr s0 + 1 else cnt fr s0 := rfl
      rw [if_pos l2] at s2
      have c1 := cnt_le (fr := fr) (s0 + 1) 128 (by omega)
      have c2 := cb s0 (by omega)
      have e1 := t1 s0 l1 l2
      refine b41_6 (d := d + 2) (zcallE (c_bc (d := d + 1) (by omega) ⟨rfl, rfl⟩) ?_)
      rw [t2, if_pos (by omega), e1]
      refine zix_p (by omega) ?_
      rw [Int.toNat_natCast, h31 s0 l1, if_neg (by omega)]
      refine zcallE (c_gw (d := d) l1 hf l2 hh (h32 s0 (sub_d hf l1 l2).2) Wc_b ⟨rfl, rfl⟩) (zov_p (by omega) (zov_p (by omega) (zix_p (by omega) ?_)))
      rw [show ((h : Int) * 128 + (fr : Int)).toNat = h * 128 + fr by omega, h33, if_pos ((eqv s0 l1).2 l4)]
      exact K
  exact L 0 (Nat.zero_le _)
set_option maxRecDepth 100000 in
theorem pk_5 : (List.range 128).all (fun fr => decide (zand (fr : Int) (zxor (0 : Int) (-1)) = (fr : Int))) = true := by decide +kernel
set_option maxRecDepth 100000 in
theorem c_gf {a : Nat} (m : pkC (wkM (f0 2)) R f0 G n n f) (hW : ∀ j, j < 24 → 0 ≤ f0 2 j ∧ f0 2 j ≤ 9) (h1 : f0 1 1 = (G : Int)) (hG : G ≤ 7) (hn : n ≤ 6) (ha : a < n) (hw : ¬ pkW (f0 2) R G n = 1000000) (K : Q (some (zI ((gfr (wkM (f0 2)) (fun s => rmN R s G) n G (a + 1)).2 : Int))) zSH f) : zR sc (d + 4) 40 0 [] [(0, zP 30), (1, zP 1), (2, zI (a : Int))] 0 0 zSH f Q := by
  have pw := pw_b hG
  have ok := gfr_ok (wk := wkM (f0 2)) (rm := fun s => rmN R s G) (n := n) hG hw
  refine b40_0 (d := d + 3) ?_
  rw [m.2.2 1 1 (by decide) (by decide), h1, shl_g hG]
  refine zov_p (by omega) ?_
  have L : ∀ h, h ≤ a + 1 → ∀ x : Int, zand x (zxor ((gfr (wkM (f0 2)) (fun s => rmN R s G) n G h).2 : Int) (-1)) = ((gfr (wkM (f0 2)) (fun s => rmN R s G) n G h).1 : Int) → zR sc (d + 4) 40 15 [] [(0, zP 30), (1, zP 1), (2, zI (a : Int)), (3, zI x), (4, zI ((gfr (wkM (f0 2)) (fun s => rmN R s G) n G h).2 : Int)), (5, zI (h : Int))] 0 0 zSH f Q := by
    refine zloop (a + 1) (fun h hh ih x hx => ?_) (fun x hx => ?_)
    · refine b40_15 (d := d + 3) ?_
      rw [if_neg (by omega), hx]
      obtain ⟨o1, o2⟩ := ok h (by omega)
      rw [show n - h = n - (h + 1) + 1 by omega] at o2
      obtain ⟨s, e, l1, l2, l3, l4, l5⟩ := ls_ok o2 (by omega)
      have sd := sub_d (by omega) l1 l2
      refine zcallE (c_wk (d := d + 2) (M := f0 2) (fun j _ => m.2.2 2 j (by decide) (by decide)) hW (by omega) ⟨rfl, rfl⟩) ?_
      refine zcallE (c_ls (d := d) (wk := wkM (f0 2)) (rm := fun s => rmN R s G) (n := n) (k := n - (h + 1)) (by omega) (by omega) hn m.1 (fun s hs => by
        have := m.2.1 (n - (h + 1)) (by omega) ((gfr (wkM (f0 2)) (fun s => rmN R s G) n G h).1 - s) (by omega)
        rw [show n - (n - (h + 1)) = h + 1 by omega] at this
        exact this) (by
        have := m.2.1 (n - (h + 1) + 1) (by omega) (gfr (wkM (f0 2)) (fun s => rmN R s G) n G h).1 o1
        rw [show n - (n - (h + 1) + 1) = h by omega] at this
        exact this) (by omega) (by omega) o2 e ⟨rfl, rfl⟩) (zov_p (by omega) ?_)
      rw [show (h : Int) + 1 = ((h + 1 : Nat) : Int) by omega]
      rw [gfr_1, gfr_2, e] at ih
      exact ih _ sd.1
    · refine b40_15 (d := d + 3) ?_
      rw [if_pos (by omega)]
      exact K
  refine L 0 (Nat.zero_le _) _ ?_
  show zand (((2 ^ G : Nat) : Int) - 1) (zxor 0 (-1)) = ((2 ^ G - 1 : Nat) : Int)
  rw [show ((2 ^ G : Nat) : Int) - 1 = ((2 ^ G - 1 : Nat) : Int) by omega]
  exact of_decide_eq_true (List.all_eq_true.1 pk_5 (2 ^ G - 1) (List.mem_range.2 (by omega)))
set_option maxRecDepth 100000 in
theorem r_gf {a : Nat} (m : pkR (wkM M) R F G n (n + 1) f) (hR : ∀ g, g < 7 → 0 ≤ R g ∧ R g ≤ 99) (hM : ∀ j, j < 24 → F 51 j = M j) (hW : ∀ j, j < 24 → 0 ≤ M j ∧ M j ≤ 9) (h1 : F 50 7 = (G : Int)) (hG : G ≤ 7) (h2 : ∀ g, g < 7 → F 51 (30 + g) = R g) (hn : n ≤ 6) (ha : a < n) (hw : ¬ pkW M R G n = 1000000) (K : Q (some (zI ((gfr (wkM M) (fun s => rmN R s G) n G (a + 1)).2 : Int))) zSH f) : zR sc 199 212 62 [] [(0, zP 50), (1, zI (a : Int)), (2, zI 0), (3, zI 0), (4, zI 0)] 0 0 zSH f Q := by
  have pw := pw_b hG
  have ok := gfr_ok (wk := wkM M) (rm := fun s => rmN R s G) (n := n) hG hw
  have e50 : f 50 7 = (G : Int) := (m.2 50 7 (by decide)).trans h1
  have L : ∀ h, h ≤ a + 1 → zR sc 199 212 62 [] [(0, zP 50), (1, zI (a : Int)), (2, zI ((2 ^ G - 1 - (gfr (wkM M) (fun s => rmN R s G) n G h).1 : Nat) : Int)), (3, zI ((gfr (wkM M) (fun s => rmN R s G) n G h).2 : Int)), (4, zI (h : Int))] 0 0 zSH f Q := by
    refine zloop (a + 1) (fun h hh ih => ?_) ?_
    · refine b212_62 ?_
      rw [if_neg (by omega)]
      obtain ⟨o1, o2⟩ := ok h (by omega)
      rw [show n - h = n - (h + 1) + 1 by omega] at o2
      obtain ⟨s, e, l1, l2, l3, l4, l5⟩ := ls_ok o2 (by omega)
      rw [gfr_1, gfr_2, e] at ih
      generalize (gfr (wkM M) (fun s => rmN R s G) n G h).1 = fr at o1 o2 e l2 l4 l5 ih ⊢
      rw [show n - (n - (h + 1) + 1) = h by omega] at l3
      have sd := sub_d (by omega) l1 l2
      obtain ⟨x, hx⟩ : ∃ x : Nat, x = 2 ^ G - 1 - fr := ⟨_, rfl⟩
      have hf : fr = 2 ^ G - 1 - x := by omega
      rw [← hx]
      have e65 := m.1 (n - (h + 1) + 1) (by omega) x (by omega)
      rw [show n - (n - (h + 1) + 1) = h by omega, ← hf] at e65
      have e64 : ∀ q, q ≤ fr → f 64 (128 * (h + 1) + (x + q)) = Wv (wkM M) (fun s => rmN R s G) n (n - (h + 1)) (fr - q) := fun q hq => by
        have := m.1 (n - (h + 1)) (by omega) (x + q) (by omega)
        rw [show n - (n - (h + 1)) = h + 1 by omega, show 2 ^ G - 1 - (x + q) = fr - q by omega] at this
        exact this
      have vb : ∀ k q, 0 ≤ Wv (wkM M) (fun s => rmN R s G) n (n - k) q ∧ Wv (wkM M) (fun s => rmN R s G) n (n - k) q ≤ 1000000 := fun k q => by
        rcases Wv_b (wk := wkM M) (rm := fun s => rmN R s G) (n := n) (n - k) q with h | h <;> omega
      have L5 : ∀ q, q ≤ s → zR sc 199 212 70 [] [(0, zP 50), (1, zI (a : Int)), (2, zI (x : Int)), (3, zI (q : Int)), (4, zI (h : Int))] 0 0 zSH f Q := by
        refine zloop s (fun q hq ih2 => ?_) ?_
        · obtain ⟨g1, g2⟩ := sub_g hG (show x < 2 ^ G by omega) (show q < 2 ^ G by omega)
          rw [← hf] at g1
          rw [show ((q + 1 : Nat) : Int) = (q : Int) + 1 by omega] at ih2
          refine b212_70 (zit (fun c1 => ?_) (fun c1 => zov_p (by omega) ih2))
          refine zcallE (r_rm (d := 197) hR (by omega) e50 hG (fun g hg => (m.2 51 _ (by decide)).trans (h2 g hg)) ⟨rfl, rfl⟩) (zcallE (r_wk (d := 197) (M := M) (fun j hj => (m.2 51 j (by decide)).trans (hM j hj)) hW (by omega) ⟨rfl, rfl⟩) ?_)
          refine zit (fun o => zov_p (by omega) ih2) (fun o => ?_)
          have hb := bcR_b (s := q) (by omega)
          have hd := (sub_d (by omega) (by omega) (g1.1 c1)).2
          have v1 := vb (h + 1) (fr - q)
          refine zcallE (r_bc (d := 197) (by omega) ⟨rfl, rfl⟩) ?_
          rw [g2 c1]
          refine zov_p (by omega) (zov_p (by omega) (zov_p (by omega) (zix_p (by omega) ?_)))
          rw [show (128 * ((h : Int) + 1) + ((x + q : Nat) : Int)).toNat = 128 * (h + 1) + (x + q) by omega, e64 q hd, show (128 * (h : Int) + (x : Int)).toNat = 128 * h + x by omega, e65]
          refine zov_p (by omega) (zov_p (by omega) (zov_p (by omega) (zix_p (by omega) ?_)))
          rw [if_neg (fun y => l5 q hq (decide_eq_true ⟨decide_eq_true ⟨g1.1 c1, by rw [show n - (n - (h + 1) + 1) = h by omega]; show wkM M h ≤ rmN R q G; omega⟩, y⟩))]
          exact zov_p (by omega) ih2
        · obtain ⟨g1, g2⟩ := sub_g hG (show x < 2 ^ G by omega) (show s < 2 ^ G by omega)
          rw [← hf] at g1
          have c1 := g1.2 l2
          refine b212_70 ?_
          rw [if_pos c1]
          refine zcallE (r_rm (d := 197) hR (by omega) e50 hG (fun g hg => (m.2 51 _ (by decide)).trans (h2 g hg)) ⟨rfl, rfl⟩) (zcallE (r_wk (d := 197) (M := M) (fun j hj => (m.2 51 j (by decide)).trans (hM j hj)) hW (by omega) ⟨rfl, rfl⟩) ?_)
          have l3 : wkM M h ≤ rmN R s G := l3
          rw [if_neg (by omega)]
          have hb := bcR_b (s := s) (by omega)
          have v1 := vb (h + 1) (fr - s)
          refine zcallE (r_bc (d := 197) (by omega) ⟨rfl, rfl⟩) ?_
          rw [g2 c1]
          refine zov_p (by omega) (zov_p (by omega) (zov_p (by omega) (zix_p (by omega) ?_)))
          rw [show (128 * ((h : Int) + 1) + ((x + s : Nat) : Int)).toNat = 128 * (h + 1) + (x + s) by omega, e64 s sd.2, show (128 * (h : Int) + (x : Int)).toNat = 128 * h + x by omega, e65]
          refine zov_p (by omega) (zov_p (by omega) (zov_p (by omega) (zix_p (by omega) ?_)))
          rw [if_pos l4]
          refine zov_p (by omega) ?_
          rw [show (h : Int) + 1 = ((h + 1 : Nat) : Int) by omega, show x + s = 2 ^ G - 1 - (fr - s) by omega]
          exact ih
      exact L5 0 (Nat.zero_le _)
    · refine b212_62 ?_
      rw [if_pos (by omega)]
      exact K
  have := L 0 (Nat.zero_le _)
  have z : (2 ^ G - 1 - (gfr (wkM M) (fun s => rmN R s G) n G 0).1 : Nat) = 0 := by
    show 2 ^ G - 1 - (2 ^ G - 1) = 0
    omega
  rw [z] at this
  exact this
end GF
set_option maxRecDepth 100000 in
set_option maxHeartbeats 1000000 in
theorem jq_12 {sc : zC} {f0 : zF} (g0 : aGok wG (afx sc f0)) (i0 : wD f0) {a : Int} : zR sc 199 130 0 [] [(0, zP (0)), (1, zI a)] 0 0 zSH f0 (fun r _ f1 => ∃ v, r = some (zI v) ∧ zR sc 199 212 0 [] [(0, zP (50)), (1, zI a)] 0 0 zSH f1 (fun r _ f2 => ∃ w, r = some (zI w) ∧ v = w)) := by
  obtain ⟨⟨s1, s1'⟩, s2, s3, s5, ch, im, la⟩ := id i0
  have e0 := g_10 g0
  have e1 := g_11 g0
  obtain ⟨H, hH⟩ : ∃ H : Nat, f0 1 0 = (H : Int) := ⟨(f0 1 0).toNat, by omega⟩
  obtain ⟨G, hG⟩ : ∃ G : Nat, f0 1 1 = (G : Int) := ⟨(f0 1 1).toNat, by omega⟩
  have hR : ∀ g, g < 7 → 0 ≤ f0 2 (30 + g) ∧ f0 2 (30 + g) ≤ 99 := fun g hg => (s2 (30 + g) (by omega)).2.2.2.1 (by omega) (by omega)
  have hW : ∀ j, j < 24 → 0 ≤ f0 2 j ∧ f0 2 j ≤ 9 := fun j hj => (s2 j (by omega)).2.1 hj
  by_cases hv : a = -1 ∨ (0 ≤ a ∧ a < f0 1 0)
  rotate_left
  · refine b130_0 ?_
    repeat' (first | (refine zix_p (by omega) ?_) | (refine zov_p (by omega) ?_) | (refine zit (fun h => ?_) (fun h => ?_)))
    all_goals try (exfalso; omega)
    all_goals refine ⟨_, rfl, b212_0 ?_⟩
    all_goals try simp only [zlc_lt, zlc_gt, zlc_eq]
    all_goals repeat' (first | (refine zix_p (by omega) ?_) | (refine zov_p (by omega) ?_) | (refine zit (fun h => ?_) (fun h => ?_)))
    all_goals try (exfalso; omega)
    all_goals exact ⟨_, rfl, rfl⟩
  have R12 : ∀ (f1 : zF) (v : Int), (∀ c j, c ≠ 31 → c ≠ 32 → f1 c j = f0 c j) → v = (if pkW (f0 2) (fun g => f0 2 (30 + g)) G H = 1000000 then -2 else if a = -1 then pkW (f0 2) (fun g => f0 2 (30 + g)) G H else ((gfr (wkM (f0 2)) (fun s => rmN (fun g => f0 2 (30 + g)) s G) H G (a.toNat + 1)).2 : Int)) → zR sc 199 212 0 [] [(0, zP 50), (1, zI a)] 0 0 zSH f1 (fun r _ f2 => ∃ w, r = some (zI w) ∧ v = w) := by
    intro f1 v m ev
    have e51 : ∀ j, j < 60 → f1 51 j = f0 2 j := fun j hj => (m 51 j (by decide) (by decide)).trans (s2 j hj).1.symm
    have k6 : f1 50 6 = (H : Int) := (m 50 6 (by decide) (by decide)).trans (s1.symm.trans hH)
    have k7 : f1 50 7 = (G : Int) := (m 50 7 (by decide) (by decide)).trans (s1'.symm.trans hG)
    refine b212_0 ?_
    rw [k6]
    simp only [zlc_lt, zlc_gt, zlc_eq]
    refine zov_p (by omega) ?_
    rw [if_neg (by omega), if_neg (by omega)]
    refine zcall (fun f2 => pkR (wkM (f0 2)) (fun g => f0 2 (30 + g)) f1 G H (H + 1) f2) (r_fill (d := 196) hR (fun j hj => e51 j (by omega)) hW k7 (by omega) (fun g hg => e51 _ (by omega)) (by omega) (fun _ _ _ => rfl) (fun f2 m2 => m2)) (fun f2 m2 => ?_)
    rw [pkR_0 m2 (by omega) (by omega)]
    refine zit (fun c => ?_) (fun c => ?_)
    · rw [if_pos c] at ev
      exact ⟨_, rfl, ev⟩
    · rw [if_neg c] at ev
      refine zit (fun c2 => ?_) (fun c2 => ?_)
      · rw [if_pos c2] at ev
        exact ⟨_, rfl, ev⟩
      · rw [if_neg c2] at ev
        obtain ⟨q, rfl⟩ : ∃ q : Nat, a = (q : Int) := ⟨a.toNat, by omega⟩
        rw [Int.toNat_natCast] at ev
        exact r_gf m2 hR (fun j hj => e51 j (by omega)) hW k7 (by omega) (fun g hg => e51 _ (by omega)) (by omega) (by omega) c ⟨_, rfl, ev⟩
  refine b130_0 ?_
  refine zit (fun c => ?_) (fun c => ?_)
  · rw [hH]
    refine zcall (fun f1 => pkC (wkM (f0 2)) (fun g => f0 2 (30 + g)) f0 G H H f1) (c_fill (d := 194) hR hW hG (by omega) (fun _ _ => rfl) (by omega) (fun _ _ _ _ => rfl) (fun f1 m => m)) (fun f1 m => ?_)
    refine zcallB (f' := f1) (v := if pkW (f0 2) (fun g => f0 2 (30 + g)) G H = 1000000 then 0 else 1) (c_can (d := 196) m hG (by omega) (by omega) ⟨rfl, rfl⟩) ?_
    by_cases c3 : pkW (f0 2) (fun g => f0 2 (30 + g)) G H = 1000000
    · rw [if_pos c3, if_pos rfl]
      exact ⟨_, rfl, R12 f1 _ m.2.2 (if_pos c3).symm⟩
    · rw [if_neg c3, if_neg (by decide), if_pos c]
      have b := pkW_b (M := f0 2) (R := fun g => f0 2 (30 + g)) (G := G) (n := H)
      refine zcallE (c_fw (d := 197) m hG (by omega) ⟨rfl, rfl⟩) ?_
      refine ⟨_, rfl, R12 f1 _ m.2.2 ?_⟩
      rw [if_neg c3, if_pos c]
      unfold cap
      rw [if_pos (by omega)]
  · rw [if_neg (by omega), if_pos (by omega), hH]
    refine zcall (fun f1 => pkC (wkM (f0 2)) (fun g => f0 2 (30 + g)) f0 G H H f1) (c_fill (d := 194) hR hW hG (by omega) (fun _ _ => rfl) (by omega) (fun _ _ _ _ => rfl) (fun f1 m => m)) (fun f1 m => ?_)
    refine zcallB (f' := f1) (v := if pkW (f0 2) (fun g => f0 2 (30 + g)) G H = 1000000 then 0 else 1) (c_can (d := 196) m hG (by omega) (by omega) ⟨rfl, rfl⟩) ?_
    by_cases c3 : pkW (f0 2) (fun g => f0 2 (30 + g)) G H = 1000000
    · rw [if_pos c3, if_pos rfl]
      exact ⟨_, rfl, R12 f1 _ m.2.2 (if_pos c3).symm⟩
    · rw [if_neg c3, if_neg (by decide), if_neg c]
      obtain ⟨q, hq⟩ : ∃ q : Nat, a = (q : Int) := ⟨a.toNat, by omega⟩
      rw [hq]
      rw [hq] at R12 c
      refine zcallE (c_gf (d := 194) (a := q) m hW hG (by omega) (by omega) (by omega) c3 ⟨rfl, rfl⟩) ?_
      exact ⟨_, rfl, R12 f1 _ m.2.2 (by rw [if_neg c3, if_neg c, Int.toNat_natCast])⟩
end
