noncomputable section
/-! two who hire by turns: sets of girls, the play -/
set_option maxRecDepth 100000 in
theorem bt_zb : (List.range 128).all (fun s => (List.range 7).all (fun g => decide (zand (zshr (s : Int) (g : Int)) 1 = 0) || decide (zand (zshr (s : Int) (g : Int)) 1 = 1))) = true := by decide +kernel
set_option maxRecDepth 100000 in
theorem bt_z {x : Int} {g : Nat} (h : 0 ≤ x ∧ x < 128) (hg : g < 7) : zand (zshr x (g : Int)) 1 = 0 ∨ zand (zshr x (g : Int)) 1 = 1 := by
  obtain ⟨s, rfl⟩ : ∃ s : Nat, x = (s : Int) := ⟨x.toNat, by omega⟩
  have := List.all_eq_true.1 (List.all_eq_true.1 bt_zb s (List.mem_range.2 (by omega))) g (List.mem_range.2 hg)
  rw [Bool.or_eq_true] at this
  exact this.elim (fun k => Or.inl (of_decide_eq_true k)) (fun k => Or.inr (of_decide_eq_true k))
def btA (x : Int) (q : Nat) : Int := zand x (zxor (zshl 1 (q : Int)) (-1))
def btO (x : Int) (q : Nat) : Int := zor x (zshl 1 (q : Int))
set_option maxRecDepth 100000 in
theorem bt_ka : (List.range 128).all (fun s => (List.range 7).all (fun q => (decide (0 ≤ btA (s : Int) q) && decide (btA (s : Int) q < 128)) && (List.range 7).all (fun g => decide (zand (zshr (btA (s : Int) q) (g : Int)) 1 = if g = q then 0 else zand (zshr (s : Int) (g : Int)) 1)))) = true := by decide +kernel
set_option maxRecDepth 100000 in
theorem bt_ko : (List.range 128).all (fun s => (List.range 7).all (fun q => (decide (0 ≤ btO (s : Int) q) && decide (btO (s : Int) q < 128)) && (List.range 7).all (fun g => decide (zand (zshr (btO (s : Int) q) (g : Int)) 1 = if g = q then 1 else zand (zshr (s : Int) (g : Int)) 1)))) = true := by decide +kernel
set_option maxRecDepth 100000 in
theorem bt_a {x : Int} {q : Nat} (h : 0 ≤ x ∧ x < 128) (hq : q < 7) : (0 ≤ btA x q ∧ btA x q < 128) ∧ ∀ g : Nat, g < 7 → zand (zshr (btA x q) (g : Int)) 1 = if g = q then 0 else zand (zshr x (g : Int)) 1 := by
  obtain ⟨s, rfl⟩ : ∃ s : Nat, x = (s : Int) := ⟨x.toNat, by omega⟩
  have := List.all_eq_true.1 (List.all_eq_true.1 bt_ka s (List.mem_range.2 (by omega))) q (List.mem_range.2 hq)
  rw [Bool.and_eq_true, Bool.and_eq_true] at this
  exact ⟨⟨of_decide_eq_true this.1.1, of_decide_eq_true this.1.2⟩, fun g hg => of_decide_eq_true (List.all_eq_true.1 this.2 g (List.mem_range.2 hg))⟩
set_option maxRecDepth 100000 in
theorem bt_o {x : Int} {q : Nat} (h : 0 ≤ x ∧ x < 128) (hq : q < 7) : (0 ≤ btO x q ∧ btO x q < 128) ∧ ∀ g : Nat, g < 7 → zand (zshr (btO x q) (g : Int)) 1 = if g = q then 1 else zand (zshr x (g : Int)) 1 := by
  obtain ⟨s, rfl⟩ : ∃ s : Nat, x = (s : Int) := ⟨x.toNat, by omega⟩
  have := List.all_eq_true.1 (List.all_eq_true.1 bt_ko s (List.mem_range.2 (by omega))) q (List.mem_range.2 hq)
  rw [Bool.and_eq_true, Bool.and_eq_true] at this
  exact ⟨⟨of_decide_eq_true this.1.1, of_decide_eq_true this.1.2⟩, fun g hg => of_decide_eq_true (List.all_eq_true.1 this.2 g (List.mem_range.2 hg))⟩
/-- the class's play: the most less what the other one does -/
def nbV (gn : Nat → Int) (F : Int → Int) (x : Int) (g : Nat) : Int := gn g - F (btA x g)
def nbI (gn : Nat → Int) (F : Int → Int) (x : Int) : Nat → Int
  | 0 => -(F x)
  | g + 1 => if zand (zshr x (g : Int)) 1 = 0 then nbI gn F x g else (if nbI gn F x g < nbV gn F x g then nbV gn F x g else nbI gn F x g)
def nb (gn : Nat → Nat → Int) : Nat → Nat → Int → Int
  | 0, _, _ => 0
  | r + 1, t, x => nbI (gn (t % 2)) (nb gn r (t + 1)) x 7
/-- the reference's -/
def pfV (ev : Bool) (wv : Nat → Int) (F : Int → Int) (y : Int) (g : Nat) : Int := if ev = true then F (btO y g) + wv g else F (btO y g) + -(wv g)
def pfI (ev : Bool) (wv : Nat → Int) (fr : Nat → Bool) (F : Int → Int) (y : Int) : Nat → Int
  | 0 => F y
  | g + 1 => if fr g = true ∧ ¬ zand (zshr y (g : Int)) 1 = 1 then (if ev = true then (if pfI ev wv fr F y g < pfV ev wv F y g then pfV ev wv F y g else pfI ev wv fr F y g) else (if pfV ev wv F y g < pfI ev wv fr F y g then pfV ev wv F y g else pfI ev wv fr F y g)) else pfI ev wv fr F y g
def evn (t : Nat) : Bool := decide (t % 2 = 0)
def pf (gn : Nat → Nat → Int) (fr : Nat → Bool) : Nat → Nat → Int → Int
  | 0, _, _ => 0
  | r + 1, t, y => pfI (evn t) (gn (t % 2)) fr (pf gn fr r (t + 1)) y 7
section PLAY
variable {gn : Nat → Nat → Int} {fr : Nat → Bool} {x y : Int}
def sam (fr : Nat → Bool) (x y : Int) : Prop := (0 ≤ x ∧ x < 128) ∧ (0 ≤ y ∧ y < 128) ∧ ∀ g : Nat, g < 7 → (¬ zand (zshr x (g : Int)) 1 = 0 ↔ (fr g = true ∧ ¬ zand (zshr y (g : Int)) 1 = 1))
set_option maxRecDepth 100000 in
theorem sam_s (s : sam fr x y) {q : Nat} (hq : q < 7) : sam fr (btA x q) (btO y q) := by
  obtain ⟨s1, s2, s3⟩ := s
  obtain ⟨a1, a2⟩ := bt_a s1 hq
  obtain ⟨o1, o2⟩ := bt_o s2 hq
  refine ⟨a1, o1, fun g hg => ?_⟩
  rw [a2 g hg, o2 g hg]
  by_cases e : g = q
  · rw [if_pos e, if_pos e]
    exact ⟨fun h => absurd rfl h, fun h => absurd rfl h.2⟩
  · rw [if_neg e, if_neg e]
    exact s3 g hg
set_option maxRecDepth 100000 in
theorem pf_nb : ∀ (r t : Nat) (x y : Int), sam fr x y → pf gn fr r t y = if t % 2 = 0 then nb gn r t x else -(nb gn r t x)
  | 0, t, x, y, _ => by
    show (0 : Int) = if t % 2 = 0 then 0 else -0
    split <;> rfl
  | r + 1, t, x, y, s => by
    have ih := fun x y h => pf_nb r (t + 1) x y h
    show pfI (evn t) (gn (t % 2)) fr (pf gn fr r (t + 1)) y 7 = if t % 2 = 0 then nbI (gn (t % 2)) (nb gn r (t + 1)) x 7 else -(nbI (gn (t % 2)) (nb gn r (t + 1)) x 7)
    have L : ∀ g, g ≤ 7 → pfI (evn t) (gn (t % 2)) fr (pf gn fr r (t + 1)) y g = if t % 2 = 0 then nbI (gn (t % 2)) (nb gn r (t + 1)) x g else -(nbI (gn (t % 2)) (nb gn r (t + 1)) x g) := by
      intro g
      induction g with
      | zero =>
        intro _
        show pf gn fr r (t + 1) y = if t % 2 = 0 then -(nb gn r (t + 1) x) else -(-(nb gn r (t + 1) x))
        rw [ih x y s]
        by_cases c : t % 2 = 0
        · rw [if_pos c, if_neg (by omega)]
        · rw [if_neg c, if_pos (by omega), Int.neg_neg]
      | succ g ih2 =>
        intro hg
        have h1 := ih2 (by omega)
        have h2 := ih _ _ (sam_s s (show g < 7 by omega))
        have h3 := s.2.2 g (by omega)
        show (if fr g = true ∧ ¬ zand (zshr y (g : Int)) 1 = 1 then (if evn t = true then (if pfI (evn t) (gn (t % 2)) fr (pf gn fr r (t + 1)) y g < pfV (evn t) (gn (t % 2)) (pf gn fr r (t + 1)) y g then pfV (evn t) (gn (t % 2)) (pf gn fr r (t + 1)) y g else pfI (evn t) (gn (t % 2)) fr (pf gn fr r (t + 1)) y g) else (if pfV (evn t) (gn (t % 2)) (pf gn fr r (t + 1)) y g < pfI (evn t) (gn (t % 2)) fr (pf gn fr r (t + 1)) y g then pfV (evn t) (gn (t % 2)) (pf gn fr r (t + 1)) y g else pfI (evn t) (gn (t % 2)) fr (pf gn fr r (t + 1)) y g)) else pfI (evn t) (gn (t % 2)) fr (pf gn fr r (t + 1)) y g) = if t % 2 = 0 then (if zand (zshr x (g : Int)) 1 = 0 then nbI (gn (t % 2)) (nb gn r (t + 1)) x g else (if nbI (gn (t % 2)) (nb gn r (t + 1)) x g < nbV (gn (t % 2)) (nb gn r (t + 1)) x g then nbV (gn (t % 2)) (nb gn r (t + 1)) x g else nbI (gn (t % 2)) (nb gn r (t + 1)) x g)) else -(if zand (zshr x (g : Int)) 1 = 0 then nbI (gn (t % 2)) (nb gn r (t + 1)) x g else (if nbI (gn (t % 2)) (nb gn r (t + 1)) x g < nbV (gn (t % 2)) (nb gn r (t + 1)) x g then nbV (gn (t % 2)) (nb gn r (t + 1)) x g else nbI (gn (t % 2)) (nb gn r (t + 1)) x g))
        rw [h1]
        have hv : pfV (evn t) (gn (t % 2)) (pf gn fr r (t + 1)) y g = if t % 2 = 0 then nbV (gn (t % 2)) (nb gn r (t + 1)) x g else -(nbV (gn (t % 2)) (nb gn r (t + 1)) x g) := by
          unfold pfV nbV evn
          rw [h2]
          by_cases c : t % 2 = 0
          · rw [decide_eq_true c, if_pos rfl, if_neg (by omega), if_pos c]; omega
          · rw [decide_eq_false c, if_neg (by decide), if_pos (by omega), if_neg c]; omega
        rw [hv]
        generalize nbV (gn (t % 2)) (nb gn r (t + 1)) x g = V
        generalize nbI (gn (t % 2)) (nb gn r (t + 1)) x g = B
        by_cases cz : zand (zshr x (g : Int)) 1 = 0
        · rw [if_neg (fun k => (h3.2 k) cz), if_pos cz]
        · rw [if_pos (h3.1 cz), if_neg cz]
          unfold evn
          by_cases c : t % 2 = 0
          · rw [decide_eq_true c, if_pos rfl, if_pos c, if_pos c, if_pos c]
          · rw [decide_eq_false c, if_neg (by decide), if_neg c, if_neg c, if_neg c]
            by_cases c2 : B < V
            · rw [if_pos c2, if_pos (by omega)]
            · rw [if_neg c2, if_neg (by omega)]
    exact L 7 (Nat.le_refl _)
set_option maxRecDepth 100000 in
theorem nb_b (hg : ∀ p g, -1000 ≤ gn p g ∧ gn p g ≤ 1000) : ∀ (r t : Nat) (x : Int), -(1000 * (r : Int)) ≤ nb gn r t x ∧ nb gn r t x ≤ 1000 * (r : Int)
  | 0, t, x => ⟨Int.le_refl _, Int.le_refl _⟩
  | r + 1, t, x => by
    have ih := fun x => nb_b hg r (t + 1) x
    show _ ≤ nbI (gn (t % 2)) (nb gn r (t + 1)) x 7 ∧ nbI (gn (t % 2)) (nb gn r (t + 1)) x 7 ≤ _
    have L : ∀ g : Nat, -(1000 * ((r + 1 : Nat) : Int)) ≤ nbI (gn (t % 2)) (nb gn r (t + 1)) x g ∧ nbI (gn (t % 2)) (nb gn r (t + 1)) x g ≤ 1000 * ((r + 1 : Nat) : Int) := by
      intro g
      induction g with
      | zero =>
        have := ih x
        show _ ≤ -(nb gn r (t + 1) x) ∧ -(nb gn r (t + 1) x) ≤ _
        omega
      | succ g ih2 =>
        have h1 := ih (btA x g)
        have h2 := hg (t % 2) g
        show _ ≤ (if zand (zshr x (g : Int)) 1 = 0 then nbI (gn (t % 2)) (nb gn r (t + 1)) x g else (if nbI (gn (t % 2)) (nb gn r (t + 1)) x g < nbV (gn (t % 2)) (nb gn r (t + 1)) x g then nbV (gn (t % 2)) (nb gn r (t + 1)) x g else nbI (gn (t % 2)) (nb gn r (t + 1)) x g)) ∧ (if zand (zshr x (g : Int)) 1 = 0 then nbI (gn (t % 2)) (nb gn r (t + 1)) x g else (if nbI (gn (t % 2)) (nb gn r (t + 1)) x g < nbV (gn (t % 2)) (nb gn r (t + 1)) x g then nbV (gn (t % 2)) (nb gn r (t + 1)) x g else nbI (gn (t % 2)) (nb gn r (t + 1)) x g)) ≤ _
        have h3 : nbV (gn (t % 2)) (nb gn r (t + 1)) x g = gn (t % 2) g - nb gn r (t + 1) (btA x g) := rfl
        split
        · exact ih2
        · split <;> omega
    exact L 7
end PLAY
set_option maxRecDepth 100000 in
theorem b114_0 {sc : zC} {d : Nat} {a b c e : Int} {f : zF} {Q : zQ} (h : zov ((Int.tmod c (2)) * (7)) (zov (((Int.tmod c (2)) * (7)) + a) (zix (((Int.tmod c (2)) * (7)) + a) (14) (zov (c + (1)) (∃ A2 : zQ, zR sc d 113 0 [] [(0, zP (40)), (1, zI (zand b (zxor (zshl (1) a) (-1)))), (2, zI (c + (1))), (3, zI e)] 0 0 zSH f A2 ∧ ∀ (r3 : Int) (f1 : zF), zIn r3 → A2 (some (zI r3)) zSH f1 → (zov ((f (41) ((((Int.tmod c (2)) * (7)) + a).toNat)) - r3) (Q (some (zI ((f (41) ((((Int.tmod c (2)) * (7)) + a).toNat)) - r3))) zSH f1))))))) : zR sc (d + 1) 114 0 [] [(0, zP (40)), (1, zI a), (2, zI b), (3, zI c), (4, zI e)] 0 0 zSH f Q := zwn_R (stp := fun _ _ => none) (inl := fun _ => false) (nov := (fun j => bif Nat.beq j 143 then false else bif Nat.beq j 144 then false else bif Nat.beq j 242 then false else bif Nat.beq j 236 then false else bif Nat.beq j 237 then false else bif Nat.beq j 241 then false else bif Nat.beq j 239 then false else bif Nat.beq j 96 then false else true)) 29 h
set_option maxRecDepth 100000 in
theorem b113_0 {sc : zC} {d : Nat} {a b c : Int} {f : zF} {Q : zQ} (h : if b < c then (if b < 4 then (zov (b + (1)) (∃ A2 : zQ, zR sc d 113 0 [] [(0, zP (40)), (1, zI a), (2, zI (b + (1))), (3, zI c)] 0 0 zSH f A2 ∧ ∀ (r3 : Int) (f1 : zF), zIn r3 → A2 (some (zI r3)) zSH f1 → (zov (-r3) (zR sc (d + 1) 113 27 [] [(0, zP (40)), (1, zI a), (2, zI b), (3, zI c), (4, zI (-r3)), (5, zI (0))] 0 0 zSH f1 Q)))) else (Q (some (zI (0))) zSH f)) else (Q (some (zI (0))) zSH f)) : zR sc (d + 1) 113 0 [] [(0, zP (40)), (1, zI a), (2, zI b), (3, zI c)] 0 0 zSH f Q := zwn_R (stp := fun mi pc => bif Nat.beq mi 113 && Nat.beq pc 27 then some [0, 1, 2, 3, 4, 5] else none) (inl := fun _ => false) (nov := (fun j => bif Nat.beq j 143 then false else bif Nat.beq j 144 then false else bif Nat.beq j 242 then false else bif Nat.beq j 236 then false else bif Nat.beq j 237 then false else bif Nat.beq j 241 then false else bif Nat.beq j 239 then false else bif Nat.beq j 96 then false else true)) 23 h
set_option maxRecDepth 100000 in
theorem b113_27 {sc : zC} {d : Nat} {x1 x2 x3 x4 x5 : Int} {f : zF} {Q : zQ} (h : if x5 < 7 then (if zand (zshr x1 x5) (1) = 0 then (zov (x5 + 1) (zR sc (d + 1) 113 27 [] [(0, zP (40)), (1, zI x1), (2, zI x2), (3, zI x3), (4, zI x4), (5, zI (x5 + 1))] 0 0 zSH f Q)) else (∃ A2 : zQ, zR sc d 114 0 [] [(0, zP (40)), (1, zI x5), (2, zI x1), (3, zI x2), (4, zI x3)] 0 0 zSH f A2 ∧ ∀ (r3 : Int) (f1 : zF), zIn r3 → A2 (some (zI r3)) zSH f1 → (zov (x5 + 1) (zR sc (d + 1) 113 27 [] [(0, zP (40)), (1, zI x1), (2, zI x2), (3, zI x3), (4, zI (if x4 < r3 then r3 else x4)), (5, zI (x5 + 1))] 0 0 zSH f1 Q)))) else (Q (some (zI x4)) zSH f)) : zR sc (d + 1) 113 27 [] [(0, zP (40)), (1, zI x1), (2, zI x2), (3, zI x3), (4, zI x4), (5, zI x5)] 0 0 zSH f Q := zwn_R (stp := fun mi pc => bif Nat.beq mi 113 && Nat.beq pc 27 then some [0, 1, 2, 3, 4, 5] else none) (inl := fun _ => false) (nov := (fun j => bif Nat.beq j 143 then false else bif Nat.beq j 144 then false else bif Nat.beq j 242 then false else bif Nat.beq j 236 then false else bif Nat.beq j 237 then false else bif Nat.beq j 241 then false else bif Nat.beq j 239 then false else bif Nat.beq j 96 then false else true)) 26 h
set_option maxRecDepth 100000 in
theorem b111_0 {sc : zC} {d : Nat} {a : Int} {f : zF} {Q : zQ} (h : ∃ A2 : zQ, zR sc d 113 0 [] [(0, zP (40)), (1, zI (f (40) (0))), (2, zI (0)), (3, zI a)] 0 0 zSH f A2 ∧ ∀ (r3 : Int) (f1 : zF), zIn r3 → A2 (some (zI r3)) zSH f1 → (Q (some (zI r3)) zSH f1)) : zR sc (d + 1) 111 0 [] [(0, zP (40)), (1, zI a)] 0 0 zSH f Q := zwn_R (stp := fun _ _ => none) (inl := fun _ => false) (nov := (fun j => bif Nat.beq j 143 then false else bif Nat.beq j 144 then false else bif Nat.beq j 242 then false else bif Nat.beq j 236 then false else bif Nat.beq j 237 then false else bif Nat.beq j 241 then false else bif Nat.beq j 239 then false else bif Nat.beq j 96 then false else true)) 9 h
set_option maxRecDepth 100000 in
theorem b112_0 {sc : zC} {d : Nat} {a : Int} {f : zF} {Q : zQ} (h : ∃ A2 : zQ, zR sc d 113 0 [] [(0, zP (40)), (1, zI (f (40) (0))), (2, zI (1)), (3, zI a)] 0 0 zSH f A2 ∧ ∀ (r3 : Int) (f1 : zF), zIn r3 → A2 (some (zI r3)) zSH f1 → (zov (-r3) (zR sc (d + 1) 112 18 [] [(0, zP (40)), (1, zI a), (2, zI (-r3)), (3, zI (7)), (4, zI (0))] 0 0 zSH f1 Q))) : zR sc (d + 1) 112 0 [] [(0, zP (40)), (1, zI a)] 0 0 zSH f Q := zwn_R (stp := fun mi pc => bif Nat.beq mi 112 && Nat.beq pc 18 then some [0, 1, 2, 3, 4] else none) (inl := fun _ => false) (nov := (fun j => bif Nat.beq j 143 then false else bif Nat.beq j 144 then false else bif Nat.beq j 242 then false else bif Nat.beq j 236 then false else bif Nat.beq j 237 then false else bif Nat.beq j 241 then false else bif Nat.beq j 239 then false else bif Nat.beq j 96 then false else true)) 14 h
set_option maxRecDepth 100000 in
theorem b112_18 {sc : zC} {d : Nat} {x1 x2 x3 x4 : Int} {f : zF} {Q : zQ} (h : if x4 < 7 then (if zand (zshr (f (40) (0)) x4) (1) = 0 then (zov (x4 + 1) (zR sc (d + 1) 112 18 [] [(0, zP (40)), (1, zI x1), (2, zI x2), (3, zI x3), (4, zI (x4 + 1))] 0 0 zSH f Q)) else (∃ A2 : zQ, zR sc d 114 0 [] [(0, zP (40)), (1, zI x4), (2, zI (f (40) (0))), (3, zI (0)), (4, zI x1)] 0 0 zSH f A2 ∧ ∀ (r3 : Int) (f1 : zF), zIn r3 → A2 (some (zI r3)) zSH f1 → (if x2 < r3 then (zov (x4 + 1) (zR sc (d + 1) 112 18 [] [(0, zP (40)), (1, zI x1), (2, zI r3), (3, zI x4), (4, zI (x4 + 1))] 0 0 zSH f1 Q)) else (zov (x4 + 1) (zR sc (d + 1) 112 18 [] [(0, zP (40)), (1, zI x1), (2, zI x2), (3, zI x3), (4, zI (x4 + 1))] 0 0 zSH f1 Q))))) else (Q (some (zI x3)) zSH f)) : zR sc (d + 1) 112 18 [] [(0, zP (40)), (1, zI x1), (2, zI x2), (3, zI x3), (4, zI x4)] 0 0 zSH f Q := zwn_R (stp := fun mi pc => bif Nat.beq mi 112 && Nat.beq pc 18 then some [0, 1, 2, 3, 4] else none) (inl := fun _ => false) (nov := (fun j => bif Nat.beq j 143 then false else bif Nat.beq j 144 then false else bif Nat.beq j 242 then false else bif Nat.beq j 236 then false else bif Nat.beq j 237 then false else bif Nat.beq j 241 then false else bif Nat.beq j 239 then false else bif Nat.beq j 96 then false else true)) 35 h
section CPLAY
variable {gn : Nat → Nat → Int} {sc : zC} {f : zF} {G : Nat}
/-- what the class has weighed -/
def wgd (gn : Nat → Nat → Int) (G : Nat) (f : zF) : Prop := ∀ g, g < G → f 41 g = gn 0 g ∧ f 41 (7 + g) = gn 1 g
def sub7 (G : Nat) (x : Int) : Prop := (0 ≤ x ∧ x < 128) ∧ ∀ g : Nat, g < 7 → ¬ zand (zshr x (g : Int)) 1 = 0 → g < G
set_option maxRecDepth 100000 in
theorem sub7_a {x : Int} {q : Nat} (s : sub7 G x) (hq : q < 7) : sub7 G (btA x q) := by
  obtain ⟨a1, a2⟩ := bt_a s.1 hq
  refine ⟨a1, fun g hg h => ?_⟩
  rw [a2 g hg] at h
  by_cases e : g = q
  · rw [if_pos e] at h; exact absurd rfl h
  · rw [if_neg e] at h; exact s.2 g hg h
set_option maxRecDepth 100000 in
/-- one turn: given what is behind it -/
theorem c_val {d : Nat} {r t n : Nat} {x : Int} {g : Nat} {Q : zQ} (w : wgd gn G f) (hb : ∀ p g, -1000 ≤ gn p g ∧ gn p g ≤ 1000) (hG : G ≤ 7) (s : sub7 G x) (hg : g < 7) (hi : ¬ zand (zshr x (g : Int)) 1 = 0) (hr : r ≤ 4) (ht : t < 4) (H : ∀ (x : Int) (Q : zQ), sub7 G x → Q (some (zI (nb gn r (t + 1) x))) zSH f → zR sc d 113 0 [] [(0, zP 40), (1, zI x), (2, zI ((t + 1 : Nat) : Int)), (3, zI (n : Int))] 0 0 zSH f Q) (K : Q (some (zI (nbV (gn (t % 2)) (nb gn r (t + 1)) x g))) zSH f) : zR sc (d + 1) 114 0 [] [(0, zP 40), (1, zI (g : Int)), (2, zI x), (3, zI (t : Int)), (4, zI (n : Int))] 0 0 zSH f Q := by
  have h1 := hb (t % 2) g
  have h2 := nb_b hb r (t + 1) (btA x g)
  have h3 := s.2 g hg hi
  have e : Int.tmod (t : Int) 2 = ((t % 2 : Nat) : Int) := rfl
  refine b114_0 (d := d) ?_
  rw [e]
  refine zov_p (by omega) (zov_p (by omega) (zix_p (by omega) (zov_p (by omega) ?_)))
  rw [show (t : Int) + 1 = ((t + 1 : Nat) : Int) by omega]
  refine zcallE (H (btA x g) _ (sub7_a s hg) ⟨rfl, rfl⟩) ?_
  have e2 : f 41 (((t % 2 : Nat) : Int) * 7 + (g : Int)).toNat = gn (t % 2) g := by
    rcases (show t % 2 = 0 ∨ t % 2 = 1 by omega) with c | c
    · rw [c, show (((0 : Nat) : Int) * 7 + (g : Int)).toNat = g by omega]
      exact (w g h3).1
    · rw [c, show (((1 : Nat) : Int) * 7 + (g : Int)).toNat = 7 + g by omega]
      exact (w g h3).2
  rw [e2]
  exact zov_p (by omega) K
set_option maxRecDepth 100000 in
theorem c_bf (w : wgd gn G f) (hb : ∀ p g, -1000 ≤ gn p g ∧ gn p g ≤ 1000) (hG : G ≤ 7) {n : Nat} (hn : n ≤ 4) : ∀ (r d t : Nat) (x : Int) (Q : zQ), t + r = n → 2 * r + 1 ≤ d → sub7 G x → Q (some (zI (nb gn r t x))) zSH f → zR sc d 113 0 [] [(0, zP 40), (1, zI x), (2, zI (t : Int)), (3, zI (n : Int))] 0 0 zSH f Q := by
  intro r
  induction r with
  | zero =>
    intro d t x Q ht hd s K
    obtain ⟨e, rfl⟩ : ∃ e, d = e + 1 := ⟨d - 1, by omega⟩
    refine b113_0 (d := e) ?_
    rw [if_neg (by omega)]
    exact K
  | succ r ih =>
    intro d t x Q ht hd s K
    obtain ⟨e, rfl⟩ : ∃ e, d = e + 2 := ⟨d - 2, by omega⟩
    have H := fun (x : Int) (Q : zQ) (s : sub7 G x) (K : Q (some (zI (nb gn r (t + 1) x))) zSH f) => ih e (t + 1) x Q (by omega) (by omega) s K
    have b0 := nb_b hb r (t + 1) x
    refine b113_0 (d := e + 1) ?_
    rw [if_pos (by omega), if_pos (by omega)]
    refine zov_p (by omega) ?_
    rw [show (t : Int) + 1 = ((t + 1 : Nat) : Int) by omega]
    refine zcallE (zR_le (Nat.le_succ e) (H x _ s ⟨rfl, rfl⟩)) (zov_p (by omega) ?_)
    have L : ∀ g, g ≤ 7 → zR sc (e + 2) 113 27 [] [(0, zP 40), (1, zI x), (2, zI (t : Int)), (3, zI (n : Int)), (4, zI (nbI (gn (t % 2)) (nb gn r (t + 1)) x g)), (5, zI (g : Int))] 0 0 zSH f Q := by
      refine zloop 7 (fun g hg ih2 => ?_) ?_
      · refine b113_27 (d := e + 1) ?_
        rw [if_pos (by omega)]
        have s1 : nbI (gn (t % 2)) (nb gn r (t + 1)) x (g + 1) = if zand (zshr x (g : Int)) 1 = 0 then nbI (gn (t % 2)) (nb gn r (t + 1)) x g else (if nbI (gn (t % 2)) (nb gn r (t + 1)) x g < nbV (gn (t % 2)) (nb gn r (t + 1)) x g then nbV (gn (t % 2)) (nb gn r (t + 1)) x g else nbI (gn (t % 2)) (nb gn r (t + 1)) x g) := rfl
        rw [s1, show ((g + 1 : Nat) : Int) = (g : Int) + 1 by omega] at ih2
        refine zit (fun c => ?_) (fun c => ?_)
        · rw [if_pos c] at ih2
          exact zov_p (by omega) ih2
        · rw [if_neg c] at ih2
          exact zcallE (c_val (d := e) w hb hG s hg c (by omega) (by omega) H ⟨rfl, rfl⟩) (zov_p (by omega) ih2)
      · refine b113_27 (d := e + 1) ?_
        rw [if_neg (by omega)]
        exact K
    exact L 0 (Nat.zero_le _)
set_option maxRecDepth 100000 in
/-- whom the first one hires first -/
theorem c_opn (w : wgd gn G f) (hb : ∀ p g, -1000 ≤ gn p g ∧ gn p g ≤ 1000) (hG : G ≤ 7) {r d : Nat} {Q : zQ} (hn : r + 1 ≤ 4) (hd : 10 ≤ d) (s : sub7 G (f 40 0)) (K : ∀ v : Int, ((v = 7 ∧ nbI (gn 0) (nb gn r 1) (f 40 0) 7 = nbI (gn 0) (nb gn r 1) (f 40 0) 0) ∨ (∃ q : Nat, v = (q : Int) ∧ q < 7 ∧ ¬ zand (zshr (f 40 0) (q : Int)) 1 = 0 ∧ nbV (gn 0) (nb gn r 1) (f 40 0) q = nbI (gn 0) (nb gn r 1) (f 40 0) 7 ∧ nbI (gn 0) (nb gn r 1) (f 40 0) 0 < nbI (gn 0) (nb gn r 1) (f 40 0) 7 ∧ ∀ p, p < q → ¬ zand (zshr (f 40 0) (p : Int)) 1 = 0 → nbV (gn 0) (nb gn r 1) (f 40 0) p < nbI (gn 0) (nb gn r 1) (f 40 0) 7)) → Q (some (zI v)) zSH f) : zR sc (d + 1) 112 0 [] [(0, zP 40), (1, zI ((r + 1 : Nat) : Int))] 0 0 zSH f Q := by
  have H := fun (d : Nat) (hd : 8 ≤ d) (x : Int) (Q : zQ) (s : sub7 G x) (K : Q (some (zI (nb gn r 1 x))) zSH f) => c_bf (sc := sc) w hb hG hn r d 1 x Q (by omega) (by omega) s K
  have b0 := nb_b hb r 1 (f 40 0)
  refine b112_0 (d := d) ?_
  refine zcallE (H d (by omega) (f 40 0) _ s ⟨rfl, rfl⟩) (zov_p (by omega) ?_)
  have L : ∀ g, g ≤ 7 → ∀ v : Int, ((v = 7 ∧ nbI (gn 0) (nb gn r 1) (f 40 0) g = nbI (gn 0) (nb gn r 1) (f 40 0) 0) ∨ (∃ q : Nat, v = (q : Int) ∧ q < g ∧ ¬ zand (zshr (f 40 0) (q : Int)) 1 = 0 ∧ nbV (gn 0) (nb gn r 1) (f 40 0) q = nbI (gn 0) (nb gn r 1) (f 40 0) g ∧ nbI (gn 0) (nb gn r 1) (f 40 0) 0 < nbI (gn 0) (nb gn r 1) (f 40 0) g ∧ ∀ p, p < q → ¬ zand (zshr (f 40 0) (p : Int)) 1 = 0 → nbV (gn 0) (nb gn r 1) (f 40 0) p < nbI (gn 0) (nb gn r 1) (f 40 0) g)) ∧ (nbI (gn 0) (nb gn r 1) (f 40 0) 0 ≤ nbI (gn 0) (nb gn r 1) (f 40 0) g ∧ ∀ p, p < g → ¬ zand (zshr (f 40 0) (p : Int)) 1 = 0 → nbV (gn 0) (nb gn r 1) (f 40 0) p ≤ nbI (gn 0) (nb gn r 1) (f 40 0) g) → zR sc (d + 1) 112 18 [] [(0, zP 40), (1, zI ((r + 1 : Nat) : Int)), (2, zI (nbI (gn 0) (nb gn r 1) (f 40 0) g)), (3, zI v), (4, zI (g : Int))] 0 0 zSH f Q := by
    refine zloop 7 (fun g hg ih2 v hv => ?_) (fun v hv => ?_)
    · refine b112_18 (d := d) ?_
      rw [if_pos (by omega)]
      obtain ⟨hv, hm1, hm2⟩ := hv
      have s1 : nbI (gn 0) (nb gn r 1) (f 40 0) (g + 1) = if zand (zshr (f 40 0) (g : Int)) 1 = 0 then nbI (gn 0) (nb gn r 1) (f 40 0) g else (if nbI (gn 0) (nb gn r 1) (f 40 0) g < nbV (gn 0) (nb gn r 1) (f 40 0) g then nbV (gn 0) (nb gn r 1) (f 40 0) g else nbI (gn 0) (nb gn r 1) (f 40 0) g) := rfl
      rw [s1, show ((g + 1 : Nat) : Int) = (g : Int) + 1 by omega] at ih2
      refine zit (fun c => ?_) (fun c => ?_)
      · rw [if_pos c] at ih2
        refine zov_p (by omega) (ih2 v ⟨?_, hm1, fun p hp hc => ?_⟩)
        · rcases hv with h | ⟨q, h1, h2, h3⟩
          · exact Or.inl h
          · exact Or.inr ⟨q, h1, by omega, h3⟩
        · by_cases e : p = g
          · rw [e] at hc; exact absurd c hc
          · exact hm2 p (by omega) hc
      · rw [if_neg c] at ih2
        obtain ⟨e, rfl⟩ : ∃ e, d = e + 1 := ⟨d - 1, by omega⟩
        refine zcallE (c_val (d := e) (t := 0) w hb hG s hg c (by omega) (by omega) (H e (by omega)) ⟨rfl, rfl⟩) (zit (fun c2 => ?_) (fun c2 => ?_))
        · have c2 : nbI (gn 0) (nb gn r 1) (f 40 0) g < nbV (gn 0) (nb gn r 1) (f 40 0) g := c2
          rw [if_pos c2] at ih2
          refine zov_p (by omega) (ih2 (g : Int) ⟨Or.inr ⟨g, rfl, by omega, c, rfl, by omega, fun p hp hc => ?_⟩, by omega, fun p hp hc => ?_⟩)
          · have := hm2 p hp hc
            omega
          · by_cases e : p = g
            · rw [e]; exact Int.le_refl _
            · have := hm2 p (by omega) hc
              omega
        · have c2 : ¬ nbI (gn 0) (nb gn r 1) (f 40 0) g < nbV (gn 0) (nb gn r 1) (f 40 0) g := c2
          rw [if_neg c2] at ih2
          refine zov_p (by omega) (ih2 v ⟨?_, hm1, fun p hp hc => ?_⟩)
          · rcases hv with h | ⟨q, h1, h2, h3⟩
            · exact Or.inl h
            · exact Or.inr ⟨q, h1, by omega, h3⟩
          · by_cases e : p = g
            · rw [e]; omega
            · exact hm2 p (by omega) hc
    · refine b112_18 (d := d) ?_
      rw [if_neg (by omega)]
      exact K v hv.1
  exact L 0 (Nat.zero_le _) 7 ⟨Or.inl ⟨rfl, rfl⟩, Int.le_refl _, fun p hp => absurd hp (Nat.not_lt_zero p)⟩
end CPLAY
/-- what a girl is worth to a house against another one -/
def woM (M R : Nat → Int) (g h : Nat) : Int := R g - lM M g - 2 * hG M g h
set_option maxRecDepth 100000 in
theorem b232_0 {sc : zC} {d : Nat} {a b : Int} {f : zF} {Q : zQ} (h : zov ((30) + a) (zix ((30) + a) (60) (zR sc (d + 1) 232 13 [] [(0, zP (50)), (1, zI a), (2, zI b), (3, zI (f (51) (((30) + a).toNat))), (4, zI (0))] 0 0 zSH f Q))) : zR sc (d + 1) 232 0 [] [(0, zP (50)), (1, zI a), (2, zI b)] 0 0 zSH f Q := zwn_R (stp := fun mi pc => bif Nat.beq mi 232 && Nat.beq pc 13 then some [0, 1, 2, 3, 4] else none) (inl := fun j => bif Nat.beq j 14 then true else bif Nat.beq j 15 then true else bif Nat.beq j 16 then true else bif Nat.beq j 17 then true else bif Nat.beq j 18 then true else bif Nat.beq j 19 then true else bif Nat.beq j 20 then true else bif Nat.beq j 22 then true else bif Nat.beq j 23 then true else bif Nat.beq j 25 then true else bif Nat.beq j 28 then true else bif Nat.beq j 50 then true else bif Nat.beq j 51 then true else bif Nat.beq j 52 then true else bif Nat.beq j 53 then true else bif Nat.beq j 54 then true else bif Nat.beq j 55 then true else bif Nat.beq j 56 then true else bif Nat.beq j 57 then true else bif Nat.beq j 58 then true else bif Nat.beq j 59 then true else bif Nat.beq j 60 then true else bif Nat.beq j 62 then true else bif Nat.beq j 63 then true else bif Nat.beq j 64 then true else bif Nat.beq j 65 then true else bif Nat.beq j 66 then true else bif Nat.beq j 67 then true else bif Nat.beq j 68 then true else bif Nat.beq j 69 then true else bif Nat.beq j 70 then true else bif Nat.beq j 71 then true else bif Nat.beq j 72 then true else bif Nat.beq j 73 then true else bif Nat.beq j 74 then true else bif Nat.beq j 75 then true else bif Nat.beq j 76 then true else bif Nat.beq j 77 then true else bif Nat.beq j 78 then true else bif Nat.beq j 79 then true else bif Nat.beq j 85 then true else bif Nat.beq j 86 then true else bif Nat.beq j 87 then true else bif Nat.beq j 92 then true else bif Nat.beq j 93 then true else bif Nat.beq j 95 then true else bif Nat.beq j 96 then true else bif Nat.beq j 97 then true else bif Nat.beq j 98 then true else bif Nat.beq j 99 then true else bif Nat.beq j 165 then true else bif Nat.beq j 166 then true else bif Nat.beq j 167 then true else bif Nat.beq j 170 then true else bif Nat.beq j 171 then true else bif Nat.beq j 172 then true else bif Nat.beq j 173 then true else bif Nat.beq j 174 then true else bif Nat.beq j 175 then true else bif Nat.beq j 176 then true else bif Nat.beq j 177 then true else bif Nat.beq j 178 then true else bif Nat.beq j 180 then true else bif Nat.beq j 181 then true else bif Nat.beq j 182 then true else bif Nat.beq j 183 then true else bif Nat.beq j 184 then true else bif Nat.beq j 185 then true else bif Nat.beq j 186 then true else bif Nat.beq j 187 then true else bif Nat.beq j 188 then true else bif Nat.beq j 191 then true else bif Nat.beq j 194 then true else bif Nat.beq j 200 then true else bif Nat.beq j 204 then true else bif Nat.beq j 205 then true else bif Nat.beq j 206 then true else bif Nat.beq j 209 then true else bif Nat.beq j 215 then true else bif Nat.beq j 220 then true else bif Nat.beq j 223 then true else bif Nat.beq j 224 then true else bif Nat.beq j 237 then true else bif Nat.beq j 238 then true else bif Nat.beq j 239 then true else bif Nat.beq j 240 then true else bif Nat.beq j 243 then true else bif Nat.beq j 244 then true else bif Nat.beq j 245 then true else bif Nat.beq j 246 then true else bif Nat.beq j 247 then true else bif Nat.beq j 252 then true else bif Nat.beq j 253 then true else bif Nat.beq j 254 then true else bif Nat.beq j 255 then true else bif Nat.beq j 257 then true else bif Nat.beq j 258 then true else bif Nat.beq j 259 then true else bif Nat.beq j 260 then true else bif Nat.beq j 263 then true else false) (nov := (fun j => bif Nat.beq j 143 then false else bif Nat.beq j 144 then false else bif Nat.beq j 242 then false else bif Nat.beq j 236 then false else bif Nat.beq j 237 then false else bif Nat.beq j 241 then false else bif Nat.beq j 239 then false else bif Nat.beq j 96 then false else true)) 11 h
set_option maxRecDepth 100000 in
theorem b232_13 {sc : zC} {d : Nat} {x1 x2 x3 x4 : Int} {f : zF} {Q : zQ} (h : if x4 < 24 then (zov ((24) * x1) (zov (((24) * x1) + x4) (zix (((24) * x1) + x4) (168) (zov (x3 - (f (55) ((((24) * x1) + x4).toNat))) (zov (x4 + 1) (zR sc (d + 1) 232 13 [] [(0, zP (50)), (1, zI x1), (2, zI x2), (3, zI (x3 - (f (55) ((((24) * x1) + x4).toNat)))), (4, zI (x4 + 1))] 0 0 zSH f Q)))))) else (zR sc (d + 1) 232 44 [] [(0, zP (50)), (1, zI x1), (2, zI x2), (3, zI x3), (4, zI (0))] 0 0 zSH f Q)) : zR sc (d + 1) 232 13 [] [(0, zP (50)), (1, zI x1), (2, zI x2), (3, zI x3), (4, zI x4)] 0 0 zSH f Q := zwn_R (stp := fun mi pc => bif Nat.beq mi 232 && Nat.beq pc 13 then some [0, 1, 2, 3, 4] else bif Nat.beq mi 232 && Nat.beq pc 44 then some [0, 1, 2, 3, 4] else none) (inl := fun j => bif Nat.beq j 14 then true else bif Nat.beq j 15 then true else bif Nat.beq j 16 then true else bif Nat.beq j 17 then true else bif Nat.beq j 18 then true else bif Nat.beq j 19 then true else bif Nat.beq j 20 then true else bif Nat.beq j 22 then true else bif Nat.beq j 23 then true else bif Nat.beq j 25 then true else bif Nat.beq j 28 then true else bif Nat.beq j 50 then true else bif Nat.beq j 51 then true else bif Nat.beq j 52 then true else bif Nat.beq j 53 then true else bif Nat.beq j 54 then true else bif Nat.beq j 55 then true else bif Nat.beq j 56 then true else bif Nat.beq j 57 then true else bif Nat.beq j 58 then true else bif Nat.beq j 59 then true else bif Nat.beq j 60 then true else bif Nat.beq j 62 then true else bif Nat.beq j 63 then true else bif Nat.beq j 64 then true else bif Nat.beq j 65 then true else bif Nat.beq j 66 then true else bif Nat.beq j 67 then true else bif Nat.beq j 68 then true else bif Nat.beq j 69 then true else bif Nat.beq j 70 then true else bif Nat.beq j 71 then true else bif Nat.beq j 72 then true else bif Nat.beq j 73 then true else bif Nat.beq j 74 then true else bif Nat.beq j 75 then true else bif Nat.beq j 76 then true else bif Nat.beq j 77 then true else bif Nat.beq j 78 then true else bif Nat.beq j 79 then true else bif Nat.beq j 85 then true else bif Nat.beq j 86 then true else bif Nat.beq j 87 then true else bif Nat.beq j 92 then true else bif Nat.beq j 93 then true else bif Nat.beq j 95 then true else bif Nat.beq j 96 then true else bif Nat.beq j 97 then true else bif Nat.beq j 98 then true else bif Nat.beq j 99 then true else bif Nat.beq j 165 then true else bif Nat.beq j 166 then true else bif Nat.beq j 167 then true else bif Nat.beq j 170 then true else bif Nat.beq j 171 then true else bif Nat.beq j 172 then true else bif Nat.beq j 173 then true else bif Nat.beq j 174 then true else bif Nat.beq j 175 then true else bif Nat.beq j 176 then true else bif Nat.beq j 177 then true else bif Nat.beq j 178 then true else bif Nat.beq j 180 then true else bif Nat.beq j 181 then true else bif Nat.beq j 182 then true else bif Nat.beq j 183 then true else bif Nat.beq j 184 then true else bif Nat.beq j 185 then true else bif Nat.beq j 186 then true else bif Nat.beq j 187 then true else bif Nat.beq j 188 then true else bif Nat.beq j 191 then true else bif Nat.beq j 194 then true else bif Nat.beq j 200 then true else bif Nat.beq j 204 then true else bif Nat.beq j 205 then true else bif Nat.beq j 206 then true else bif Nat.beq j 209 then true else bif Nat.beq j 215 then true else bif Nat.beq j 220 then true else bif Nat.beq j 223 then true else bif Nat.beq j 224 then true else bif Nat.beq j 237 then true else bif Nat.beq j 238 then true else bif Nat.beq j 239 then true else bif Nat.beq j 240 then true else bif Nat.beq j 243 then true else bif Nat.beq j 244 then true else bif Nat.beq j 245 then true else bif Nat.beq j 246 then true else bif Nat.beq j 247 then true else bif Nat.beq j 252 then true else bif Nat.beq j 253 then true else bif Nat.beq j 254 then true else bif Nat.beq j 255 then true else bif Nat.beq j 257 then true else bif Nat.beq j 258 then true else bif Nat.beq j 259 then true else bif Nat.beq j 260 then true else bif Nat.beq j 263 then true else false) (nov := (fun j => bif Nat.beq j 143 then false else bif Nat.beq j 144 then false else bif Nat.beq j 242 then false else bif Nat.beq j 236 then false else bif Nat.beq j 237 then false else bif Nat.beq j 241 then false else bif Nat.beq j 239 then false else bif Nat.beq j 96 then false else true)) 20 h
set_option maxRecDepth 100000 in
theorem b232_44 {sc : zC} {d : Nat} {x1 x2 x3 x4 : Int} {f : zF} {Q : zQ} (h : if x4 < 4 then (zov ((24) * x1) (zov ((4) * x2) (zov (((24) * x1) + ((4) * x2)) (zov ((((24) * x1) + ((4) * x2)) + x4) (zix ((((24) * x1) + ((4) * x2)) + x4) (168) (zov ((2) * (f (55) (((((24) * x1) + ((4) * x2)) + x4).toNat))) (zov (x3 - ((2) * (f (55) (((((24) * x1) + ((4) * x2)) + x4).toNat)))) (zov (x4 + 1) (zR sc (d + 1) 232 44 [] [(0, zP (50)), (1, zI x1), (2, zI x2), (3, zI (x3 - ((2) * (f (55) (((((24) * x1) + ((4) * x2)) + x4).toNat))))), (4, zI (x4 + 1))] 0 0 zSH f Q))))))))) else (Q (some (zI x3)) zSH f)) : zR sc (d + 1) 232 44 [] [(0, zP (50)), (1, zI x1), (2, zI x2), (3, zI x3), (4, zI x4)] 0 0 zSH f Q := zwn_R (stp := fun mi pc => bif Nat.beq mi 232 && Nat.beq pc 44 then some [0, 1, 2, 3, 4] else none) (inl := fun j => bif Nat.beq j 14 then true else bif Nat.beq j 15 then true else bif Nat.beq j 16 then true else bif Nat.beq j 17 then true else bif Nat.beq j 18 then true else bif Nat.beq j 19 then true else bif Nat.beq j 20 then true else bif Nat.beq j 22 then true else bif Nat.beq j 23 then true else bif Nat.beq j 25 then true else bif Nat.beq j 28 then true else bif Nat.beq j 50 then true else bif Nat.beq j 51 then true else bif Nat.beq j 52 then true else bif Nat.beq j 53 then true else bif Nat.beq j 54 then true else bif Nat.beq j 55 then true else bif Nat.beq j 56 then true else bif Nat.beq j 57 then true else bif Nat.beq j 58 then true else bif Nat.beq j 59 then true else bif Nat.beq j 60 then true else bif Nat.beq j 62 then true else bif Nat.beq j 63 then true else bif Nat.beq j 64 then true else bif Nat.beq j 65 then true else bif Nat.beq j 66 then true else bif Nat.beq j 67 then true else bif Nat.beq j 68 then true else bif Nat.beq j 69 then true else bif Nat.beq j 70 then true else bif Nat.beq j 71 then true else bif Nat.beq j 72 then true else bif Nat.beq j 73 then true else bif Nat.beq j 74 then true else bif Nat.beq j 75 then true else bif Nat.beq j 76 then true else bif Nat.beq j 77 then true else bif Nat.beq j 78 then true else bif Nat.beq j 79 then true else bif Nat.beq j 85 then true else bif Nat.beq j 86 then true else bif Nat.beq j 87 then true else bif Nat.beq j 92 then true else bif Nat.beq j 93 then true else bif Nat.beq j 95 then true else bif Nat.beq j 96 then true else bif Nat.beq j 97 then true else bif Nat.beq j 98 then true else bif Nat.beq j 99 then true else bif Nat.beq j 165 then true else bif Nat.beq j 166 then true else bif Nat.beq j 167 then true else bif Nat.beq j 170 then true else bif Nat.beq j 171 then true else bif Nat.beq j 172 then true else bif Nat.beq j 173 then true else bif Nat.beq j 174 then true else bif Nat.beq j 175 then true else bif Nat.beq j 176 then true else bif Nat.beq j 177 then true else bif Nat.beq j 178 then true else bif Nat.beq j 180 then true else bif Nat.beq j 181 then true else bif Nat.beq j 182 then true else bif Nat.beq j 183 then true else bif Nat.beq j 184 then true else bif Nat.beq j 185 then true else bif Nat.beq j 186 then true else bif Nat.beq j 187 then true else bif Nat.beq j 188 then true else bif Nat.beq j 191 then true else bif Nat.beq j 194 then true else bif Nat.beq j 200 then true else bif Nat.beq j 204 then true else bif Nat.beq j 205 then true else bif Nat.beq j 206 then true else bif Nat.beq j 209 then true else bif Nat.beq j 215 then true else bif Nat.beq j 220 then true else bif Nat.beq j 223 then true else bif Nat.beq j 224 then true else bif Nat.beq j 237 then true else bif Nat.beq j 238 then true else bif Nat.beq j 239 then true else bif Nat.beq j 240 then true else bif Nat.beq j 243 then true else bif Nat.beq j 244 then true else bif Nat.beq j 245 then true else bif Nat.beq j 246 then true else bif Nat.beq j 247 then true else bif Nat.beq j 252 then true else bif Nat.beq j 253 then true else bif Nat.beq j 254 then true else bif Nat.beq j 255 then true else bif Nat.beq j 257 then true else bif Nat.beq j 258 then true else bif Nat.beq j 259 then true else bif Nat.beq j 260 then true else bif Nat.beq j 263 then true else false) (nov := (fun j => bif Nat.beq j 143 then false else bif Nat.beq j 144 then false else bif Nat.beq j 242 then false else bif Nat.beq j 236 then false else bif Nat.beq j 237 then false else bif Nat.beq j 241 then false else bif Nat.beq j 239 then false else bif Nat.beq j 96 then false else true)) 26 h
set_option maxRecDepth 100000 in
theorem b233_0 {sc : zC} {d : Nat} {a b c e g : Int} {f : zF} {Q : zQ} (h : if c = e then (Q (some (zI (0))) zSH f) else (zov (c + (1)) (∃ A2 : zQ, zR sc d 233 0 [] [(0, zP (50)), (1, zI a), (2, zI b), (3, zI (c + (1))), (4, zI e), (5, zI g)] 0 0 zSH f A2 ∧ ∀ (r3 : Int) (f1 : zF), zIn r3 → A2 (some (zI r3)) zSH f1 → (zR sc (d + 1) 233 26 [] [(0, zP (50)), (1, zI a), (2, zI b), (3, zI c), (4, zI e), (5, zI g), (6, zI r3), (7, zI (0))] 0 0 zSH f1 Q)))) : zR sc (d + 1) 233 0 [] [(0, zP (50)), (1, zI a), (2, zI b), (3, zI c), (4, zI e), (5, zI g)] 0 0 zSH f Q := zwn_R (stp := fun mi pc => bif Nat.beq mi 233 && Nat.beq pc 26 then some [0, 1, 2, 3, 4, 5, 6, 7] else none) (inl := fun j => bif Nat.beq j 14 then true else bif Nat.beq j 15 then true else bif Nat.beq j 16 then true else bif Nat.beq j 17 then true else bif Nat.beq j 18 then true else bif Nat.beq j 19 then true else bif Nat.beq j 20 then true else bif Nat.beq j 22 then true else bif Nat.beq j 23 then true else bif Nat.beq j 25 then true else bif Nat.beq j 28 then true else bif Nat.beq j 50 then true else bif Nat.beq j 51 then true else bif Nat.beq j 52 then true else bif Nat.beq j 53 then true else bif Nat.beq j 54 then true else bif Nat.beq j 55 then true else bif Nat.beq j 56 then true else bif Nat.beq j 57 then true else bif Nat.beq j 58 then true else bif Nat.beq j 59 then true else bif Nat.beq j 60 then true else bif Nat.beq j 62 then true else bif Nat.beq j 63 then true else bif Nat.beq j 64 then true else bif Nat.beq j 65 then true else bif Nat.beq j 66 then true else bif Nat.beq j 67 then true else bif Nat.beq j 68 then true else bif Nat.beq j 69 then true else bif Nat.beq j 70 then true else bif Nat.beq j 71 then true else bif Nat.beq j 72 then true else bif Nat.beq j 73 then true else bif Nat.beq j 74 then true else bif Nat.beq j 75 then true else bif Nat.beq j 76 then true else bif Nat.beq j 77 then true else bif Nat.beq j 78 then true else bif Nat.beq j 79 then true else bif Nat.beq j 85 then true else bif Nat.beq j 86 then true else bif Nat.beq j 87 then true else bif Nat.beq j 92 then true else bif Nat.beq j 93 then true else bif Nat.beq j 95 then true else bif Nat.beq j 96 then true else bif Nat.beq j 97 then true else bif Nat.beq j 98 then true else bif Nat.beq j 99 then true else bif Nat.beq j 165 then true else bif Nat.beq j 166 then true else bif Nat.beq j 167 then true else bif Nat.beq j 170 then true else bif Nat.beq j 171 then true else bif Nat.beq j 172 then true else bif Nat.beq j 173 then true else bif Nat.beq j 174 then true else bif Nat.beq j 175 then true else bif Nat.beq j 176 then true else bif Nat.beq j 177 then true else bif Nat.beq j 178 then true else bif Nat.beq j 180 then true else bif Nat.beq j 181 then true else bif Nat.beq j 182 then true else bif Nat.beq j 183 then true else bif Nat.beq j 184 then true else bif Nat.beq j 185 then true else bif Nat.beq j 186 then true else bif Nat.beq j 187 then true else bif Nat.beq j 188 then true else bif Nat.beq j 191 then true else bif Nat.beq j 194 then true else bif Nat.beq j 200 then true else bif Nat.beq j 204 then true else bif Nat.beq j 205 then true else bif Nat.beq j 206 then true else bif Nat.beq j 209 then true else bif Nat.beq j 215 then true else bif Nat.beq j 220 then true else bif Nat.beq j 223 then true else bif Nat.beq j 224 then true else bif Nat.beq j 237 then true else bif Nat.beq j 238 then true else bif Nat.beq j 239 then true else bif Nat.beq j 240 then true else bif Nat.beq j 243 then true else bif Nat.beq j 244 then true else bif Nat.beq j 245 then true else bif Nat.beq j 246 then true else bif Nat.beq j 247 then true else bif Nat.beq j 252 then true else bif Nat.beq j 253 then true else bif Nat.beq j 254 then true else bif Nat.beq j 255 then true else bif Nat.beq j 257 then true else bif Nat.beq j 258 then true else bif Nat.beq j 259 then true else bif Nat.beq j 260 then true else bif Nat.beq j 263 then true else false) (nov := (fun j => bif Nat.beq j 143 then false else bif Nat.beq j 144 then false else bif Nat.beq j 242 then false else bif Nat.beq j 236 then false else bif Nat.beq j 237 then false else bif Nat.beq j 241 then false else bif Nat.beq j 239 then false else bif Nat.beq j 96 then false else true)) 19 h
set_option maxRecDepth 100000 in
theorem b233_26 {sc : zC} {d : Nat} {x1 x2 x3 x4 x5 x6 x7 : Int} {f : zF} {Q : zQ} (h : if x7 < f (50) (7) then (zov ((44) + x7) (zix ((44) + x7) (60) (if f (51) (((44) + x7).toNat) < 0 then (if zand (zshr x5 x7) (1) = 1 then (zov (x7 + 1) (zR sc (d + 1) 233 26 [] [(0, zP (50)), (1, zI x1), (2, zI x2), (3, zI x3), (4, zI x4), (5, zI x5), (6, zI x6), (7, zI (x7 + 1))] 0 0 zSH f Q)) else (zov (x3 + (1)) (∃ A2 : zQ, zR sc d 233 0 [] [(0, zP (50)), (1, zI x1), (2, zI x2), (3, zI (x3 + (1))), (4, zI x4), (5, zI (zor x5 (zshl (1) x7)))] 0 0 zSH f A2 ∧ ∀ (r3 : Int) (f1 : zF), zIn r3 → A2 (some (zI r3)) zSH f1 → (if Int.tmod x3 (2) = 0 then (∃ A5 : zQ, zR sc d 232 0 [] [(0, zP (50)), (1, zI x7), (2, zI x2)] 0 0 zSH f1 A5 ∧ ∀ (r6 : Int) (f4 : zF), zIn r6 → A5 (some (zI r6)) zSH f4 → (zov (r3 + r6) (if Int.tmod x3 (2) = 0 then (if x6 < r3 + r6 then (zov (x7 + 1) (zR sc (d + 1) 233 26 [] [(0, zP (50)), (1, zI x1), (2, zI x2), (3, zI x3), (4, zI x4), (5, zI x5), (6, zI (r3 + r6)), (7, zI (x7 + 1))] 0 0 zSH f4 Q)) else (zov (x7 + 1) (zR sc (d + 1) 233 26 [] [(0, zP (50)), (1, zI x1), (2, zI x2), (3, zI x3), (4, zI x4), (5, zI x5), (6, zI x6), (7, zI (x7 + 1))] 0 0 zSH f4 Q))) else (if r3 + r6 < x6 then (zov (x7 + 1) (zR sc (d + 1) 233 26 [] [(0, zP (50)), (1, zI x1), (2, zI x2), (3, zI x3), (4, zI x4), (5, zI x5), (6, zI (r3 + r6)), (7, zI (x7 + 1))] 0 0 zSH f4 Q)) else (zov (x7 + 1) (zR sc (d + 1) 233 26 [] [(0, zP (50)), (1, zI x1), (2, zI x2), (3, zI x3), (4, zI x4), (5, zI x5), (6, zI x6), (7, zI (x7 + 1))] 0 0 zSH f4 Q)))))) else (∃ A8 : zQ, zR sc d 232 0 [] [(0, zP (50)), (1, zI x7), (2, zI x1)] 0 0 zSH f1 A8 ∧ ∀ (r9 : Int) (f7 : zF), zIn r9 → A8 (some (zI r9)) zSH f7 → (zov (-r9) (zov (r3 + (-r9)) (if Int.tmod x3 (2) = 0 then (if x6 < r3 + (-r9) then (zov (x7 + 1) (zR sc (d + 1) 233 26 [] [(0, zP (50)), (1, zI x1), (2, zI x2), (3, zI x3), (4, zI x4), (5, zI x5), (6, zI (r3 + (-r9))), (7, zI (x7 + 1))] 0 0 zSH f7 Q)) else (zov (x7 + 1) (zR sc (d + 1) 233 26 [] [(0, zP (50)), (1, zI x1), (2, zI x2), (3, zI x3), (4, zI x4), (5, zI x5), (6, zI x6), (7, zI (x7 + 1))] 0 0 zSH f7 Q))) else (if r3 + (-r9) < x6 then (zov (x7 + 1) (zR sc (d + 1) 233 26 [] [(0, zP (50)), (1, zI x1), (2, zI x2), (3, zI x3), (4, zI x4), (5, zI x5), (6, zI (r3 + (-r9))), (7, zI (x7 + 1))] 0 0 zSH f7 Q)) else (zov (x7 + 1) (zR sc (d + 1) 233 26 [] [(0, zP (50)), (1, zI x1), (2, zI x2), (3, zI x3), (4, zI x4), (5, zI x5), (6, zI x6), (7, zI (x7 + 1))] 0 0 zSH f7 Q))))))))))) else (zov (x7 + 1) (zR sc (d + 1) 233 26 [] [(0, zP (50)), (1, zI x1), (2, zI x2), (3, zI x3), (4, zI x4), (5, zI x5), (6, zI x6), (7, zI (x7 + 1))] 0 0 zSH f Q))))) else (Q (some (zI x6)) zSH f)) : zR sc (d + 1) 233 26 [] [(0, zP (50)), (1, zI x1), (2, zI x2), (3, zI x3), (4, zI x4), (5, zI x5), (6, zI x6), (7, zI x7)] 0 0 zSH f Q := zwn_R (stp := fun mi pc => bif Nat.beq mi 233 && Nat.beq pc 26 then some [0, 1, 2, 3, 4, 5, 6, 7] else none) (inl := fun j => bif Nat.beq j 14 then true else bif Nat.beq j 15 then true else bif Nat.beq j 16 then true else bif Nat.beq j 17 then true else bif Nat.beq j 18 then true else bif Nat.beq j 19 then true else bif Nat.beq j 20 then true else bif Nat.beq j 22 then true else bif Nat.beq j 23 then true else bif Nat.beq j 25 then true else bif Nat.beq j 28 then true else bif Nat.beq j 50 then true else bif Nat.beq j 51 then true else bif Nat.beq j 52 then true else bif Nat.beq j 53 then true else bif Nat.beq j 54 then true else bif Nat.beq j 55 then true else bif Nat.beq j 56 then true else bif Nat.beq j 57 then true else bif Nat.beq j 58 then true else bif Nat.beq j 59 then true else bif Nat.beq j 60 then true else bif Nat.beq j 62 then true else bif Nat.beq j 63 then true else bif Nat.beq j 64 then true else bif Nat.beq j 65 then true else bif Nat.beq j 66 then true else bif Nat.beq j 67 then true else bif Nat.beq j 68 then true else bif Nat.beq j 69 then true else bif Nat.beq j 70 then true else bif Nat.beq j 71 then true else bif Nat.beq j 72 then true else bif Nat.beq j 73 then true else bif Nat.beq j 74 then true else bif Nat.beq j 75 then true else bif Nat.beq j 76 then true else bif Nat.beq j 77 then true else bif Nat.beq j 78 then true else bif Nat.beq j 79 then true else bif Nat.beq j 85 then true else bif Nat.beq j 86 then true else bif Nat.beq j 87 then true else bif Nat.beq j 92 then true else bif Nat.beq j 93 then true else bif Nat.beq j 95 then true else bif Nat.beq j 96 then true else bif Nat.beq j 97 then true else bif Nat.beq j 98 then true else bif Nat.beq j 99 then true else bif Nat.beq j 165 then true else bif Nat.beq j 166 then true else bif Nat.beq j 167 then true else bif Nat.beq j 170 then true else bif Nat.beq j 171 then true else bif Nat.beq j 172 then true else bif Nat.beq j 173 then true else bif Nat.beq j 174 then true else bif Nat.beq j 175 then true else bif Nat.beq j 176 then true else bif Nat.beq j 177 then true else bif Nat.beq j 178 then true else bif Nat.beq j 180 then true else bif Nat.beq j 181 then true else bif Nat.beq j 182 then true else bif Nat.beq j 183 then true else bif Nat.beq j 184 then true else bif Nat.beq j 185 then true else bif Nat.beq j 186 then true else bif Nat.beq j 187 then true else bif Nat.beq j 188 then true else bif Nat.beq j 191 then true else bif Nat.beq j 194 then true else bif Nat.beq j 200 then true else bif Nat.beq j 204 then true else bif Nat.beq j 205 then true else bif Nat.beq j 206 then true else bif Nat.beq j 209 then true else bif Nat.beq j 215 then true else bif Nat.beq j 220 then true else bif Nat.beq j 223 then true else bif Nat.beq j 224 then true else bif Nat.beq j 237 then true else bif Nat.beq j 238 then true else bif Nat.beq j 239 then true else bif Nat.beq j 240 then true else bif Nat.beq j 243 then true else bif Nat.beq j 244 then true else bif Nat.beq j 245 then true else bif Nat.beq j 246 then true else bif Nat.beq j 247 then true else bif Nat.beq j 252 then true else bif Nat.beq j 253 then true else bif Nat.beq j 254 then true else bif Nat.beq j 255 then true else bif Nat.beq j 257 then true else bif Nat.beq j 258 then true else bif Nat.beq j 259 then true else bif Nat.beq j 260 then true else bif Nat.beq j 263 then true else false) (nov := (fun j => bif Nat.beq j 143 then false else bif Nat.beq j 144 then false else bif Nat.beq j 242 then false else bif Nat.beq j 236 then false else bif Nat.beq j 237 then false else bif Nat.beq j 241 then false else bif Nat.beq j 239 then false else bif Nat.beq j 96 then false else true)) 127 h
section RPLAY
variable {M R : Nat → Int} {sc : zC} {f : zF} {G g h : Nat} {d : Nat} {Q : zQ} {gn : Nat → Nat → Int} {fr : Nat → Bool}
set_option maxRecDepth 100000 in
theorem woM_b (b : hB M) (hl : ∀ g, g < 7 → lM M g ≤ 99) (hR : ∀ g, g < 7 → 0 ≤ R g ∧ R g ≤ 99) (hg : g < 7) (hh : h < 6) : -1000 ≤ woM M R g h ∧ woM M R g h ≤ 1000 := by
  have h1 := hG_b b hg hh
  have h2 := hl g hg
  have h3 := hR g hg
  have h4 : 0 ≤ lM M g := sN_0 24 (fun k hk => (b _ (by omega)).1)
  unfold woM
  omega
set_option maxRecDepth 100000 in
theorem r_wth (b : hB M) (hl : ∀ g, g < 7 → lM M g ≤ 99) (hR : ∀ g, g < 7 → 0 ≤ R g ∧ R g ≤ 99) (e55 : ∀ j, j < 168 → f 55 j = M j) (e51 : ∀ g, g < 7 → f 51 (30 + g) = R g) (hg : g < 7) (hh : h < 6) (K : Q (some (zI (woM M R g h))) zSH f) : zR sc (d + 1) 232 0 [] [(0, zP 50), (1, zI (g : Int)), (2, zI (h : Int))] 0 0 zSH f Q := by
  have h2 := hl g hg
  have h3 := hR g hg
  have h4 : 0 ≤ lM M g := sN_0 24 (fun k hk => (b _ (by omega)).1)
  have h5 := hG_b b hg hh
  refine b232_0 (d := d) ?_
  rw [show (30 + (g : Int)).toNat = 30 + g by omega, e51 g hg]
  refine zov_p (by omega) (zix_p (by omega) ?_)
  have L2 : ∀ n, n ≤ 4 → zR sc (d + 1) 232 44 [] [(0, zP 50), (1, zI (g : Int)), (2, zI (h : Int)), (3, zI (R g - lM M g - 2 * sN (fun k => M (24 * g + (4 * h + k))) n)), (4, zI (n : Int))] 0 0 zSH f Q := by
    refine zloop 4 (fun n hn ih => ?_) ?_
    · refine b232_44 (d := d) ?_
      have b0 := sN_0 (F := fun k => M (24 * g + (4 * h + k))) n (fun k hk => (b _ (by omega)).1)
      have b1 := sN_u (F := fun k => M (24 * g + (4 * h + k))) (c := 99) n (fun k hk => (b _ (by omega)).2)
      have b2 := b (24 * g + (4 * h + n)) (by omega)
      have x : 24 * (g : Int) + 4 * (h : Int) + (n : Int) = ((24 * g + (4 * h + n) : Nat) : Int) := by omega
      have s : sN (fun k => M (24 * g + (4 * h + k))) (n + 1) = sN (fun k => M (24 * g + (4 * h + k))) n + M (24 * g + (4 * h + n)) := rfl
      rw [if_pos (by omega), x, Int.toNat_natCast, e55 _ (by omega)]
      repeat' (first | (refine zix_p (by omega) ?_) | (refine zov_p (by omega) ?_))
      rw [show (n : Int) + 1 = ((n + 1 : Nat) : Int) by omega]
      rw [s, show R g - lM M g - 2 * (sN (fun k => M (24 * g + (4 * h + k))) n + M (24 * g + (4 * h + n))) = R g - lM M g - 2 * sN (fun k => M (24 * g + (4 * h + k))) n - 2 * M (24 * g + (4 * h + n)) by omega] at ih
      exact ih
    · refine b232_44 (d := d) ?_
      rw [if_neg (by omega)]
      exact K
  have L1 : ∀ n, n ≤ 24 → zR sc (d + 1) 232 13 [] [(0, zP 50), (1, zI (g : Int)), (2, zI (h : Int)), (3, zI (R g - sN (fun k => M (24 * g + k)) n)), (4, zI (n : Int))] 0 0 zSH f Q := by
    refine zloop 24 (fun n hn ih => ?_) ?_
    · refine b232_13 (d := d) ?_
      have b0 := sN_0 (F := fun k => M (24 * g + k)) n (fun k hk => (b _ (by omega)).1)
      have b1 := sN_u (F := fun k => M (24 * g + k)) (c := 99) n (fun k hk => (b _ (by omega)).2)
      have b2 := b (24 * g + n) (by omega)
      have x : 24 * (g : Int) + (n : Int) = ((24 * g + n : Nat) : Int) := by omega
      have s : sN (fun k => M (24 * g + k)) (n + 1) = sN (fun k => M (24 * g + k)) n + M (24 * g + n) := rfl
      rw [if_pos (by omega), x, Int.toNat_natCast, e55 _ (by omega)]
      repeat' (first | (refine zix_p (by omega) ?_) | (refine zov_p (by omega) ?_))
      rw [show (n : Int) + 1 = ((n + 1 : Nat) : Int) by omega]
      rw [s, show R g - (sN (fun k => M (24 * g + k)) n + M (24 * g + n)) = R g - sN (fun k => M (24 * g + k)) n - M (24 * g + n) by omega] at ih
      exact ih
    · refine b232_13 (d := d) ?_
      rw [if_neg (by omega)]
      have := L2 0 (Nat.zero_le _)
      rw [show R g - lM M g - 2 * sN (fun k => M (24 * g + (4 * h + k))) 0 = R g - lM M g from Int.sub_zero _] at this
      exact this
  have := L1 0 (Nat.zero_le _)
  rw [show R g - sN (fun k => M (24 * g + k)) 0 = R g from Int.sub_zero _] at this
  exact this
set_option maxRecDepth 100000 in
theorem pfI_to {ev : Bool} {wv : Nat → Int} {F : Int → Int} {y : Int} (hf : ∀ g, G ≤ g → ¬ fr g = true) : ∀ n, pfI ev wv fr F y (G + n) = pfI ev wv fr F y G
  | 0 => rfl
  | n + 1 => (if_neg (fun h => hf (G + n) (Nat.le_add_right _ _) h.1)).trans (pfI_to hf n)
set_option maxRecDepth 100000 in
theorem r_pl {o t2 : Nat} (b : hB M) (hl : ∀ g, g < 7 → lM M g ≤ 99) (hR : ∀ g, g < 7 → 0 ≤ R g ∧ R g ≤ 99) (e55 : ∀ j, j < 168 → f 55 j = M j) (e51 : ∀ g, g < 7 → f 51 (30 + g) = R g) (h7 : f 50 7 = (G : Int)) (hG : G ≤ 7) (ho : o < 6) (ht2 : t2 < 6) (hgn : ∀ g, g < G → gn 0 g = woM M R g t2 ∧ gn 1 g = woM M R g o) (hb : ∀ p g, -1000 ≤ gn p g ∧ gn p g ≤ 1000) (hf : ∀ g, g < G → (fr g = true ↔ f 51 (44 + g) < 0)) (hf2 : ∀ g, G ≤ g → ¬ fr g = true) {n : Nat} (hn : n ≤ 4) (hs : ∀ y : Int, 0 ≤ y ∧ y < 128 → ∃ x, sam fr x y) : ∀ (r d t : Nat) (y : Int) (Q : zQ), t + r = n → r + 2 ≤ d → 0 ≤ y ∧ y < 128 → Q (some (zI (pf gn fr r t y))) zSH f → zR sc d 233 0 [] [(0, zP 50), (1, zI (o : Int)), (2, zI (t2 : Int)), (3, zI (t : Int)), (4, zI (n : Int)), (5, zI y)] 0 0 zSH f Q := by
  intro r
  induction r with
  | zero =>
    intro d t y Q ht hd hy K
    obtain ⟨e, rfl⟩ : ∃ e, d = e + 1 := ⟨d - 1, by omega⟩
    refine b233_0 (d := e) ?_
    rw [if_pos (by omega)]
    exact K
  | succ r ih =>
    intro d t y Q ht hd hy K
    obtain ⟨e, rfl⟩ : ∃ e, d = e + 1 := ⟨d - 1, by omega⟩
    have H := fun (y : Int) (Q : zQ) (hy : 0 ≤ y ∧ y < 128) (K : Q (some (zI (pf gn fr r (t + 1) y))) zSH f) => ih e (t + 1) y Q (by omega) (by omega) hy K
    have pb : ∀ y : Int, 0 ≤ y ∧ y < 128 → -4000 ≤ pf gn fr r (t + 1) y ∧ pf gn fr r (t + 1) y ≤ 4000 := fun y hy => by
      obtain ⟨x, hx⟩ := hs y hy
      have h1 := pf_nb (gn := gn) r (t + 1) x y hx
      have h2 := nb_b hb r (t + 1) x
      rw [h1]
      split <;> omega
    have tm : Int.tmod (t : Int) 2 = ((t % 2 : Nat) : Int) := rfl
    refine b233_0 (d := e) ?_
    rw [if_neg (by omega)]
    refine zov_p (by omega) ?_
    rw [show (t : Int) + 1 = ((t + 1 : Nat) : Int) by omega]
    refine zcallE (H y _ hy ⟨rfl, rfl⟩) ?_
    have L : ∀ g, g ≤ G → zR sc (e + 1) 233 26 [] [(0, zP 50), (1, zI (o : Int)), (2, zI (t2 : Int)), (3, zI (t : Int)), (4, zI (n : Int)), (5, zI y), (6, zI (pfI (evn t) (gn (t % 2)) fr (pf gn fr r (t + 1)) y g)), (7, zI (g : Int))] 0 0 zSH f Q := by
      refine zloop G (fun g hg ih2 => ?_) ?_
      · refine b233_26 (d := e) ?_
        have s1 : pfI (evn t) (gn (t % 2)) fr (pf gn fr r (t + 1)) y (g + 1) = if fr g = true ∧ ¬ zand (zshr y (g : Int)) 1 = 1 then (if evn t = true then (if pfI (evn t) (gn (t % 2)) fr (pf gn fr r (t + 1)) y g < pfV (evn t) (gn (t % 2)) (pf gn fr r (t + 1)) y g then pfV (evn t) (gn (t % 2)) (pf gn fr r (t + 1)) y g else pfI (evn t) (gn (t % 2)) fr (pf gn fr r (t + 1)) y g) else (if pfV (evn t) (gn (t % 2)) (pf gn fr r (t + 1)) y g < pfI (evn t) (gn (t % 2)) fr (pf gn fr r (t + 1)) y g then pfV (evn t) (gn (t % 2)) (pf gn fr r (t + 1)) y g else pfI (evn t) (gn (t % 2)) fr (pf gn fr r (t + 1)) y g)) else pfI (evn t) (gn (t % 2)) fr (pf gn fr r (t + 1)) y g := rfl
        rw [s1, show ((g + 1 : Nat) : Int) = (g : Int) + 1 by omega] at ih2
        rw [h7, if_pos (by omega), show (44 + (g : Int)).toNat = 44 + g by omega]
        have ob := (bt_o hy (show g < 7 by omega)).1
        have hgb := hgn g hg
        have hb0 := hb 0 g
        have hb1 := hb 1 g
        have pv := pb (btO y g) ob
        refine zov_p (by omega) (zix_p (by omega) (zit (fun c => ?_) (fun c => ?_)))
        · have cf := (hf g hg).2 c
          refine zit (fun c2 => ?_) (fun c2 => ?_)
          · rw [if_neg (fun k => k.2 c2)] at ih2
            exact zov_p (by omega) ih2
          · rw [if_pos ⟨cf, c2⟩] at ih2
            refine zov_p (by omega) ?_
            rw [show (t : Int) + 1 = ((t + 1 : Nat) : Int) by omega]
            refine zcallE (H (btO y g) _ ob ⟨rfl, rfl⟩) ?_
            obtain ⟨e', rfl⟩ : ∃ e', e = e' + 1 := ⟨e - 1, by omega⟩
            generalize pfI (evn t) (gn (t % 2)) fr (pf gn fr r (t + 1)) y g = Bv at ih2 ⊢
            rw [tm]
            unfold pfV evn at ih2
            refine zit (fun c3 => ?_) (fun c3 => ?_)
            · have c4 : t % 2 = 0 := by omega
              rw [c4] at ih2
              rw [if_pos (show decide (0 = 0) = true from rfl), if_pos (show decide (0 = 0) = true from rfl), hgb.1] at ih2
              refine zcallE (r_wth (d := e') b hl hR e55 e51 (by omega) ht2 ⟨rfl, rfl⟩) (zov_p (by omega) ?_)
              rw [if_pos c3]
              refine zit (fun c5 => ?_) (fun c5 => ?_)
              · rw [if_pos c5] at ih2
                exact zov_p (by omega) ih2
              · rw [if_neg c5] at ih2
                exact zov_p (by omega) ih2
            · have c4 : t % 2 = 1 := by omega
              rw [c4] at ih2
              rw [if_neg (show ¬ decide (1 = 0) = true by decide), if_neg (show ¬ decide (1 = 0) = true by decide), hgb.2] at ih2
              refine zcallE (r_wth (d := e') b hl hR e55 e51 (by omega) ho ⟨rfl, rfl⟩) (zov_p (by omega) (zov_p (by omega) ?_))
              rw [if_neg c3]
              refine zit (fun c5 => ?_) (fun c5 => ?_)
              · rw [if_pos c5] at ih2
                exact zov_p (by omega) ih2
              · rw [if_neg c5] at ih2
                exact zov_p (by omega) ih2
        · rw [if_neg (fun k => c ((hf g hg).1 k.1))] at ih2
          exact zov_p (by omega) ih2
      · refine b233_26 (d := e) ?_
        rw [h7, if_neg (by omega)]
        have e7 := pfI_to (ev := evn t) (wv := gn (t % 2)) (F := pf gn fr r (t + 1)) (y := y) hf2 (7 - G)
        rw [show G + (7 - G) = 7 by omega] at e7
        rw [← e7]
        exact K
    exact L 0 (Nat.zero_le _)
end RPLAY
set_option maxRecDepth 100000 in
theorem b110_0 {sc : zC} {d : Nat} {a b : Int} {f : zF} {Q : zQ} (h : zR sc (d + 1) 110 8 [] [(0, zP (40)), (1, zP (1)), (2, zI a), (3, zI b), (4, zI (0))] 0 0 zSH (zup f (40) (0) (0)) Q) : zR sc (d + 1) 110 0 [] [(0, zP (40)), (1, zP (1)), (2, zI a), (3, zI b)] 0 0 zSH f Q := zwn_R (stp := fun mi pc => bif Nat.beq mi 110 && Nat.beq pc 8 then some [0, 1, 2, 3, 4] else none) (inl := fun j => bif Nat.beq j 14 then true else bif Nat.beq j 15 then true else bif Nat.beq j 16 then true else bif Nat.beq j 17 then true else bif Nat.beq j 18 then true else bif Nat.beq j 19 then true else bif Nat.beq j 20 then true else bif Nat.beq j 22 then true else bif Nat.beq j 23 then true else bif Nat.beq j 25 then true else bif Nat.beq j 28 then true else bif Nat.beq j 50 then true else bif Nat.beq j 51 then true else bif Nat.beq j 52 then true else bif Nat.beq j 53 then true else bif Nat.beq j 54 then true else bif Nat.beq j 55 then true else bif Nat.beq j 56 then true else bif Nat.beq j 57 then true else bif Nat.beq j 58 then true else bif Nat.beq j 59 then true else bif Nat.beq j 60 then true else bif Nat.beq j 62 then true else bif Nat.beq j 63 then true else bif Nat.beq j 64 then true else bif Nat.beq j 65 then true else bif Nat.beq j 66 then true else bif Nat.beq j 67 then true else bif Nat.beq j 68 then true else bif Nat.beq j 69 then true else bif Nat.beq j 70 then true else bif Nat.beq j 71 then true else bif Nat.beq j 72 then true else bif Nat.beq j 73 then true else bif Nat.beq j 74 then true else bif Nat.beq j 75 then true else bif Nat.beq j 76 then true else bif Nat.beq j 77 then true else bif Nat.beq j 78 then true else bif Nat.beq j 79 then true else bif Nat.beq j 85 then true else bif Nat.beq j 86 then true else bif Nat.beq j 87 then true else bif Nat.beq j 92 then true else bif Nat.beq j 93 then true else bif Nat.beq j 95 then true else bif Nat.beq j 96 then true else bif Nat.beq j 97 then true else bif Nat.beq j 98 then true else bif Nat.beq j 99 then true else bif Nat.beq j 165 then true else bif Nat.beq j 166 then true else bif Nat.beq j 167 then true else bif Nat.beq j 170 then true else bif Nat.beq j 171 then true else bif Nat.beq j 172 then true else bif Nat.beq j 173 then true else bif Nat.beq j 174 then true else bif Nat.beq j 175 then true else bif Nat.beq j 176 then true else bif Nat.beq j 177 then true else bif Nat.beq j 178 then true else bif Nat.beq j 180 then true else bif Nat.beq j 181 then true else bif Nat.beq j 182 then true else bif Nat.beq j 183 then true else bif Nat.beq j 184 then true else bif Nat.beq j 185 then true else bif Nat.beq j 186 then true else bif Nat.beq j 187 then true else bif Nat.beq j 188 then true else bif Nat.beq j 191 then true else bif Nat.beq j 194 then true else bif Nat.beq j 200 then true else bif Nat.beq j 204 then true else bif Nat.beq j 205 then true else bif Nat.beq j 206 then true else bif Nat.beq j 209 then true else bif Nat.beq j 215 then true else bif Nat.beq j 220 then true else bif Nat.beq j 223 then true else bif Nat.beq j 224 then true else bif Nat.beq j 237 then true else bif Nat.beq j 238 then true else bif Nat.beq j 239 then true else bif Nat.beq j 240 then true else bif Nat.beq j 243 then true else bif Nat.beq j 244 then true else bif Nat.beq j 245 then true else bif Nat.beq j 246 then true else bif Nat.beq j 247 then true else bif Nat.beq j 252 then true else bif Nat.beq j 253 then true else bif Nat.beq j 254 then true else bif Nat.beq j 255 then true else bif Nat.beq j 257 then true else bif Nat.beq j 258 then true else bif Nat.beq j 259 then true else bif Nat.beq j 260 then true else bif Nat.beq j 263 then true else false) (nov := (fun j => bif Nat.beq j 143 then false else bif Nat.beq j 144 then false else bif Nat.beq j 242 then false else bif Nat.beq j 236 then false else bif Nat.beq j 237 then false else bif Nat.beq j 241 then false else bif Nat.beq j 239 then false else bif Nat.beq j 96 then false else true)) 7 h
set_option maxRecDepth 100000 in
theorem b110_8 {sc : zC} {d : Nat} {x2 x3 x4 : Int} {f : zF} {Q : zQ} (h : if x4 < f (1) (1) then (zov ((44) + x4) (zix ((44) + x4) (60) (if f (2) (((44) + x4).toNat) < 0 then (zov ((30) + x4) (zix ((30) + x4) (60) (zix x4 (7) (zov ((f (2) (((30) + x4).toNat)) - (f (4) (x4.toNat))) (∃ A2 : zQ, zR sc d 80 0 [] [(0, zP (1)), (1, zI x4), (2, zI x3)] 0 0 zSH (zup f (40) (0) (zor (f (40) (0)) (zshl (1) x4))) A2 ∧ ∀ (r3 : Int) (f1 : zF), zIn r3 → A2 (some (zI r3)) zSH f1 → (zov ((2) * r3) (zov (((f (2) (((30) + x4).toNat)) - (f (4) (x4.toNat))) - ((2) * r3)) (zix x4 (14) (zov ((7) + x4) (∃ A5 : zQ, zR sc d 80 0 [] [(0, zP (1)), (1, zI x4), (2, zI x2)] 0 0 zSH (zup f1 (41) (x4.toNat) (((f (2) (((30) + x4).toNat)) - (f (4) (x4.toNat))) - ((2) * r3))) A5 ∧ ∀ (r6 : Int) (f4 : zF), zIn r6 → A5 (some (zI r6)) zSH f4 → (zov ((2) * r6) (zov (((f (2) (((30) + x4).toNat)) - (f (4) (x4.toNat))) - ((2) * r6)) (zix ((7) + x4) (14) (zov (x4 + 1) (zR sc (d + 1) 110 8 [] [(0, zP (40)), (1, zP (1)), (2, zI x2), (3, zI x3), (4, zI (x4 + 1))] 0 0 zSH (zup f4 (41) (((7) + x4).toNat) (((f (2) (((30) + x4).toNat)) - (f (4) (x4.toNat))) - ((2) * r6))) Q))))))))))))))) else (zov ((30) + x4) (zix ((30) + x4) (60) (zix x4 (7) (zov ((f (2) (((30) + x4).toNat)) - (f (4) (x4.toNat))) (∃ A8 : zQ, zR sc d 80 0 [] [(0, zP (1)), (1, zI x4), (2, zI x3)] 0 0 zSH f A8 ∧ ∀ (r9 : Int) (f7 : zF), zIn r9 → A8 (some (zI r9)) zSH f7 → (zov ((2) * r9) (zov (((f (2) (((30) + x4).toNat)) - (f (4) (x4.toNat))) - ((2) * r9)) (zix x4 (14) (zov ((7) + x4) (∃ A11 : zQ, zR sc d 80 0 [] [(0, zP (1)), (1, zI x4), (2, zI x2)] 0 0 zSH (zup f7 (41) (x4.toNat) (((f (2) (((30) + x4).toNat)) - (f (4) (x4.toNat))) - ((2) * r9))) A11 ∧ ∀ (r12 : Int) (f10 : zF), zIn r12 → A11 (some (zI r12)) zSH f10 → (zov ((2) * r12) (zov (((f (2) (((30) + x4).toNat)) - (f (4) (x4.toNat))) - ((2) * r12)) (zix ((7) + x4) (14) (zov (x4 + 1) (zR sc (d + 1) 110 8 [] [(0, zP (40)), (1, zP (1)), (2, zI x2), (3, zI x3), (4, zI (x4 + 1))] 0 0 zSH (zup f10 (41) (((7) + x4).toNat) (((f (2) (((30) + x4).toNat)) - (f (4) (x4.toNat))) - ((2) * r12))) Q)))))))))))))))))) else (Q none zSH f)) : zR sc (d + 1) 110 8 [] [(0, zP (40)), (1, zP (1)), (2, zI x2), (3, zI x3), (4, zI x4)] 0 0 zSH f Q := zwn_R (stp := fun mi pc => bif Nat.beq mi 110 && Nat.beq pc 8 then some [0, 1, 2, 3, 4] else none) (inl := fun j => bif Nat.beq j 14 then true else bif Nat.beq j 15 then true else bif Nat.beq j 16 then true else bif Nat.beq j 17 then true else bif Nat.beq j 18 then true else bif Nat.beq j 19 then true else bif Nat.beq j 20 then true else bif Nat.beq j 22 then true else bif Nat.beq j 23 then true else bif Nat.beq j 25 then true else bif Nat.beq j 28 then true else bif Nat.beq j 50 then true else bif Nat.beq j 51 then true else bif Nat.beq j 52 then true else bif Nat.beq j 53 then true else bif Nat.beq j 54 then true else bif Nat.beq j 55 then true else bif Nat.beq j 56 then true else bif Nat.beq j 57 then true else bif Nat.beq j 58 then true else bif Nat.beq j 59 then true else bif Nat.beq j 60 then true else bif Nat.beq j 62 then true else bif Nat.beq j 63 then true else bif Nat.beq j 64 then true else bif Nat.beq j 65 then true else bif Nat.beq j 66 then true else bif Nat.beq j 67 then true else bif Nat.beq j 68 then true else bif Nat.beq j 69 then true else bif Nat.beq j 70 then true else bif Nat.beq j 71 then true else bif Nat.beq j 72 then true else bif Nat.beq j 73 then true else bif Nat.beq j 74 then true else bif Nat.beq j 75 then true else bif Nat.beq j 76 then true else bif Nat.beq j 77 then true else bif Nat.beq j 78 then true else bif Nat.beq j 79 then true else bif Nat.beq j 85 then true else bif Nat.beq j 86 then true else bif Nat.beq j 87 then true else bif Nat.beq j 92 then true else bif Nat.beq j 93 then true else bif Nat.beq j 95 then true else bif Nat.beq j 96 then true else bif Nat.beq j 97 then true else bif Nat.beq j 98 then true else bif Nat.beq j 99 then true else bif Nat.beq j 165 then true else bif Nat.beq j 166 then true else bif Nat.beq j 167 then true else bif Nat.beq j 170 then true else bif Nat.beq j 171 then true else bif Nat.beq j 172 then true else bif Nat.beq j 173 then true else bif Nat.beq j 174 then true else bif Nat.beq j 175 then true else bif Nat.beq j 176 then true else bif Nat.beq j 177 then true else bif Nat.beq j 178 then true else bif Nat.beq j 180 then true else bif Nat.beq j 181 then true else bif Nat.beq j 182 then true else bif Nat.beq j 183 then true else bif Nat.beq j 184 then true else bif Nat.beq j 185 then true else bif Nat.beq j 186 then true else bif Nat.beq j 187 then true else bif Nat.beq j 188 then true else bif Nat.beq j 191 then true else bif Nat.beq j 194 then true else bif Nat.beq j 200 then true else bif Nat.beq j 204 then true else bif Nat.beq j 205 then true else bif Nat.beq j 206 then true else bif Nat.beq j 209 then true else bif Nat.beq j 215 then true else bif Nat.beq j 220 then true else bif Nat.beq j 223 then true else bif Nat.beq j 224 then true else bif Nat.beq j 237 then true else bif Nat.beq j 238 then true else bif Nat.beq j 239 then true else bif Nat.beq j 240 then true else bif Nat.beq j 243 then true else bif Nat.beq j 244 then true else bif Nat.beq j 245 then true else bif Nat.beq j 246 then true else bif Nat.beq j 247 then true else bif Nat.beq j 252 then true else bif Nat.beq j 253 then true else bif Nat.beq j 254 then true else bif Nat.beq j 255 then true else bif Nat.beq j 257 then true else bif Nat.beq j 258 then true else bif Nat.beq j 259 then true else bif Nat.beq j 260 then true else bif Nat.beq j 263 then true else false) (nov := (fun j => bif Nat.beq j 143 then false else bif Nat.beq j 144 then false else bif Nat.beq j 242 then false else bif Nat.beq j 236 then false else bif Nat.beq j 237 then false else bif Nat.beq j 241 then false else bif Nat.beq j 239 then false else bif Nat.beq j 96 then false else true)) 106 h
section WEIGH
variable {M R : Nat → Int} {sc : zC} {f0 f f1 f2 : zF} {G A B n d : Nat} {Q : zQ}
def gnW (M R : Nat → Int) (G A B p g : Nat) : Int := if g < G then (if p = 0 then woM M R g B else woM M R g A) else 0
set_option maxRecDepth 100000 in
theorem gnW_b (b : hB M) (hl : ∀ g, g < 7 → lM M g ≤ 99) (hR : ∀ g, g < 7 → 0 ≤ R g ∧ R g ≤ 99) (hG : G ≤ 7) (hA : A < 6) (hB' : B < 6) (p g : Nat) : -1000 ≤ gnW M R G A B p g ∧ gnW M R G A B p g ≤ 1000 := by
  unfold gnW
  by_cases h : g < G
  · rw [if_pos h]
    split
    · exact woM_b b hl hR (by omega) hB'
    · exact woM_b b hl hR (by omega) hA
  · rw [if_neg h]
    omega
/-- what weigh has done ahead of n -/
def wgP (M R : Nat → Int) (f0 : zF) (A B n : Nat) (f : zF) : Prop := ((0 ≤ f 40 0 ∧ f 40 0 < 128) ∧ ∀ g : Nat, g < 7 → (¬ zand (zshr (f 40 0) (g : Int)) 1 = 0 ↔ (g < n ∧ f0 2 (44 + g) < 0))) ∧ (∀ g, g < n → f 41 g = woM M R g B ∧ f 41 (7 + g) = woM M R g A) ∧ ∀ p j, p ≠ 40 → p ≠ 41 → f p j = f0 p j
set_option maxRecDepth 100000 in
theorem wgP_s (m : wgP M R f0 A B n f1) (hn : n < G) (hG : G ≤ 7) (h40 : f2 40 0 = if f0 2 (44 + n) < 0 then btO (f1 40 0) n else f1 40 0) (h41 : ∀ j, f2 41 j = if j = 7 + n then woM M R n A else if j = n then woM M R n B else f1 41 j) (hfr : ∀ p j, p ≠ 40 → p ≠ 41 → f2 p j = f1 p j) : wgP M R f0 A B (n + 1) f2 := by
  obtain ⟨⟨m1, m2⟩, m3, m4⟩ := m
  refine ⟨?_, fun g hg => ?_, fun p j h1 h2 => (hfr p j h1 h2).trans (m4 p j h1 h2)⟩
  · by_cases c : f0 2 (44 + n) < 0
    · rw [h40, if_pos c]
      obtain ⟨o1, o2⟩ := bt_o m1 (show n < 7 by omega)
      refine ⟨o1, fun g hg => ?_⟩
      rw [o2 g hg]
      by_cases e : g = n
      · rw [if_pos e, e]
        exact ⟨fun _ => ⟨by omega, c⟩, fun _ => by decide⟩
      · rw [if_neg e]
        exact (m2 g hg).trans ⟨fun h => ⟨by omega, h.2⟩, fun h => ⟨by omega, h.2⟩⟩
    · rw [h40, if_neg c]
      refine ⟨m1, fun g hg => (m2 g hg).trans ⟨fun h => ⟨by omega, h.2⟩, fun h => ⟨?_, h.2⟩⟩⟩
      by_cases e : g = n
      · exact absurd (e ▸ h.2) c
      · omega
  · rw [h41, h41]
    by_cases e : g = n
    · rw [e, if_neg (by omega), if_pos rfl, if_pos rfl]
      exact ⟨rfl, rfl⟩
    · rw [if_neg (by omega), if_neg e, if_neg (by omega), if_neg (by omega)]
      exact m3 g (by omega)
set_option maxRecDepth 100000 in
theorem c_wgh (b : hB M) (hl : ∀ g, g < 7 → lM M g ≤ 99) (hR : ∀ g, g < 7 → 0 ≤ R g ∧ R g ≤ 99) (e3 : ∀ j, j < 168 → f0 3 j = M j) (e4 : ∀ g, g < 7 → f0 4 g = lM M g) (e2 : ∀ g, g < 7 → f0 2 (30 + g) = R g) (h1 : f0 1 1 = (G : Int)) (hG : G ≤ 7) (hA : A < 6) (hB' : B < 6) (K : ∀ f1, wgP M R f0 A B G f1 → Q none zSH f1) : zR sc (d + 2) 110 0 [] [(0, zP 40), (1, zP 1), (2, zI (A : Int)), (3, zI (B : Int))] 0 0 zSH f0 Q := by
  refine b110_0 (d := d + 1) ?_
  have L : ∀ n, n ≤ G → ∀ f1, wgP M R f0 A B n f1 → zR sc (d + 2) 110 8 [] [(0, zP 40), (1, zP 1), (2, zI (A : Int)), (3, zI (B : Int)), (4, zI (n : Int))] 0 0 zSH f1 Q := by
    refine zloop G (fun n hn ih f1 m => ?_) (fun f1 m => ?_)
    · refine b110_8 (d := d + 1) ?_
      have m4 := m.2.2
      have g7 : n < 7 := by omega
      have r1 := hR n g7
      have r2 := hl n g7
      have r3 : 0 ≤ lM M n := sN_0 24 (fun k hk => (b _ (by omega)).1)
      have r4 := hG_b b g7 hB'
      have r5 := hG_b b g7 hA
      have E3 : ∀ j, j < 168 → f1 3 j = M j := fun j hj => (m4 3 j (by decide) (by decide)).trans (e3 j hj)
      rw [m4 1 1 (by decide) (by decide), h1, if_pos (by omega), show (44 + (n : Int)).toNat = 44 + n by omega, show (30 + (n : Int)).toNat = 30 + n by omega, show (7 + (n : Int)).toNat = 7 + n by omega, Int.toNat_natCast, m4 2 (44 + n) (by decide) (by decide), m4 2 (30 + n) (by decide) (by decide), m4 4 n (by decide) (by decide), e2 n g7, e4 n g7]
      refine zov_p (by omega) (zix_p (by omega) (zit (fun c => ?_) (fun c => ?_)))
      · refine zov_p (by omega) (zix_p (by omega) (zix_p (by omega) (zov_p (by omega) (zcallE (c_hg (d := d) b (fun j hj => E3 j hj) g7 hB' ⟨rfl, rfl⟩) ?_))))
        refine zov_p (by omega) (zov_p (by omega) (zix_p (by omega) (zov_p (by omega) (zcallE (c_hg (d := d) b (fun j hj => E3 j hj) g7 hA ⟨rfl, rfl⟩) ?_))))
        refine zov_p (by omega) (zov_p (by omega) (zix_p (by omega) (zov_p (by omega) ?_)))
        rw [show (n : Int) + 1 = ((n + 1 : Nat) : Int) by omega]
        refine ih _ (wgP_s m hn hG (by rw [if_pos c]; rfl) (fun j => rfl) (fun p j h5 h6 => ?_))
        rw [zup_at, if_neg h6, zup_at, if_neg h6, zup_at, if_neg h5]
      · refine zov_p (by omega) (zix_p (by omega) (zix_p (by omega) (zov_p (by omega) (zcallE (c_hg (d := d) b (fun j hj => E3 j hj) g7 hB' ⟨rfl, rfl⟩) ?_))))
        refine zov_p (by omega) (zov_p (by omega) (zix_p (by omega) (zov_p (by omega) (zcallE (c_hg (d := d) b (fun j hj => E3 j hj) g7 hA ⟨rfl, rfl⟩) ?_))))
        refine zov_p (by omega) (zov_p (by omega) (zix_p (by omega) (zov_p (by omega) ?_)))
        rw [show (n : Int) + 1 = ((n + 1 : Nat) : Int) by omega]
        refine ih _ (wgP_s m hn hG (by rw [if_neg c]; rfl) (fun j => rfl) (fun p j h5 h6 => ?_))
        rw [zup_at, if_neg h6, zup_at, if_neg h6]
    · refine b110_8 (d := d + 1) ?_
      rw [m.2.2 1 1 (by decide) (by decide), h1, if_neg (by omega)]
      exact K f1 m
  refine L 0 (Nat.zero_le _) _ ⟨⟨⟨Int.le_refl _, show (0 : Int) < 128 by decide⟩, fun g hg => ?_⟩, fun g hg => absurd hg (Nat.not_lt_zero g), fun p j h5 h6 => ?_⟩
  · have z : ∀ g : Nat, g < 7 → zand (zshr (0 : Int) (g : Int)) 1 = 0 := fun g hg => of_decide_eq_true (List.all_eq_true.1 (show (List.range 7).all (fun g => decide (zand (zshr (0 : Int) (g : Int)) 1 = 0)) = true by decide +kernel) g (List.mem_range.2 hg))
    exact ⟨fun h => absurd (z g hg) h, fun h => absurd h.1 (Nat.not_lt_zero g)⟩
  · rw [zup_at, if_neg h5]
end WEIGH
set_option maxRecDepth 100000 in
theorem sam_ex (fr : Nat → Bool) (y : Int) (hy : 0 ≤ y ∧ y < 128) : ∃ x, sam fr x y := by
  have L : ∀ n, n ≤ 7 → ∃ x : Int, (0 ≤ x ∧ x < 128) ∧ ∀ g : Nat, g < 7 → (¬ zand (zshr x (g : Int)) 1 = 0 ↔ (g < n ∧ fr g = true ∧ ¬ zand (zshr y (g : Int)) 1 = 1)) := by
    intro n
    induction n with
    | zero =>
      intro _
      have z : ∀ g : Nat, g < 7 → zand (zshr (0 : Int) (g : Int)) 1 = 0 := fun g hg => of_decide_eq_true (List.all_eq_true.1 (show (List.range 7).all (fun g => decide (zand (zshr (0 : Int) (g : Int)) 1 = 0)) = true by decide +kernel) g (List.mem_range.2 hg))
      exact ⟨0, ⟨Int.le_refl _, by decide⟩, fun g hg => ⟨fun h => absurd (z g hg) h, fun h => absurd h.1 (Nat.not_lt_zero g)⟩⟩
    | succ n ih =>
      intro hn
      obtain ⟨x, x1, x2⟩ := ih (by omega)
      by_cases c : fr n = true ∧ ¬ zand (zshr y (n : Int)) 1 = 1
      · obtain ⟨o1, o2⟩ := bt_o x1 (show n < 7 by omega)
        refine ⟨btO x n, o1, fun g hg => ?_⟩
        rw [o2 g hg]
        by_cases e : g = n
        · rw [if_pos e, e]
          exact ⟨fun _ => ⟨by omega, c⟩, fun _ => by decide⟩
        · rw [if_neg e]
          exact (x2 g hg).trans ⟨fun h => ⟨by omega, h.2⟩, fun h => ⟨by omega, h.2⟩⟩
      · refine ⟨x, x1, fun g hg => (x2 g hg).trans ⟨fun h => ⟨by omega, h.2⟩, fun h => ⟨?_, h.2⟩⟩⟩
        by_cases e : g = n
        · exact absurd (e ▸ h.2) c
        · omega
  obtain ⟨x, x1, x2⟩ := L 7 (Nat.le_refl _)
  exact ⟨x, x1, hy, fun g hg => (x2 g hg).trans ⟨fun h => h.2, fun h => ⟨hg, h⟩⟩⟩
set_option maxRecDepth 100000 in
theorem btO_0 {g : Nat} (hg : g < 7) : btO 0 g = zshl 1 (g : Int) := of_decide_eq_true (List.all_eq_true.1 (show (List.range 7).all (fun g => decide (btO 0 g = zshl 1 (g : Int))) = true by decide +kernel) g (List.mem_range.2 hg))
set_option maxRecDepth 100000 in
theorem b141_0 {sc : zC} {a b c : Int} {f : zF} {Q : zQ} (h : if a < 0 then (Q (some (zI (-2000000000))) zSH f) else (if b < 1 then (Q (some (zI (-2000000000))) zSH f) else (if 4 < b then (Q (some (zI (-2000000000))) zSH f) else (if c < 0 then (Q (some (zI (-2000000000))) zSH f) else (if 1 < c then (Q (some (zI (-2000000000))) zSH f) else (zov (Int.tdiv a (10)) (if Int.tdiv a (10) < 0 then (Q (some (zI (-2000000000))) zSH f) else (if Int.tdiv a (10) < f (1) (0) then (if Int.tmod a (10) < 0 then (Q (some (zI (-2000000000))) zSH f) else (if Int.tmod a (10) < f (1) (0) then (if Int.tdiv a (10) = Int.tmod a (10) then (Q (some (zI (-2000000000))) zSH f) else (∃ A2 : zQ, zR sc (198) 110 0 [] [(0, zP (40)), (1, zP (1)), (2, zI (Int.tdiv a (10))), (3, zI (Int.tmod a (10)))] 0 0 zSH f A2 ∧ ∀ f1 : zF, A2 none zSH f1 → (if c = 0 then (∃ A4 : zQ, zR sc (198) 111 0 [] [(0, zP (40)), (1, zI b)] 0 0 zSH f1 A4 ∧ ∀ (r5 : Int) (f3 : zF), zIn r5 → A4 (some (zI r5)) zSH f3 → (Q (some (zI r5)) zSH f3)) else (∃ A7 : zQ, zR sc (198) 112 0 [] [(0, zP (40)), (1, zI b)] 0 0 zSH f1 A7 ∧ ∀ (r8 : Int) (f6 : zF), zIn r8 → A7 (some (zI r8)) zSH f6 → (Q (some (zI r8)) zSH f6))))) else (Q (some (zI (-2000000000))) zSH f))) else (Q (some (zI (-2000000000))) zSH f))))))))) : zR sc (199) 141 0 [] [(0, zP (0)), (1, zI a), (2, zI b), (3, zI c)] 0 0 zSH f Q := zwn_R (stp := fun _ _ => none) (inl := fun j => bif Nat.beq j 14 then true else bif Nat.beq j 15 then true else bif Nat.beq j 16 then true else bif Nat.beq j 17 then true else bif Nat.beq j 18 then true else bif Nat.beq j 19 then true else bif Nat.beq j 20 then true else bif Nat.beq j 22 then true else bif Nat.beq j 23 then true else bif Nat.beq j 25 then true else bif Nat.beq j 28 then true else bif Nat.beq j 50 then true else bif Nat.beq j 51 then true else bif Nat.beq j 52 then true else bif Nat.beq j 53 then true else bif Nat.beq j 54 then true else bif Nat.beq j 55 then true else bif Nat.beq j 56 then true else bif Nat.beq j 57 then true else bif Nat.beq j 58 then true else bif Nat.beq j 59 then true else bif Nat.beq j 60 then true else bif Nat.beq j 62 then true else bif Nat.beq j 63 then true else bif Nat.beq j 64 then true else bif Nat.beq j 65 then true else bif Nat.beq j 66 then true else bif Nat.beq j 67 then true else bif Nat.beq j 68 then true else bif Nat.beq j 69 then true else bif Nat.beq j 70 then true else bif Nat.beq j 71 then true else bif Nat.beq j 72 then true else bif Nat.beq j 73 then true else bif Nat.beq j 74 then true else bif Nat.beq j 75 then true else bif Nat.beq j 76 then true else bif Nat.beq j 77 then true else bif Nat.beq j 78 then true else bif Nat.beq j 79 then true else bif Nat.beq j 85 then true else bif Nat.beq j 86 then true else bif Nat.beq j 87 then true else bif Nat.beq j 92 then true else bif Nat.beq j 93 then true else bif Nat.beq j 95 then true else bif Nat.beq j 96 then true else bif Nat.beq j 97 then true else bif Nat.beq j 98 then true else bif Nat.beq j 99 then true else bif Nat.beq j 165 then true else bif Nat.beq j 166 then true else bif Nat.beq j 167 then true else bif Nat.beq j 170 then true else bif Nat.beq j 171 then true else bif Nat.beq j 172 then true else bif Nat.beq j 173 then true else bif Nat.beq j 174 then true else bif Nat.beq j 175 then true else bif Nat.beq j 176 then true else bif Nat.beq j 177 then true else bif Nat.beq j 178 then true else bif Nat.beq j 180 then true else bif Nat.beq j 181 then true else bif Nat.beq j 182 then true else bif Nat.beq j 183 then true else bif Nat.beq j 184 then true else bif Nat.beq j 185 then true else bif Nat.beq j 186 then true else bif Nat.beq j 187 then true else bif Nat.beq j 188 then true else bif Nat.beq j 191 then true else bif Nat.beq j 194 then true else bif Nat.beq j 200 then true else bif Nat.beq j 204 then true else bif Nat.beq j 205 then true else bif Nat.beq j 206 then true else bif Nat.beq j 209 then true else bif Nat.beq j 215 then true else bif Nat.beq j 220 then true else bif Nat.beq j 223 then true else bif Nat.beq j 224 then true else bif Nat.beq j 237 then true else bif Nat.beq j 238 then true else bif Nat.beq j 239 then true else bif Nat.beq j 240 then true else bif Nat.beq j 243 then true else bif Nat.beq j 244 then true else bif Nat.beq j 245 then true else bif Nat.beq j 246 then true else bif Nat.beq j 247 then true else bif Nat.beq j 252 then true else bif Nat.beq j 253 then true else bif Nat.beq j 254 then true else bif Nat.beq j 255 then true else bif Nat.beq j 257 then true else bif Nat.beq j 258 then true else bif Nat.beq j 259 then true else bif Nat.beq j 260 then true else bif Nat.beq j 263 then true else false) (nov := (fun j => bif Nat.beq j 143 then false else bif Nat.beq j 144 then false else bif Nat.beq j 242 then false else bif Nat.beq j 236 then false else bif Nat.beq j 237 then false else bif Nat.beq j 241 then false else bif Nat.beq j 239 then false else bif Nat.beq j 96 then false else true)) 106 h
set_option maxRecDepth 100000 in
theorem b234_0 {sc : zC} {a b c : Int} {f : zF} {Q : zQ} (h : if a < 0 then (Q (some (zI (-2000000000))) zSH f) else (zov (Int.tdiv a (10)) (zov ((f (50) (6)) - (1)) (if zlcmp (Int.tdiv a (10)) (0) < 0 then (Q (some (zI (-2000000000))) zSH f) else (if 0 < zlcmp (Int.tdiv a (10)) ((f (50) (6)) - (1)) then (Q (some (zI (-2000000000))) zSH f) else (zov ((f (50) (6)) - (1)) (if zlcmp (Int.tmod a (10)) (0) < 0 then (Q (some (zI (-2000000000))) zSH f) else (if 0 < zlcmp (Int.tmod a (10)) ((f (50) (6)) - (1)) then (Q (some (zI (-2000000000))) zSH f) else (zov (Int.tdiv a (10)) (if Int.tdiv a (10) = Int.tmod a (10) then (Q (some (zI (-2000000000))) zSH f) else (if zlcmp b (1) < 0 then (Q (some (zI (-2000000000))) zSH f) else (if 0 < zlcmp b (4) then (Q (some (zI (-2000000000))) zSH f) else (if zlcmp c (0) < 0 then (Q (some (zI (-2000000000))) zSH f) else (if 0 < zlcmp c (1) then (Q (some (zI (-2000000000))) zSH f) else (zov (Int.tdiv a (10)) (∃ A2 : zQ, zR sc (198) 233 0 [] [(0, zP (50)), (1, zI (Int.tdiv a (10))), (2, zI (Int.tmod a (10))), (3, zI (0)), (4, zI b), (5, zI (0))] 0 0 zSH f A2 ∧ ∀ (r3 : Int) (f1 : zF), zIn r3 → A2 (some (zI r3)) zSH f1 → (if c = 0 then (Q (some (zI r3)) zSH f1) else (∃ A5 : zQ, zR sc (198) 233 0 [] [(0, zP (50)), (1, zI (Int.tdiv a (10))), (2, zI (Int.tmod a (10))), (3, zI (1)), (4, zI b), (5, zI (0))] 0 0 zSH f1 A5 ∧ ∀ (r6 : Int) (f4 : zF), zIn r6 → A5 (some (zI r6)) zSH f4 → (if r6 = r3 then (Q (some (zI (7))) zSH f4) else (zR sc (199) 234 118 [] [(0, zP (50)), (2, zI b), (4, zI (Int.tdiv a (10))), (5, zI (Int.tmod a (10))), (6, zI r3), (7, zI (0))] 0 0 zSH f4 Q)))))))))))))))))))) : zR sc (199) 234 0 [] [(0, zP (50)), (1, zI a), (2, zI b), (3, zI c)] 0 0 zSH f Q := zwn_R (stp := fun mi pc => bif Nat.beq mi 234 && Nat.beq pc 118 then some [0, 2, 4, 5, 6, 7] else none) (inl := fun j => bif Nat.beq j 14 then true else bif Nat.beq j 15 then true else bif Nat.beq j 16 then true else bif Nat.beq j 17 then true else bif Nat.beq j 18 then true else bif Nat.beq j 19 then true else bif Nat.beq j 20 then true else bif Nat.beq j 22 then true else bif Nat.beq j 23 then true else bif Nat.beq j 25 then true else bif Nat.beq j 28 then true else bif Nat.beq j 50 then true else bif Nat.beq j 51 then true else bif Nat.beq j 52 then true else bif Nat.beq j 53 then true else bif Nat.beq j 54 then true else bif Nat.beq j 55 then true else bif Nat.beq j 56 then true else bif Nat.beq j 57 then true else bif Nat.beq j 58 then true else bif Nat.beq j 59 then true else bif Nat.beq j 60 then true else bif Nat.beq j 62 then true else bif Nat.beq j 63 then true else bif Nat.beq j 64 then true else bif Nat.beq j 65 then true else bif Nat.beq j 66 then true else bif Nat.beq j 67 then true else bif Nat.beq j 68 then true else bif Nat.beq j 69 then true else bif Nat.beq j 70 then true else bif Nat.beq j 71 then true else bif Nat.beq j 72 then true else bif Nat.beq j 73 then true else bif Nat.beq j 74 then true else bif Nat.beq j 75 then true else bif Nat.beq j 76 then true else bif Nat.beq j 77 then true else bif Nat.beq j 78 then true else bif Nat.beq j 79 then true else bif Nat.beq j 85 then true else bif Nat.beq j 86 then true else bif Nat.beq j 87 then true else bif Nat.beq j 92 then true else bif Nat.beq j 93 then true else bif Nat.beq j 95 then true else bif Nat.beq j 96 then true else bif Nat.beq j 97 then true else bif Nat.beq j 98 then true else bif Nat.beq j 99 then true else bif Nat.beq j 165 then true else bif Nat.beq j 166 then true else bif Nat.beq j 167 then true else bif Nat.beq j 170 then true else bif Nat.beq j 171 then true else bif Nat.beq j 172 then true else bif Nat.beq j 173 then true else bif Nat.beq j 174 then true else bif Nat.beq j 175 then true else bif Nat.beq j 176 then true else bif Nat.beq j 177 then true else bif Nat.beq j 178 then true else bif Nat.beq j 180 then true else bif Nat.beq j 181 then true else bif Nat.beq j 182 then true else bif Nat.beq j 183 then true else bif Nat.beq j 184 then true else bif Nat.beq j 185 then true else bif Nat.beq j 186 then true else bif Nat.beq j 187 then true else bif Nat.beq j 188 then true else bif Nat.beq j 191 then true else bif Nat.beq j 194 then true else bif Nat.beq j 200 then true else bif Nat.beq j 204 then true else bif Nat.beq j 205 then true else bif Nat.beq j 206 then true else bif Nat.beq j 209 then true else bif Nat.beq j 215 then true else bif Nat.beq j 220 then true else bif Nat.beq j 223 then true else bif Nat.beq j 224 then true else bif Nat.beq j 237 then true else bif Nat.beq j 238 then true else bif Nat.beq j 239 then true else bif Nat.beq j 240 then true else bif Nat.beq j 243 then true else bif Nat.beq j 244 then true else bif Nat.beq j 245 then true else bif Nat.beq j 246 then true else bif Nat.beq j 247 then true else bif Nat.beq j 252 then true else bif Nat.beq j 253 then true else bif Nat.beq j 254 then true else bif Nat.beq j 255 then true else bif Nat.beq j 257 then true else bif Nat.beq j 258 then true else bif Nat.beq j 259 then true else bif Nat.beq j 260 then true else bif Nat.beq j 263 then true else false) (nov := (fun j => bif Nat.beq j 143 then false else bif Nat.beq j 144 then false else bif Nat.beq j 242 then false else bif Nat.beq j 236 then false else bif Nat.beq j 237 then false else bif Nat.beq j 241 then false else bif Nat.beq j 239 then false else bif Nat.beq j 96 then false else true)) 180 h
set_option maxRecDepth 100000 in
theorem b234_118 {sc : zC} {x2 x4 x5 x6 x7 : Int} {f : zF} {Q : zQ} (h : if x7 < f (50) (7) then (zov ((44) + x7) (zix ((44) + x7) (60) (if f (51) (((44) + x7).toNat) < 0 then (∃ A2 : zQ, zR sc (198) 233 0 [] [(0, zP (50)), (1, zI x4), (2, zI x5), (3, zI (1)), (4, zI x2), (5, zI (zshl (1) x7))] 0 0 zSH f A2 ∧ ∀ (r3 : Int) (f1 : zF), zIn r3 → A2 (some (zI r3)) zSH f1 → (∃ A5 : zQ, zR sc (198) 232 0 [] [(0, zP (50)), (1, zI x7), (2, zI x5)] 0 0 zSH f1 A5 ∧ ∀ (r6 : Int) (f4 : zF), zIn r6 → A5 (some (zI r6)) zSH f4 → (zov (r3 + r6) (if r3 + r6 = x6 then (Q (some (zI x7)) zSH f4) else (zov (x7 + 1) (zR sc (199) 234 118 [] [(0, zP (50)), (2, zI x2), (4, zI x4), (5, zI x5), (6, zI x6), (7, zI (x7 + 1))] 0 0 zSH f4 Q)))))) else (zov (x7 + 1) (zR sc (199) 234 118 [] [(0, zP (50)), (2, zI x2), (4, zI x4), (5, zI x5), (6, zI x6), (7, zI (x7 + 1))] 0 0 zSH f Q))))) else (Q (some (zI (7))) zSH f)) : zR sc (199) 234 118 [] [(0, zP (50)), (2, zI x2), (4, zI x4), (5, zI x5), (6, zI x6), (7, zI x7)] 0 0 zSH f Q := zwn_R (stp := fun mi pc => bif Nat.beq mi 234 && Nat.beq pc 118 then some [0, 2, 4, 5, 6, 7] else none) (inl := fun j => bif Nat.beq j 14 then true else bif Nat.beq j 15 then true else bif Nat.beq j 16 then true else bif Nat.beq j 17 then true else bif Nat.beq j 18 then true else bif Nat.beq j 19 then true else bif Nat.beq j 20 then true else bif Nat.beq j 22 then true else bif Nat.beq j 23 then true else bif Nat.beq j 25 then true else bif Nat.beq j 28 then true else bif Nat.beq j 50 then true else bif Nat.beq j 51 then true else bif Nat.beq j 52 then true else bif Nat.beq j 53 then true else bif Nat.beq j 54 then true else bif Nat.beq j 55 then true else bif Nat.beq j 56 then true else bif Nat.beq j 57 then true else bif Nat.beq j 58 then true else bif Nat.beq j 59 then true else bif Nat.beq j 60 then true else bif Nat.beq j 62 then true else bif Nat.beq j 63 then true else bif Nat.beq j 64 then true else bif Nat.beq j 65 then true else bif Nat.beq j 66 then true else bif Nat.beq j 67 then true else bif Nat.beq j 68 then true else bif Nat.beq j 69 then true else bif Nat.beq j 70 then true else bif Nat.beq j 71 then true else bif Nat.beq j 72 then true else bif Nat.beq j 73 then true else bif Nat.beq j 74 then true else bif Nat.beq j 75 then true else bif Nat.beq j 76 then true else bif Nat.beq j 77 then true else bif Nat.beq j 78 then true else bif Nat.beq j 79 then true else bif Nat.beq j 85 then true else bif Nat.beq j 86 then true else bif Nat.beq j 87 then true else bif Nat.beq j 92 then true else bif Nat.beq j 93 then true else bif Nat.beq j 95 then true else bif Nat.beq j 96 then true else bif Nat.beq j 97 then true else bif Nat.beq j 98 then true else bif Nat.beq j 99 then true else bif Nat.beq j 165 then true else bif Nat.beq j 166 then true else bif Nat.beq j 167 then true else bif Nat.beq j 170 then true else bif Nat.beq j 171 then true else bif Nat.beq j 172 then true else bif Nat.beq j 173 then true else bif Nat.beq j 174 then true else bif Nat.beq j 175 then true else bif Nat.beq j 176 then true else bif Nat.beq j 177 then true else bif Nat.beq j 178 then true else bif Nat.beq j 180 then true else bif Nat.beq j 181 then true else bif Nat.beq j 182 then true else bif Nat.beq j 183 then true else bif Nat.beq j 184 then true else bif Nat.beq j 185 then true else bif Nat.beq j 186 then true else bif Nat.beq j 187 then true else bif Nat.beq j 188 then true else bif Nat.beq j 191 then true else bif Nat.beq j 194 then true else bif Nat.beq j 200 then true else bif Nat.beq j 204 then true else bif Nat.beq j 205 then true else bif Nat.beq j 206 then true else bif Nat.beq j 209 then true else bif Nat.beq j 215 then true else bif Nat.beq j 220 then true else bif Nat.beq j 223 then true else bif Nat.beq j 224 then true else bif Nat.beq j 237 then true else bif Nat.beq j 238 then true else bif Nat.beq j 239 then true else bif Nat.beq j 240 then true else bif Nat.beq j 243 then true else bif Nat.beq j 244 then true else bif Nat.beq j 245 then true else bif Nat.beq j 246 then true else bif Nat.beq j 247 then true else bif Nat.beq j 252 then true else bif Nat.beq j 253 then true else bif Nat.beq j 254 then true else bif Nat.beq j 255 then true else bif Nat.beq j 257 then true else bif Nat.beq j 258 then true else bif Nat.beq j 259 then true else bif Nat.beq j 260 then true else bif Nat.beq j 263 then true else false) (nov := (fun j => bif Nat.beq j 143 then false else bif Nat.beq j 144 then false else bif Nat.beq j 242 then false else bif Nat.beq j 236 then false else bif Nat.beq j 237 then false else bif Nat.beq j 241 then false else bif Nat.beq j 239 then false else bif Nat.beq j 96 then false else true)) 37 h
set_option maxRecDepth 100000 in
set_option maxHeartbeats 1000000 in
theorem jq_23 {sc : zC} {f0 : zF} (g0 : aGok wG (afx sc f0)) (i0 : wD f0) {a b c : Int} (ha : zIn a) : zR sc 199 141 0 [] [(0, zP (0)), (1, zI a), (2, zI b), (3, zI c)] 0 0 zSH f0 (fun r _ f1 => ∃ v, r = some (zI v) ∧ zR sc 199 234 0 [] [(0, zP (50)), (1, zI a), (2, zI b), (3, zI c)] 0 0 zSH f1 (fun r _ f2 => ∃ w, r = some (zI w) ∧ v = w)) := by
  obtain ⟨⟨s1, s1'⟩, s2, s3, s5, ch, im, la⟩ := id i0
  have e0 := g_10 g0
  have e1 := g_11 g0
  unfold zIn at ha
  have x1 : 0 ≤ a → Int.tdiv a 10 = a / 10 := fun h => Int.tdiv_eq_ediv_of_nonneg h
  have x2 : 0 ≤ a → Int.tmod a 10 = a % 10 := fun h => Int.tmod_eq_emod_of_nonneg h
  by_cases hv : (0 ≤ a ∧ Int.tdiv a 10 < f0 1 0 ∧ Int.tmod a 10 < f0 1 0 ∧ ¬ Int.tdiv a 10 = Int.tmod a 10) ∧ (1 ≤ b ∧ b ≤ 4) ∧ (0 ≤ c ∧ c ≤ 1)
  rotate_left
  · refine b141_0 ?_
    repeat' (first | (refine zix_p (by omega) ?_) | (refine zov_p (by omega) ?_) | (refine zit (fun h => ?_) (fun h => ?_)))
    all_goals try (exfalso; omega)
    all_goals refine ⟨_, rfl, b234_0 ?_⟩
    all_goals try simp only [zlc_lt, zlc_gt, zlc_eq]
    all_goals repeat' (first | (refine zix_p (by omega) ?_) | (refine zov_p (by omega) ?_) | (refine zit (fun h => ?_) (fun h => ?_)))
    all_goals try (exfalso; omega)
    all_goals exact ⟨_, rfl, rfl⟩
  have w1 := x1 hv.1.1
  have w2 := x2 hv.1.1
  obtain ⟨A, hA⟩ : ∃ A : Nat, Int.tdiv a 10 = (A : Int) := ⟨(Int.tdiv a 10).toNat, by omega⟩
  obtain ⟨B, hB'⟩ : ∃ B : Nat, Int.tmod a 10 = (B : Int) := ⟨(Int.tmod a 10).toNat, by omega⟩
  obtain ⟨r, rfl⟩ : ∃ r : Nat, b = ((r + 1 : Nat) : Int) := ⟨(b - 1).toNat, by omega⟩
  obtain ⟨G, hG'⟩ : ∃ G : Nat, f0 1 1 = (G : Int) := ⟨(f0 1 1).toNat, by omega⟩
  have hb := hB_of s3.2.2
  have hA6 : A < 6 := by omega
  have hB6 : B < 6 := by omega
  have hG7 : G ≤ 7 := by omega
  have hR : ∀ g, g < 7 → 0 ≤ f0 2 (30 + g) ∧ f0 2 (30 + g) ≤ 99 := fun g hg => (s2 (30 + g) (by omega)).2.2.2.1 (by omega) (by omega)
  have hl := s3.2.2.2.1
  have hgb := gnW_b (M := f0 3) (R := fun g => f0 2 (30 + g)) hb hl hR hG7 hA6 hB6
  refine b141_0 ?_
  repeat' (first | (refine zix_p (by omega) ?_) | (refine zov_p (by omega) ?_) | (refine zit (fun h => ?_) (fun h => ?_)))
  all_goals try (exfalso; omega)
  rw [hA, hB']
  refine zcall (wgP (f0 3) (fun g => f0 2 (30 + g)) f0 A B G) (c_wgh (d := 196) hb hl hR (fun _ _ => rfl) s3.2.1 (fun _ _ => rfl) hG' hG7 hA6 hB6 (fun f1 m => m)) (fun f1 m => ?_)
  have m4 := m.2.2
  have k6 : f1 50 6 = f0 1 0 := (m4 50 6 (by decide) (by decide)).trans s1.symm
  have k7 : f1 50 7 = (G : Int) := (m4 50 7 (by decide) (by decide)).trans (s1'.symm.trans hG')
  have e55 : ∀ j, j < 168 → f1 55 j = f0 3 j := fun j hj => (m4 55 j (by decide) (by decide)).trans (s3.1 j hj).symm
  have e51 : ∀ g, g < 7 → f1 51 (30 + g) = f0 2 (30 + g) := fun g hg => (m4 51 (30 + g) (by decide) (by decide)).trans (s2 (30 + g) (by omega)).1.symm
  have e44 : ∀ g, g < 7 → f1 51 (44 + g) = f0 2 (44 + g) := fun g hg => (m4 51 (44 + g) (by decide) (by decide)).trans (s2 (44 + g) (by omega)).1.symm
  have wg : wgd (gnW (f0 3) (fun g => f0 2 (30 + g)) G A B) G f1 := fun g hg => by
    unfold gnW
    rw [if_pos hg, if_pos rfl, if_pos hg, if_neg (by decide)]
    exact m.2.1 g hg
  have sb : sub7 G (f1 40 0) := ⟨m.1.1, fun g hg h => ((m.1.2 g hg).1 h).1⟩
  have z0 : ∀ g : Nat, g < 7 → zand (zshr (0 : Int) (g : Int)) 1 = 0 := fun g hg => of_decide_eq_true (List.all_eq_true.1 (show (List.range 7).all (fun g => decide (zand (zshr (0 : Int) (g : Int)) 1 = 0)) = true by decide +kernel) g (List.mem_range.2 hg))
  have sm : sam (fun g => decide (g < G ∧ f0 2 (44 + g) < 0)) (f1 40 0) 0 := ⟨m.1.1, ⟨Int.le_refl _, by decide⟩, fun g hg => (m.1.2 g hg).trans ⟨fun h => ⟨decide_eq_true h, by rw [z0 g hg]; decide⟩, fun h => of_decide_eq_true h.1⟩⟩
  have RP := fun (rr d t : Nat) (y : Int) (Q : zQ) (h1 : t + rr = r + 1) (h2 : rr + 2 ≤ d) (h3 : 0 ≤ y ∧ y < 128) (h4 : Q (some (zI (pf (gnW (f0 3) (fun g => f0 2 (30 + g)) G A B) (fun g => decide (g < G ∧ f0 2 (44 + g) < 0)) rr t y))) zSH f1) => r_pl (sc := sc) (o := A) (t2 := B) (gn := gnW (f0 3) (fun g => f0 2 (30 + g)) G A B) (fr := fun g => decide (g < G ∧ f0 2 (44 + g) < 0)) hb hl hR e55 e51 k7 hG7 hA6 hB6 (fun g hg => ⟨by unfold gnW; rw [if_pos hg, if_pos rfl], by unfold gnW; rw [if_pos hg, if_neg (by decide)]⟩) hgb (fun g hg => by rw [e44 g (by omega)]; exact ⟨fun h => (of_decide_eq_true h).2, fun h => decide_eq_true ⟨hg, h⟩⟩) (fun g hg h => absurd (of_decide_eq_true h).1 (by omega)) (n := r + 1) (by omega) (sam_ex _) rr d t y Q h1 h2 h3 h4
  generalize hgn : gnW (f0 3) (fun g => f0 2 (30 + g)) G A B = gn at wg hgb RP
  generalize hfr : (fun g => decide (g < G ∧ f0 2 (44 + g) < 0)) = fr at sm RP
  have e7 : pf gn fr (r + 1) 0 0 = nb gn (r + 1) 0 (f1 40 0) := (pf_nb (r + 1) 0 _ _ sm).trans (if_pos rfl)
  refine zit (fun hc => ?_) (fun hc => ?_)
  · refine zcallE (f' := f1) (v := nb gn (r + 1) 0 (f1 40 0)) (b111_0 (d := 197) (zcallE (c_bf wg hgb hG7 (n := r + 1) (by omega) (r + 1) 197 0 _ _ (by omega) (by omega) sb ⟨rfl, rfl⟩) ⟨rfl, rfl⟩)) ?_
    refine ⟨_, rfl, b234_0 ?_⟩
    simp only [zlc_lt, zlc_gt, zlc_eq, k6]
    repeat' (first | (refine zix_p (by omega) ?_) | (refine zov_p (by omega) ?_) | (refine zit (fun h => ?_) (fun h => ?_)))
    all_goals try (exfalso; omega)
    rw [hA, hB']
    refine zcallE (RP (r + 1) 198 0 0 _ (by omega) (by omega) ⟨Int.le_refl _, by decide⟩ ⟨rfl, rfl⟩) ?_
    rw [if_pos hc]
    exact ⟨_, rfl, e7.symm⟩
  · refine zcall1 (fun v f' => ((v = 7 ∧ nbI (gn 0) (nb gn r 1) (f1 40 0) 7 = nbI (gn 0) (nb gn r 1) (f1 40 0) 0) ∨ (∃ q : Nat, v = (q : Int) ∧ q < 7 ∧ ¬ zand (zshr (f1 40 0) (q : Int)) 1 = 0 ∧ nbV (gn 0) (nb gn r 1) (f1 40 0) q = nbI (gn 0) (nb gn r 1) (f1 40 0) 7 ∧ nbI (gn 0) (nb gn r 1) (f1 40 0) 0 < nbI (gn 0) (nb gn r 1) (f1 40 0) 7 ∧ ∀ p, p < q → ¬ zand (zshr (f1 40 0) (p : Int)) 1 = 0 → nbV (gn 0) (nb gn r 1) (f1 40 0) p < nbI (gn 0) (nb gn r 1) (f1 40 0) 7)) ∧ f' = f1) (c_opn (d := 197) wg hgb hG7 (r := r) (by omega) (by omega) sb (fun v hv => ⟨v, rfl, hv, rfl⟩)) (fun v f2 _ hv => ?_)
    obtain ⟨hv, e⟩ := hv
    rw [e]
    refine ⟨_, rfl, b234_0 ?_⟩
    simp only [zlc_lt, zlc_gt, zlc_eq, k6]
    repeat' (first | (refine zix_p (by omega) ?_) | (refine zov_p (by omega) ?_) | (refine zit (fun h => ?_) (fun h => ?_)))
    all_goals try (exfalso; omega)
    rw [hA, hB']
    refine zcallE (RP (r + 1) 198 0 0 _ (by omega) (by omega) ⟨Int.le_refl _, by decide⟩ ⟨rfl, rfl⟩) ?_
    rw [if_neg hc]
    refine zcallE (RP r 198 1 0 _ (by omega) (by omega) ⟨Int.le_refl _, by decide⟩ ⟨rfl, rfl⟩) ?_
    have e8 : pf gn fr r 1 0 = nbI (gn 0) (nb gn r 1) (f1 40 0) 0 := (pf_nb r 1 _ _ sm).trans (if_neg (by decide))
    have e9 : nb gn (r + 1) 0 (f1 40 0) = nbI (gn 0) (nb gn r 1) (f1 40 0) 7 := rfl
    rw [e7, e8, e9]
    rcases hv with ⟨h1, h2⟩ | ⟨q, h1, h2, h3, h4, h5, h6⟩
    · rw [if_pos h2.symm]
      exact ⟨_, rfl, h1⟩
    · rw [if_neg (by omega)]
      have st : ∀ n : Nat, n < 7 → pf gn fr r 1 (zshl 1 (n : Int)) + gn 0 n = nbV (gn 0) (nb gn r 1) (f1 40 0) n := fun n hn => by
        have h8 := pf_nb (gn := gn) r 1 _ _ (sam_s sm hn)
        rw [if_neg (by decide), btO_0 hn] at h8
        rw [h8]
        unfold nbV
        omega
      have gw : ∀ n, n < G → woM (f0 3) (fun g => f0 2 (30 + g)) n B = gn 0 n := fun n hn => by
        rw [← hgn]
        unfold gnW
        rw [if_pos hn, if_pos rfl]
      have qG : q < G := ((m.1.2 q h2).1 h3).1
      have vb : ∀ n, -5000 ≤ nbV (gn 0) (nb gn r 1) (f1 40 0) n ∧ nbV (gn 0) (nb gn r 1) (f1 40 0) n ≤ 5000 := fun n => by
        have b1 := hgb 0 n
        have b2 := nb_b hgb r 1 (btA (f1 40 0) n)
        unfold nbV
        omega
      have sh : ∀ n : Nat, n < 7 → 0 ≤ zshl 1 (n : Int) ∧ zshl 1 (n : Int) < 128 := fun n hn => by
        rw [← btO_0 hn]
        exact (bt_o ⟨Int.le_refl _, by decide⟩ hn).1
      have L : ∀ n, n ≤ q → zR sc 199 234 118 [] [(0, zP 50), (2, zI ((r + 1 : Nat) : Int)), (4, zI (A : Int)), (5, zI (B : Int)), (6, zI (nbI (gn 0) (nb gn r 1) (f1 40 0) 7)), (7, zI (n : Int))] 0 0 zSH f1 (fun r _ f2 => ∃ w, r = some (zI w) ∧ v = w) := by
        refine zloop q (fun n hn ih => ?_) ?_
        · refine b234_118 ?_
          rw [k7, if_pos (by omega), show (44 + (n : Int)).toNat = 44 + n by omega, e44 n (by omega)]
          rw [show ((n + 1 : Nat) : Int) = (n : Int) + 1 by omega] at ih
          refine zov_p (by omega) (zix_p (by omega) (zit (fun c1 => ?_) (fun c1 => ?_)))
          · refine zcallE (RP r 198 1 (zshl 1 (n : Int)) _ (by omega) (by omega) (sh n (by omega)) ⟨rfl, rfl⟩) (zcallE (r_wth (d := 197) hb hl hR e55 e51 (show n < 7 by omega) hB6 ⟨rfl, rfl⟩) ?_)
            have bn := h6 n hn ((m.1.2 n (by omega)).2 ⟨by omega, c1⟩)
            have b1 := vb n
            rw [gw n (by omega), st n (by omega)]
            refine zov_p (by omega) ?_
            rw [if_neg (by omega)]
            exact zov_p (by omega) ih
          · exact zov_p (by omega) ih
        · refine b234_118 ?_
          rw [k7, if_pos (by omega), show (44 + (q : Int)).toNat = 44 + q by omega, e44 q h2]
          refine zov_p (by omega) (zix_p (by omega) ?_)
          rw [if_pos ((m.1.2 q h2).1 h3).2]
          refine zcallE (RP r 198 1 (zshl 1 (q : Int)) _ (by omega) (by omega) (sh q h2) ⟨rfl, rfl⟩) (zcallE (r_wth (d := 197) hb hl hR e55 e51 h2 hB6 ⟨rfl, rfl⟩) ?_)
          have b1 := vb q
          rw [gw q qG, st q h2]
          refine zov_p (by omega) ?_
          rw [if_pos h4]
          exact ⟨_, rfl, h1⟩
      exact L 0 (Nat.zero_le _)
end
