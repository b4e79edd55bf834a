noncomputable section
/-! the law's text: one reader, as a function of its bytes -/
def nxt (T : Nat → Int) (n p : Int) : Int := if 0 ≤ p ∧ p < n then T p.toNat else -1
def plv (c : Int) : Int := if c = 37 then 4 else if c = 38 then 1 else if c = 42 then 4 else if c = 43 then 3 else if c = 45 then 3 else if c = 47 then 4 else if c = 60 then 2 else if c = 61 then 2 else if c = 62 then 2 else if c = 124 then 0 else -1
def pnm (c : Int) : Int := if c = 97 then 1 else if c = 102 then 2 else if c = 103 then 6 else if c = 104 then 5 else if c = 114 then 3 else if c = 115 then 4 else 0
def pdg (T : Nat → Int) (n : Int) : Nat → Int → Int → Int × Int
  | 0, v, p => (v, p)
  | j + 1, v, p => if 48 ≤ nxt T n p ∧ nxt T n p ≤ 57 then pdg T n j (v * 10 + (nxt T n p - 48)) (p + 1) else (v, p)
abbrev pR : Type := Bool × (Int × List Int)
def pbi (b : Bool) : Int := if b = true then 1 else 0
def pcat (r s : pR) : pR := (s.1, s.2.1, r.2.2 ++ s.2.2)
def pfl (r : pR) : pR := (false, r.2.1, [])
def pad (r : pR) (a : Int) : pR := (true, r.2.1, r.2.2 ++ [a])
/-- one that is opened: by a bracket, a minus, a not -/
def pP (T : Nat → Int) (n : Int) (g : Int → Int → Int → pR) (c o p : Int) : pR :=
  if c = 40 then (if (g 0 (o + 1) (p + 1)).1 = true then (if nxt T n (g 0 (o + 1) (p + 1)).2.1 = 41 then (true, (g 0 (o + 1) (p + 1)).2.1 + 1, (g 0 (o + 1) (p + 1)).2.2) else pfl (g 0 (o + 1) (p + 1))) else pfl (g 0 (o + 1) (p + 1)))
  else (if (g 5 (o + 1) (p + 1)).1 = true then pad (g 5 (o + 1) (p + 1)) (if c = 45 then -126 else -c) else pfl (g 5 (o + 1) (p + 1)))
def pO (T : Nat → Int) (n : Int) (g : Int → Int → Int → pR) (o p : Int) : pR :=
  if 48 ≤ nxt T n p ∧ nxt T n p ≤ 57 then (true, (pdg T n 4 0 p).2, [(pdg T n 4 0 p).1])
  else if 0 < pnm (nxt T n p) then (true, p + 1, [-(pnm (nxt T n p))])
  else if (nxt T n p = 40 ∨ nxt T n p = 33 ∨ nxt T n p = 45) ∧ o < 6 then pP T n g (nxt T n p) o p
  else (false, p, [])
def pV (g : Int → Int → Int → pR) (m o p : Int) : pR :=
  if (g (m + 1) o p).1 = true then pcat (g (m + 1) o p) (g (10 + m) o (g (m + 1) o p).2.1) else pfl (g (m + 1) o p)
def pW (T : Nat → Int) (n : Int) (g : Int → Int → Int → pR) (l o p : Int) : pR :=
  if plv (nxt T n p) = l then (if (g (l + 1) o (p + 1)).1 = true then (if l = 2 then pad (g (l + 1) o (p + 1)) (-(nxt T n p)) else pcat (pad (g (l + 1) o (p + 1)) (-(nxt T n p))) (g (10 + l) o (g (l + 1) o (p + 1)).2.1)) else pfl (g (l + 1) o (p + 1))) else (true, p, [])
/-- the reader: modes 0 to 4 are levels, 5 is one, 10 to 14 are what follows behind a level's first -/
def pps (T : Nat → Int) (n : Int) : Nat → Int → Int → Int → pR
  | 0, _, _, p => (false, p, [])
  | k + 1, m, o, p => if m = 5 then pO T n (pps T n k) o p else if m < 5 then pV (pps T n k) m o p else pW T n (pps T n k) (m - 10) o p
section READF
variable {T : Nat → Int} {n : Int}
theorem pps_O {k : Nat} {o p : Int} : pps T n (k + 1) 5 o p = pO T n (pps T n k) o p := if_pos rfl
theorem pps_V {k : Nat} {m o p : Int} (h : m < 5) : pps T n (k + 1) m o p = pV (pps T n k) m o p := by
  show (if m = 5 then _ else if m < 5 then _ else _) = _
  rw [if_neg (by omega), if_pos h]
theorem pps_W {k : Nat} {l o p : Int} (h : 0 ≤ l) : pps T n (k + 1) (10 + l) o p = pW T n (pps T n k) l o p := by
  show (if 10 + l = 5 then _ else if 10 + l < 5 then _ else pW T n (pps T n k) (10 + l - 10) o p) = _
  rw [if_neg (by omega), if_neg (by omega), show 10 + l - 10 = l by omega]
theorem nxt_is {p : Int} (h : 0 ≤ p ∧ p < n) : nxt T n p = T p.toNat := if_pos h
theorem nxt_no {p : Int} (h : ¬ (0 ≤ p ∧ p < n)) : nxt T n p = -1 := if_neg h
theorem nxt_lt {p : Int} (h : 0 ≤ nxt T n p) : 0 ≤ p ∧ p < n := by
  by_cases g : 0 ≤ p ∧ p < n
  · exact g
  · rw [nxt_no g] at h; omega
theorem plv_b {c : Int} (h : 0 ≤ plv c) : 33 ≤ c ∧ c ≤ 126 := by
  unfold plv at h
  repeat' split at h
  all_goals omega
theorem pnm_b {c : Int} (h : 0 < pnm c) : pnm c ≤ 6 ∧ 97 ≤ c ∧ c ≤ 115 := by
  unfold pnm at h ⊢
  repeat' split at h
  all_goals first | omega | (simp only [*, if_true, if_false, Int.reduceEq] <;> omega)
theorem pdg_at : ∀ (j : Nat) (v p : Int), 0 ≤ p → p ≤ n → p ≤ (pdg T n j v p).2 ∧ (pdg T n j v p).2 ≤ n
  | 0, v, p, h0, h1 => ⟨Int.le_refl _, h1⟩
  | j + 1, v, p, h0, h1 => by
    show p ≤ (if 48 ≤ nxt T n p ∧ nxt T n p ≤ 57 then pdg T n j (v * 10 + (nxt T n p - 48)) (p + 1) else (v, p)).2 ∧ (if 48 ≤ nxt T n p ∧ nxt T n p ≤ 57 then pdg T n j (v * 10 + (nxt T n p - 48)) (p + 1) else (v, p)).2 ≤ n
    by_cases h : 48 ≤ nxt T n p ∧ nxt T n p ≤ 57
    · rw [if_pos h]
      have h2 := nxt_lt (T := T) (n := n) (p := p) (by omega)
      have := pdg_at j (v * 10 + (nxt T n p - 48)) (p + 1) (by omega) (by omega)
      omega
    · rw [if_neg h]
      exact ⟨Int.le_refl _, h1⟩
theorem pdg_s {j : Nat} {v p : Int} (h : 48 ≤ nxt T n p ∧ nxt T n p ≤ 57) : pdg T n (j + 1) v p = pdg T n j (v * 10 + (nxt T n p - 48)) (p + 1) := if_pos h
theorem pdg_e {j : Nat} {v p : Int} (h : ¬ (48 ≤ nxt T n p ∧ nxt T n p ≤ 57)) : pdg T n (j + 1) v p = (v, p) := if_neg h
/-- where a reading ends, and how much it wrote -/
def pgd (n p : Int) (s : Bool) (r : pR) : Prop := p ≤ r.2.1 ∧ r.2.1 ≤ n ∧ (r.1 = true → (r.2.2.length : Int) ≤ r.2.1 - p ∧ (s = true → p < r.2.1))
theorem pgd_fl {p q : Int} {s t : Bool} {r : pR} (h : pgd n q s r) (hq : p ≤ q) : pgd n p t (pfl r) := ⟨Int.le_trans hq h.1, h.2.1, fun h => by cases h⟩
theorem pgd_pad {p q a : Int} {s t : Bool} {r : pR} (h : pgd n q s r) (hb : r.1 = true) (hq : p + 1 ≤ q) : pgd n p t (pad r a) := by
  obtain ⟨h1, h2, h3⟩ := h
  have h3 := h3 hb
  refine ⟨by show p ≤ r.2.1; omega, h2, fun _ => ⟨?_, fun _ => by show p < r.2.1; omega⟩⟩
  show ((r.2.2 ++ [a]).length : Int) ≤ r.2.1 - p
  rw [List.length_append, List.length_singleton]
  omega
theorem pgd_cat {p : Int} {t : Bool} {r s : pR} {u : Bool} (h : pgd n p t r) (hb : r.1 = true) (g : pgd n r.2.1 u s) : pgd n p t (pcat r s) := by
  obtain ⟨h1, h2, h3⟩ := h
  obtain ⟨g1, g2, g3⟩ := g
  have h3 := h3 hb
  refine ⟨by show p ≤ s.2.1; omega, g2, fun hs => ⟨?_, fun ht => by show p < s.2.1; have := h3.2 ht; omega⟩⟩
  have g3 := (g3 hs).1
  show ((r.2.2 ++ s.2.2).length : Int) ≤ s.2.1 - p
  rw [List.length_append]
  omega
theorem pps_at : ∀ k : Nat, (∀ m o p : Int, 0 ≤ m → m ≤ 5 → 0 ≤ p → p ≤ n → 20 * (n - p) + 7 - m ≤ (k : Int) → pgd n p true (pps T n k m o p)) ∧ (∀ l o p : Int, 0 ≤ l → l ≤ 4 → 0 ≤ p → p ≤ n → 20 * (n - p) + 7 - l ≤ (k : Int) → pgd n p false (pps T n k (10 + l) o p))
  | 0 => ⟨fun m o p _ _ _ _ _ => by omega, fun l o p _ _ _ _ _ => by omega⟩
  | k + 1 => by
    obtain ⟨ih1, ih2⟩ := pps_at k
    refine ⟨fun m o p h0 h5 hp hn hk => ?_, fun l o p h0 h4 hp hn hk => ?_⟩
    · by_cases hm : m = 5
      · subst hm
        rw [pps_O]
        unfold pO
        by_cases c1 : 48 ≤ nxt T n p ∧ nxt T n p ≤ 57
        · rw [if_pos c1]
          have h2 := nxt_lt (T := T) (n := n) (p := p) (by omega)
          rw [pdg_s c1]
          have := pdg_at (T := T) (n := n) 3 (0 * 10 + (nxt T n p - 48)) (p + 1) (by omega) (by omega)
          exact ⟨by show p ≤ (pdg T n 3 _ (p + 1)).2; omega, this.2, fun _ => ⟨by show (1 : Int) ≤ (pdg T n 3 _ (p + 1)).2 - p; omega, fun _ => by show p < (pdg T n 3 _ (p + 1)).2; omega⟩⟩
        · rw [if_neg c1]
          by_cases c2 : 0 < pnm (nxt T n p)
          · rw [if_pos c2]
            have h2 := nxt_lt (T := T) (n := n) (p := p) (by have := pnm_b c2; omega)
            exact ⟨by show p ≤ p + 1; omega, by show p + 1 ≤ n; omega, fun _ => ⟨by show (1 : Int) ≤ p + 1 - p; omega, fun _ => by show p < p + 1; omega⟩⟩
          · rw [if_neg c2]
            by_cases c3 : (nxt T n p = 40 ∨ nxt T n p = 33 ∨ nxt T n p = 45) ∧ o < 6
            · rw [if_pos c3]
              have h2 := nxt_lt (T := T) (n := n) (p := p) (by omega)
              unfold pP
              by_cases c4 : nxt T n p = 40
              · rw [if_pos c4]
                have G := ih1 0 (o + 1) (p + 1) (by omega) (by omega) (by omega) (by omega) (by omega)
                by_cases c5 : (pps T n k 0 (o + 1) (p + 1)).1 = true
                · rw [if_pos c5]
                  by_cases c6 : nxt T n (pps T n k 0 (o + 1) (p + 1)).2.1 = 41
                  · rw [if_pos c6]
                    have h3 := nxt_lt (T := T) (n := n) (p := (pps T n k 0 (o + 1) (p + 1)).2.1) (by omega)
                    obtain ⟨G1, G2, G3⟩ := G
                    have G3 := G3 c5
                    exact ⟨by show p ≤ (pps T n k 0 (o + 1) (p + 1)).2.1 + 1; omega, by show (pps T n k 0 (o + 1) (p + 1)).2.1 + 1 ≤ n; omega, fun _ => ⟨by show ((pps T n k 0 (o + 1) (p + 1)).2.2.length : Int) ≤ (pps T n k 0 (o + 1) (p + 1)).2.1 + 1 - p; omega, fun _ => by show p < (pps T n k 0 (o + 1) (p + 1)).2.1 + 1; omega⟩⟩
                  · rw [if_neg c6]
                    exact pgd_fl G (by omega)
                · rw [if_neg c5]
                  exact pgd_fl G (by omega)
              · rw [if_neg c4]
                have G := ih1 5 (o + 1) (p + 1) (by omega) (by omega) (by omega) (by omega) (by omega)
                by_cases c5 : (pps T n k 5 (o + 1) (p + 1)).1 = true
                · rw [if_pos c5]
                  exact pgd_pad G c5 (by omega)
                · rw [if_neg c5]
                  exact pgd_fl G (by omega)
            · rw [if_neg c3]
              exact ⟨Int.le_refl _, hn, fun h => by cases h⟩
      · rw [pps_V (by omega)]
        unfold pV
        have G := ih1 (m + 1) o p (by omega) (by omega) hp hn (by omega)
        by_cases c5 : (pps T n k (m + 1) o p).1 = true
        · rw [if_pos c5]
          obtain ⟨G1, G2, G3⟩ := id G
          have g3 := (G3 c5).2 rfl
          exact pgd_cat G c5 (ih2 m o _ h0 (by omega) (by omega) G2 (by omega))
        · rw [if_neg c5]
          exact pgd_fl G (by omega)
    · rw [pps_W h0]
      unfold pW
      by_cases c1 : plv (nxt T n p) = l
      · rw [if_pos c1]
        have h2 := nxt_lt (T := T) (n := n) (p := p) (by have := plv_b (c := nxt T n p) (by omega); omega)
        have G := ih1 (l + 1) o (p + 1) (by omega) (by omega) (by omega) (by omega) (by omega)
        by_cases c5 : (pps T n k (l + 1) o (p + 1)).1 = true
        · rw [if_pos c5]
          by_cases c6 : l = 2
          · rw [if_pos c6]
            exact pgd_pad G c5 (by omega)
          · rw [if_neg c6]
            obtain ⟨G1, G2, G3⟩ := id G
            have g3 := (G3 c5).2 rfl
            exact pgd_cat (pgd_pad G c5 (by omega)) rfl (ih2 l o _ h0 (by omega) (by show 0 ≤ (pps T n k (l + 1) o (p + 1)).2.1; omega) G2 (by show 20 * (n - (pps T n k (l + 1) o (p + 1)).2.1) + 7 - l ≤ (k : Int); omega))
        · rw [if_neg c5]
          exact pgd_fl G (by omega)
      · rw [if_neg c1]
        exact ⟨Int.le_refl _, hn, fun _ => ⟨by show (0 : Int) ≤ p - p; omega, fun h => by cases h⟩⟩
end READF
set_option maxRecDepth 100000 in
theorem b108_0 {sc : zC} {d : Nat} {f : zF} {Q : zQ} (h : if f (19) (4) < 0 then (Q (some (zI (-1))) zSH f) else (if f (19) (4) < f (19) (1) then (zix (f (19) (4)) (120) (Q (some (zI (f (20) ((f (19) (4)).toNat)))) zSH f)) else (Q (some (zI (-1))) zSH f))) : zR sc (d + 1) 108 0 [] [(0, zP (19))] 0 0 zSH f Q := zwn_R (stp := fun _ _ => none) (inl := fun _ => false) (nov := fun _ => true) 21 h
set_option maxRecDepth 100000 in
theorem b103_0 {sc : zC} {d : Nat} {a : Int} {f : zF} {Q : zQ} (h : if a = 37 then (Q (some (zI (4))) zSH f) else if a = 38 then (Q (some (zI (1))) zSH f) else if a = 42 then (Q (some (zI (4))) zSH f) else if a = 43 then (Q (some (zI (3))) zSH f) else if a = 45 then (Q (some (zI (3))) zSH f) else if a = 47 then (Q (some (zI (4))) zSH f) else if a = 60 then (Q (some (zI (2))) zSH f) else if a = 61 then (Q (some (zI (2))) zSH f) else if a = 62 then (Q (some (zI (2))) zSH f) else if a = 124 then (Q (some (zI (0))) zSH f) else (Q (some (zI (-1))) zSH f)) : zR sc (d + 1) 103 0 [] [(0, zI a)] 0 0 zSH f Q := zwn_R (stp := fun _ _ => none) (inl := fun _ => false) (nov := fun _ => true) 26 h
set_option maxRecDepth 100000 in
theorem b27_0 {sc : zC} {d : Nat} {a : Int} {f : zF} {Q : zQ} (h : if a = 97 then (Q (some (zI (1))) zSH f) else if a = 98 then (Q (some (zI (0))) zSH f) else if a = 99 then (Q (some (zI (0))) zSH f) else if a = 100 then (Q (some (zI (0))) zSH f) else if a = 101 then (Q (some (zI (0))) zSH f) else if a = 102 then (Q (some (zI (2))) zSH f) else if a = 103 then (Q (some (zI (6))) zSH f) else if a = 104 then (Q (some (zI (5))) zSH f) else if a = 105 then (Q (some (zI (0))) zSH f) else if a = 106 then (Q (some (zI (0))) zSH f) else if a = 107 then (Q (some (zI (0))) zSH f) else if a = 108 then (Q (some (zI (0))) zSH f) else if a = 109 then (Q (some (zI (0))) zSH f) else if a = 110 then (Q (some (zI (0))) zSH f) else if a = 111 then (Q (some (zI (0))) zSH f) else if a = 112 then (Q (some (zI (0))) zSH f) else if a = 113 then (Q (some (zI (0))) zSH f) else if a = 114 then (Q (some (zI (3))) zSH f) else if a = 115 then (Q (some (zI (4))) zSH f) else (Q (some (zI (0))) zSH f)) : zR sc (d + 1) 27 0 [] [(0, zI a)] 0 0 zSH f Q := zwn_R (stp := fun _ _ => none) (inl := fun _ => false) (nov := fun _ => true) 44 h
set_option maxRecDepth 100000 in
theorem b109_0 {sc : zC} {d : Nat} {a : Int} {f : zF} {Q : zQ} (h : if f (19) (3) < 121 then (zix (f (19) (3)) (121) (zov ((f (19) (3)) + (1)) (Q none zSH (zup (zup f (21) ((f (19) (3)).toNat) a) (19) (3) ((f (19) (3)) + (1)))))) else (Q none zSH f)) : zR sc (d + 1) 109 0 [] [(0, zP (19)), (1, zI a)] 0 0 zSH f Q := zwn_R (stp := fun _ _ => none) (inl := fun _ => false) (nov := fun _ => true) 22 h
set_option maxRecDepth 100000 in
theorem b107_0 {sc : zC} {d : Nat} {a : Int} {f : zF} {Q : zQ} (h : ∃ A2 : zQ, zR sc d 108 0 [] [(0, zP (19))] 0 0 zSH f A2 ∧ ∀ (r3 : Int) (f1 : zF), zIn r3 → A2 (some (zI r3)) zSH f1 → (if r3 = a then (zov ((f1 (19) (4)) + (1)) (Q (some (zI (1))) zSH (zup f1 (19) (4) ((f1 (19) (4)) + (1))))) else (Q (some (zI (0))) zSH f1))) : zR sc (d + 1) 107 0 [] [(0, zP (19)), (1, zI a)] 0 0 zSH f Q := zwn_R (stp := fun _ _ => none) (inl := fun _ => false) (nov := fun _ => true) 16 h
set_option maxRecDepth 100000 in
theorem b104_0 {sc : zC} {d : Nat} {f : zF} {Q : zQ} (h : ∃ A2 : zQ, zR sc d 108 0 [] [(0, zP (19))] 0 0 zSH f A2 ∧ ∀ (r3 : Int) (f1 : zF), zIn r3 → A2 (some (zI r3)) zSH f1 → (if r3 < 48 then (∃ A5 : zQ, zR sc d 27 0 [] [(0, zI r3)] 0 0 zSH f1 A5 ∧ ∀ (r6 : Int) (f4 : zF), zIn r6 → A5 (some (zI r6)) zSH f4 → (if 0 < r6 then (zov ((f4 (19) (4)) + (1)) (zov (-r6) (∃ A8 : zQ, zR sc d 109 0 [] [(0, zP (19)), (1, zI (-r6))] 0 0 zSH (zup f4 (19) (4) ((f4 (19) (4)) + (1))) A8 ∧ ∀ f7 : zF, A8 none zSH f7 → (Q (some (zI (1))) zSH f7)))) else (if r3 = 40 then (if f4 (19) (5) < 6 then (∃ A10 : zQ, zR sc d 105 0 [] [(0, zP (19)), (1, zI r3)] 0 0 zSH f4 A10 ∧ ∀ (r11 : Int) (f9 : zF), (r11 = 0 ∨ r11 = 1) → A10 (some (zI r11)) zSH f9 → (if r11 = 0 then (Q (some (zI (0))) zSH f9) else (Q (some (zI (1))) zSH f9))) else (Q (some (zI (0))) zSH f4)) else (if r3 = 33 then (if f4 (19) (5) < 6 then (∃ A13 : zQ, zR sc d 105 0 [] [(0, zP (19)), (1, zI r3)] 0 0 zSH f4 A13 ∧ ∀ (r14 : Int) (f12 : zF), (r14 = 0 ∨ r14 = 1) → A13 (some (zI r14)) zSH f12 → (if r14 = 0 then (Q (some (zI (0))) zSH f12) else (Q (some (zI (1))) zSH f12))) else (Q (some (zI (0))) zSH f4)) else (if r3 = 45 then (if f4 (19) (5) < 6 then (∃ A16 : zQ, zR sc d 105 0 [] [(0, zP (19)), (1, zI r3)] 0 0 zSH f4 A16 ∧ ∀ (r17 : Int) (f15 : zF), (r17 = 0 ∨ r17 = 1) → A16 (some (zI r17)) zSH f15 → (if r17 = 0 then (Q (some (zI (0))) zSH f15) else (Q (some (zI (1))) zSH f15))) else (Q (some (zI (0))) zSH f4)) else (Q (some (zI (0))) zSH f4)))))) else (if 57 < r3 then (∃ A19 : zQ, zR sc d 27 0 [] [(0, zI r3)] 0 0 zSH f1 A19 ∧ ∀ (r20 : Int) (f18 : zF), zIn r20 → A19 (some (zI r20)) zSH f18 → (if 0 < r20 then (zov ((f18 (19) (4)) + (1)) (zov (-r20) (∃ A22 : zQ, zR sc d 109 0 [] [(0, zP (19)), (1, zI (-r20))] 0 0 zSH (zup f18 (19) (4) ((f18 (19) (4)) + (1))) A22 ∧ ∀ f21 : zF, A22 none zSH f21 → (Q (some (zI (1))) zSH f21)))) else (if r3 = 40 then (if f18 (19) (5) < 6 then (∃ A24 : zQ, zR sc d 105 0 [] [(0, zP (19)), (1, zI r3)] 0 0 zSH f18 A24 ∧ ∀ (r25 : Int) (f23 : zF), (r25 = 0 ∨ r25 = 1) → A24 (some (zI r25)) zSH f23 → (if r25 = 0 then (Q (some (zI (0))) zSH f23) else (Q (some (zI (1))) zSH f23))) else (Q (some (zI (0))) zSH f18)) else (if r3 = 33 then (if f18 (19) (5) < 6 then (∃ A27 : zQ, zR sc d 105 0 [] [(0, zP (19)), (1, zI r3)] 0 0 zSH f18 A27 ∧ ∀ (r28 : Int) (f26 : zF), (r28 = 0 ∨ r28 = 1) → A27 (some (zI r28)) zSH f26 → (if r28 = 0 then (Q (some (zI (0))) zSH f26) else (Q (some (zI (1))) zSH f26))) else (Q (some (zI (0))) zSH f18)) else (if r3 = 45 then (if f18 (19) (5) < 6 then (∃ A30 : zQ, zR sc d 105 0 [] [(0, zP (19)), (1, zI r3)] 0 0 zSH f18 A30 ∧ ∀ (r31 : Int) (f29 : zF), (r31 = 0 ∨ r31 = 1) → A30 (some (zI r31)) zSH f29 → (if r31 = 0 then (Q (some (zI (0))) zSH f29) else (Q (some (zI (1))) zSH f29))) else (Q (some (zI (0))) zSH f18)) else (Q (some (zI (0))) zSH f18)))))) else (∃ A33 : zQ, zR sc d 106 0 [] [(0, zP (19))] 0 0 zSH f1 A33 ∧ ∀ (r34 : Int) (f32 : zF), (r34 = 0 ∨ r34 = 1) → A33 (some (zI r34)) zSH f32 → (zrB r34 (Q (some (zI r34)) zSH f32)))))) : zR sc (d + 1) 104 0 [] [(0, zP (19))] 0 0 zSH f Q := zwn_R (stp := fun _ _ => none) (inl := fun _ => false) (nov := fun _ => true) 198 h
set_option maxRecDepth 100000 in
theorem b105_0 {sc : zC} {d : Nat} {a : Int} {f : zF} {Q : zQ} (h : zov ((f (19) (4)) + (1)) (zov ((f (19) (5)) + (1)) (if a = 40 then (∃ A2 : zQ, zR sc d 102 0 [] [(0, zP (19)), (1, zI (0))] 0 0 zSH (zup (zup f (19) (4) ((f (19) (4)) + (1))) (19) (5) ((f (19) (5)) + (1))) A2 ∧ ∀ (r3 : Int) (f1 : zF), (r3 = 0 ∨ r3 = 1) → A2 (some (zI r3)) zSH f1 → (if r3 = 0 then (zov ((f1 (19) (5)) - (1)) (if a = 40 then (Q (some (zI (0))) zSH (zup f1 (19) (5) ((f1 (19) (5)) - (1)))) else (if a = 45 then (∃ A5 : zQ, zR sc d 109 0 [] [(0, zP (19)), (1, zI (-126))] 0 0 zSH (zup f1 (19) (5) ((f1 (19) (5)) - (1))) A5 ∧ ∀ f4 : zF, A5 none zSH f4 → (Q (some (zI (0))) zSH f4)) else (zov (-a) (∃ A7 : zQ, zR sc d 109 0 [] [(0, zP (19)), (1, zI (-a))] 0 0 zSH (zup f1 (19) (5) ((f1 (19) (5)) - (1))) A7 ∧ ∀ f6 : zF, A7 none zSH f6 → (Q (some (zI (0))) zSH f6)))))) else (∃ A9 : zQ, zR sc d 107 0 [] [(0, zP (19)), (1, zI (41))] 0 0 zSH f1 A9 ∧ ∀ (r10 : Int) (f8 : zF), (r10 = 0 ∨ r10 = 1) → A9 (some (zI r10)) zSH f8 → (if r10 = 0 then (zov ((f8 (19) (5)) - (1)) (if a = 40 then (Q (some (zI (0))) zSH (zup f8 (19) (5) ((f8 (19) (5)) - (1)))) else (if a = 45 then (∃ A12 : zQ, zR sc d 109 0 [] [(0, zP (19)), (1, zI (-126))] 0 0 zSH (zup f8 (19) (5) ((f8 (19) (5)) - (1))) A12 ∧ ∀ f11 : zF, A12 none zSH f11 → (Q (some (zI (0))) zSH f11)) else (zov (-a) (∃ A14 : zQ, zR sc d 109 0 [] [(0, zP (19)), (1, zI (-a))] 0 0 zSH (zup f8 (19) (5) ((f8 (19) (5)) - (1))) A14 ∧ ∀ f13 : zF, A14 none zSH f13 → (Q (some (zI (0))) zSH f13)))))) else (zov ((f8 (19) (5)) - (1)) (if a = 40 then (Q (some (zI (1))) zSH (zup f8 (19) (5) ((f8 (19) (5)) - (1)))) else (if a = 45 then (∃ A16 : zQ, zR sc d 109 0 [] [(0, zP (19)), (1, zI (-126))] 0 0 zSH (zup f8 (19) (5) ((f8 (19) (5)) - (1))) A16 ∧ ∀ f15 : zF, A16 none zSH f15 → (Q (some (zI (1))) zSH f15)) else (zov (-a) (∃ A18 : zQ, zR sc d 109 0 [] [(0, zP (19)), (1, zI (-a))] 0 0 zSH (zup f8 (19) (5) ((f8 (19) (5)) - (1))) A18 ∧ ∀ f17 : zF, A18 none zSH f17 → (Q (some (zI (1))) zSH f17)))))))))) else (∃ A20 : zQ, zR sc d 104 0 [] [(0, zP (19))] 0 0 zSH (zup (zup f (19) (4) ((f (19) (4)) + (1))) (19) (5) ((f (19) (5)) + (1))) A20 ∧ ∀ (r21 : Int) (f19 : zF), (r21 = 0 ∨ r21 = 1) → A20 (some (zI r21)) zSH f19 → (zov ((f19 (19) (5)) - (1)) (if a = 40 then (zrB r21 (Q (some (zI r21)) zSH (zup f19 (19) (5) ((f19 (19) (5)) - (1))))) else (if a = 45 then (∃ A23 : zQ, zR sc d 109 0 [] [(0, zP (19)), (1, zI (-126))] 0 0 zSH (zup f19 (19) (5) ((f19 (19) (5)) - (1))) A23 ∧ ∀ f22 : zF, A23 none zSH f22 → (zrB r21 (Q (some (zI r21)) zSH f22))) else (zov (-a) (∃ A25 : zQ, zR sc d 109 0 [] [(0, zP (19)), (1, zI (-a))] 0 0 zSH (zup f19 (19) (5) ((f19 (19) (5)) - (1))) A25 ∧ ∀ f24 : zF, A25 none zSH f24 → (zrB r21 (Q (some (zI r21)) zSH f24))))))))))) : zR sc (d + 1) 105 0 [] [(0, zP (19)), (1, zI a)] 0 0 zSH f Q := zwn_R (stp := fun _ _ => none) (inl := fun _ => false) (nov := fun _ => true) 137 h
set_option maxRecDepth 100000 in
theorem b102_0 {sc : zC} {d : Nat} {a : Int} {f : zF} {Q : zQ} (h : if a < 5 then (zov (a + (1)) (∃ A2 : zQ, zR sc d 102 0 [] [(0, zP (19)), (1, zI (a + (1)))] 0 0 zSH f A2 ∧ ∀ (r3 : Int) (f1 : zF), (r3 = 0 ∨ r3 = 1) → A2 (some (zI r3)) zSH f1 → (if a = 2 then (∃ A5 : zQ, zR sc d 108 0 [] [(0, zP (19))] 0 0 zSH f1 A5 ∧ ∀ (r6 : Int) (f4 : zF), zIn r6 → A5 (some (zI r6)) zSH f4 → (zR sc (d + 1) 102 39 [] [(0, zP (19)), (1, zI a), (2, zI r3), (3, zI (1)), (4, zI r6), (5, zI (0))] 0 0 zSH f4 Q)) else (∃ A8 : zQ, zR sc d 108 0 [] [(0, zP (19))] 0 0 zSH f1 A8 ∧ ∀ (r9 : Int) (f7 : zF), zIn r9 → A8 (some (zI r9)) zSH f7 → (zR sc (d + 1) 102 39 [] [(0, zP (19)), (1, zI a), (2, zI r3), (3, zI (120)), (4, zI r9), (5, zI (0))] 0 0 zSH f7 Q))))) else (∃ A11 : zQ, zR sc d 104 0 [] [(0, zP (19))] 0 0 zSH f A11 ∧ ∀ (r12 : Int) (f10 : zF), (r12 = 0 ∨ r12 = 1) → A11 (some (zI r12)) zSH f10 → (zrB r12 (Q (some (zI r12)) zSH f10)))) : zR sc (d + 1) 102 0 [] [(0, zP (19)), (1, zI a)] 0 0 zSH f Q := zwn_R (stp := fun mi pc => bif Nat.beq mi 102 && Nat.beq pc 39 then some [0, 1, 2, 3, 4, 5] else none) (inl := fun _ => false) (nov := fun _ => true) 32 h
set_option maxRecDepth 100000 in
theorem b102_39 {sc : zC} {d : Nat} {x1 x2 x3 x4 x5 : Int} {f : zF} {Q : zQ} (h : if x2 = 0 then (zrB x2 (Q (some (zI x2)) zSH f)) else (if x5 < x3 then (∃ A2 : zQ, zR sc d 103 0 [] [(0, zI x4)] 0 0 zSH f A2 ∧ ∀ (r3 : Int) (f1 : zF), zIn r3 → A2 (some (zI r3)) zSH f1 → (if r3 = x1 then (zov ((f1 (19) (4)) + (1)) (zov (x1 + (1)) (∃ A5 : zQ, zR sc d 102 0 [] [(0, zP (19)), (1, zI (x1 + (1)))] 0 0 zSH (zup f1 (19) (4) ((f1 (19) (4)) + (1))) A5 ∧ ∀ (r6 : Int) (f4 : zF), (r6 = 0 ∨ r6 = 1) → A5 (some (zI r6)) zSH f4 → (zov (-x4) (∃ A8 : zQ, zR sc d 109 0 [] [(0, zP (19)), (1, zI (-x4))] 0 0 zSH f4 A8 ∧ ∀ f7 : zF, A8 none zSH f7 → (∃ A10 : zQ, zR sc d 108 0 [] [(0, zP (19))] 0 0 zSH f7 A10 ∧ ∀ (r11 : Int) (f9 : zF), zIn r11 → A10 (some (zI r11)) zSH f9 → (zov (x5 + 1) (zR sc (d + 1) 102 39 [] [(0, zP (19)), (1, zI x1), (2, zI r6), (3, zI x3), (4, zI r11), (5, zI (x5 + 1))] 0 0 zSH f9 Q)))))))) else (zrB x2 (Q (some (zI x2)) zSH f1)))) else (zrB x2 (Q (some (zI x2)) zSH f)))) : zR sc (d + 1) 102 39 [] [(0, zP (19)), (1, zI x1), (2, zI x2), (3, zI x3), (4, zI x4), (5, zI x5)] 0 0 zSH f Q := zwn_R (stp := fun mi pc => bif Nat.beq mi 102 && Nat.beq pc 39 then some [0, 1, 2, 3, 4, 5] else none) (inl := fun _ => false) (nov := fun _ => true) 38 h
set_option maxRecDepth 100000 in
theorem b106_0 {sc : zC} {d : Nat} {f : zF} {Q : zQ} (h : ∃ A2 : zQ, zR sc d 108 0 [] [(0, zP (19))] 0 0 zSH f A2 ∧ ∀ (r3 : Int) (f1 : zF), zIn r3 → A2 (some (zI r3)) zSH f1 → (zov (r3 - (48)) (zR sc (d + 1) 106 12 [] [(0, zP (19)), (1, zI (0)), (2, zI (r3 - (48))), (3, zI (0))] 0 0 zSH f1 Q))) : zR sc (d + 1) 106 0 [] [(0, zP (19))] 0 0 zSH f Q := zwn_R (stp := fun mi pc => bif Nat.beq mi 106 && Nat.beq pc 12 then some [0, 1, 2, 3] else none) (inl := fun _ => false) (nov := fun _ => true) 11 h
set_option maxRecDepth 100000 in
theorem b106_12 {sc : zC} {d : Nat} {x1 x2 x3 : Int} {f : zF} {Q : zQ} (h : if x3 < 4 then (if x2 < 0 then (∃ A2 : zQ, zR sc d 109 0 [] [(0, zP (19)), (1, zI x1)] 0 0 zSH f A2 ∧ ∀ f1 : zF, A2 none zSH f1 → (Q (some (zI (1))) zSH f1)) else (if 9 < x2 then (∃ A4 : zQ, zR sc d 109 0 [] [(0, zP (19)), (1, zI x1)] 0 0 zSH f A4 ∧ ∀ f3 : zF, A4 none zSH f3 → (Q (some (zI (1))) zSH f3)) else (zov (x1 * (10)) (zov ((x1 * (10)) + x2) (zov ((f (19) (4)) + (1)) (∃ A6 : zQ, zR sc d 108 0 [] [(0, zP (19))] 0 0 zSH (zup f (19) (4) ((f (19) (4)) + (1))) A6 ∧ ∀ (r7 : Int) (f5 : zF), zIn r7 → A6 (some (zI r7)) zSH f5 → (zov (r7 - (48)) (zov (x3 + 1) (zR sc (d + 1) 106 12 [] [(0, zP (19)), (1, zI ((x1 * (10)) + x2)), (2, zI (r7 - (48))), (3, zI (x3 + 1))] 0 0 zSH f5 Q))))))))) else (∃ A9 : zQ, zR sc d 109 0 [] [(0, zP (19)), (1, zI x1)] 0 0 zSH f A9 ∧ ∀ f8 : zF, A9 none zSH f8 → (Q (some (zI (1))) zSH f8))) : zR sc (d + 1) 106 12 [] [(0, zP (19)), (1, zI x1), (2, zI x2), (3, zI x3)] 0 0 zSH f Q := zwn_R (stp := fun mi pc => bif Nat.beq mi 106 && Nat.beq pc 12 then some [0, 1, 2, 3] else none) (inl := fun _ => false) (nov := fun _ => true) 44 h
set_option maxRecDepth 100000 in
theorem b101_0 {sc : zC} {d : Nat} {f : zF} {Q : zQ} (h : ∃ A2 : zQ, zR sc d 102 0 [] [(0, zP (19)), (1, zI (0))] 0 0 zSH f A2 ∧ ∀ (r3 : Int) (f1 : zF), (r3 = 0 ∨ r3 = 1) → A2 (some (zI r3)) zSH f1 → (if r3 = 0 then (Q (some (zI (0))) zSH f1) else (∃ A5 : zQ, zR sc d 107 0 [] [(0, zP (19)), (1, zI (63))] 0 0 zSH f1 A5 ∧ ∀ (r6 : Int) (f4 : zF), (r6 = 0 ∨ r6 = 1) → A5 (some (zI r6)) zSH f4 → (if r6 = 0 then (∃ A8 : zQ, zR sc d 109 0 [] [(0, zP (19)), (1, zI (-59))] 0 0 zSH f4 A8 ∧ ∀ f7 : zF, A8 none zSH f7 → (Q (some (zI (1))) zSH f7)) else (∃ A10 : zQ, zR sc d 109 0 [] [(0, zP (19)), (1, zI (-63))] 0 0 zSH f4 A10 ∧ ∀ f9 : zF, A10 none zSH f9 → (∃ A12 : zQ, zR sc d 102 0 [] [(0, zP (19)), (1, zI (0))] 0 0 zSH f9 A12 ∧ ∀ (r13 : Int) (f11 : zF), (r13 = 0 ∨ r13 = 1) → A12 (some (zI r13)) zSH f11 → (if r13 = 0 then (Q (some (zI (0))) zSH f11) else (∃ A15 : zQ, zR sc d 109 0 [] [(0, zP (19)), (1, zI (-59))] 0 0 zSH f11 A15 ∧ ∀ f14 : zF, A15 none zSH f14 → (Q (some (zI (1))) zSH f14))))))))) : zR sc (d + 1) 101 0 [] [(0, zP (19))] 0 0 zSH f Q := zwn_R (stp := fun _ _ => none) (inl := fun _ => false) (nov := fun _ => true) 31 h
set_option maxRecDepth 100000 in
theorem b100_0 {sc : zC} {d : Nat} {f : zF} {Q : zQ} (h : zR sc (d + 1) 100 19 [] [(0, zP (19)), (1, zI (1)), (2, zI (0))] 0 0 zSH (zup (zup (zup f (19) (4) (0)) (19) (3) (0)) (19) (5) (0)) Q) : zR sc (d + 1) 100 0 [] [(0, zP (19))] 0 0 zSH f Q := zwn_R (stp := fun mi pc => bif Nat.beq mi 100 && Nat.beq pc 19 then some [0, 1, 2] else none) (inl := fun _ => false) (nov := fun _ => true) 15 h
set_option maxRecDepth 100000 in
theorem b100_19 {sc : zC} {d : Nat} {x1 x2 : Int} {f : zF} {Q : zQ} (h : if x1 = 0 then (if f (19) (4) < f (19) (1) then (Q (some (zI (f (19) (4)))) zSH f) else (Q (some (zI (-1))) zSH f)) else (if 120 < x2 then (if f (19) (4) < f (19) (1) then (Q (some (zI (f (19) (4)))) zSH f) else (Q (some (zI (-1))) zSH f)) else (∃ A2 : zQ, zR sc d 101 0 [] [(0, zP (19))] 0 0 zSH f A2 ∧ ∀ (r3 : Int) (f1 : zF), (r3 = 0 ∨ r3 = 1) → A2 (some (zI r3)) zSH f1 → (if r3 = 0 then (Q (some (zI (f1 (19) (4)))) zSH f1) else (∃ A5 : zQ, zR sc d 107 0 [] [(0, zP (19)), (1, zI (59))] 0 0 zSH f1 A5 ∧ ∀ (r6 : Int) (f4 : zF), (r6 = 0 ∨ r6 = 1) → A5 (some (zI r6)) zSH f4 → (zov (x2 + 1) (zR sc (d + 1) 100 19 [] [(0, zP (19)), (1, zI r6), (2, zI (x2 + 1))] 0 0 zSH f4 Q))))))) : zR sc (d + 1) 100 19 [] [(0, zP (19)), (1, zI x1), (2, zI x2)] 0 0 zSH f Q := zwn_R (stp := fun mi pc => bif Nat.beq mi 100 && Nat.beq pc 19 then some [0, 1, 2] else none) (inl := fun _ => false) (nov := fun _ => true) 41 h
/-! the class's reader -/
theorem zcallV {sc : zC} {d j : Nat} {lv : zL} {f f' : zF} {P : zF → Prop} (h : zR sc d j 0 [] lv 0 0 zSH f (fun _ _ f1 => f1 = f')) (g : P f') : ∃ A : zQ, zR sc d j 0 [] lv 0 0 zSH f A ∧ ∀ f1 : zF, A none zSH f1 → P f1 :=
  ⟨_, h, fun f1 e => by cases e; exact g⟩
theorem zcallB {sc : zC} {d j : Nat} {lv : zL} {f f' : zF} {v : Int} {P : Int → zF → Prop} (h : zR sc d j 0 [] lv 0 0 zSH f (fun r _ f1 => r = some (zI v) ∧ f1 = f')) (g : P v f') : ∃ A : zQ, zR sc d j 0 [] lv 0 0 zSH f A ∧ ∀ (r : Int) (f1 : zF), (r = 0 ∨ r = 1) → A (some (zI r)) zSH f1 → P r f1 :=
  ⟨_, h, fun r f1 _ ⟨e1, e2⟩ => by cases e1; subst e2; exact g⟩
def zwr (f : zF) (a : Int) : zF := if f 19 3 < 121 then zup (zup f 21 (f 19 3).toNat a) 19 3 (f 19 3 + 1) else f
def wrt (f : zF) : Nat → List Int → Prop
  | _, [] => True
  | e, c :: L => f 21 e = c ∧ wrt f (e + 1) L
theorem wrt_app {f : zF} : ∀ {L M : List Int} {e : Nat}, wrt f e L → wrt f (e + L.length) M → wrt f e (L ++ M)
  | [], _, _, _, h => h
  | c :: L, M, e, h, g => ⟨h.1, wrt_app (L := L) h.2 (by rw [List.length_cons] at g; rw [show e + 1 + L.length = e + (L.length + 1) by omega]; exact g)⟩
theorem wrt_keep {f f1 : zF} : ∀ {L : List Int} {e : Nat}, (∀ j, j < e + L.length → f1 21 j = f 21 j) → wrt f e L → wrt f1 e L
  | [], _, _, _ => True.intro
  | c :: L, e, h, g => ⟨(h e (by rw [List.length_cons]; omega)).trans g.1, wrt_keep (fun j hj => h j (by rw [List.length_cons]; omega)) g.2⟩
def cS (T : Nat → Int) (n o p : Int) (f : zF) : Prop := f 20 = T ∧ f 19 1 = n ∧ f 19 4 = p ∧ f 19 5 = o ∧ 0 ≤ f 19 3 ∧ f 19 3 ≤ p
def cPo (f : zF) (r : pR) (f1 : zF) : Prop := (∀ c j, c ≠ 21 → (c ≠ 19 ∨ (j ≠ 3 ∧ j ≠ 4)) → f1 c j = f c j) ∧ f1 19 4 = r.2.1 ∧ (0 ≤ f1 19 3 ∧ f1 19 3 ≤ 121) ∧ (r.1 = true → f1 19 3 = f 19 3 + (r.2.2.length : Int) ∧ (∀ j : Nat, (j : Int) < f 19 3 → f1 21 j = f 21 j) ∧ wrt f1 (f 19 3).toNat r.2.2)
section READC
variable {T : Nat → Int} {n o p : Int} {f f1 f2 : zF} {r s : pR} {sc : zC} {d : Nat} {Q : zQ}
theorem cS_of (h : cPo f r f1) (S : cS T n o p f) (hb : r.1 = true) {t : Bool} (g : pgd n p t r) : cS T n o r.2.1 f1 := by
  obtain ⟨S1, S2, S3, S4, S5, S6⟩ := S
  obtain ⟨h1, h2, h3, h4⟩ := h
  have g3 := (g.2.2 hb).1
  have h5 := (h4 hb).1
  exact ⟨(funext fun j => h1 20 j (by decide) (Or.inl (by decide))).trans S1, (h1 19 1 (by decide) (Or.inr (by decide))).trans S2, h2, (h1 19 5 (by decide) (Or.inr (by decide))).trans S4, h3.1, by omega⟩
theorem cPo_nil {b : Bool} (h : f 19 4 = p) (h3 : 0 ≤ f 19 3 ∧ f 19 3 ≤ 121) : cPo f (b, p, []) f :=
  ⟨fun _ _ _ _ => rfl, h, h3, fun _ => ⟨(Int.add_zero _).symm, fun _ _ => rfl, True.intro⟩⟩
theorem cPo_cat (h : cPo f r f1) (hb : r.1 = true) (g : cPo f1 s f2) (h0 : 0 ≤ f 19 3) : cPo f (pcat r s) f2 := by
  obtain ⟨h1, h2, h3, h4⟩ := h
  obtain ⟨g1, g2, g3, g4⟩ := g
  obtain ⟨h5, h6, h7⟩ := h4 hb
  refine ⟨fun c j hc hj => (g1 c j hc hj).trans (h1 c j hc hj), g2, g3, fun hs => ?_⟩
  obtain ⟨g5, g6, g7⟩ := g4 hs
  refine ⟨?_, fun j hj => (g6 j (by omega)).trans (h6 j hj), ?_⟩
  · show f2 19 3 = f 19 3 + ((r.2.2 ++ s.2.2).length : Int)
    rw [List.length_append]
    omega
  · refine wrt_app (wrt_keep (fun j hj => g6 j (by omega)) h7) ?_
    rw [show (f 19 3).toNat + r.2.2.length = (f1 19 3).toNat by omega]
    exact g7
theorem cPo_fl (h : cPo f r f1) : cPo f (pfl r) f1 := ⟨h.1, h.2.1, h.2.2.1, fun h => by cases h⟩
theorem zwr_b (h : 0 ≤ f 19 3 ∧ f 19 3 ≤ 121) {a : Int} : (∀ c j, c ≠ 21 → (c ≠ 19 ∨ (j ≠ 3 ∧ j ≠ 4)) → zwr f a c j = f c j) ∧ zwr f a 19 4 = f 19 4 ∧ (0 ≤ zwr f a 19 3 ∧ zwr f a 19 3 ≤ 121) := by
  unfold zwr
  by_cases h2 : f 19 3 < 121
  · rw [if_pos h2]
    refine ⟨fun c j hc hj => ?_, rfl, ?_⟩
    · rw [zup_at]
      by_cases e : c = 19
      · rw [if_pos e, if_neg (by omega), zup_at, if_neg hc]
      · rw [if_neg e, zup_at, if_neg hc]
    · show 0 ≤ f 19 3 + 1 ∧ f 19 3 + 1 ≤ 121
      omega
  · rw [if_neg h2]
    exact ⟨fun _ _ _ _ => rfl, rfl, h⟩
theorem cPo_wf {a : Int} (h : cPo f r f1) : cPo f (pfl r) (zwr f1 a) := by
  obtain ⟨h1, h2, h3, h4⟩ := h
  obtain ⟨b1, b2, b3⟩ := zwr_b h3 (a := a)
  exact ⟨fun c j hc hj => (b1 c j hc hj).trans (h1 c j hc hj), b2.trans h2, b3, fun h => by cases h⟩
theorem cPo_w {a : Int} (h : cPo f r f1) (hb : r.1 = true) (h0 : 0 ≤ f 19 3) (hl : f1 19 3 < 121) : cPo f (pad r a) (zwr f1 a) := by
  obtain ⟨h1, h2, h3, h4⟩ := h
  obtain ⟨b1, b2, b3⟩ := zwr_b h3 (a := a)
  obtain ⟨h5, h6, h7⟩ := h4 hb
  have e : ∀ j : Nat, (j : Int) < f1 19 3 → zwr f1 a 21 j = f1 21 j := fun j hj => by
    unfold zwr
    rw [if_pos hl]
    show (if (21 : Nat) = 19 then _ else zup f1 21 (f1 19 3).toNat a 21 j) = _
    rw [if_neg (by decide), zup_at, if_pos rfl, if_neg (by omega)]
  refine ⟨fun c j hc hj => (b1 c j hc hj).trans (h1 c j hc hj), b2.trans h2, b3, fun _ => ⟨?_, fun j hj => (e j (by omega)).trans (h6 j hj), ?_⟩⟩
  · show zwr f1 a 19 3 = f 19 3 + ((r.2.2 ++ [a]).length : Int)
    rw [List.length_append, List.length_singleton]
    unfold zwr
    rw [if_pos hl]
    show f1 19 3 + 1 = _
    omega
  · refine wrt_app (wrt_keep (fun j hj => e j (by omega)) h7) ⟨?_, True.intro⟩
    rw [show (f 19 3).toNat + r.2.2.length = (f1 19 3).toNat by omega]
    unfold zwr
    rw [if_pos hl]
    show (if (21 : Nat) = 19 then _ else zup f1 21 (f1 19 3).toNat a 21 (f1 19 3).toNat) = _
    rw [if_neg (by decide), zup_at, if_pos rfl, if_pos rfl]
theorem cPo_at {v : Int} (h : cPo (zup f 19 4 v) r f1) : cPo f r f1 := by
  obtain ⟨h1, h2, h3, h4⟩ := h
  refine ⟨fun c j hc hj => (h1 c j hc hj).trans ?_, h2, h3, h4⟩
  rw [zup_at]
  by_cases e : c = 19
  · rw [if_pos e, if_neg (by omega)]
  · rw [if_neg e]
theorem cPo_op {a b : Int} (h : cPo (zup (zup f 19 4 a) 19 5 b) r f1) (hb : b = f 19 5 + 1) : cPo f r (zup f1 19 5 (f1 19 5 - 1)) := by
  obtain ⟨h1, h2, h3, h4⟩ := h
  have e5 : f1 19 5 = b := (h1 19 5 (by decide) (Or.inr (by decide))).trans rfl
  refine ⟨fun c j hc hj => ?_, h2, h3, fun hb => ?_⟩
  · rw [zup_at]
    by_cases e : c = 19
    · subst e
      rw [if_pos rfl]
      by_cases g : j = 5
      · rw [if_pos g, e5, hb, g]; omega
      · rw [if_neg g, h1 19 j hc hj, zup_at, if_pos rfl, if_neg g, zup_at, if_pos rfl, if_neg (by omega)]
    · rw [if_neg e, h1 c j hc hj, zup_at, if_neg e, zup_at, if_neg e]
  · obtain ⟨h5, h6, h7⟩ := h4 hb
    have h7 : wrt f1 (f 19 3).toNat r.2.2 := h7
    exact ⟨h5, h6, wrt_keep (f := f1) (fun _ _ => rfl) h7⟩
theorem s_next (h1 : f 19 1 ≤ 120) (k : Q (some (zI (nxt (f 20) (f 19 1) (f 19 4)))) zSH f) (hd : 1 ≤ d := by omega) : zR sc d 108 0 [] [(0, zP 19)] 0 0 zSH f Q := by
  refine zR_le hd (b108_0 (d := 0) ?_)
  by_cases h : f 19 4 < 0
  · rw [if_pos h]; rw [nxt_no (by omega)] at k; exact k
  · rw [if_neg h]
    by_cases g : f 19 4 < f 19 1
    · rw [if_pos g]
      refine zix_p ⟨by omega, by omega⟩ ?_
      rw [nxt_is (by omega)] at k
      exact k
    · rw [if_neg g]; rw [nxt_no (by omega)] at k; exact k
theorem s_nx (hn : n ≤ 120) (S : cS T n o p f) (k : Q (some (zI (nxt T n p))) zSH f) (hd : 1 ≤ d := by omega) : zR sc d 108 0 [] [(0, zP 19)] 0 0 zSH f Q := by
  obtain ⟨S1, S2, S3, S4⟩ := S
  refine s_next (by omega) ?_ hd
  rw [S1, S2, S3]
  exact k
theorem s_lev {a : Int} (k : Q (some (zI (plv a))) zSH f) (hd : 1 ≤ d := by omega) : zR sc d 103 0 [] [(0, zI a)] 0 0 zSH f Q := by
  refine zR_le hd (b103_0 (d := 0) ?_)
  have k' : ∀ v, plv a = v → Q (some (zI v)) zSH f := fun v e => e ▸ k
  unfold plv at k'
  repeat' (refine zit (fun h => ?_) (fun h => ?_))
  all_goals (apply k'; simp only [*, if_true, if_false, Int.reduceEq])
theorem s_nam {a : Int} (k : Q (some (zI (pnm a))) zSH f) (hd : 1 ≤ d := by omega) : zR sc d 27 0 [] [(0, zI a)] 0 0 zSH f Q := by
  refine zR_le hd (b27_0 (d := 0) ?_)
  have k' : ∀ v, pnm a = v → Q (some (zI v)) zSH f := fun v e => e ▸ k
  unfold pnm at k'
  repeat' (refine zit (fun h => ?_) (fun h => ?_))
  all_goals (apply k'; simp only [*, if_true, if_false, Int.reduceEq])
theorem s_write {a : Int} (h : 0 ≤ f 19 3 ∧ f 19 3 ≤ 121) (k : Q none zSH (zwr f a)) (hd : 1 ≤ d := by omega) : zR sc d 109 0 [] [(0, zP 19), (1, zI a)] 0 0 zSH f Q := by
  refine zR_le hd (b109_0 (d := 0) ?_)
  unfold zwr at k
  by_cases g : f 19 3 < 121
  · rw [if_pos g] at k ⊢
    exact zix_p ⟨by omega, by omega⟩ (zov_p (by omega) k)
  · rw [if_neg g] at k ⊢
    exact k
theorem s_ac {a : Int} (h1 : f 19 1 ≤ 120) (h4 : 0 ≤ f 19 4 ∧ f 19 4 ≤ 120) (k : Q (some (zI (if nxt (f 20) (f 19 1) (f 19 4) = a then 1 else 0))) zSH (if nxt (f 20) (f 19 1) (f 19 4) = a then zup f 19 4 (f 19 4 + 1) else f)) (hd : 2 ≤ d := by omega) : zR sc d 107 0 [] [(0, zP 19), (1, zI a)] 0 0 zSH f Q := by
  refine zR_le hd (b107_0 (d := 1) ?_)
  refine zcallE (s_next h1 ⟨rfl, rfl⟩) ?_
  by_cases g : nxt (f 20) (f 19 1) (f 19 4) = a
  · rw [if_pos g] at k ⊢
    rw [if_pos g] at k
    exact zov_p (by omega) k
  · rw [if_neg g] at k ⊢
    rw [if_neg g] at k
    exact k
theorem zup_zup {c j : Nat} {a b : Int} : zup (zup f c j a) c j b = zup f c j b := by
  funext x y
  unfold zup
  by_cases h : x = c
  · rw [if_pos h, if_pos h, if_pos h]
    by_cases g : y = j
    · rw [if_pos g, if_pos g]
    · rw [if_neg g, if_neg g, if_neg g]
  · rw [if_neg h, if_neg h, if_neg h]
theorem zup_id {c j : Nat} {a : Int} (h : f c j = a) : zup f c j a = f := by
  funext x y
  unfold zup
  by_cases e : x = c
  · rw [if_pos e]
    by_cases g : y = j
    · rw [if_pos g, e, g, h]
    · rw [if_neg g]
  · rw [if_neg e]
/-- digits -/
theorem s_nd (hn : n ≤ 120) (hT : ∀ p, -1 ≤ nxt T n p ∧ nxt T n p ≤ 255) (h20 : f 20 = T) (h1 : f 19 1 = n) (h3 : 0 ≤ f 19 3 ∧ f 19 3 ≤ 121) : ∀ (j : Nat) (v p : Int), 0 ≤ p → p ≤ n → 0 ≤ v → ((j = 4 ∧ v ≤ 0) ∨ (j = 3 ∧ v ≤ 9) ∨ (j = 2 ∧ v ≤ 99) ∨ (j = 1 ∧ v ≤ 999) ∨ (j = 0 ∧ v ≤ 9999)) → Q (some (zI 1)) zSH (zwr (zup f 19 4 (pdg T n j v p).2) (pdg T n j v p).1) → zR sc (d + 2) 106 12 [] [(0, zP 19), (1, zI v), (2, zI (nxt T n p - 48)), (3, zI (4 - (j : Int)))] 0 0 zSH (zup f 19 4 p) Q := by
  intro j
  induction j with
  | zero =>
    intro v p hp hp2 hv hj K
    refine b106_12 (d := d + 1) ?_
    rw [if_neg (by omega)]
    exact zcallV (s_write h3 rfl) K
  | succ j ih =>
    intro v p hp hp2 hv hj K
    refine b106_12 (d := d + 1) ?_
    rw [if_pos (by omega)]
    by_cases g : 48 ≤ nxt T n p ∧ nxt T n p ≤ 57
    · have g2 := nxt_lt (T := T) (n := n) (p := p) (by omega)
      rw [if_neg (by omega), if_neg (by omega)]
      refine zov_p (by omega) (zov_p (by omega) (zov_p (by show _ ≤ p + 1 ∧ p + 1 ≤ _; omega) ?_))
      show ∃ A : zQ, zR sc (d + 1) 108 0 [] [(0, zP 19)] 0 0 zSH (zup (zup f 19 4 p) 19 4 (p + 1)) A ∧ _
      rw [zup_zup]
      refine zcallE (s_next (f := zup f 19 4 (p + 1)) (by show f 19 1 ≤ 120; omega) ⟨rfl, rfl⟩) ?_
      rw [show nxt (zup f 19 4 (p + 1) 20) (zup f 19 4 (p + 1) 19 1) (zup f 19 4 (p + 1) 19 4) = nxt T n (p + 1) by
        show nxt (f 20) (f 19 1) (p + 1) = _
        rw [h20, h1]]
      rw [pdg_s g] at K
      have b := hT (p + 1)
      refine zov_p (by omega) (zov_p (by omega) ?_)
      rw [show (4 : Int) - ((j + 1 : Nat) : Int) + 1 = 4 - (j : Int) by omega]
      exact ih _ (p + 1) (by omega) (by omega) (by omega) (by omega) K
    · rw [pdg_e g] at K
      refine zit (fun h => ?_) (fun h => ?_)
      · exact zcallV (s_write h3 rfl) K
      · rw [if_pos (by omega)]
        exact zcallV (s_write h3 rfl) K
theorem s_num (hn : n ≤ 120) (hT : ∀ p, -1 ≤ nxt T n p ∧ nxt T n p ≤ 255) (S : cS T n o p f) (hp : 0 ≤ p ∧ p ≤ n) (K : ∀ f1, cPo f (true, (pdg T n 4 0 p).2, [(pdg T n 4 0 p).1]) f1 → Q (some (zI 1)) zSH f1) : zR sc (d + 2) 106 0 [] [(0, zP 19)] 0 0 zSH f Q := by
  have b := hT p
  refine b106_0 (d := d + 1) (zcallE (s_nx hn S ⟨rfl, rfl⟩) (zov_p (by omega) ?_))
  obtain ⟨S1, S2, S3, S4, S5, S6⟩ := S
  have h3 : 0 ≤ f 19 3 ∧ f 19 3 ≤ 121 := by omega
  have e : zup f 19 4 p = f := zup_id S3
  have := s_nd (sc := sc) (d := d) (Q := Q) hn hT S1 S2 h3 4 0 p hp.1 hp.2 (Int.le_refl _) (by omega) (K _ (by
    refine cPo_at (v := (pdg T n 4 0 p).2) (cPo_w (r := (true, (pdg T n 4 0 p).2, [])) (cPo_nil rfl h3) rfl S5 (by show f 19 3 < 121; omega))))
  rw [e, show (4 : Int) - ((4 : Nat) : Int) = 0 from rfl] at this
  exact this
/-- what is known of the class's reader, up to so much fuel -/
def cHX (sc : zC) (T : Nat → Int) (n : Int) (k : Nat) : Prop := ∀ (m o p : Int) (d : Nat) (f : zF) (Q : zQ), 0 ≤ m → m ≤ 5 → (0 ≤ o ∧ o ≤ 6) → (0 ≤ p ∧ p ≤ n) → 20 * (n - p) + 7 - m ≤ (k : Int) → 12 * (6 - o) + (7 - m) + 3 ≤ (d : Int) → cS T n o p f → (∀ f1, cPo f (pps T n k m o p) f1 → Q (some (zI (pbi (pps T n k m o p).1))) zSH f1) → zR sc d 102 0 [] [(0, zP 19), (1, zI m)] 0 0 zSH f Q
def cHO (sc : zC) (T : Nat → Int) (n : Int) (k : Nat) : Prop := ∀ (o p : Int) (d : Nat) (f : zF) (Q : zQ), (0 ≤ o ∧ o ≤ 6) → (0 ≤ p ∧ p ≤ n) → 20 * (n - p) + 2 ≤ (k : Int) → 12 * (6 - o) + 4 ≤ (d : Int) → cS T n o p f → (∀ f1, cPo f (pps T n k 5 o p) f1 → Q (some (zI (pbi (pps T n k 5 o p).1))) zSH f1) → zR sc d 104 0 [] [(0, zP 19)] 0 0 zSH f Q
def cHW (sc : zC) (T : Nat → Int) (n : Int) (k : Nat) : Prop := ∀ (l o p : Int) (d : Nat) (f : zF) (Q : zQ) (x5 : Int), 0 ≤ l → l ≤ 4 → (0 ≤ o ∧ o ≤ 6) → (0 ≤ p ∧ p ≤ n) → 20 * (n - p) + 7 - l ≤ (k : Int) → 12 * (6 - o) + (7 - l) + 3 ≤ (d : Int) → cS T n o p f → (0 ≤ x5 ∧ x5 < p) → (l = 2 → x5 = 0) → (∀ f1, cPo f (pps T n k (10 + l) o p) f1 → Q (some (zI (pbi (pps T n k (10 + l) o p).1))) zSH f1) → zR sc d 102 39 [] [(0, zP 19), (1, zI l), (2, zI 1), (3, zI (if l = 2 then 1 else 120)), (4, zI (nxt T n p)), (5, zI x5)] 0 0 zSH f Q
theorem pbi_t {b : Bool} (h : b = true) : pbi b = 1 := by rw [h]; rfl
theorem pbi_f {b : Bool} (h : ¬ b = true) : pbi b = 0 := by unfold pbi; rw [if_neg h]
theorem cP_R {k : Nat} (hn : 0 ≤ n ∧ n ≤ 120) (hX : cHX sc T n k) (hO : cHO sc T n k) {c : Int} (hc : c = 40 ∨ c = 33 ∨ c = 45) (ho : 0 ≤ o ∧ o < 6) (hp : 0 ≤ p ∧ p < n) (hk : 20 * (n - p) + 2 ≤ ((k + 1 : Nat) : Int)) (hd : 12 * (6 - o) + 3 ≤ (d : Int)) (S : cS T n o p f) (K : ∀ f1, cPo f (pP T n (pps T n k) c o p) f1 → Q (some (zI (pbi (pP T n (pps T n k) c o p).1))) zSH f1) : zR sc d 105 0 [] [(0, zP 19), (1, zI c)] 0 0 zSH f Q := by
  obtain ⟨d, rfl⟩ : ∃ e, d = e + 1 := ⟨d - 1, by omega⟩
  obtain ⟨S1, S2, S3, S4, S5, S6⟩ := id S
  refine b105_0 (zov_p (by omega) (zov_p (by omega) ?_))
  have S' : cS T n (o + 1) (p + 1) (zup (zup f 19 4 (f 19 4 + 1)) 19 5 (f 19 5 + 1)) := ⟨S1, S2, by show f 19 4 + 1 = p + 1; omega, by show f 19 5 + 1 = o + 1; omega, S5, by show f 19 3 ≤ p + 1; omega⟩
  by_cases hc40 : c = 40
  · rw [if_pos hc40]
    have G := (pps_at (T := T) (n := n) k).1 0 (o + 1) (p + 1) (by omega) (by omega) (by omega) (by omega) (by omega)
    have E : pP T n (pps T n k) c o p = if (pps T n k 0 (o + 1) (p + 1)).1 = true then (if nxt T n (pps T n k 0 (o + 1) (p + 1)).2.1 = 41 then (true, (pps T n k 0 (o + 1) (p + 1)).2.1 + 1, (pps T n k 0 (o + 1) (p + 1)).2.2) else pfl (pps T n k 0 (o + 1) (p + 1))) else pfl (pps T n k 0 (o + 1) (p + 1)) := if_pos hc40
    rw [E] at K
    refine zcall3 (fun v f1 => v = pbi (pps T n k 0 (o + 1) (p + 1)).1 ∧ cPo (zup (zup f 19 4 (f 19 4 + 1)) 19 5 (f 19 5 + 1)) (pps T n k 0 (o + 1) (p + 1)) f1) (hX 0 (o + 1) (p + 1) d _ _ (by omega) (by omega) (by omega) (by omega) (by omega) (by omega) S' (fun f1 h => ⟨_, rfl, rfl, h⟩)) (fun v f1 _ h => ?_)
    obtain ⟨rfl, h⟩ := h
    generalize hr : pps T n k 0 (o + 1) (p + 1) = r at *
    have e5 : f1 19 5 = o + 1 := (h.1 19 5 (by decide) (Or.inr (by decide))).trans S'.2.2.2.1
    have hz := cPo_op h rfl
    by_cases hb : r.1 = true
    · rw [pbi_t hb, if_neg (by decide)]
      rw [if_pos hb] at K
      have S2' := cS_of h S' hb G
      obtain ⟨T1, T2, T3, T4, T5, T6⟩ := id S2'
      obtain ⟨G1, G2, G3⟩ := id G
      refine zcallB (s_ac (by omega) (by omega) ⟨rfl, rfl⟩) ?_
      rw [show nxt (f1 20) (f1 19 1) (f1 19 4) = nxt T n r.2.1 by rw [T1, T2, T3]]
      by_cases h41 : nxt T n r.2.1 = 41
      · rw [if_pos h41] at K
        rw [if_pos h41, if_pos h41, if_neg (by decide)]
        refine zov_p (by show _ ≤ f1 19 5 - 1 ∧ f1 19 5 - 1 ≤ _; omega) ?_
        rw [if_pos hc40]
        refine K _ ?_
        obtain ⟨z1, z2, z3, z4⟩ := hz
        refine ⟨fun a j ha hj => ?_, ?_, z3, fun _ => ?_⟩
        · refine Eq.trans ?_ (z1 a j ha hj)
          show zup (zup f1 19 4 (f1 19 4 + 1)) 19 5 (f1 19 5 - 1) a j = zup f1 19 5 (f1 19 5 - 1) a j
          simp only [zup_at]
          by_cases e : a = 19
          · rw [if_pos e, if_pos e, if_pos e, if_neg (show ¬ j = 4 by omega)]
          · rw [if_neg e, if_neg e, if_neg e]
        · show f1 19 4 + 1 = r.2.1 + 1
          omega
        · obtain ⟨z5, z6, z7⟩ := z4 hb
          exact ⟨z5, z6, wrt_keep (f := zup f1 19 5 (f1 19 5 - 1)) (fun _ _ => rfl) z7⟩
      · rw [if_neg h41] at K
        rw [if_neg h41, if_neg h41, if_pos rfl]
        refine zov_p (by show _ ≤ f1 19 5 - 1 ∧ f1 19 5 - 1 ≤ _; omega) ?_
        rw [if_pos hc40]
        exact K _ (cPo_fl hz)
    · rw [pbi_f hb, if_pos rfl]
      rw [if_neg hb] at K
      refine zov_p (by omega) ?_
      rw [if_pos hc40]
      exact K _ (cPo_fl hz)
  · rw [if_neg hc40]
    have G := (pps_at (T := T) (n := n) k).1 5 (o + 1) (p + 1) (by omega) (by omega) (by omega) (by omega) (by omega)
    have E : pP T n (pps T n k) c o p = if (pps T n k 5 (o + 1) (p + 1)).1 = true then pad (pps T n k 5 (o + 1) (p + 1)) (if c = 45 then -126 else -c) else pfl (pps T n k 5 (o + 1) (p + 1)) := if_neg hc40
    rw [E] at K
    refine zcall3 (fun v f1 => v = pbi (pps T n k 5 (o + 1) (p + 1)).1 ∧ cPo (zup (zup f 19 4 (f 19 4 + 1)) 19 5 (f 19 5 + 1)) (pps T n k 5 (o + 1) (p + 1)) f1) (hO (o + 1) (p + 1) d _ _ (by omega) (by omega) (by omega) (by omega) S' (fun f1 h => ⟨_, rfl, rfl, h⟩)) (fun v f1 _ h => ?_)
    obtain ⟨rfl, h⟩ := h
    generalize hr : pps T n k 5 (o + 1) (p + 1) = r at *
    have e5 : f1 19 5 = o + 1 := (h.1 19 5 (by decide) (Or.inr (by decide))).trans S'.2.2.2.1
    have hz := cPo_op h rfl
    have hz3 := hz.2.2.1
    have fin : ∀ a, a = (if c = 45 then -126 else -c) → zrB (pbi r.1) (Q (some (zI (pbi r.1))) zSH (zwr (zup f1 19 5 (f1 19 5 - 1)) a)) := by
      intro a ha
      by_cases hb : r.1 = true
      · rw [pbi_t hb]
        rw [if_pos hb, ← ha] at K
        obtain ⟨G1, G2, G3⟩ := id G
        have G3 := (G3 hb).1
        have hl := (hz.2.2.2 hb).1
        exact zrB_p (Or.inr rfl) (K _ (cPo_w hz hb S5 (by omega)))
      · rw [pbi_f hb]
        rw [if_neg hb] at K
        exact zrB_p (Or.inl rfl) (K _ (cPo_wf hz))
    refine zov_p (by omega) ?_
    rw [if_neg hc40]
    by_cases h45 : c = 45
    · rw [if_pos h45]
      exact zcallV (s_write hz3 rfl) (fin _ (by rw [if_pos h45]))
    · rw [if_neg h45]
      exact zov_p (by omega) (zcallV (s_write hz3 rfl) (fin _ (by rw [if_neg h45])))
theorem cO_R {k : Nat} (hn : 0 ≤ n ∧ n ≤ 120) (hT : ∀ p, -1 ≤ nxt T n p ∧ nxt T n p ≤ 255) (hX : cHX sc T n k) (hO : cHO sc T n k) : cHO sc T n (k + 1) := by
  intro o p d f Q ho hp hk hd S K
  obtain ⟨d, rfl⟩ : ∃ e, d = e + 3 := ⟨d - 3, by omega⟩
  obtain ⟨S1, S2, S3, S4, S5, S6⟩ := id S
  rw [pps_O] at K
  refine b104_0 (d := d + 2) (zcallE (s_nx hn.2 S ⟨rfl, rfl⟩) ?_)
  by_cases c1 : 48 ≤ nxt T n p ∧ nxt T n p ≤ 57
  · rw [if_neg (by omega), if_neg (by omega)]
    have E : pO T n (pps T n k) o p = (true, (pdg T n 4 0 p).2, [(pdg T n 4 0 p).1]) := if_pos c1
    rw [E] at K
    refine zcall3 (fun v f1 => v = 1 ∧ cPo f (true, (pdg T n 4 0 p).2, [(pdg T n 4 0 p).1]) f1) (s_num hn.2 hT S hp (fun f1 h => ⟨_, rfl, rfl, h⟩)) (fun v f1 _ h => ?_)
    obtain ⟨rfl, h⟩ := h
    exact zrB_p (Or.inr rfl) (K _ h)
  · have E : pO T n (pps T n k) o p = if 0 < pnm (nxt T n p) then (true, p + 1, [-(pnm (nxt T n p))]) else if (nxt T n p = 40 ∨ nxt T n p = 33 ∨ nxt T n p = 45) ∧ o < 6 then pP T n (pps T n k) (nxt T n p) o p else (false, p, []) := if_neg c1
    rw [E] at K
    clear E
    generalize hcc : nxt T n p = c at *
    have op : 0 ≤ o ∧ o < 6 → (c = 40 ∨ c = 33 ∨ c = 45) → ¬ 0 < pnm c → ∃ A : zQ, zR sc (d + 2) 105 0 [] [(0, zP 19), (1, zI c)] 0 0 zSH f A ∧ ∀ (r : Int) (f1 : zF), (r = 0 ∨ r = 1) → A (some (zI r)) zSH f1 → (if r = 0 then Q (some (zI 0)) zSH f1 else Q (some (zI 1)) zSH f1) := by
      intro ho2 hc3 hnm
      have pn := nxt_lt (T := T) (n := n) (p := p) (by omega)
      rw [if_neg hnm, if_pos ⟨hc3, ho2.2⟩] at K
      refine zcall3 (fun v f1 => v = pbi (pP T n (pps T n k) c o p).1 ∧ cPo f (pP T n (pps T n k) c o p) f1) (cP_R hn hX hO hc3 ho2 pn hk (by omega) S (fun f1 h => ⟨_, rfl, rfl, h⟩)) (fun v f1 _ h => ?_)
      obtain ⟨rfl, h⟩ := h
      have K := K f1 h
      by_cases hb : (pP T n (pps T n k) c o p).1 = true
      · rw [pbi_t hb] at K ⊢
        rw [if_neg (by decide)]
        exact K
      · rw [pbi_f hb] at K ⊢
        rw [if_pos rfl]
        exact K
    have no : (¬ 0 < pnm c) → ¬ ((c = 40 ∨ c = 33 ∨ c = 45) ∧ o < 6) → Q (some (zI 0)) zSH f := by
      intro h1 h2
      rw [if_neg h1, if_neg h2] at K
      exact K f (cPo_nil S3 (by omega))
    rcases (show c < 48 ∨ 57 < c by omega) with hcc2 | hcc2
    · rw [if_pos hcc2]
      refine zcallE (s_nam ⟨rfl, rfl⟩) ?_
      by_cases hnm : 0 < pnm c
      · rw [if_pos hnm]
        have nb := pnm_b hnm
        have pn := nxt_lt (T := T) (n := n) (p := p) (by omega)
        rw [if_pos hnm] at K
        refine zov_p (by omega) (zov_p (by omega) ?_)
        refine zcallV (s_write (by show 0 ≤ f 19 3 ∧ f 19 3 ≤ 121; omega) rfl) (K _ ?_)
        exact cPo_at (cPo_w (r := (true, p + 1, [])) (cPo_nil (by show f 19 4 + 1 = p + 1; omega) (by show 0 ≤ f 19 3 ∧ f 19 3 ≤ 121; omega)) rfl S5 (by show f 19 3 < 121; omega))
      · rw [if_neg hnm]
        refine zit (fun h1 => ?_) (fun h1 => zit (fun h2 => ?_) (fun h2 => zit (fun h3 => ?_) (fun h3 => ?_)))
        · refine zit (fun h4 => op (by omega) (by omega) hnm) (fun h4 => no hnm (by omega))
        · refine zit (fun h4 => op (by omega) (by omega) hnm) (fun h4 => no hnm (by omega))
        · refine zit (fun h4 => op (by omega) (by omega) hnm) (fun h4 => no hnm (by omega))
        · exact no hnm (by omega)
    · rw [if_neg (by omega), if_pos hcc2]
      refine zcallE (s_nam ⟨rfl, rfl⟩) ?_
      by_cases hnm : 0 < pnm c
      · rw [if_pos hnm]
        have nb := pnm_b hnm
        have pn := nxt_lt (T := T) (n := n) (p := p) (by omega)
        rw [if_pos hnm] at K
        refine zov_p (by omega) (zov_p (by omega) ?_)
        refine zcallV (s_write (by show 0 ≤ f 19 3 ∧ f 19 3 ≤ 121; omega) rfl) (K _ ?_)
        exact cPo_at (cPo_w (r := (true, p + 1, [])) (cPo_nil (by show f 19 4 + 1 = p + 1; omega) (by show 0 ≤ f 19 3 ∧ f 19 3 ≤ 121; omega)) rfl S5 (by show f 19 3 < 121; omega))
      · rw [if_neg hnm]
        refine zit (fun h1 => ?_) (fun h1 => zit (fun h2 => ?_) (fun h2 => zit (fun h3 => ?_) (fun h3 => ?_)))
        · refine zit (fun h4 => op (by omega) (by omega) hnm) (fun h4 => no hnm (by omega))
        · refine zit (fun h4 => op (by omega) (by omega) hnm) (fun h4 => no hnm (by omega))
        · refine zit (fun h4 => op (by omega) (by omega) hnm) (fun h4 => no hnm (by omega))
        · exact no hnm (by omega)
theorem cX_R {k : Nat} (hn : 0 ≤ n ∧ n ≤ 120) (hX : cHX sc T n k) (hO : cHO sc T n (k + 1)) (hW : cHW sc T n k) : cHX sc T n (k + 1) := by
  intro m o p d f Q h0 h5 ho hp hk hd S K
  obtain ⟨d, rfl⟩ : ∃ e, d = e + 1 := ⟨d - 1, by omega⟩
  refine b102_0 ?_
  by_cases hm : m = 5
  · subst hm
    rw [if_neg (by decide)]
    refine zcall3 (fun v f1 => v = pbi (pps T n (k + 1) 5 o p).1 ∧ cPo f (pps T n (k + 1) 5 o p) f1) (hO o p d f _ ho hp (by omega) (by omega) S (fun f1 h => ⟨_, rfl, rfl, h⟩)) (fun v f1 hv h => ?_)
    obtain ⟨rfl, h⟩ := h
    exact zrB_p hv (K _ h)
  rw [if_pos (by omega)]
  rw [pps_V (by omega)] at K
  have G := (pps_at (T := T) (n := n) k).1 (m + 1) o p (by omega) (by omega) hp.1 hp.2 (by omega)
  refine zov_p (by omega) ?_
  refine zcall3 (fun v f1 => v = pbi (pps T n k (m + 1) o p).1 ∧ cPo f (pps T n k (m + 1) o p) f1) (hX (m + 1) o p d f _ (by omega) (by omega) ho hp (by omega) (by omega) S (fun f1 h => ⟨_, rfl, rfl, h⟩)) (fun v f1 _ h => ?_)
  obtain ⟨rfl, h⟩ := h
  have e1 : f1 19 1 = n := (h.1 19 1 (by decide) (Or.inr (by decide))).trans S.2.1
  have key : ∀ x3, x3 = (if m = 2 then (1 : Int) else 120) → ∃ A : zQ, zR sc d 108 0 [] [(0, zP 19)] 0 0 zSH f1 A ∧ ∀ (r6 : Int) (f4 : zF), zIn r6 → A (some (zI r6)) zSH f4 → zR sc (d + 1) 102 39 [] [(0, zP 19), (1, zI m), (2, zI (pbi (pps T n k (m + 1) o p).1)), (3, zI x3), (4, zI r6), (5, zI 0)] 0 0 zSH f4 Q := by
    intro x3 hx
    refine zcallE (s_next (by omega) ⟨rfl, rfl⟩) ?_
    by_cases hb : (pps T n k (m + 1) o p).1 = true
    · have E : pV (pps T n k) m o p = pcat (pps T n k (m + 1) o p) (pps T n k (10 + m) o (pps T n k (m + 1) o p).2.1) := if_pos hb
      rw [E] at K
      have S' := cS_of h S hb G
      obtain ⟨T1, T2, T3, T4, T5, T6⟩ := id S'
      obtain ⟨G1, G2, G3⟩ := id G
      have G3 := (G3 hb).2 rfl
      rw [pbi_t hb, show nxt (f1 20) (f1 19 1) (f1 19 4) = nxt T n (pps T n k (m + 1) o p).2.1 by rw [T1, T2, T3], hx]
      exact hW m o _ (d + 1) f1 Q 0 h0 (by omega) ho ⟨by omega, G2⟩ (by omega) (by omega) S' ⟨by omega, by omega⟩ (fun _ => rfl) (fun f2 h2 => K f2 (cPo_cat h hb h2 S.2.2.2.2.1))
    · have E : pV (pps T n k) m o p = pfl (pps T n k (m + 1) o p) := if_neg hb
      rw [E] at K
      rw [pbi_f hb]
      refine b102_39 ?_
      rw [if_pos rfl]
      exact zrB_p (Or.inl rfl) (K f1 (cPo_fl h))
  refine zit (fun h2 => ?_) (fun h2 => ?_)
  · exact key 1 (by rw [if_pos h2])
  · exact key 120 (by rw [if_neg h2])
theorem cW_R {k : Nat} (hn : 0 ≤ n ∧ n ≤ 120) (hX : cHX sc T n k) (hW : cHW sc T n k) : cHW sc T n (k + 1) := by
  intro l o p d f Q x5 h0 h4 ho hp hk hd S hx5 hx2 K
  obtain ⟨d, rfl⟩ : ∃ e, d = e + 1 := ⟨d - 1, by omega⟩
  obtain ⟨S1, S2, S3, S4, S5, S6⟩ := id S
  rw [pps_W h0] at K
  refine b102_39 ?_
  rw [if_neg (by decide), if_pos (show x5 < if l = 2 then (1 : Int) else 120 by split <;> omega)]
  refine zcallE (s_lev ⟨rfl, rfl⟩) ?_
  by_cases hc : plv (nxt T n p) = l
  · rw [if_pos hc]
    have cb := plv_b (c := nxt T n p) (by omega)
    have pn := nxt_lt (T := T) (n := n) (p := p) (by omega)
    have G := (pps_at (T := T) (n := n) k).1 (l + 1) o (p + 1) (by omega) (by omega) (by omega) (by omega) (by omega)
    have E0 : pW T n (pps T n k) l o p = if (pps T n k (l + 1) o (p + 1)).1 = true then (if l = 2 then pad (pps T n k (l + 1) o (p + 1)) (-(nxt T n p)) else pcat (pad (pps T n k (l + 1) o (p + 1)) (-(nxt T n p))) (pps T n k (10 + l) o (pps T n k (l + 1) o (p + 1)).2.1)) else pfl (pps T n k (l + 1) o (p + 1)) := if_pos hc
    rw [E0] at K
    clear E0
    generalize hcc : nxt T n p = c at *
    refine zov_p (by omega) (zov_p (by omega) ?_)
    have S' : cS T n o (p + 1) (zup f 19 4 (f 19 4 + 1)) := ⟨S1, S2, by show f 19 4 + 1 = p + 1; omega, S4, S5, by show f 19 3 ≤ p + 1; omega⟩
    refine zcall3 (fun v f1 => v = pbi (pps T n k (l + 1) o (p + 1)).1 ∧ cPo (zup f 19 4 (f 19 4 + 1)) (pps T n k (l + 1) o (p + 1)) f1) (hX (l + 1) o (p + 1) d _ _ (by omega) (by omega) ho (by omega) (by omega) (by omega) S' (fun f1 h => ⟨_, rfl, rfl, h⟩)) (fun v f1 _ h => ?_)
    obtain ⟨rfl, h⟩ := h
    have h := cPo_at h
    generalize hr : pps T n k (l + 1) o (p + 1) = r at *
    refine zov_p (by omega) ?_
    refine zcallV (s_write h.2.2.1 rfl) ?_
    have w := zwr_b h.2.2.1 (a := -c)
    have e1 : zwr f1 (-c) 19 1 = n := (w.1 19 1 (by decide) (Or.inr (by decide))).trans ((h.1 19 1 (by decide) (Or.inr (by decide))).trans S2)
    refine zcallE (s_next (by omega) ⟨rfl, rfl⟩) ?_
    refine zov_p (by omega) ?_
    by_cases hb : r.1 = true
    · rw [pbi_t hb]
      rw [if_pos hb] at K
      obtain ⟨G1, G2, G3⟩ := id G
      obtain ⟨G4, G5⟩ := G3 hb
      have G5 := G5 rfl
      have hl := (h.2.2.2 hb).1
      have h' := cPo_w (a := -c) h hb S5 (by omega)
      by_cases h2 : l = 2
      · rw [if_pos h2] at K
        have x0 := hx2 h2
        subst x0
        refine b102_39 ?_
        rw [if_neg (by decide), if_neg (show ¬ (0 : Int) + 1 < if l = 2 then (1 : Int) else 120 by rw [if_pos h2]; omega)]
        exact zrB_p (Or.inr rfl) (K _ h')
      · rw [if_neg h2] at K
        have S2' := cS_of h' S rfl (pgd_pad (p := p) (t := true) (a := -c) G hb (Int.le_refl _))
        have e4 : nxt (zwr f1 (-c) 20) (zwr f1 (-c) 19 1) (zwr f1 (-c) 19 4) = nxt T n r.2.1 := by
          rw [S2'.1, S2'.2.1, S2'.2.2.1]
          rfl
        rw [e4]
        exact hW l o _ (d + 1) _ Q (x5 + 1) h0 h4 ho ⟨by omega, G2⟩ (by omega) (by omega) S2' ⟨by omega, by omega⟩ (fun h => absurd h h2) (fun f2 h3 => K f2 (cPo_cat h' rfl h3 S5))
    · rw [pbi_f hb]
      rw [if_neg hb] at K
      refine b102_39 ?_
      rw [if_pos rfl]
      exact zrB_p (Or.inl rfl) (K _ (cPo_wf h))
  · rw [if_neg hc]
    have E0 : pW T n (pps T n k) l o p = (true, p, []) := if_neg hc
    rw [E0] at K
    exact zrB_p (Or.inr rfl) (K f (cPo_nil S3 (by omega)))
theorem c_all (hn : 0 ≤ n ∧ n ≤ 120) (hT : ∀ p, -1 ≤ nxt T n p ∧ nxt T n p ≤ 255) : ∀ k, cHX sc T n k ∧ cHO sc T n k ∧ cHW sc T n k
  | 0 => ⟨fun m o p d f Q h0 h5 ho hp hk => by omega, fun o p d f Q ho hp hk => by omega, fun l o p d f Q x5 h0 h4 ho hp hk => by omega⟩
  | k + 1 => by
    obtain ⟨hX, hO, hW⟩ := c_all hn hT k
    have hO' := cO_R hn hT hX hO
    exact ⟨cX_R hn hX hO' hW, hO', cW_R hn hX hW⟩
end READC
end
