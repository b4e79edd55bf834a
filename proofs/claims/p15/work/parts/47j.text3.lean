noncomputable section
set_option maxRecDepth 100000 in
theorem b196_0 {sc : zC} {d : Nat} {a b : Int} {f : zF} {Q : zQ} (h : zR sc (d + 1) 196 33 [] [(0, zP (50)), (3, zI (0)), (4, zI (0)), (5, zI (1))] 0 0 zSH (zup (zup (zup (zup (zup f (50) (13) a) (50) (14) (0)) (50) (15) b) (50) (16) (-1)) (50) (17) (0)) Q) : zR sc (d + 1) 196 0 [] [(0, zP (50)), (1, zI a), (2, zI b)] 0 0 zSH f Q := zwn_R (stp := fun mi pc => bif Nat.beq mi 196 && Nat.beq pc 33 then some [0, 3, 4, 5] else none) (inl := fun _ => false) (nov := (fun j => bif Nat.beq j 195 then false else bif Nat.beq j 193 then false else bif Nat.beq j 192 then false else bif Nat.beq j 30 then false else true)) 23 h
set_option maxRecDepth 100000 in
theorem b196_33 {sc : zC} {d : Nat} {x3 x4 x5 : Int} {f : zF} {Q : zQ} (h : if x5 = 0 then (if f (50) (16) < 0 then (if f (50) (14) < f (50) (15) then (∃ A2 : zQ, zR sc d 187 0 [] [(0, zP (50))] 0 0 zSH f A2 ∧ ∀ (r3 : Int) (f1 : zF), zIn r3 → A2 (some (zI r3)) zSH f1 → (Q (some (zI r3)) zSH f1)) else (Q (some (zI x4)) zSH f)) else (Q (some (zI x4)) zSH f)) else (∃ A5 : zQ, zR sc d 189 0 [] [(0, zP (50))] 0 0 zSH f A5 ∧ ∀ (r6 : Int) (f4 : zF), zIn r6 → A5 (some (zI r6)) zSH f4 → (∃ A8 : zQ, zR sc d 188 0 [] [(0, zP (50)), (1, zI (63))] 0 0 zSH f4 A8 ∧ ∀ (r9 : Int) (f7 : zF), (r9 = 0 ∨ r9 = 1) → A8 (some (zI r9)) zSH f7 → (if r9 = 0 then (if f7 (50) (16) < 0 then (if x3 = 0 then (∃ A11 : zQ, zR sc d 188 0 [] [(0, zP (50)), (1, zI (59))] 0 0 zSH f7 A11 ∧ ∀ (r12 : Int) (f10 : zF), (r12 = 0 ∨ r12 = 1) → A11 (some (zI r12)) zSH f10 → (zR sc (d + 1) 196 33 [] [(0, zP (50)), (3, zI (1)), (4, zI r6), (5, zI r12)] 0 0 zSH f10 Q)) else (∃ A14 : zQ, zR sc d 188 0 [] [(0, zP (50)), (1, zI (59))] 0 0 zSH f7 A14 ∧ ∀ (r15 : Int) (f13 : zF), (r15 = 0 ∨ r15 = 1) → A14 (some (zI r15)) zSH f13 → (zR sc (d + 1) 196 33 [] [(0, zP (50)), (3, zI x3), (4, zI x4), (5, zI r15)] 0 0 zSH f13 Q))) else (∃ A17 : zQ, zR sc d 188 0 [] [(0, zP (50)), (1, zI (59))] 0 0 zSH f7 A17 ∧ ∀ (r18 : Int) (f16 : zF), (r18 = 0 ∨ r18 = 1) → A17 (some (zI r18)) zSH f16 → (zR sc (d + 1) 196 33 [] [(0, zP (50)), (3, zI x3), (4, zI x4), (5, zI r18)] 0 0 zSH f16 Q))) else (if r6 = 0 then (∃ A20 : zQ, zR sc d 189 0 [] [(0, zP (50))] 0 0 zSH f7 A20 ∧ ∀ (r21 : Int) (f19 : zF), zIn r21 → A20 (some (zI r21)) zSH f19 → (if f19 (50) (16) < 0 then (∃ A23 : zQ, zR sc d 188 0 [] [(0, zP (50)), (1, zI (59))] 0 0 zSH f19 A23 ∧ ∀ (r24 : Int) (f22 : zF), (r24 = 0 ∨ r24 = 1) → A23 (some (zI r24)) zSH f22 → (zR sc (d + 1) 196 33 [] [(0, zP (50)), (3, zI x3), (4, zI x4), (5, zI r24)] 0 0 zSH f22 Q)) else (∃ A26 : zQ, zR sc d 188 0 [] [(0, zP (50)), (1, zI (59))] 0 0 zSH f19 A26 ∧ ∀ (r27 : Int) (f25 : zF), (r27 = 0 ∨ r27 = 1) → A26 (some (zI r27)) zSH f25 → (zR sc (d + 1) 196 33 [] [(0, zP (50)), (3, zI x3), (4, zI x4), (5, zI r27)] 0 0 zSH f25 Q)))) else (∃ A29 : zQ, zR sc d 189 0 [] [(0, zP (50))] 0 0 zSH f7 A29 ∧ ∀ (r30 : Int) (f28 : zF), zIn r30 → A29 (some (zI r30)) zSH f28 → (if f28 (50) (16) < 0 then (if x3 = 0 then (∃ A32 : zQ, zR sc d 188 0 [] [(0, zP (50)), (1, zI (59))] 0 0 zSH f28 A32 ∧ ∀ (r33 : Int) (f31 : zF), (r33 = 0 ∨ r33 = 1) → A32 (some (zI r33)) zSH f31 → (zR sc (d + 1) 196 33 [] [(0, zP (50)), (3, zI (1)), (4, zI r30), (5, zI r33)] 0 0 zSH f31 Q)) else (∃ A35 : zQ, zR sc d 188 0 [] [(0, zP (50)), (1, zI (59))] 0 0 zSH f28 A35 ∧ ∀ (r36 : Int) (f34 : zF), (r36 = 0 ∨ r36 = 1) → A35 (some (zI r36)) zSH f34 → (zR sc (d + 1) 196 33 [] [(0, zP (50)), (3, zI x3), (4, zI x4), (5, zI r36)] 0 0 zSH f34 Q))) else (∃ A38 : zQ, zR sc d 188 0 [] [(0, zP (50)), (1, zI (59))] 0 0 zSH f28 A38 ∧ ∀ (r39 : Int) (f37 : zF), (r39 = 0 ∨ r39 = 1) → A38 (some (zI r39)) zSH f37 → (zR sc (d + 1) 196 33 [] [(0, zP (50)), (3, zI x3), (4, zI x4), (5, zI r39)] 0 0 zSH f37 Q))))))))) : zR sc (d + 1) 196 33 [] [(0, zP (50)), (3, zI x3), (4, zI x4), (5, zI x5)] 0 0 zSH f Q := zwn_R (stp := fun mi pc => bif Nat.beq mi 196 && Nat.beq pc 33 then some [0, 3, 4, 5] else none) (inl := fun _ => false) (nov := (fun j => bif Nat.beq j 195 then false else bif Nat.beq j 193 then false else bif Nat.beq j 192 then false else bif Nat.beq j 30 then false else true)) 108 h
/-! lines and texts -/
def pl2 (r s : pR) : pR := if s.1 = true then pad (pcat (true, r.2.1 + 1, r.2.2 ++ [-63]) s) (-59) else pfl s
def pln (T : Nat → Int) (n : Int) (g : Int → Int → Int → pR) (p : Int) : pR :=
  if (g 0 0 p).1 = true then (if nxt T n (g 0 0 p).2.1 = 63 then pl2 (g 0 0 p) (g 0 0 ((g 0 0 p).2.1 + 1)) else pad (g 0 0 p) (-59)) else pfl (g 0 0 p)
def ptx (T : Nat → Int) (n : Int) (g : Int → Int → Int → pR) : Nat → Int → pR
  | 0, p => (true, p, [])
  | j + 1, p => if (pln T n g p).1 = true then (if nxt T n (pln T n g p).2.1 = 59 then pcat (pln T n g p) (ptx T n g j ((pln T n g p).2.1 + 1)) else pln T n g p) else pfl (pln T n g p)
/-- the fault of a reading, or -1 -/
def pfa (n : Int) (r : pR) : Int := if r.1 = true then (if r.2.1 < n then r.2.1 else -1) else r.2.1
/-- where a line ends, and how much it wrote -/
def pgl (n p : Int) (r : pR) : Prop := p ≤ r.2.1 ∧ r.2.1 ≤ n ∧ (r.1 = true → (r.2.2.length : Int) ≤ r.2.1 - p + 1 ∧ p < r.2.1)
section READL
variable {T : Nat → Int} {n o p : Int} {f f1 f2 : zF} {r s : pR} {sc : zC} {d : Nat} {Q : zQ}
theorem pln_at {k : Nat} (hk : 20 * n + 7 ≤ (k : Int)) (hp : 0 ≤ p ∧ p ≤ n) : pgl n p (pln T n (pps T n k) p) := by
  have G := (pps_at (T := T) (n := n) k).1 0 0 p (by decide) (by decide) hp.1 hp.2 (by omega)
  obtain ⟨G1, G2, G3⟩ := G
  unfold pln
  by_cases hb : (pps T n k 0 0 p).1 = true
  · obtain ⟨G4, G5⟩ := G3 hb
    have G5 := G5 rfl
    rw [if_pos hb]
    by_cases h63 : nxt T n (pps T n k 0 0 p).2.1 = 63
    · rw [if_pos h63]
      have pn := nxt_lt (T := T) (n := n) (p := (pps T n k 0 0 p).2.1) (by omega)
      have H := (pps_at (T := T) (n := n) k).1 0 0 ((pps T n k 0 0 p).2.1 + 1) (by decide) (by decide) (by omega) (by omega) (by omega)
      obtain ⟨H1, H2, H3⟩ := H
      unfold pl2
      generalize hs : pps T n k 0 0 ((pps T n k 0 0 p).2.1 + 1) = s at *
      by_cases hb2 : s.1 = true
      · obtain ⟨H4, H5⟩ := H3 hb2
        have H5 := H5 rfl
        rw [if_pos hb2]
        refine ⟨by show p ≤ s.2.1; omega, H2, fun _ => ⟨?_, by show p < s.2.1; omega⟩⟩
        show (((((pps T n k 0 0 p).2.2 ++ [-63]) ++ s.2.2) ++ [-59]).length : Int) ≤ s.2.1 - p + 1
        rw [List.length_append, List.length_append, List.length_append, List.length_singleton, List.length_singleton]
        omega
      · rw [if_neg hb2]
        exact ⟨by show p ≤ s.2.1; omega, H2, fun h => by cases h⟩
    · rw [if_neg h63]
      refine ⟨G1, G2, fun _ => ⟨?_, G5⟩⟩
      show (((pps T n k 0 0 p).2.2 ++ [-59]).length : Int) ≤ (pps T n k 0 0 p).2.1 - p + 1
      rw [List.length_append, List.length_singleton]
      omega
  · rw [if_neg hb]
    exact ⟨G1, G2, fun h => by cases h⟩
theorem cPo_mv {v : Int} (h : cPo f r f1) (hb : r.1 = true) : cPo f (true, v, r.2.2) (zup f1 19 4 v) := by
  obtain ⟨h1, h2, h3, h4⟩ := h
  obtain ⟨h5, h6, h7⟩ := h4 hb
  refine ⟨fun c j hc hj => ?_, rfl, h3, fun _ => ⟨h5, h6, wrt_keep (f := f1) (fun _ _ => rfl) h7⟩⟩
  rw [zup_at]
  by_cases e : c = 19
  · rw [if_pos e, if_neg (by omega)]; exact h1 c j hc hj
  · rw [if_neg e]; exact h1 c j hc hj
theorem c_ln {k : Nat} (hn : 0 ≤ n ∧ n ≤ 120) (hT : ∀ p, -1 ≤ nxt T n p ∧ nxt T n p ≤ 255) (hk : 20 * n + 7 ≤ (k : Int)) (hp : 0 ≤ p ∧ p ≤ n) (S : cS T n 0 p f) (hd : 90 ≤ d) (K : ∀ f1, cPo f (pln T n (pps T n k) p) f1 → Q (some (zI (pbi (pln T n (pps T n k) p).1))) zSH f1) : zR sc d 101 0 [] [(0, zP 19)] 0 0 zSH f Q := by
  obtain ⟨d, rfl⟩ : ∃ e, d = e + 1 := ⟨d - 1, by omega⟩
  obtain ⟨cX, -, -⟩ := c_all (sc := sc) hn hT k
  have G := (pps_at (T := T) (n := n) k).1 0 0 p (by decide) (by decide) hp.1 hp.2 (by omega)
  obtain ⟨S1, S2, S3, S4, S5, S6⟩ := id S
  refine b101_0 ?_
  refine zcall3 (fun v f1 => v = pbi (pps T n k 0 0 p).1 ∧ cPo f (pps T n k 0 0 p) f1) (cX 0 0 p d f _ (by decide) (by decide) (by decide) hp (by omega) (by omega) S (fun f1 h => ⟨_, rfl, rfl, h⟩)) (fun v f1 _ h => ?_)
  obtain ⟨rfl, h⟩ := h
  unfold pln at K
  by_cases hb : (pps T n k 0 0 p).1 = true
  · rw [if_pos hb] at K
    rw [pbi_t hb, if_neg (by decide)]
    have S' := cS_of h S hb G
    obtain ⟨G1, G2, G3⟩ := id G
    obtain ⟨G4, G5⟩ := G3 hb
    have G5 := G5 rfl
    obtain ⟨T1, T2, T3, T4, T5, T6⟩ := id S'
    have hl := (h.2.2.2 hb).1
    refine zcallB (s_ac (by omega) (by omega) ⟨rfl, rfl⟩) ?_
    rw [show nxt (f1 20) (f1 19 1) (f1 19 4) = nxt T n (pps T n k 0 0 p).2.1 by rw [T1, T2, T3]]
    by_cases h63 : nxt T n (pps T n k 0 0 p).2.1 = 63
    · rw [if_pos h63] at K
      rw [if_pos h63, if_pos h63, if_neg (by decide)]
      have pn := nxt_lt (T := T) (n := n) (p := (pps T n k 0 0 p).2.1) (by omega)
      rw [T3]
      have h2 := cPo_mv (v := (pps T n k 0 0 p).2.1 + 1) h hb
      refine zcallV (s_write h2.2.2.1 rfl) ?_
      have h3 := cPo_w (a := -63) h2 rfl S5 (by show f1 19 3 < 121; omega)
      have S2' : cS T n 0 ((pps T n k 0 0 p).2.1 + 1) (zwr (zup f1 19 4 ((pps T n k 0 0 p).2.1 + 1)) (-63)) := cS_of h3 S rfl (t := false) ⟨by show p ≤ (pps T n k 0 0 p).2.1 + 1; omega, by show (pps T n k 0 0 p).2.1 + 1 ≤ n; omega, fun _ => ⟨by
        show (((pps T n k 0 0 p).2.2 ++ [-63]).length : Int) ≤ (pps T n k 0 0 p).2.1 + 1 - p
        rw [List.length_append, List.length_singleton]
        omega, fun h => by cases h⟩⟩
      generalize zwr (zup f1 19 4 ((pps T n k 0 0 p).2.1 + 1)) (-63) = f3 at *
      have H := (pps_at (T := T) (n := n) k).1 0 0 ((pps T n k 0 0 p).2.1 + 1) (by decide) (by decide) (by omega) (by omega) (by omega)
      refine zcall3 (fun v f1 => v = pbi (pps T n k 0 0 ((pps T n k 0 0 p).2.1 + 1)).1 ∧ cPo f3 (pps T n k 0 0 ((pps T n k 0 0 p).2.1 + 1)) f1) (cX 0 0 _ d f3 _ (by decide) (by decide) (by decide) ⟨by omega, by omega⟩ (by omega) (by omega) S2' (fun f1 h => ⟨_, rfl, rfl, h⟩)) (fun v f4 _ h4 => ?_)
      obtain ⟨rfl, h4⟩ := h4
      unfold pl2 at K
      generalize hs : pps T n k 0 0 ((pps T n k 0 0 p).2.1 + 1) = s at *
      have h5 := cPo_cat h3 rfl h4 S5
      obtain ⟨H1, H2, H3⟩ := id H
      by_cases hb2 : s.1 = true
      · rw [if_pos hb2] at K
        rw [pbi_t hb2, if_neg (by decide)]
        obtain ⟨H4, H5⟩ := H3 hb2
        have h6 := (h4.2.2.2 hb2).1
        have h7 := S2'.2.2.2.2.2
        refine zcallV (s_write h4.2.2.1 rfl) (K _ (cPo_w h5 hb2 S5 (by omega)))
      · rw [if_neg hb2] at K
        rw [pbi_f hb2, if_pos rfl]
        have h6 := cPo_fl h5
        exact K _ h6
    · rw [if_neg h63] at K
      rw [if_neg h63, if_neg h63, if_pos rfl]
      exact zcallV (s_write h.2.2.1 rfl) (K _ (cPo_w h hb S5 (by omega)))
  · rw [if_neg hb] at K
    rw [pbi_f hb, if_pos rfl]
    exact K _ (cPo_fl h)
theorem c_tx {k : Nat} (hn : 0 ≤ n ∧ n ≤ 120) (hT : ∀ p, -1 ≤ nxt T n p ∧ nxt T n p ≤ 255) (hk : 20 * n + 7 ≤ (k : Int)) : ∀ (j : Nat) (p x2 : Int) (f : zF), (0 ≤ p ∧ p ≤ n) → (0 ≤ x2 ∧ x2 ≤ p) → n - p < (j : Int) → cS T n 0 p f → (∀ f1, cPo f (ptx T n (pps T n k) j p) f1 → Q (some (zI (pfa n (ptx T n (pps T n k) j p)))) zSH f1) → zR sc (d + 91) 100 19 [] [(0, zP 19), (1, zI 1), (2, zI x2)] 0 0 zSH f Q := by
  intro j
  induction j with
  | zero => intro p x2 f hp hx hj; omega
  | succ j ih =>
    intro p x2 f hp hx hj S K
    have G := pln_at (T := T) hk hp
    obtain ⟨S1, S2, S3, S4, S5, S6⟩ := id S
    refine b100_19 (d := d + 90) ?_
    rw [if_neg (by decide), if_neg (by omega)]
    refine zcall3 (fun v f1 => v = pbi (pln T n (pps T n k) p).1 ∧ cPo f (pln T n (pps T n k) p) f1) (c_ln hn hT hk hp S (by omega) (fun f1 h => ⟨_, rfl, rfl, h⟩)) (fun v f1 _ h => ?_)
    obtain ⟨rfl, h⟩ := h
    have E : ptx T n (pps T n k) (j + 1) p = if (pln T n (pps T n k) p).1 = true then (if nxt T n (pln T n (pps T n k) p).2.1 = 59 then pcat (pln T n (pps T n k) p) (ptx T n (pps T n k) j ((pln T n (pps T n k) p).2.1 + 1)) else pln T n (pps T n k) p) else pfl (pln T n (pps T n k) p) := rfl
    rw [E] at K
    clear E
    generalize hr : pln T n (pps T n k) p = r at *
    obtain ⟨G1, G2, G3⟩ := id G
    by_cases hb : r.1 = true
    · rw [if_pos hb] at K
      rw [pbi_t hb, if_neg (by decide)]
      obtain ⟨G4, G5⟩ := G3 hb
      have hl := (h.2.2.2 hb).1
      have e20 : f1 20 = T := (funext fun j => h.1 20 j (by decide) (Or.inl (by decide))).trans S1
      have e1 : f1 19 1 = n := (h.1 19 1 (by decide) (Or.inr (by decide))).trans S2
      have e5 : f1 19 5 = 0 := (h.1 19 5 (by decide) (Or.inr (by decide))).trans S4
      have e4 : f1 19 4 = r.2.1 := h.2.1
      refine zcallB (s_ac (by omega) (by omega) ⟨rfl, rfl⟩) ?_
      rw [show nxt (f1 20) (f1 19 1) (f1 19 4) = nxt T n r.2.1 by rw [e20, e1, e4]]
      refine zov_p (by omega) ?_
      by_cases h59 : nxt T n r.2.1 = 59
      · rw [if_pos h59] at K
        rw [if_pos h59, if_pos h59, e4]
        have pn := nxt_lt (T := T) (n := n) (p := r.2.1) (by omega)
        have h2 := cPo_mv (v := r.2.1 + 1) h hb
        exact ih (r.2.1 + 1) (x2 + 1) _ (by omega) (by omega) (by omega) ⟨e20, e1, rfl, e5, h.2.2.1.1, by show f1 19 3 ≤ r.2.1 + 1; omega⟩ (fun f2 h3 => by
          have h4 := cPo_cat h2 rfl h3 S5
          exact K f2 h4)
      · rw [if_neg h59] at K
        rw [if_neg h59, if_neg h59]
        refine b100_19 (d := d + 90) ?_
        rw [if_pos rfl]
        have K := K f1 h
        unfold pfa at K
        rw [if_pos hb] at K
        by_cases hq : r.2.1 < n
        · rw [if_pos (by omega), e4]
          rw [if_pos hq] at K
          exact K
        · rw [if_neg (by omega)]
          rw [if_neg hq] at K
          exact K
    · rw [if_neg hb] at K
      rw [pbi_f hb, if_pos rfl]
      have e4 : f1 19 4 = r.2.1 := h.2.1
      rw [e4]
      exact K f1 (cPo_fl h)
theorem c_rd {k : Nat} (hn : 0 ≤ f 19 1 ∧ f 19 1 ≤ 120) (hT : ∀ p, -1 ≤ nxt (f 20) (f 19 1) p ∧ nxt (f 20) (f 19 1) p ≤ 255) (hk : 20 * f 19 1 + 7 ≤ (k : Int)) (K : ∀ f1, cPo (zup (zup (zup f 19 4 0) 19 3 0) 19 5 0) (ptx (f 20) (f 19 1) (pps (f 20) (f 19 1) k) 121 0) f1 → Q (some (zI (pfa (f 19 1) (ptx (f 20) (f 19 1) (pps (f 20) (f 19 1) k) 121 0)))) zSH f1) : zR sc (d + 91) 100 0 [] [(0, zP 19)] 0 0 zSH f Q := by
  refine b100_0 (d := d + 90) ?_
  exact c_tx hn hT hk 121 0 0 _ (by omega) (by omega) (by omega) ⟨rfl, rfl, rfl, rfl, Int.le_refl _, Int.le_refl _⟩ K
end READL
/-! what a text gives -/
def pan (nm : Nat → Int) : List Int → List Int → Bool → Int
  | [], _, _ => 0
  | c :: L, st, po => if po = true then pan nm L st (decide (c ≠ -59)) else if c = -59 then st.headD 0 else if c = -63 then pan nm L st.tail (decide (st.headD 0 = 0)) else pan nm L (pst nm c st) false
def pcl (L : List Int) : Prop := ∀ c, c ∈ L → c ≠ -59 ∧ c ≠ -63
theorem pcl_app {L M : List Int} (h : pcl L) (g : pcl M) : pcl (L ++ M) := fun c hc => (List.mem_append.mp hc).elim (h c) (g c)
theorem pcl_1 {a : Int} (h : a ≠ -59 ∧ a ≠ -63) : pcl [a] := fun c hc => by rw [List.mem_singleton.mp hc]; exact h
theorem pcl_0 : pcl [] := fun c hc => by cases hc
theorem pan_e {nm : Nat → Int} : ∀ {E M st : List Int}, pcl E → pan nm (E ++ M) st false = pan nm M (prn nm E st) false
  | [], _, _, _ => rfl
  | c :: E, M, st, h => by
    have hc := h c List.mem_cons_self
    show (if false = true then _ else if c = -59 then _ else if c = -63 then _ else pan nm (E ++ M) (pst nm c st) false) = _
    rw [if_neg (by decide), if_neg hc.1, if_neg hc.2]
    exact pan_e (fun a ha => h a (List.mem_cons_of_mem _ ha))
theorem pan_s {nm : Nat → Int} : ∀ {E M st : List Int}, pcl E → pan nm (E ++ M) st true = pan nm M st true
  | [], _, _, _ => rfl
  | c :: E, M, st, h => by
    have hc := h c List.mem_cons_self
    show (if true = true then pan nm (E ++ M) st (decide (c ≠ -59)) else _) = _
    rw [if_pos rfl, decide_eq_true hc.1]
    exact pan_s (fun a ha => h a (List.mem_cons_of_mem _ ha))
theorem pan_l {nm : Nat → Int} {M st : List Int} : pan nm (-59 :: M) st true = pan nm M st false := rfl
theorem pan_v {nm : Nat → Int} {M st : List Int} {v : Int} : pan nm (-59 :: M) (v :: st) false = v := rfl
theorem pan_q {nm : Nat → Int} {M st : List Int} {v : Int} : pan nm (-63 :: M) (v :: st) false = pan nm M st (decide (v = 0)) := rfl
section READV
variable {T : Nat → Int} {n o p : Int} {nm : Nat → Int} {f f1 f2 : zF} {r s : pR} {sc : zC} {d : Nat} {Q : zQ}
theorem plv_n {c : Int} (h : 0 ≤ plv c) : c ≠ 59 ∧ c ≠ 63 := by
  unfold plv at h
  repeat' split at h
  all_goals omega
theorem pps_cl : ∀ k : Nat, (∀ m o p : Int, 0 ≤ m → m ≤ 5 → pcl (pps T n k m o p).2.2) ∧ (∀ l o p : Int, 0 ≤ l → l ≤ 4 → pcl (pps T n k (10 + l) o p).2.2)
  | 0 => ⟨fun _ _ _ _ _ => pcl_0, fun _ _ _ _ _ => pcl_0⟩
  | k + 1 => by
    obtain ⟨ih1, ih2⟩ := pps_cl k
    refine ⟨fun m o p h0 h5 => ?_, fun l o p h0 h4 => ?_⟩
    · by_cases hm : m = 5
      · subst hm
        rw [pps_O]
        unfold pO
        split
        · exact pcl_1 (by have := pdg_v (T := T) (n := n) 4 0 p (Int.le_refl _); show (pdg T n 4 0 p).1 ≠ -59 ∧ (pdg T n 4 0 p).1 ≠ -63; omega)
        · split
          next h => exact pcl_1 (by have := pnm_b h; omega)
          next h =>
            split
            next c3 =>
              unfold pP
              split
              · split
                · split
                  · exact ih1 0 _ _ (by decide) (by decide)
                  · exact pcl_0
                · exact pcl_0
              · split
                · refine pcl_app (ih1 5 _ _ (by decide) (by decide)) (pcl_1 ?_)
                  split <;> omega
                · exact pcl_0
            next => exact pcl_0
      · rw [pps_V (by omega)]
        unfold pV
        split
        · exact pcl_app (ih1 _ _ _ (by omega) (by omega)) (ih2 _ _ _ h0 (by omega))
        · exact pcl_0
    · rw [pps_W h0]
      unfold pW
      split
      next hc =>
        have hn := plv_n (c := nxt T n p) (by omega)
        have h1 : pcl ((pps T n k (l + 1) o (p + 1)).2.2 ++ [-(nxt T n p)]) := pcl_app (ih1 _ _ _ (by omega) (by omega)) (pcl_1 (by omega))
        split
        · split
          · exact h1
          · exact pcl_app h1 (ih2 _ _ _ h0 h4)
        · exact pcl_0
      next => exact pcl_0
def vl (nm : Nat → Int) (x3 x4 : Int) (L : List Int) : Int := if x3 = 0 then pan nm L [] false else x4
/-- the frame of a reading -/
def rfm (f f1 : zF) : Prop := ∀ c j, (c ≠ 50 ∨ (j ≠ 14 ∧ j ≠ 16 ∧ j ≠ 17)) → f1 c j = f c j
theorem rfm_t (h : rfm f f1) (g : rfm f1 f2) : rfm f f2 := fun c j hc => (g c j hc).trans (h c j hc)
theorem r_tx {k : Nat} (hn : 0 ≤ n ∧ n ≤ 120) (hT : ∀ p, -1 ≤ nxt T n p ∧ nxt T n p ≤ 255) (hk : 20 * n + 7 ≤ (k : Int)) : ∀ (j : Nat) (p x3 x4 : Int) (f : zF), (0 ≤ p ∧ p ≤ n) → n - p < (j : Int) → rS T n 0 p nm f → (x3 = 0 → x4 = 0) → (∀ v f1, rfm f f1 → f1 50 16 = pfa n (ptx T n (pps T n k) j p) → (pfa n (ptx T n (pps T n k) j p) = -1 → v = vl nm x3 x4 (ptx T n (pps T n k) j p).2.2) → Q (some (zI v)) zSH f1) → zR sc (d + 91) 196 33 [] [(0, zP 50), (3, zI x3), (4, zI x4), (5, zI 1)] 0 0 zSH f Q := by
  intro j
  induction j with
  | zero => intro p x3 x4 f hp hj; omega
  | succ j ih =>
    intro p x3 x4 f hp hj S hx K
    have G := pln_at (T := T) hk hp
    obtain ⟨cX, -⟩ := r_all (sc := sc) (nm := nm) hn hT k
    have E : ptx T n (pps T n k) (j + 1) p = if (pln T n (pps T n k) p).1 = true then (if nxt T n (pln T n (pps T n k) p).2.1 = 59 then pcat (pln T n (pps T n k) p) (ptx T n (pps T n k) j ((pln T n (pps T n k) p).2.1 + 1)) else pln T n (pps T n k) p) else pfl (pln T n (pps T n k) p) := rfl
    rw [E] at K
    clear E
    -- a line that is read: what follows
    have tl : (pln T n (pps T n k) p).1 = true → ∀ (fz : zF) (y3 y4 : Int), rfm f fz → fz 50 14 = (pln T n (pps T n k) p).2.1 → fz 50 16 = -1 → fz 50 17 = 0 → (y3 = 0 → y4 = 0) → (∀ M, vl nm y3 y4 M = vl nm x3 x4 ((pln T n (pps T n k) p).2.2 ++ M)) → ∃ A : zQ, zR sc (d + 90) 188 0 [] [(0, zP 50), (1, zI 59)] 0 0 zSH fz A ∧ ∀ (r : Int) (f' : zF), (r = 0 ∨ r = 1) → A (some (zI r)) zSH f' → zR sc (d + 91) 196 33 [] [(0, zP 50), (3, zI y3), (4, zI y4), (5, zI r)] 0 0 zSH f' Q := by
      intro hb fz y3 y4 hf h14 h16 h17 hy hv
      rw [if_pos hb] at K
      generalize hr : pln T n (pps T n k) p = r at *
      obtain ⟨G1, G2, G3⟩ := id G
      obtain ⟨G4, G5⟩ := G3 hb
      have S0 : rS0 T n r.2.1 fz := rS0_of hf S.1 h14
      by_cases h59 : nxt T n r.2.1 = 59
      · rw [if_pos h59] at K
        have pn := nxt_lt (T := T) (n := n) (p := r.2.1) (by omega)
        refine zcallB (s_tk1 (by omega) hn.2 S0 (by omega) (by decide) h59 ⟨rfl, rfl⟩) ?_
        have hz : rfm fz (zup fz 50 14 (fz 50 14 + 1)) := fr50 (fun _ _ _ => rfl) (Or.inl rfl)
        refine ih (r.2.1 + 1) y3 y4 _ (by omega) (by omega) ⟨rS0_of hz S0 (by show fz 50 14 + 1 = r.2.1 + 1; omega), h16, h17, (funext fun j => hf 58 j (Or.inl (by decide))).trans S.2.2.2⟩ hy (fun v f1 h1 h2 h3 => K v f1 (rfm_t hf (rfm_t hz h1)) h2 (fun h4 => ?_))
        show v = vl nm x3 x4 (r.2.2 ++ _)
        rw [← hv]
        exact h3 h4
      · rw [if_neg h59] at K
        refine zcallB (s_tk0 (by omega) hn.2 S0 (by decide) (Or.inr h59) ⟨rfl, rfl⟩) ?_
        refine b196_33 (d := d + 90) ?_
        rw [if_pos rfl, if_pos (by omega)]
        have e15 := S0.2.1
        by_cases hq : r.2.1 < n
        · rw [if_pos (by omega)]
          refine zcallE (s_wrong (by omega) ⟨rfl, rfl⟩) (K _ _ (rfm_t hf (fr50 (fun _ _ _ => rfl) (Or.inr (Or.inl rfl)))) ?_ (fun h => ?_))
          · show fz 50 14 = _
            unfold pfa
            rw [if_pos hb, if_pos hq, h14]
          · unfold pfa at h
            rw [if_pos hb, if_pos hq] at h
            omega
        · rw [if_neg (by omega)]
          refine K _ _ hf ?_ (fun _ => ?_)
          · unfold pfa
            rw [if_pos hb, if_neg hq, h16]
          · have := hv []
            rw [List.append_nil] at this
            rw [← this]
            unfold vl
            by_cases h3 : y3 = 0
            · rw [if_pos h3, hy h3]; rfl
            · rw [if_neg h3]
    -- a line that isn't
    have fl : (¬ (pln T n (pps T n k) p).1 = true) → ∀ (fz : zF), rfm f fz → fz 50 14 = (pln T n (pps T n k) p).2.1 → fz 50 16 = (pln T n (pps T n k) p).2.1 → ∃ A : zQ, zR sc (d + 90) 188 0 [] [(0, zP 50), (1, zI 59)] 0 0 zSH fz A ∧ ∀ (r : Int) (f' : zF), (r = 0 ∨ r = 1) → A (some (zI r)) zSH f' → zR sc (d + 91) 196 33 [] [(0, zP 50), (3, zI x3), (4, zI x4), (5, zI r)] 0 0 zSH f' Q := by
      intro hb fz hf h14 h16
      rw [if_neg hb] at K
      obtain ⟨G1, G2, G3⟩ := id G
      refine zcallB (s_tk0 (p := (pln T n (pps T n k) p).2.1) (by omega) hn.2 (rS0_of hf S.1 h14) (by decide) (Or.inl (by omega)) ⟨rfl, rfl⟩) ?_
      refine b196_33 (d := d + 90) ?_
      rw [if_pos rfl, if_neg (by omega)]
      refine K _ _ hf ?_ (fun h => ?_)
      · unfold pfa
        rw [if_neg (show ¬ (pfl (pln T n (pps T n k) p)).1 = true from fun h => by cases h)]
        exact h16
      · unfold pfa at h
        rw [if_neg (show ¬ (pfl (pln T n (pps T n k) p)).1 = true from fun h => by cases h)] at h
        have h : (pln T n (pps T n k) p).2.1 = -1 := h
        omega
    have G0 := (pps_at (T := T) (n := n) k).1 0 0 p (by decide) (by decide) hp.1 hp.2 (by omega)
    have L0 := (pps_cl (T := T) (n := n) k).1 0 0 p (by decide) (by decide)
    refine b196_33 (d := d + 90) ?_
    rw [if_neg (by decide)]
    refine zcall1 (fun v f1 => rPo f (pps T n k 0 0 p) f1 ∧ rVl nm (pps T n k 0 0 p) v) (cX 0 0 p (d + 90) f _ (by decide) (by decide) (by decide) hp (by omega) (by omega) S (fun v f1 h1 h2 => ⟨_, rfl, h1, h2⟩)) (fun v f1 _ h => ?_)
    obtain ⟨h, hv⟩ := h
    have S1 : rS0 T n (pps T n k 0 0 p).2.1 f1 := rS0_of h.1 S.1 h.2.1
    obtain ⟨G1, G2, G3⟩ := id G0
    by_cases hb : (pps T n k 0 0 p).1 = true
    · obtain ⟨G4, G5⟩ := G3 hb
      have G5 := G5 rfl
      have e16 : f1 50 16 = -1 := (h.2.2.1 hb).1.trans S.2.1
      have e17 : f1 50 17 = 0 := (h.2.2.1 hb).2.trans S.2.2.1
      by_cases h63 : nxt T n (pps T n k 0 0 p).2.1 = 63
      · have pn := nxt_lt (T := T) (n := n) (p := (pps T n k 0 0 p).2.1) (by omega)
        have Ep : pln T n (pps T n k) p = pl2 (pps T n k 0 0 p) (pps T n k 0 0 ((pps T n k 0 0 p).2.1 + 1)) := by
          unfold pln
          rw [if_pos hb, if_pos h63]
        rw [Ep] at tl fl
        clear Ep
        refine zcallB (s_tk1 (by omega) hn.2 S1 (by omega) (by decide) h63 ⟨rfl, rfl⟩) ?_
        rw [if_neg (by decide)]
        have S2 : rS T n 0 ((pps T n k 0 0 p).2.1 + 1) nm (zup f1 50 14 (f1 50 14 + 1)) := ⟨rS0_of (fr50 (fun _ _ _ => rfl) (Or.inl rfl)) S1 (by have := h.2.1; show f1 50 14 + 1 = _; omega), e16, e17, (funext fun j => h.1 58 j (Or.inl (by decide))).trans S.2.2.2⟩
        have H0 := (pps_at (T := T) (n := n) k).1 0 0 ((pps T n k 0 0 p).2.1 + 1) (by decide) (by decide) (by omega) (by omega) (by omega)
        have M0 := (pps_cl (T := T) (n := n) k).1 0 0 ((pps T n k 0 0 p).2.1 + 1) (by decide) (by decide)
        have cl : ∀ {P : Int → zF → Prop}, (∀ w f4, rPo f1 (pps T n k 0 0 ((pps T n k 0 0 p).2.1 + 1)) f4 → rVl nm (pps T n k 0 0 ((pps T n k 0 0 p).2.1 + 1)) w → P w f4) → ∃ A : zQ, zR sc (d + 90) 189 0 [] [(0, zP 50)] 0 0 zSH (zup f1 50 14 (f1 50 14 + 1)) A ∧ ∀ (r : Int) (f1 : zF), zIn r → A (some (zI r)) zSH f1 → P r f1 := fun {P} g =>
          zcall1 (fun w f4 => rPo f1 (pps T n k 0 0 ((pps T n k 0 0 p).2.1 + 1)) f4 ∧ rVl nm (pps T n k 0 0 ((pps T n k 0 0 p).2.1 + 1)) w) (cX 0 0 _ (d + 90) _ _ (by decide) (by decide) (by decide) (by omega) (by omega) (by omega) S2 (fun v f1 h1 h2 => ⟨_, rfl, rPo_at h1, h2⟩)) (fun w f4 _ h => g w f4 h.1 h.2)
        generalize hs : pps T n k 0 0 ((pps T n k 0 0 p).2.1 + 1) = s at *
        generalize hr : pps T n k 0 0 p = r at *
        have vq : s.1 = true → ∀ M w, rVl nm s w → pan nm ((pl2 r s).2.2 ++ M) [] false = if v = 0 then pan nm M [] false else w := by
          intro hb2 M w hw
          have e : (pl2 r s).2.2 = ((r.2.2 ++ [-63]) ++ s.2.2) ++ [-59] := by
            unfold pl2
            rw [if_pos hb2]
            rfl
          rw [e, List.append_assoc, List.append_assoc, List.append_assoc, pan_e L0, hv hb]
          show pan nm (-63 :: (s.2.2 ++ ([-59] ++ M))) [v] false = _
          rw [pan_q]
          by_cases h0 : v = 0
          · rw [if_pos h0, decide_eq_true h0, pan_s M0]
            exact pan_l
          · rw [if_neg h0, decide_eq_false h0, pan_e M0, hw hb2]
            exact pan_v
        have p1 : s.1 = true → (pl2 r s).1 = true ∧ (pl2 r s).2.1 = s.2.1 := by
          intro hb2
          unfold pl2
          rw [if_pos hb2]
          exact ⟨rfl, rfl⟩
        have p2 : ¬ s.1 = true → (¬ (pl2 r s).1 = true) ∧ (pl2 r s).2.1 = s.2.1 := by
          intro hb2
          unfold pl2
          rw [if_neg hb2]
          exact ⟨(fun h => by cases h), rfl⟩
        have hfr : rfm f f1 := h.1
        refine zit (fun hv0 => cl (fun w f4 h4 hw => ?_)) (fun hv0 => cl (fun w f4 h4 hw => ?_))
        · by_cases hb2 : s.1 = true
          · rw [if_pos (by have := (h4.2.2.1 hb2).1; omega)]
            refine tl (p1 hb2).1 f4 x3 x4 (rfm_t hfr h4.1) (h4.2.1.trans (p1 hb2).2.symm) ((h4.2.2.1 hb2).1.trans e16) ((h4.2.2.1 hb2).2.trans e17) hx (fun M => ?_)
            unfold vl
            rw [vq hb2 M w hw, if_pos hv0]
          · have hq := h4.2.2.2 hb2
            obtain ⟨H1, H2, H3⟩ := id H0
            rw [if_neg (by omega)]
            exact fl (p2 hb2).1 f4 (rfm_t hfr h4.1) (h4.2.1.trans (p2 hb2).2.symm) (hq.trans (p2 hb2).2.symm)
        · by_cases hb2 : s.1 = true
          · rw [if_pos (by have := (h4.2.2.1 hb2).1; omega)]
            refine zit (fun h3 => ?_) (fun h3 => ?_)
            · refine tl (p1 hb2).1 f4 1 w (rfm_t hfr h4.1) (h4.2.1.trans (p1 hb2).2.symm) ((h4.2.2.1 hb2).1.trans e16) ((h4.2.2.1 hb2).2.trans e17) (fun h => absurd h (by decide)) (fun M => ?_)
              unfold vl
              rw [vq hb2 M w hw, if_neg hv0, if_pos h3, if_neg (by decide)]
            · refine tl (p1 hb2).1 f4 x3 x4 (rfm_t hfr h4.1) (h4.2.1.trans (p1 hb2).2.symm) ((h4.2.2.1 hb2).1.trans e16) ((h4.2.2.1 hb2).2.trans e17) hx (fun M => ?_)
              unfold vl
              rw [if_neg h3, if_neg h3]
          · have hq := h4.2.2.2 hb2
            obtain ⟨H1, H2, H3⟩ := id H0
            rw [if_neg (by omega)]
            exact fl (p2 hb2).1 f4 (rfm_t hfr h4.1) (h4.2.1.trans (p2 hb2).2.symm) (hq.trans (p2 hb2).2.symm)
      · have Ep : pln T n (pps T n k) p = pad (pps T n k 0 0 p) (-59) := by
          unfold pln
          rw [if_pos hb, if_neg h63]
        rw [Ep] at tl
        refine zcallB (s_tk0 (by omega) hn.2 S1 (by decide) (Or.inr h63) ⟨rfl, rfl⟩) ?_
        rw [if_pos rfl, if_pos (by omega)]
        have vq : ∀ M, pan nm ((pad (pps T n k 0 0 p) (-59)).2.2 ++ M) [] false = v := by
          intro M
          show pan nm (((pps T n k 0 0 p).2.2 ++ [-59]) ++ M) [] false = v
          rw [List.append_assoc, pan_e L0, hv hb]
          exact pan_v
        refine zit (fun h3 => ?_) (fun h3 => ?_)
        · refine tl rfl f1 1 v h.1 h.2.1 e16 e17 (fun h => absurd h (by decide)) (fun M => ?_)
          unfold vl
          rw [vq, if_pos h3, if_neg (by decide)]
        · refine tl rfl f1 x3 x4 h.1 h.2.1 e16 e17 hx (fun M => ?_)
          unfold vl
          rw [if_neg h3, if_neg h3]
    · have Ep : pln T n (pps T n k) p = pfl (pps T n k 0 0 p) := by
        unfold pln
        rw [if_neg hb]
      rw [Ep] at fl
      have hq := h.2.2.2 hb
      refine zcallB (s_tk0 (by omega) hn.2 S1 (by decide) (Or.inl (by omega)) ⟨rfl, rfl⟩) ?_
      rw [if_pos rfl, if_neg (by omega)]
      exact fl (fun h => by cases h) f1 h.1 h.2.1 hq
/-- the whole text -/
def prd (T : Nat → Int) (n : Int) : pR := ptx T n (pps T n (20 * n + 7).toNat) 121 0
theorem r_wo {b : Int} (hn : 0 ≤ n ∧ n ≤ 120) (hT : ∀ p, -1 ≤ nxt T n p ∧ nxt T n p ≤ 255) (hS : (b = -1 ∧ f 56 = T) ∨ (b = 0 ∧ f 57 = T)) (K : ∀ v f1, (∀ c j, (c ≠ 50 ∨ (j ≠ 13 ∧ j ≠ 14 ∧ j ≠ 15 ∧ j ≠ 16 ∧ j ≠ 17)) → f1 c j = f c j) → f1 50 16 = pfa n (prd T n) → (pfa n (prd T n) = -1 → v = pan (f 58) (prd T n).2.2 [] false) → Q (some (zI v)) zSH f1) : zR sc (d + 91) 196 0 [] [(0, zP 50), (1, zI b), (2, zI n)] 0 0 zSH f Q := by
  refine b196_0 (d := d + 90) ?_
  refine r_tx (k := (20 * n + 7).toNat) (nm := f 58) hn hT (by omega) 121 0 0 0 _ (by omega) (by omega) ⟨⟨?_, rfl, rfl⟩, rfl, rfl, rfl⟩ (fun _ => rfl) (fun v f1 h1 h2 h3 => K v f1 (fun c j hc => ?_) h2 h3)
  · rcases hS with ⟨h1, h2⟩ | ⟨h1, h2⟩
    · exact Or.inl ⟨h1, h2⟩
    · exact Or.inr ⟨h1, h2⟩
  · rw [h1 c j (by omega)]
    simp only [zup_at]
    by_cases e : c = 50
    · rw [if_pos e, if_pos e, if_pos e, if_pos e, if_pos e, if_neg (by omega), if_neg (by omega), if_neg (by omega), if_neg (by omega), if_neg (by omega)]
    · rw [if_neg e, if_neg e, if_neg e, if_neg e, if_neg e]
end READV
/-! law(): both -/
section READJ
variable {T : Nat → Int} {n : Int}
theorem ptx_at {k : Nat} (hk : 20 * n + 7 ≤ (k : Int)) : ∀ (j : Nat) (p : Int), 0 ≤ p ∧ p ≤ n → 0 ≤ (ptx T n (pps T n k) j p).2.1 ∧ (ptx T n (pps T n k) j p).2.1 ≤ n
  | 0, p, hp => hp
  | j + 1, p, hp => by
    obtain ⟨G1, G2, G3⟩ := pln_at (T := T) hk hp
    show 0 ≤ (if (pln T n (pps T n k) p).1 = true then (if nxt T n (pln T n (pps T n k) p).2.1 = 59 then pcat (pln T n (pps T n k) p) (ptx T n (pps T n k) j ((pln T n (pps T n k) p).2.1 + 1)) else pln T n (pps T n k) p) else pfl (pln T n (pps T n k) p)).2.1 ∧ (if (pln T n (pps T n k) p).1 = true then (if nxt T n (pln T n (pps T n k) p).2.1 = 59 then pcat (pln T n (pps T n k) p) (ptx T n (pps T n k) j ((pln T n (pps T n k) p).2.1 + 1)) else pln T n (pps T n k) p) else pfl (pln T n (pps T n k) p)).2.1 ≤ n
    by_cases hb : (pln T n (pps T n k) p).1 = true
    · rw [if_pos hb]
      by_cases h59 : nxt T n (pln T n (pps T n k) p).2.1 = 59
      · rw [if_pos h59]
        have pn := nxt_lt (T := T) (n := n) (p := (pln T n (pps T n k) p).2.1) (by omega)
        exact ptx_at hk j ((pln T n (pps T n k) p).2.1 + 1) (by omega)
      · rw [if_neg h59]
        omega
    · rw [if_neg hb]
      show 0 ≤ (pln T n (pps T n k) p).2.1 ∧ (pln T n (pps T n k) p).2.1 ≤ n
      omega
theorem pfa_b (hn : 0 ≤ n) : pfa n (prd T n) = -1 ∨ (0 ≤ pfa n (prd T n) ∧ pfa n (prd T n) ≤ n) := by
  have h := ptx_at (T := T) (n := n) (k := (20 * n + 7).toNat) (by omega) 121 0 (by omega)
  have h : 0 ≤ (prd T n).2.1 ∧ (prd T n).2.1 ≤ n := h
  unfold pfa
  split
  · split
    · exact Or.inr h
    · exact Or.inl rfl
  · exact Or.inr h
theorem wI_lw {f0 f' : zF} (i : wI f0) (hF : ∀ c j, c ≠ 19 → c ≠ 21 → c ≠ 22 → c ≠ 23 → c ≠ 57 → (c ≠ 50 ∨ (j ≠ 10 ∧ j ≠ 12 ∧ j ≠ 13 ∧ j ≠ 14 ∧ j ≠ 15 ∧ j ≠ 16 ∧ j ≠ 17)) → f' c j = f0 c j) (t0 : f' 19 1 = 0) (t1 : f' 50 10 = 0) : wI f' := by
  refine wI_tp i (fun {a b} hp j hj => ?_) ?_ (t0.trans t1.symm) (fun j => ?_)
  · obtain ⟨a1, a2, a3, a4, a5, a6⟩ := (show ∀ q ∈ wKt, q.1 ≠ 19 ∧ q.1 ≠ 21 ∧ q.1 ≠ 22 ∧ q.1 ≠ 23 ∧ q.1 ≠ 57 ∧ (q.1 ≠ 50 ∨ (q.2 = 40 ∨ q.2 = 43)) by decide) (a, b) hp
    have a6 : a ≠ 50 ∨ (b = 40 ∨ b = 43) := a6
    exact hF a j a1 a2 a3 a4 a5 (by omega)
  · rw [hF 1 1 (by decide) (by decide) (by decide) (by decide) (by decide) (Or.inl (by decide)), hF 50 7 (by decide) (by decide) (by decide) (by decide) (by decide) (Or.inr (by decide))]
    exact i.1.1
  · rw [hF 20 j (by decide) (by decide) (by decide) (by decide) (by decide) (Or.inl (by decide)), hF 56 j (by decide) (by decide) (by decide) (by decide) (by decide) (Or.inl (by decide))]
    exact i.2.1.2.2.2 j
/-- letters are bytes -/
def wBt (f : zF) : Prop := ∀ j, 0 ≤ f 20 j ∧ f 20 j ≤ 255
theorem wBt_fr {W : List (Nat × Nat)} {f f' : zF} (h : wav [(20, 999)] W = true) (g : aFr W f f') (i : wBt f) : wBt f' := fun j => by
  rw [g 20 j (wav_ok h List.mem_cons_self (Or.inl rfl))]
  exact i j
theorem wBt_0 : wBt zF0 := fun j => by
  rw [zF0_o rfl j]
  decide
theorem jb_6 {sc : zC} {f0 : zF} (g0 : aGok wG (afx sc f0)) (b0 : wBt f0) {a : Int} : zR sc 199 124 0 [] [(0, zP 0), (1, zI a)] 0 0 zSH f0 (fun r _ f1 => ∃ v, r = some (zI v) ∧ wBt f1) := by
  have e3 : (0 : Int) ≤ f0 19 1 ∧ f0 19 1 ≤ 120 := wG_at (F := afx sc f0) (c := 19) (j := 1) (I := (.ofNat 0, .ofNat 120)) g0.1 rfl
  refine b124_0 ?_
  repeat' (first | (refine zix_p (by omega) ?_) | (refine zov_p (by omega) ?_) | (refine zit (fun h => ?_) (fun h => ?_)))
  all_goals refine ⟨_, rfl, fun j => ?_⟩
  all_goals try exact b0 j
  all_goals (show 0 ≤ (if j = (f0 19 1).toNat then a else f0 20 j) ∧ (if j = (f0 19 1).toNat then a else f0 20 j) ≤ 255; split)
  all_goals first | omega | exact b0 j
theorem jm_6 {sc : zC} {f0 : zF} (g0 : aGok wG (afx sc f0)) (i0 : wI f0) (b0 : wBt f0) {a : Int} : zR sc 199 124 0 [] [(0, zP 0), (1, zI a)] 0 0 zSH f0 (fun r _ f1 => ∃ v, r = some (zI v) ∧ (wBt f1 ∧ zR sc 199 185 0 [] [(0, zP 50), (1, zI a)] 0 0 zSH f1 (fun r _ f2 => ∃ w, r = some (zI w) ∧ wI f2 ∧ v = w))) :=
  zR_imp (zR_and (jk_6 g0 i0) (jb_6 g0 b0)) (fun r _ f1 h => by
    obtain ⟨⟨v, e, k⟩, -, -, b⟩ := h
    exact ⟨v, e, b, k⟩)
set_option maxRecDepth 10000 in
theorem jl_7 {sc : zC} {f0 : zF} (g0 : aGok wG (afx sc f0)) (i0 : wI f0) (b0 : wBt f0) : zR sc 199 125 0 [] [(0, zP 0)] 0 0 zSH f0 (fun r _ f1 => ∃ v, r = some (zI v) ∧ zR sc 199 197 0 [] [(0, zP 50)] 0 0 zSH f1 (fun r _ f2 => ∃ w, r = some (zI w) ∧ wI f2 ∧ v = w)) := by
  obtain ⟨⟨i1, i2, i3, i4⟩, ⟨k1, k2, k3, k4⟩, s⟩ := id i0
  have hn : (0 : Int) ≤ f0 19 1 ∧ f0 19 1 ≤ 120 := wG_at (F := afx sc f0) (c := 19) (j := 1) (I := (.ofNat 0, .ofNat 120)) g0.1 rfl
  have hT : ∀ p, -1 ≤ nxt (f0 20) (f0 19 1) p ∧ nxt (f0 20) (f0 19 1) p ≤ 255 := by
    intro p
    by_cases h : 0 ≤ p ∧ p < f0 19 1
    · rw [nxt_is h]
      have := b0 p.toNat
      omega
    · rw [nxt_no h]
      omega
  have e56 : f0 56 = f0 20 := funext fun j => (k4 j).symm
  have vb := pfa_b (T := f0 20) (n := f0 19 1) hn.1
  refine b125_0 ?_
  refine zcall1 (fun v f1 => v = pfa (f0 19 1) (prd (f0 20) (f0 19 1)) ∧ cPo (zup (zup (zup f0 19 4 0) 19 3 0) 19 5 0) (prd (f0 20) (f0 19 1)) f1) (c_rd (d := 107) hn hT (k := (20 * f0 19 1 + 7).toNat) (by omega) (fun f1 h => ⟨_, rfl, rfl, h⟩)) (fun v f1 _ h => ?_)
  obtain ⟨hv, h1, h2, h3, h4⟩ := h
  rw [← hv] at vb
  have fr : ∀ c j, c ≠ 19 → c ≠ 21 → f1 c j = f0 c j := fun c j h19 h21 => (h1 c j h21 (Or.inl h19)).trans (by simp only [zup_at, if_neg h19])
  have R : ∀ fz : zF, (∀ c j, c ≠ 19 → c ≠ 21 → c ≠ 22 → c ≠ 23 → fz c j = f0 c j) → fz 19 1 = 0 → ∀ w0 : Int, w0 = (if v < 0 then 1 else -100 - v) → zR sc 199 197 0 [] [(0, zP 50)] 0 0 zSH fz (fun r _ f2 => ∃ w, r = some (zI w) ∧ wI f2 ∧ w0 = w) := by
    intro fz hf hz w0 hw0
    have e10 : fz 50 10 = f0 19 1 := (hf 50 10 (by decide) (by decide) (by decide) (by decide)).trans i4.symm
    refine b197_0 ?_
    rw [e10]
    refine zcall1 (fun w f2 => (∀ c j, (c ≠ 50 ∨ (j ≠ 13 ∧ j ≠ 14 ∧ j ≠ 15 ∧ j ≠ 16 ∧ j ≠ 17)) → f2 c j = fz c j) ∧ f2 50 16 = pfa (f0 19 1) (prd (f0 20) (f0 19 1))) (r_wo (T := f0 20) (d := 107) hn hT (Or.inl ⟨rfl, (funext fun j => hf 56 j (by decide) (by decide) (by decide) (by decide)).trans e56⟩) (fun w f2 q1 q2 _ => ⟨_, rfl, q1, q2⟩)) (fun w f2 _ h => ?_)
    obtain ⟨q1, q2⟩ := h
    rw [← hv] at q2
    have e2 : f2 50 10 = f0 19 1 := (q1 50 10 (Or.inr (by decide))).trans e10
    have ez : f2 19 1 = 0 := (q1 19 1 (Or.inl (by decide))).trans hz
    have qf : ∀ c j, c ≠ 19 → c ≠ 21 → c ≠ 22 → c ≠ 23 → (c ≠ 50 ∨ (j ≠ 13 ∧ j ≠ 14 ∧ j ≠ 15 ∧ j ≠ 16 ∧ j ≠ 17)) → f2 c j = f0 c j := fun c j a1 a2 a3 a4 a5 => (q1 c j a5).trans (hf c j a1 a2 a3 a4)
    by_cases hv0 : v < 0
    · rw [if_pos hv0] at hw0
      rw [if_pos (by omega), e2]
      have L : ∀ k, k ≤ (f0 19 1).toNat → zR sc 199 197 37 [] [(0, zP 50), (2, zI (f0 19 1)), (3, zI ((k : Nat) : Int))] 0 0 zSH (zfl (zup f2 50 10 0) 57 0 k (fun j => f2 56 j)) (fun r _ f2 => ∃ w, r = some (zI w) ∧ wI f2 ∧ w0 = w) := by
        refine zloop (f0 19 1).toNat (fun k hk h => b197_37 ?_) (b197_37 ?_)
        · rw [if_pos (by omega)]
          refine zix_p (by omega) (zix_p (by omega) (zov_p (by omega) ?_))
          rw [zfl_s (by omega) (by rfl)]
          exact h
        · rw [if_neg (by omega)]
          refine ⟨_, rfl, wI_lw i0 (fun c j a1 a2 a3 a4 a5 a6 => ?_) ez rfl, hw0⟩
          refine Eq.trans ?_ (qf c j a1 a2 a3 a4 (by omega))
          rw [zup_at, zfl_o a5, zup_at]
          by_cases e : c = 50
          · rw [if_pos e, if_pos e, if_neg (by omega), if_neg (by omega)]
          · rw [if_neg e, if_neg e]
      have := L 0 (by omega)
      rw [zfl_0] at this
      exact this
    · rw [if_neg hv0] at hw0
      rw [if_neg (by omega)]
      refine zov_p (by omega) ⟨_, rfl, wI_lw i0 (fun c j a1 a2 a3 a4 a5 a6 => ?_) ez rfl, by omega⟩
      refine Eq.trans ?_ (qf c j a1 a2 a3 a4 (by omega))
      rw [zup_at]
      by_cases e : c = 50
      · rw [if_pos e, if_neg (by omega)]
      · rw [if_neg e]
  have e3 : (if 121 < f1 19 3 then 121 else f1 19 3) = f1 19 3 := if_neg (by omega)
  simp only [e3]
  by_cases hv0 : v < 0
  · rw [if_pos hv0, if_pos (by omega), if_pos hv0]
    refine ⟨_, rfl, R _ (fun c j a1 a2 a3 a4 => ?_) rfl _ (by rw [if_pos hv0])⟩
    refine Eq.trans ?_ (fr c j a1 a2)
    rw [zup_at, if_neg a1, zup_at, if_neg a3, zcp_at, if_neg a4]
  · rw [if_neg hv0, if_neg hv0]
    refine ⟨_, rfl, R _ (fun c j a1 a2 a3 a4 => ?_) rfl _ (by rw [if_neg hv0, w32_in (by omega)])⟩
    refine Eq.trans ?_ (fr c j a1 a2)
    rw [zup_at, if_neg a1]
end READJ
end
