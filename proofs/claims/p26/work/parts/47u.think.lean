noncomputable section
/-! days in thought, both -/
def cpy (f : zF) : zF := zcp (zcp (zcp (zcp (zup (zup f 7 0 (f 1 0)) 7 1 (f 1 1)) 2 8 0 0 60) 3 9 0 0 168) 4 10 0 0 7) 5 11 0 0 6
section TH
variable {sc : zC} {f0 : zF} {w : zLw}
set_option maxRecDepth 4000 in
set_option maxHeartbeats 400000 in
theorem cpy_o {f : zF} {c j : Nat} (h : c ≠ 7 ∧ c ≠ 8 ∧ c ≠ 9 ∧ c ≠ 10 ∧ c ≠ 11) : cpy f c j = f c j := by
  unfold cpy
  simp only [zup_at, zcp_at, if_neg h.1, if_neg h.2.1, if_neg h.2.2.1, if_neg h.2.2.2.1, if_neg h.2.2.2.2]
set_option maxRecDepth 4000 in
set_option maxHeartbeats 400000 in
theorem cpy_8 {f : zF} {j : Nat} (h : j < 60) : cpy f 8 j = f 2 j := by
  show (if 0 ≤ j ∧ j < 0 + 60 then f 2 (0 + (j - 0)) else f 8 j) = f 2 j
  rw [if_pos (by omega), Nat.zero_add, Nat.sub_zero]
set_option maxRecDepth 4000 in
set_option maxHeartbeats 400000 in
theorem cpy_9 {f : zF} {j : Nat} (h : j < 168) : cpy f 9 j = f 3 j := by
  show (if 0 ≤ j ∧ j < 0 + 168 then f 3 (0 + (j - 0)) else f 9 j) = f 3 j
  rw [if_pos (by omega), Nat.zero_add, Nat.sub_zero]
set_option maxRecDepth 4000 in
set_option maxHeartbeats 400000 in
theorem cpy_10 {f : zF} {j : Nat} (h : j < 7) : cpy f 10 j = f 4 j := by
  show (if 0 ≤ j ∧ j < 0 + 7 then f 4 (0 + (j - 0)) else f 10 j) = f 4 j
  rw [if_pos (by omega), Nat.zero_add, Nat.sub_zero]
set_option maxRecDepth 4000 in
set_option maxHeartbeats 400000 in
theorem cpy_11 {f : zF} {j : Nat} (h : j < 6) : cpy f 11 j = f 5 j := by
  show (if 0 ≤ j ∧ j < 0 + 6 then f 5 (0 + (j - 0)) else f 11 j) = f 5 j
  rw [if_pos (by omega), Nat.zero_add, Nat.sub_zero]
set_option maxRecDepth 4000 in
set_option maxHeartbeats 400000 in
theorem wD_c7 (i0 : wD f0) (cw : cLw w f0) : cN7 w (sP f0) (sA f0) (cpy f0) :=
  ⟨⟨rfl, rfl⟩, fun q hq => ⟨cpy_8 (by omega), cpy_8 (by omega), cpy_8 (by omega)⟩, fun q hq => ⟨cpy_8 (by omega), cpy_8 (by omega)⟩, fun q hq => cpy_8 (by omega), cpy_8 (by decide), fun q hq => cpy_9 hq, fun q hq => (cpy_10 hq).trans (i0.2.2.1.2.1 q hq), fun q hq => cpy_8 (by omega), cLw_l (f := f0) (fun j => cpy_o (by decide)) (cpy_o (by decide)) cw⟩
set_option maxRecDepth 4000 in
set_option maxHeartbeats 400000 in
theorem cpy_t (g0 : aGok wG (afx sc f0)) : zIn (cpy f0 11 1) ∧ zIn (cpy f0 11 3) := by
  rw [cpy_11 (by decide), cpy_11 (by decide)]
  exact ⟨g_51 g0, g_53 g0⟩
set_option maxRecDepth 4000 in
set_option maxHeartbeats 400000 in
/-- the class thinks n days ahead -/
theorem t_days {n : Nat} {a : Int} {P : Int → zF → Prop} (g0 : aGok wG (afx sc f0)) (i0 : wD f0) (cw : cLw w f0) (hn : n ≤ 60) (ha : a = (n : Int)) (g : ∀ v f1, cN7 w (sP f0) (dIt w (sP f0) (sA f0) n) f1 → cM7 (cpy f0) f1 → P v f1) : ∃ A : zQ, zR sc 197 88 0 [] [(0, zP 7), (1, zP 22), (2, zI a)] 0 0 zSH (cpy f0) A ∧ ∀ (r : Int) (f1 : zF), zIn r → A (some (zI r)) zSH f1 → P r f1 := by
  subst ha
  exact zcall1 (fun v f1 => cN7 w (sP f0) (dIt w (sP f0) (sA f0) n) f1 ∧ cM7 (cpy f0) f1) (c7_days (d := 190) hn (wD_p g0 i0) (wD_a i0) (wD_c7 i0 cw) (cpy_t g0).1 (cpy_t g0).2 (fun v f1 h1 h2 _ _ => ⟨v, rfl, h1, h2⟩)) (fun v f1 _ h => g v f1 h.1 h.2)
set_option maxRecDepth 4000 in
set_option maxHeartbeats 400000 in
theorem c7_hi {f f1 : zF} (m : cM7 f f1) {c j : Nat} (h : 26 ≤ c) : f1 c j = f c j := m c j (by omega) (by omega) (by omega) (by omega) (by omega) (by omega) (Or.inl (by omega)) (Or.inl (by omega))
set_option maxRecDepth 4000 in
set_option maxHeartbeats 400000 in
theorem t_hi {f1 : zF} (m : cM7 (cpy f0) f1) {c j : Nat} (h : 26 ≤ c) : f1 c j = f0 c j := (c7_hi m h).trans (cpy_o (by omega))
set_option maxRecDepth 4000 in
set_option maxHeartbeats 400000 in
/-- the reference thinks n days ahead -/
theorem u_days {n : Nat} {a : Int} {F : zF} {P : zF → Prop} (g0 : aGok wG (afx sc f0)) (i0 : wD f0) (rw1 : rLw w f0) (e : ∀ c j, 50 ≤ c → F c j = f0 c j) (hn : n ≤ 60) (ha : a = (n : Int)) (g : ∀ f3, rB w (sP f0) (dIt w (sP f0) (sA f0) n) f3 → rM (zbeg F) f3 → P f3) : ∃ A : zQ, zR sc 198 198 0 [] [(0, zP 50)] 0 0 zSH F A ∧ ∀ f1 : zF, A none zSH f1 → (∃ A4 : zQ, zR sc 198 203 0 [] [(0, zP 50), (1, zI a)] 0 0 zSH f1 A4 ∧ ∀ f3 : zF, A4 none zSH f3 → P f3) := by
  subst ha
  refine zcall (fun f2 => f2 = zbeg F) (s198 rfl) (fun f2 h => ?_)
  subst h
  exact zcall (fun f3 => rB w (sP f0) (dIt w (sP f0) (sA f0) n) f3 ∧ rM (zbeg F) f3) (r_days (d := 103) hn (wD_p g0 i0) (wD_a i0) (wD_rb i0 e rw1) (fun f3 h1 h2 => ⟨h1, h2⟩)) (fun f3 h => g f3 h.1 h.2)
end TH
end
