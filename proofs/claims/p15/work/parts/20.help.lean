noncomputable section
/-! rules of use -/
theorem zix_p {i : Int} {n : Nat} {P : Prop} (h : 0 ≤ i ∧ i < (n : Int)) (k : P) : zix i n P := by
  unfold zix; rw [if_pos h]; exact k
theorem zov_p {z : Int} {P : Prop} (h : -2147483648 ≤ z ∧ z ≤ 2147483647) (k : P) : zov z P := by
  exact ⟨h, k⟩
theorem zrB_p {z : Int} {P : Prop} (h : z = 0 ∨ z = 1) (k : P) : zrB z P := by
  unfold zrB
  rcases h with rfl | rfl
  · rw [if_pos rfl]; exact k
  · rw [if_neg (by decide), if_pos rfl]; exact k
theorem zcall {sc : zC} {d j : Nat} {lv : zL} {f : zF} {P : zF → Prop} (R : zF → Prop) (h : zR sc d j 0 [] lv 0 0 zSH f (fun _ _ f1 => R f1)) (g : ∀ f1, R f1 → P f1) : ∃ A : zQ, zR sc d j 0 [] lv 0 0 zSH f A ∧ ∀ f1 : zF, A none zSH f1 → P f1 := ⟨_, h, g⟩
theorem zcall1 {sc : zC} {d j : Nat} {lv : zL} {f : zF} {P : Int → zF → Prop} (R : Int → zF → Prop) (h : zR sc d j 0 [] lv 0 0 zSH f (fun r _ f1 => ∃ v, r = some (zI v) ∧ R v f1)) (g : ∀ v f1, zIn v → R v f1 → P v f1) : ∃ A : zQ, zR sc d j 0 [] lv 0 0 zSH f A ∧ ∀ (r : Int) (f1 : zF), zIn r → A (some (zI r)) zSH f1 → P r f1 :=
  ⟨_, h, fun r f1 hr ⟨v, e, k⟩ => by cases e; exact g r f1 hr k⟩
theorem zcall3 {sc : zC} {d j : Nat} {lv : zL} {f : zF} {P : Int → zF → Prop} (R : Int → zF → Prop) (h : zR sc d j 0 [] lv 0 0 zSH f (fun r _ f1 => ∃ v, r = some (zI v) ∧ R v f1)) (g : ∀ v f1, (v = 0 ∨ v = 1) → R v f1 → P v f1) : ∃ A : zQ, zR sc d j 0 [] lv 0 0 zSH f A ∧ ∀ (r : Int) (f1 : zF), (r = 0 ∨ r = 1) → A (some (zI r)) zSH f1 → P r f1 :=
  ⟨_, h, fun r f1 hr ⟨v, e, k⟩ => by cases e; exact g r f1 hr k⟩
theorem zcall2 {sc : zC} {d j : Nat} {lv : zL} {f : zF} {P : Int → zF → Prop} (R : Int → zF → Prop) (h : zR sc d j 0 [] lv 0 0 zSH f (fun r _ f1 => ∃ v, r = some (zJ v) ∧ R v f1)) (g : ∀ v f1, zIn64 v → R v f1 → P v f1) : ∃ A : zQ, zR sc d j 0 [] lv 0 0 zSH f A ∧ ∀ (r : Int) (f1 : zF), zIn64 r → A (some (zJ r)) zSH f1 → P r f1 :=
  ⟨_, h, fun r f1 hr ⟨v, e, k⟩ => by cases e; exact g r f1 hr k⟩
/-- what holds at the end holds before, step by step -/
theorem zloop {H : Nat → Prop} (n : Nat) (step : ∀ k, k < n → H (k + 1) → H k) (last : H n) : ∀ k, k ≤ n → H k := by
  intro k hk
  obtain ⟨m, rfl⟩ : ∃ m, n = k + m := ⟨n - k, by omega⟩
  clear hk
  induction m generalizing k with
  | zero => exact last
  | succ m ih => exact step k (by omega) (ih (k + 1) (fun j hj => step j (by omega)) (by rw [Nat.add_right_comm]; exact last))
/-- the places lo .. lo + n - 1 of a cell are g's -/
def zfl (f : zF) (c lo n : Nat) (g : Nat → Int) : zF := fun a b => if a = c then (if lo ≤ b ∧ b < lo + n then g b else f a b) else f a b
theorem zfl_0 {f : zF} {c lo : Nat} {g : Nat → Int} : zfl f c lo 0 g = f := by
  funext a b
  unfold zfl
  split
  · rw [if_neg (by omega)]
  · rfl
theorem zfl_s {f : zF} {c lo n i : Nat} {g : Nat → Int} {v : Int} (hi : i = lo + n) (hv : v = g i) : zup (zfl f c lo n g) c i v = zfl f c lo (n + 1) g := by
  subst hi hv
  funext a b
  simp only [zfl, zup]
  by_cases h : a = c
  · rw [if_pos h, if_pos h, if_pos h]
    by_cases h2 : b = lo + n
    · rw [if_pos h2, if_pos (by omega), h2]
    · rw [if_neg h2]
      by_cases h3 : lo ≤ b ∧ b < lo + n
      · rw [if_pos h3, if_pos (by omega)]
      · rw [if_neg h3, if_neg (by omega)]
  · rw [if_neg h, if_neg h, if_neg h]
theorem zfl_o {f : zF} {c lo n a b : Nat} {g : Nat → Int} (h : a ≠ c) : zfl f c lo n g a b = f a b := by
  unfold zfl; rw [if_neg h]
theorem zfl_i {f : zF} {c lo n b : Nat} {g : Nat → Int} (h : lo ≤ b ∧ b < lo + n) : zfl f c lo n g c b = g b := by
  unfold zfl; rw [if_pos rfl, if_pos h]
theorem zfl_u {f : zF} {c lo n b : Nat} {g : Nat → Int} (h : ¬ (lo ≤ b ∧ b < lo + n)) : zfl f c lo n g c b = f c b := by
  unfold zfl; rw [if_pos rfl, if_neg h]
/-- what the reference's days begin with -/
def zbeg (f : zF) : zF := zup (zfl (zfl (zfl (zfl (zfl f 59 0 168 (fun j => f 55 j)) 60 0 6 (fun j => f 51 (24 + j))) 61 0 4 (fun j => f 51 (55 + j))) 62 0 24 (fun j => f 51 j)) 63 0 7 (fun j => if (j : Int) < f 50 7 then f 51 (44 + j) else -1)) 50 24 (f 51 59)
set_option maxRecDepth 10000 in
theorem s198 {sc : zC} {d : Nat} {f : zF} {Q : zQ} (hQ : Q none zSH (zbeg f)) (hd : 1 ≤ d := by omega) : zR sc d 198 0 [] [(0, zP 50)] 0 0 zSH f Q := by
  refine zR_le hd (b198_0 ?_)
  let f1 := zfl f 59 0 168 (fun j => f 55 j)
  let f2 := zfl f1 60 0 6 (fun j => f 51 (24 + j))
  let f3 := zfl f2 61 0 4 (fun j => f 51 (55 + j))
  let f4 := zfl f3 62 0 24 (fun j => f 51 j)
  have L5 : ∀ k, k ≤ 7 → zR sc 1 198 112 [] [(0, zP 50), (1, zI ((k : Nat) : Int))] 0 0 zSH (zfl f4 63 0 k (fun j => if (j : Int) < f 50 7 then f 51 (44 + j) else -1)) Q := by
    refine zloop 7 (fun k hk h => b198_112 ?_) (b198_112 ?_)
    · rw [if_pos (by omega)]
      split
      next hg =>
        refine zov_p (by omega) (zix_p (by omega) (zix_p (by omega) (zov_p (by omega) ?_)))
        rw [zfl_s (by omega) (by
          rw [show (44 + (k : Int)).toNat = 44 + k by omega]
          have hg : (k : Int) < f 50 7 := hg
          simp only [Int.toNat_natCast, hg, if_true]; rfl)]
        exact h
      next hg =>
        refine zix_p (by omega) (zov_p (by omega) ?_)
        rw [zfl_s (by omega) (by
          have hg : ¬ (k : Int) < f 50 7 := hg
          simp only [Int.toNat_natCast, hg, if_false])]
        exact h
    · rw [if_neg (by omega)]
      exact hQ
  have L4 : ∀ k, k ≤ 24 → zR sc 1 198 86 [] [(0, zP 50), (1, zI ((k : Nat) : Int))] 0 0 zSH (zfl f3 62 0 k (fun j => f 51 j)) Q := by
    refine zloop 24 (fun k hk h => b198_86 ?_) (b198_86 ?_)
    · rw [if_pos (by omega)]
      refine zix_p (by omega) (zix_p (by omega) (zov_p (by omega) ?_))
      rw [zfl_s (by omega) (by rfl)]
      exact h
    · rw [if_neg (by omega)]
      have := L5 0 (by omega)
      rw [zfl_0] at this
      exact this
  have L3 : ∀ k, k ≤ 4 → zR sc 1 198 58 [] [(0, zP 50), (1, zI ((k : Nat) : Int))] 0 0 zSH (zfl f2 61 0 k (fun j => f 51 (55 + j))) Q := by
    refine zloop 4 (fun k hk h => b198_58 ?_) (b198_58 ?_)
    · rw [if_pos (by omega)]
      refine zov_p (by omega) (zix_p (by omega) (zix_p (by omega) (zov_p (by omega) ?_)))
      rw [show (55 + (k : Int)).toNat = 55 + k by omega, zfl_s (by omega) (by rfl)]
      exact h
    · rw [if_neg (by omega)]
      have := L4 0 (by omega)
      rw [zfl_0] at this
      exact this
  have L2 : ∀ k, k ≤ 6 → zR sc 1 198 29 [] [(0, zP 50), (1, zI ((k : Nat) : Int))] 0 0 zSH (zfl f1 60 0 k (fun j => f 51 (24 + j))) Q := by
    refine zloop 6 (fun k hk h => b198_29 ?_) (b198_29 ?_)
    · rw [if_pos (by omega)]
      refine zov_p (by omega) (zix_p (by omega) (zix_p (by omega) (zov_p (by omega) ?_)))
      rw [show (24 + (k : Int)).toNat = 24 + k by omega, zfl_s (by omega) (by rfl)]
      exact h
    · rw [if_neg (by omega)]
      have := L3 0 (by omega)
      rw [zfl_0] at this
      exact this
  have L1 : ∀ k, k ≤ 168 → zR sc 1 198 2 [] [(0, zP 50), (1, zI ((k : Nat) : Int))] 0 0 zSH (zfl f 59 0 k (fun j => f 55 j)) Q := by
    refine zloop 168 (fun k hk h => b198_2 ?_) (b198_2 ?_)
    · rw [if_pos (by omega)]
      refine zix_p (by omega) (zix_p (by omega) (zov_p (by omega) ?_))
      rw [zfl_s (by omega) (by rfl)]
      exact h
    · rw [if_neg (by omega)]
      have := L2 0 (by omega)
      rw [zfl_0] at this
      exact this
  have := L1 0 (by omega)
  rw [zfl_0] at this
  exact this
end
