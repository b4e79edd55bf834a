noncomputable section
/-! numbers: the machine's words and whole numbers -/
theorem zo_w (z : Int) : Int32.ofInt (w32 z) = Int32.ofInt z := Int32.toInt_inj.1 (by simp [w32, Int32.size])
theorem zo_t {z : Int} (h : zIn z) : (Int32.ofInt z).toInt = z := Int32.toInt_ofInt_of_le (by have := h.1; omega) (by have := h.2; omega)
theorem zin_w (z : Int) : zIn (w32 z) := by
  unfold zIn w32
  have h1 := Int.le_bmod (x := z) (m := 4294967296) (by decide)
  have h2 := Int.bmod_lt (x := z) (m := 4294967296) (by decide)
  omega
theorem zin_t (x : Int32) : zIn x.toInt := by
  have h1 := Int32.le_toInt x
  have h2 := Int32.toInt_lt x
  unfold zIn
  omega
theorem zin_bool {z : Int} (h : z = 0 ∨ z = 1) : zIn z := by
  unfold zIn; omega
theorem zo_add (x y : Int) : Int32.ofInt (w32 (x + y)) = Int32.ofInt x + Int32.ofInt y := by rw [zo_w, Int32.ofInt_add]
theorem zo_sub (x y : Int) : Int32.ofInt (w32 (x - y)) = Int32.ofInt x - Int32.ofInt y := by rw [zo_w, Int32.ofInt_sub]
theorem zo_mul (x y : Int) : Int32.ofInt (w32 (x * y)) = Int32.ofInt x * Int32.ofInt y := by rw [zo_w, Int32.ofInt_mul]
theorem zo_neg (x : Int) : Int32.ofInt (w32 (-x)) = -Int32.ofInt x := by rw [zo_w, Int32.ofInt_neg]
theorem zo_div {x y : Int} (hx : zIn x) (hy : zIn y) : Int32.ofInt (w32 (x.tdiv y)) = Int32.ofInt x / Int32.ofInt y := by
  apply Int32.toInt_inj.1
  rw [zo_t (zin_w _), Int32.toInt_div, zo_t hx, zo_t hy]
  rfl
theorem zo_rem {x y : Int} (hx : zIn x) (hy : zIn y) : Int32.ofInt (x.tmod y) = Int32.ofInt x - Int32.ofInt x / Int32.ofInt y * Int32.ofInt y := by
  rw [← zo_div hx hy, zo_w, ← Int32.ofInt_mul, ← Int32.ofInt_sub]
  congr 1
  have := Int.tmod_add_tdiv_mul x y
  omega
theorem zin_rem {x y : Int} (hx : zIn x) : zIn (x.tmod y) := by
  have h : (x.tmod y).natAbs ≤ x.natAbs := by
    rw [Int.natAbs_tmod]
    exact Nat.mod_le _ _
  have h2 : 0 ≤ x → 0 ≤ x.tmod y := fun h => Int.tmod_nonneg y h
  have h3 : x ≤ 0 → x.tmod y ≤ 0 := fun h => by
    have h4 := Int.tmod_nonneg (a := -x) y (by omega)
    rw [Int.neg_tmod] at h4
    omega
  unfold zIn at *
  omega
theorem zo_ne {y : Int} (hy : zIn y) (h : ¬ y = 0) : ¬ Int32.ofInt y = 0 := by
  intro q
  have := congrArg Int32.toInt q
  rw [zo_t hy] at this
  exact h this
theorem zo_lt {x y : Int} (hx : zIn x) (hy : zIn y) : Int32.ofInt x < Int32.ofInt y ↔ x < y := by
  rw [Int32.lt_iff_toInt_lt, zo_t hx, zo_t hy]
theorem zo_le {x y : Int} (hx : zIn x) (hy : zIn y) : Int32.ofInt x ≤ Int32.ofInt y ↔ x ≤ y := by
  rw [Int32.le_iff_toInt_le, zo_t hx, zo_t hy]
theorem zo_eq {x y : Int} (hx : zIn x) (hy : zIn y) : Int32.ofInt x = Int32.ofInt y ↔ x = y := by
  rw [← Int32.toInt_inj, zo_t hx, zo_t hy]
theorem zin_0 : zIn 0 := by unfold zIn; omega
theorem zo_0 : Int32.ofInt 0 = 0 := rfl
theorem zo_cl {z : Int} (h : zIn z) : (Int32.ofInt z).toNatClampNeg = z.toNat := by
  show (Int32.ofInt z).toInt.toNat = z.toNat
  rw [zo_t h]
theorem zo_in {z : Int} {n : Nat} (h : zIn z) (h0 : 0 ≤ z ∧ z < (n : Int)) : vp_in (Int32.ofInt z) n := by
  rw [vp_in_iff, zo_t h]
  exact h0
theorem zo_nn {z : Int} (h : zIn z) (h0 : 0 ≤ z) : ¬ Int32.ofInt z < 0 := by
  intro q
  have := (zo_lt h zin_0).mp q
  omega
theorem zo_tt (x : Int32) : Int32.ofInt x.toInt = x := Int32.ofInt_toInt x
theorem zo64_t {z : Int} (h : zIn64 z) : (Int64.ofInt z).toInt = z := Int64.toInt_ofInt_of_le (by have := h.1; omega) (by have := h.2; omega)
theorem zin64_t (x : Int64) : zIn64 x.toInt := by
  have h1 := Int64.le_toInt x
  have h2 := Int64.toInt_lt x
  unfold zIn64
  omega
theorem zin64_of {z : Int} (h : zIn z) : zIn64 z := by unfold zIn zIn64 at *; omega
theorem zo_i2l {z : Int} (h : zIn z) : (Int32.ofInt z).toInt64 = Int64.ofInt z := by
  apply Int64.toInt_inj.1
  rw [Int32.toInt_toInt64, zo_t h, zo64_t (zin64_of h)]
theorem zo_l2i {z : Int} (h : zIn64 z) : (Int64.ofInt z).toInt32 = Int32.ofInt (w32 z) := by
  apply Int32.toInt_inj.1
  rw [Int64.toInt_toInt32, zo64_t h, zo_t (zin_w _)]
  rfl
theorem zo_lcmp {x y : Int} (hx : zIn64 x) (hy : zIn64 y) : lg_cmp (Int64.ofInt x) (Int64.ofInt y) = Int32.ofInt (zlcmp x y) := by
  unfold lg_cmp zlcmp
  have e1 : Int64.ofInt x < Int64.ofInt y ↔ x < y := by rw [Int64.lt_iff_toInt_lt, zo64_t hx, zo64_t hy]
  have e2 : Int64.ofInt x = Int64.ofInt y ↔ x = y := by rw [← Int64.toInt_inj, zo64_t hx, zo64_t hy]
  have e3 : Int64.ofInt y < Int64.ofInt x ↔ y < x := by rw [Int64.lt_iff_toInt_lt, zo64_t hx, zo64_t hy]
  by_cases h1 : x < y
  · have h2 : ¬ x = y := by omega
    have h3 : ¬ y < x := by omega
    simp [h1, h2, h3, e1, e2, e3]
  · by_cases h2 : x = y
    · simp [h1, h2, e1, e2, e3]
      try rfl
    · have h3 : y < x := by omega
      simp [h1, h2, h3, e1, e2, e3]
      try rfl
theorem zin_lcmp (x y : Int) : zIn (zlcmp x y) := by
  unfold zlcmp zIn
  split
  · omega
  · split <;> omega
theorem zin_ite {c : Prop} {x y : Int} (hx : zIn x) (hy : zIn y) : ∀ i : Decidable c, zIn (@ite Int c i x y) := by
  intro i
  cases i with
  | isTrue k => rw [if_pos k]; exact hx
  | isFalse k => rw [if_neg k]; exact hy
end
