/-! methods: their words -/
def zl8 : List UInt8 → List UInt8 → Bool
  | [], [] => true
  | x :: xs, y :: ys => Nat.beq x.toNat y.toNat && zl8 xs ys
  | _, _ => false
theorem zl8_ok : ∀ {a b : List UInt8}, zl8 a b = true → a = b
  | [], [], _ => rfl
  | x :: xs, y :: ys, h => by
    have h : (Nat.beq x.toNat y.toNat && zl8 xs ys) = true := h
    rw [Bool.and_eq_true] at h
    rw [UInt8.toNat_inj.1 (Nat.eq_of_beq_eq_true h.1), zl8_ok h.2]
  | [], _ :: _, h => by cases h
  | _ :: _, [], h => by cases h
def zcw (mi : Nat) (w : Cond) : Bool := match w with
  | .code y b ml rt => decide (y = zy mi) && (zl8 b.data.toList (zby mi).data.toList && (Nat.beq ml (zml mi) && decide (rt = zrt mi)))
  | _ => false
theorem zcw_ok {mi : Nat} {w : Cond} (h : zcw mi w = true) : w = .code (zy mi) (zby mi) (zml mi) (zrt mi) := by
  unfold zcw at h
  split at h
  next y b ml rt =>
    simp only [Bool.and_eq_true, decide_eq_true_eq] at h
    obtain ⟨h1, h2, h3, h4⟩ := h
    have e : b = zby mi := ByteArray.ext (Array.toList_inj.1 (zl8_ok h2))
    rw [h1, e, Nat.eq_of_beq_eq_true h3, h4]
  next => cases h
def zcA (mi : Nat) : Bool := match lw_tbl[(zMp mi).1]? with
  | some w => zcw mi w
  | none => false
theorem zcA_ok {mi : Nat} (h : zcA mi = true) : ∃ i : Nat, lw_tbl[i]? = some (Cond.code (zy mi) (zby mi) (zml mi) (zrt mi)) := by
  unfold zcA at h
  cases hw : lw_tbl[(zMp mi).1]? with
  | none => rw [hw] at h; cases h
  | some w =>
    rw [hw] at h
    exact ⟨_, by rw [hw, zcw_ok h]⟩

theorem zm_0 : (List.range' 1 30).all zokM = true := by decide +kernel
theorem zm_1 : (List.range' 31 30).all zokM = true := by decide +kernel
theorem zm_2 : (List.range' 61 30).all zokM = true := by decide +kernel
theorem zm_3 : (List.range' 91 30).all zokM = true := by decide +kernel
theorem zm_4 : (List.range' 121 30).all zokM = true := by decide +kernel
theorem zm_5 : (List.range' 151 30).all zokM = true := by decide +kernel
theorem zm_6 : (List.range' 181 30).all zokM = true := by decide +kernel
theorem zm_7 : (List.range' 211 30).all zokM = true := by decide +kernel
theorem zm_8 : (List.range' 241 24).all zokM = true := by decide +kernel
theorem zm_all : ∀ mi, 0 < mi → mi < zNM → zokM mi = true := by
  intro mi h0 hm
  have hm2 : mi < 265 := hm
  have key : ∀ (a n : Nat), (List.range' a n).all zokM = true → a ≤ mi → mi < a + n → zokM mi = true := fun a n hl h1 h2 => List.all_eq_true.mp hl mi (by rw [List.mem_range'_1]; omega)
  rcases (show (1 ≤ mi ∧ mi < 31) ∨ (31 ≤ mi ∧ mi < 61) ∨ (61 ≤ mi ∧ mi < 91) ∨ (91 ≤ mi ∧ mi < 121) ∨ (121 ≤ mi ∧ mi < 151) ∨ (151 ≤ mi ∧ mi < 181) ∨ (181 ≤ mi ∧ mi < 211) ∨ (211 ≤ mi ∧ mi < 241) ∨ (241 ≤ mi ∧ mi < 265) by omega) with h | h | h | h | h | h | h | h | h
  · exact key _ _ zm_0 h.1 h.2
  · exact key _ _ zm_1 h.1 h.2
  · exact key _ _ zm_2 h.1 h.2
  · exact key _ _ zm_3 h.1 h.2
  · exact key _ _ zm_4 h.1 h.2
  · exact key _ _ zm_5 h.1 h.2
  · exact key _ _ zm_6 h.1 h.2
  · exact key _ _ zm_7 h.1 h.2
  · exact key _ _ zm_8 h.1 h.2
theorem zcA_0 : (List.range' 1 30).all zcA = true := by decide +kernel
theorem zcA_1 : (List.range' 31 30).all zcA = true := by decide +kernel
theorem zcA_2 : (List.range' 61 30).all zcA = true := by decide +kernel
theorem zcA_3 : (List.range' 91 30).all zcA = true := by decide +kernel
theorem zcA_4 : (List.range' 121 30).all zcA = true := by decide +kernel
theorem zcA_5 : (List.range' 151 30).all zcA = true := by decide +kernel
theorem zcA_6 : (List.range' 181 30).all zcA = true := by decide +kernel
theorem zcA_7 : (List.range' 211 30).all zcA = true := by decide +kernel
theorem zcA_8 : (List.range' 241 24).all zcA = true := by decide +kernel
theorem zmc_all (mi : Nat) (h0 : 0 < mi) (hm : mi < zNM) : ∃ i : Nat, lw_tbl[i]? = some (Cond.code (zy mi) (zby mi) (zml mi) (zrt mi)) := by
  have hm2 : mi < 265 := hm
  have key : ∀ (a n : Nat), (List.range' a n).all zcA = true → a ≤ mi → mi < a + n → zcA mi = true := fun a n hl h1 h2 => List.all_eq_true.mp hl mi (by rw [List.mem_range'_1]; omega)
  rcases (show (1 ≤ mi ∧ mi < 31) ∨ (31 ≤ mi ∧ mi < 61) ∨ (61 ≤ mi ∧ mi < 91) ∨ (91 ≤ mi ∧ mi < 121) ∨ (121 ≤ mi ∧ mi < 151) ∨ (151 ≤ mi ∧ mi < 181) ∨ (181 ≤ mi ∧ mi < 211) ∨ (211 ≤ mi ∧ mi < 241) ∨ (241 ≤ mi ∧ mi < 265) by omega) with h | h | h | h | h | h | h | h | h
  · exact zcA_ok (key _ _ zcA_0 h.1 h.2)
  · exact zcA_ok (key _ _ zcA_1 h.1 h.2)
  · exact zcA_ok (key _ _ zcA_2 h.1 h.2)
  · exact zcA_ok (key _ _ zcA_3 h.1 h.2)
  · exact zcA_ok (key _ _ zcA_4 h.1 h.2)
  · exact zcA_ok (key _ _ zcA_5 h.1 h.2)
  · exact zcA_ok (key _ _ zcA_6 h.1 h.2)
  · exact zcA_ok (key _ _ zcA_7 h.1 h.2)
  · exact zcA_ok (key _ _ zcA_8 h.1 h.2)
