noncomputable section
/-! a day, as a function: P the numbers that stay (rooms, hills, what hills hold, hirers, what is put by, how many), A what changes (own, clutter, heard, weekday and counters) -/
def sN (F : Nat → Int) : Nat → Int
  | 0 => 0
  | n + 1 => sN F n + F n
def ld (A : zF) (g : Nat) : Int := sN (fun k => A 0 (24 * g + k)) 24
def pTk (w : zLw) (P A : zF) (g hs : Nat) (left : Int) : Int :=
  if P 3 g = ((hs / 4 : Nat) : Int) then
    (if 0 < (if (if P 0 g - ld A g < left then P 0 g - ld A g else left) < zan w left (ld A g) (P 0 g) ((hs % 4 : Nat) : Int) ((hs / 4 : Nat) : Int) (g : Int) then (if P 0 g - ld A g < left then P 0 g - ld A g else left) else zan w left (ld A g) (P 0 g) ((hs % 4 : Nat) : Int) ((hs / 4 : Nat) : Int) (g : Int))
      then (if (if P 0 g - ld A g < left then P 0 g - ld A g else left) < zan w left (ld A g) (P 0 g) ((hs % 4 : Nat) : Int) ((hs / 4 : Nat) : Int) (g : Int) then (if P 0 g - ld A g < left then P 0 g - ld A g else left) else zan w left (ld A g) (P 0 g) ((hs % 4 : Nat) : Int) ((hs / 4 : Nat) : Int) (g : Int)) else 0)
  else 0
def aTk (A : zF) (g hs : Nat) (v : Int) : zF := zup (zup A 0 (24 * g + hs) (A 0 (24 * g + hs) + v)) 3 1 (A 3 1 + v)
def gLp (w : zLw) (P A : zF) (hs : Nat) (left : Int) : Nat → zF × Int
  | 0 => (A, left)
  | g + 1 => (aTk (gLp w P A hs left g).1 g hs (pTk w P (gLp w P A hs left g).1 g hs (gLp w P A hs left g).2), (gLp w P A hs left g).2 - pTk w P (gLp w P A hs left g).1 g hs (gLp w P A hs left g).2)
def cnw (A : zF) (h : Nat) (left : Int) : Int := if 9999 < A 1 h + left then 9999 else A 1 h + left
def aCl (A : zF) (h : Nat) (left : Int) : zF := zup (zup A 1 h (cnw A h left)) 3 2 (A 3 2 + (cnw A h left - A 1 h))
def cLp (w : zLw) (P A : zF) : Nat → zF
  | 0 => A
  | hs + 1 => aCl (gLp w P (cLp w P A hs) hs (P 4 hs) (P 5 1).toNat).1 (hs / 4) (gLp w P (cLp w P A hs) hs (P 4 hs) (P 5 1).toNat).2
def tnw (P A : zF) (g hs : Nat) : Int :=
  if (if A 0 (24 * g + hs) < P 2 (P 1 g).toNat - A 2 (P 1 g).toNat then A 0 (24 * g + hs) else P 2 (P 1 g).toNat - A 2 (P 1 g).toNat) < 0 then 0 else (if A 0 (24 * g + hs) < P 2 (P 1 g).toNat - A 2 (P 1 g).toNat then A 0 (24 * g + hs) else P 2 (P 1 g).toNat - A 2 (P 1 g).toNat)
def aTl (P A : zF) (g hs : Nat) : zF := zup (zup (zup A 0 (24 * g + hs) (A 0 (24 * g + hs) - tnw P A g hs)) 2 (P 1 g).toNat (A 2 (P 1 g).toNat + tnw P A g hs)) 3 3 (A 3 3 + tnw P A g hs)
def hLp (P A : zF) (g : Nat) : Nat → zF
  | 0 => A
  | hs + 1 => aTl P (hLp P A g hs) g hs
def oLp (P A : zF) : Nat → zF
  | 0 => A
  | g + 1 => hLp P (oLp P A g) g 24
/-- counters at 0 -/
def a00 (A : zF) : zF := zup (zup (zup A 3 1 0) 3 2 0) 3 3 0
def dDy (w : zLw) (P A : zF) : zF :=
  if (cLp w P (a00 A) (4 * (P 5 0)).toNat) 3 0 < 6 then zup (cLp w P (a00 A) (4 * (P 5 0)).toNat) 3 0 ((cLp w P (a00 A) (4 * (P 5 0)).toNat) 3 0 + 1)
  else oLp P (zup (cLp w P (a00 A) (4 * (P 5 0)).toNat) 3 0 0) (P 5 1).toNat
/-- bounds of the numbers that stay -/
def pIn (P : zF) : Prop := (0 ≤ P 5 0 ∧ P 5 0 ≤ 6) ∧ (0 ≤ P 5 1 ∧ P 5 1 ≤ 7) ∧ (∀ g, g < 7 → (0 ≤ P 0 g ∧ P 0 g ≤ 99) ∧ (0 ≤ P 1 g ∧ P 1 g ≤ 3)) ∧ (∀ k, k < 4 → 0 ≤ P 2 k ∧ P 2 k ≤ 999) ∧ (∀ hs, hs < 24 → 0 ≤ P 4 hs ∧ P 4 hs ≤ 9)
/-- bounds of what changes; nothing is had of houses that aren't there -/
def dIn (P A : zF) : Prop := (∀ j, j < 168 → 0 ≤ A 0 j) ∧ (∀ g, g < 7 → ld A g ≤ 99) ∧ (∀ h, h < 6 → 0 ≤ A 1 h ∧ A 1 h ≤ 9999) ∧ (∀ k, k < 4 → 0 ≤ A 2 k ∧ A 2 k ≤ 999) ∧ (0 ≤ A 3 0 ∧ A 3 0 ≤ 6) ∧ (∀ g k : Nat, g < 7 → 4 * P 5 0 ≤ (k : Int) → k < 24 → A 0 (24 * g + k) = 0)
/-- words, apart from plain equations -/
def tle (x y : Int) : Prop := x = w32 y
set_option maxRecDepth 4000 in
set_option maxHeartbeats 400000 in
theorem tle_e {x y : Int} (h : tle x y) : x = w32 y := h
def wq (x y : Int) : Prop := w32 x = y
set_option maxRecDepth 4000 in
set_option maxHeartbeats 400000 in
theorem wq_e {x y : Int} (h : wq x y) : w32 x = y := h
set_option maxRecDepth 4000 in
set_option maxHeartbeats 400000 in
theorem wq_i {x y : Int} (h : -2147483648 ≤ x ∧ x ≤ 2147483647) (e : x = y) : wq x y := (w32_in h).trans e
set_option maxRecDepth 4000 in
set_option maxHeartbeats 400000 in
theorem wq_2 {x a y : Int} (h : -2147483648 ≤ x ∧ x ≤ 2147483647) (g : -2147483648 ≤ x + a ∧ x + a ≤ 2147483647) (e : x + a = y) : wq (w32 x + a) y := by
  unfold wq
  rw [w32_in h, w32_in g, e]
set_option maxRecDepth 4000 in
set_option maxHeartbeats 400000 in
theorem td4 {n : Nat} : Int.tdiv (n : Int) 4 = ((n / 4 : Nat) : Int) := rfl
set_option maxRecDepth 4000 in
set_option maxHeartbeats 400000 in
theorem tm4 {n : Nat} : Int.tmod (n : Int) 4 = ((n % 4 : Nat) : Int) := rfl
section SUM
set_option maxRecDepth 4000 in
set_option maxHeartbeats 400000 in
theorem sN_eq {F G : Nat → Int} : ∀ n, (∀ k, k < n → F k = G k) → sN F n = sN G n
  | 0, _ => rfl
  | n + 1, h => by
    show sN F n + F n = sN G n + G n
    rw [sN_eq n (fun k hk => h k (by omega)), h n (by omega)]
set_option maxRecDepth 4000 in
set_option maxHeartbeats 400000 in
theorem sN_0 {F : Nat → Int} : ∀ n, (∀ k, k < n → 0 ≤ F k) → 0 ≤ sN F n
  | 0, _ => Int.le_refl _
  | n + 1, h => by
    have h1 := sN_0 n (fun k hk => h k (by omega))
    have h2 := h n (by omega)
    show 0 ≤ sN F n + F n
    omega
set_option maxRecDepth 4000 in
set_option maxHeartbeats 400000 in
theorem sN_le {F : Nat → Int} : ∀ n i, i < n → (∀ k, k < n → 0 ≤ F k) → F i ≤ sN F n
  | 0, i, hi, _ => by omega
  | n + 1, i, hi, h => by
    show F i ≤ sN F n + F n
    have h1 := sN_0 n (fun k hk => h k (by omega))
    have h2 := h n (by omega)
    by_cases e : i = n
    · rw [e]; omega
    · have := sN_le n i (by omega) (fun k hk => h k (by omega))
      omega
set_option maxRecDepth 4000 in
set_option maxHeartbeats 400000 in
theorem sN_up {F G : Nat → Int} {i : Nat} {v : Int} : ∀ n, i < n → G i = F i + v → (∀ k, k < n → k ≠ i → G k = F k) → sN G n = sN F n + v
  | 0, hi, _, _ => by omega
  | n + 1, hi, hg, h => by
    show sN G n + G n = sN F n + F n + v
    by_cases e : i = n
    · rw [sN_eq n (fun k hk => h k (by omega) (by omega)), ← e, hg]; omega
    · rw [sN_up n (by omega) hg (fun k hk hn => h k (by omega) hn), h n (by omega) (by omega)]; omega
end SUM
section DAYF
variable {w : zLw} {P A : zF} {g hs : Nat} {left v : Int}
set_option maxRecDepth 4000 in
set_option maxHeartbeats 400000 in
theorem ld_o {B : zF} (h : ∀ k, k < 24 → B 0 (24 * g + k) = A 0 (24 * g + k)) : ld B g = ld A g := sN_eq 24 h
set_option maxRecDepth 4000 in
set_option maxHeartbeats 400000 in
theorem ld_up {B : zF} {g' : Nat} (hh : hs < 24) (h : ∀ j, B 0 j = if j = 24 * g + hs then A 0 (24 * g + hs) + v else A 0 j) : ld B g' = if g' = g then ld A g + v else ld A g' := by
  by_cases e : g' = g
  · rw [if_pos e, e]
    refine sN_up 24 hh ?_ (fun k hk hn => ?_)
    · show B 0 (24 * g + hs) = _
      rw [h, if_pos rfl]
    · show B 0 (24 * g + k) = _
      rw [h, if_neg (by omega)]
  · rw [if_neg e]
    refine ld_o (fun k hk => ?_)
    rw [h, if_neg (by omega)]
set_option maxRecDepth 4000 in
set_option maxHeartbeats 400000 in
theorem ld_0 (a : dIn P A) (hg : g < 7) : 0 ≤ ld A g := sN_0 24 (fun k hk => a.1 (24 * g + k) (by omega))
set_option maxRecDepth 4000 in
set_option maxHeartbeats 400000 in
theorem own_le (a : dIn P A) (hg : g < 7) (hh : hs < 24) : A 0 (24 * g + hs) ≤ 99 := by
  have h1 := sN_le (F := fun k => A 0 (24 * g + k)) 24 hs hh (fun k hk => a.1 (24 * g + k) (by omega))
  have h2 := a.2.1 g hg
  unfold ld at h2
  omega
set_option maxRecDepth 4000 in
set_option maxHeartbeats 400000 in
/-- how much is taken -/
theorem pTk_b (p : pIn P) (a : dIn P A) (hg : g < 7) (hl : 0 ≤ left) : 0 ≤ pTk w P A g hs left ∧ pTk w P A g hs left ≤ left ∧ (0 < pTk w P A g hs left → ld A g + pTk w P A g hs left ≤ P 0 g ∧ P 3 g = ((hs / 4 : Nat) : Int)) := by
  have h0 := ld_0 a hg
  unfold pTk
  generalize zan w left (ld A g) (P 0 g) ((hs % 4 : Nat) : Int) ((hs / 4 : Nat) : Int) (g : Int) = z
  by_cases h3 : P 3 g = ((hs / 4 : Nat) : Int)
  · rw [if_pos h3]
    by_cases c1 : P 0 g - ld A g < left
    · rw [if_pos c1]
      by_cases c2 : P 0 g - ld A g < z
      · rw [if_pos c2]
        by_cases c3 : 0 < P 0 g - ld A g
        · rw [if_pos c3]; exact ⟨by omega, by omega, fun _ => ⟨by omega, h3⟩⟩
        · rw [if_neg c3]; exact ⟨by omega, by omega, fun h => by omega⟩
      · rw [if_neg c2]
        by_cases c3 : 0 < z
        · rw [if_pos c3]; exact ⟨by omega, by omega, fun _ => ⟨by omega, h3⟩⟩
        · rw [if_neg c3]; exact ⟨by omega, by omega, fun h => by omega⟩
    · rw [if_neg c1]
      by_cases c2 : left < z
      · rw [if_pos c2]
        by_cases c3 : 0 < left
        · rw [if_pos c3]; exact ⟨by omega, by omega, fun _ => ⟨by omega, h3⟩⟩
        · rw [if_neg c3]; exact ⟨by omega, by omega, fun h => by omega⟩
      · rw [if_neg c2]
        by_cases c3 : 0 < z
        · rw [if_pos c3]; exact ⟨by omega, by omega, fun _ => ⟨by omega, h3⟩⟩
        · rw [if_neg c3]; exact ⟨by omega, by omega, fun h => by omega⟩
  · rw [if_neg h3]; exact ⟨by omega, by omega, fun h => by omega⟩
set_option maxRecDepth 4000 in
set_option maxHeartbeats 400000 in
theorem aTk_0 {j : Nat} : aTk A g hs v 0 j = if j = 24 * g + hs then A 0 (24 * g + hs) + v else A 0 j := by
  unfold aTk
  simp only [zup_at, Nat.reduceEqDiff, reduceIte]
set_option maxRecDepth 4000 in
set_option maxHeartbeats 400000 in
theorem aTk_ld {g' : Nat} (hh : hs < 24) : ld (aTk A g hs v) g' = if g' = g then ld A g + v else ld A g' := ld_up hh (fun _ => aTk_0)
set_option maxRecDepth 4000 in
set_option maxHeartbeats 400000 in
theorem dTk_in (p : pIn P) (a : dIn P A) (hg : g < 7) (hh : (hs : Int) < 4 * P 5 0) (hv : 0 ≤ v) (hr : 0 < v → ld A g + v ≤ P 0 g) : dIn P (aTk A g hs v) := by
  have hh2 : hs < 24 := by have := p.1; omega
  obtain ⟨a1, a2, a3, a4, a5, a6⟩ := id a
  refine ⟨fun j hj => ?_, fun g' hg' => ?_, a3, a4, a5, fun g' k hg' hk hk2 => ?_⟩
  · rw [aTk_0]
    split
    · have := a1 (24 * g + hs) (by omega); omega
    · exact a1 j hj
  · rw [aTk_ld hh2]
    split
    · have h1 := a2 g hg
      have h2 := ((p.2.2.1 g hg).1).2
      by_cases h : 0 < v
      · have := hr h; omega
      · omega
    · exact a2 g' hg'
  · rw [aTk_0, if_neg (by omega)]
    exact a6 g' k hg' hk hk2
set_option maxRecDepth 4000 in
set_option maxHeartbeats 400000 in
theorem gLp_in (p : pIn P) (a : dIn P A) (hh : (hs : Int) < 4 * P 5 0) (hl : 0 ≤ left) : ∀ n, n ≤ 7 → dIn P (gLp w P A hs left n).1 ∧ 0 ≤ (gLp w P A hs left n).2 ∧ (gLp w P A hs left n).2 ≤ left
  | 0, _ => ⟨a, hl, Int.le_refl _⟩
  | n + 1, hn => by
    obtain ⟨i1, i2, i3⟩ := gLp_in p a hh hl n (by omega)
    obtain ⟨b1, b2, b3⟩ := pTk_b (w := w) (hs := hs) p i1 (show n < 7 by omega) i2
    exact ⟨dTk_in p i1 (by omega) hh b1 (fun h => (b3 h).1), by show 0 ≤ (gLp w P A hs left n).2 - _; omega, by show (gLp w P A hs left n).2 - _ ≤ left; omega⟩
set_option maxRecDepth 4000 in
set_option maxHeartbeats 400000 in
theorem cnw_b {h : Nat} (a : dIn P A) (hh : h < 6) (hl : 0 ≤ left) : 0 ≤ cnw A h left ∧ cnw A h left ≤ 9999 := by
  have := a.2.2.1 h hh
  unfold cnw
  split <;> omega
set_option maxRecDepth 4000 in
set_option maxHeartbeats 400000 in
theorem aCl_in {h : Nat} (a : dIn P A) (hh : h < 6) (hl : 0 ≤ left) : dIn P (aCl A h left) := by
  obtain ⟨a1, a2, a3, a4, a5, a6⟩ := id a
  refine ⟨a1, a2, fun h' hh' => ?_, a4, a5, a6⟩
  have e : aCl A h left 1 h' = if h' = h then cnw A h left else A 1 h' := by
    unfold aCl
    simp only [zup_at, Nat.reduceEqDiff, reduceIte]
  rw [e]
  split
  · exact cnw_b a hh hl
  · exact a3 h' hh'
set_option maxRecDepth 4000 in
set_option maxHeartbeats 400000 in
theorem cLp_in (p : pIn P) (a : dIn P A) : ∀ n : Nat, (n : Int) ≤ 4 * P 5 0 → dIn P (cLp w P A n)
  | 0, _ => a
  | n + 1, hn => by
    have hp := p.1
    have i := cLp_in p a n (by omega)
    obtain ⟨i1, i2, i3⟩ := gLp_in (w := w) (hs := n) (left := P 4 n) p i (by omega) (p.2.2.2.2 n (by omega)).1 (P 5 1).toNat (by have := p.2.1; omega)
    exact aCl_in i1 (by omega) i2
set_option maxRecDepth 4000 in
set_option maxHeartbeats 400000 in
theorem tnw_b (p : pIn P) (a : dIn P A) (hg : g < 7) (hh : hs < 24) : 0 ≤ tnw P A g hs ∧ tnw P A g hs ≤ A 0 (24 * g + hs) ∧ (0 < tnw P A g hs → A 2 (P 1 g).toNat + tnw P A g hs ≤ P 2 (P 1 g).toNat) := by
  have h0 := a.1 (24 * g + hs) (by omega)
  unfold tnw
  by_cases c1 : A 0 (24 * g + hs) < P 2 (P 1 g).toNat - A 2 (P 1 g).toNat
  · rw [if_pos c1, if_neg (by omega)]
    exact ⟨h0, Int.le_refl _, fun _ => by omega⟩
  · rw [if_neg c1]
    by_cases c2 : P 2 (P 1 g).toNat - A 2 (P 1 g).toNat < 0
    · rw [if_pos c2]; exact ⟨by omega, by omega, fun h => by omega⟩
    · rw [if_neg c2]; exact ⟨by omega, by omega, fun _ => by omega⟩
set_option maxRecDepth 4000 in
set_option maxHeartbeats 400000 in
theorem aTl_0 {j : Nat} : aTl P A g hs 0 j = if j = 24 * g + hs then A 0 (24 * g + hs) + (-(tnw P A g hs)) else A 0 j := by
  unfold aTl
  simp only [zup_at, Nat.reduceEqDiff, reduceIte, Int.sub_eq_add_neg]
set_option maxRecDepth 4000 in
set_option maxHeartbeats 400000 in
theorem aTl_2 {j : Nat} : aTl P A g hs 2 j = if j = (P 1 g).toNat then A 2 (P 1 g).toNat + tnw P A g hs else A 2 j := by
  unfold aTl
  simp only [zup_at, Nat.reduceEqDiff, reduceIte]
set_option maxRecDepth 4000 in
set_option maxHeartbeats 400000 in
theorem aTl_ld {g' : Nat} (hh : hs < 24) : ld (aTl P A g hs) g' = if g' = g then ld A g + (-(tnw P A g hs)) else ld A g' := ld_up hh (fun _ => aTl_0)
set_option maxRecDepth 4000 in
set_option maxHeartbeats 400000 in
theorem aTl_in (p : pIn P) (a : dIn P A) (hg : g < 7) (hh : hs < 24) : dIn P (aTl P A g hs) := by
  obtain ⟨b1, b2, b3⟩ := tnw_b p a hg hh
  obtain ⟨a1, a2, a3, a4, a5, a6⟩ := id a
  have hk := (p.2.2.1 g hg).2
  refine ⟨fun j hj => ?_, fun g' hg' => ?_, a3, fun k hk' => ?_, a5, fun g' k hg' hk hk2 => ?_⟩
  · rw [aTl_0]
    split
    · omega
    · exact a1 j hj
  · rw [aTl_ld hh]
    split
    · have := a2 g hg; omega
    · exact a2 g' hg'
  · rw [aTl_2]
    split
    · have h1 := a4 (P 1 g).toNat (by omega)
      have h2 := p.2.2.2.1 (P 1 g).toNat (by omega)
      by_cases h : 0 < tnw P A g hs
      · have := b3 h; omega
      · omega
    · exact a4 k hk'
  · rw [aTl_0]
    split
    next e =>
      have e1 : A 0 (24 * g + hs) = 0 := by rw [← e]; exact a6 g' k hg' hk hk2
      omega
    next => exact a6 g' k hg' hk hk2
set_option maxRecDepth 4000 in
set_option maxHeartbeats 400000 in
theorem hLp_in (p : pIn P) (a : dIn P A) (hg : g < 7) : ∀ n, n ≤ 24 → dIn P (hLp P A g n)
  | 0, _ => a
  | n + 1, hn => aTl_in p (hLp_in p a hg n (by omega)) hg (by omega)
set_option maxRecDepth 4000 in
set_option maxHeartbeats 400000 in
theorem oLp_in (p : pIn P) (a : dIn P A) : ∀ n, n ≤ 7 → dIn P (oLp P A n)
  | 0, _ => a
  | n + 1, hn => hLp_in p (oLp_in p a n (by omega)) (by omega) 24 (Nat.le_refl _)
set_option maxRecDepth 4000 in
set_option maxHeartbeats 400000 in
theorem dIn_3 (a : dIn P A) {j : Nat} {v : Int} (h : j ≠ 0 ∨ (0 ≤ v ∧ v ≤ 6)) : dIn P (zup A 3 j v) := by
  obtain ⟨a1, a2, a3, a4, a5, a6⟩ := a
  refine ⟨a1, a2, a3, a4, ?_, a6⟩
  show 0 ≤ (if (0 : Nat) = j then v else A 3 0) ∧ (if (0 : Nat) = j then v else A 3 0) ≤ 6
  split <;> omega
set_option maxRecDepth 4000 in
set_option maxHeartbeats 400000 in
theorem dDy_in (p : pIn P) (a : dIn P A) : dIn P (dDy w P A) := by
  have i := cLp_in (w := w) p (dIn_3 (dIn_3 (dIn_3 a (j := 1) (v := 0) (Or.inl (by decide))) (j := 2) (v := 0) (Or.inl (by decide))) (j := 3) (v := 0) (Or.inl (by decide))) (4 * P 5 0).toNat (by have := p.1; omega)
  have i : dIn P (cLp w P (a00 A) (4 * P 5 0).toNat) := i
  unfold dDy
  have h5 := i.2.2.2.2.1
  split
  · exact dIn_3 i (Or.inr (by omega))
  · exact oLp_in p (dIn_3 i (Or.inr (by omega))) (P 5 1).toNat (by have := p.2.1; omega)
set_option maxRecDepth 4000 in
set_option maxHeartbeats 400000 in
/-- telling what isn't had changes nothing -/
theorem tnw_0 (h : A 0 (24 * g + hs) = 0) : tnw P A g hs = 0 := by
  unfold tnw
  rw [h]
  split <;> split <;> omega
set_option maxRecDepth 4000 in
set_option maxHeartbeats 400000 in
theorem aTl_id (h : A 0 (24 * g + hs) = 0) : aTl P A g hs = A := by
  unfold aTl
  rw [tnw_0 h, Int.sub_zero, Int.add_zero, Int.add_zero, zup_id (rfl : A 0 (24 * g + hs) = _), zup_id (rfl : A 2 (P 1 g).toNat = _), zup_id (rfl : A 3 3 = _)]
set_option maxRecDepth 4000 in
set_option maxHeartbeats 400000 in
theorem hLp_to (p : pIn P) (a : dIn P A) (hg : g < 7) : ∀ n : Nat, 4 * P 5 0 ≤ (n : Int) → n ≤ 24 → hLp P A g n = hLp P A g (4 * P 5 0).toNat := by
  intro n h1 h2
  have hp := p.1
  obtain ⟨m, rfl⟩ : ∃ m, n = (4 * P 5 0).toNat + m := ⟨n - (4 * P 5 0).toNat, by omega⟩
  clear h1
  induction m with
  | zero => rfl
  | succ m ih =>
    rw [← ih (by omega)]
    exact aTl_id ((hLp_in p a hg ((4 * P 5 0).toNat + m) (by omega)).2.2.2.2.2 g ((4 * P 5 0).toNat + m) hg (by omega) (by omega))
end DAYF
set_option maxRecDepth 4000 in
set_option maxHeartbeats 400000 in
theorem w32_a {x y : Int} : w32 (w32 x + y) = w32 (x + y) := by
  unfold w32
  first | exact Int.bmod_add_bmod_congr | exact Int.bmod_add_bmod | simp
set_option maxRecDepth 4000 in
set_option maxHeartbeats 400000 in
theorem gLp_32 {w : zLw} {P A : zF} {hs : Nat} {left : Int} : ∀ n, (gLp w P A hs left n).1 3 2 = A 3 2
  | 0 => rfl
  | n + 1 => gLp_32 n
set_option maxRecDepth 4000 in
set_option maxHeartbeats 400000 in
theorem hLp_32 {P A : zF} {g : Nat} : ∀ n, hLp P A g n 3 2 = A 3 2
  | 0 => rfl
  | n + 1 => hLp_32 n
set_option maxRecDepth 4000 in
set_option maxHeartbeats 400000 in
theorem oLp_32 {P A : zF} : ∀ n, oLp P A n 3 2 = A 3 2
  | 0 => rfl
  | n + 1 => (hLp_32 24).trans (oLp_32 n)
/-- n days -/
def dIt (w : zLw) (P A : zF) : Nat → zF
  | 0 => A
  | n + 1 => dDy w P (dIt w P A n)
set_option maxRecDepth 4000 in
set_option maxHeartbeats 400000 in
theorem dIt_in {w : zLw} {P A : zF} (p : pIn P) (a : dIn P A) : ∀ n, dIn P (dIt w P A n)
  | 0 => a
  | n + 1 => dDy_in p (dIt_in p a n)
set_option maxRecDepth 4000 in
set_option maxHeartbeats 400000 in
theorem sN_mo {F : Nat → Int} : ∀ m n, n ≤ m → (∀ k, k < m → 0 ≤ F k) → sN F n ≤ sN F m
  | 0, n, h, _ => by
    have : n = 0 := by omega
    subst this
    exact Int.le_refl _
  | m + 1, n, h, g => by
    by_cases e : n = m + 1
    · subst e
      exact Int.le_refl _
    · have h1 := sN_mo m n (by omega) (fun k hk => g k (by omega))
      have h2 := g m (by omega)
      show sN F n ≤ sN F m + F m
      omega
set_option maxRecDepth 4000 in
set_option maxHeartbeats 400000 in
theorem w32_0 : w32 0 = 0 := by decide
set_option maxRecDepth 100000 in
theorem c1b90_0 {sc : zC} {d : Nat} {f : zF} {Q : zQ} (h : zR sc (d + 1) 90 4 [] [(0, zP (1)), (1, zP (22)), (2, zI (0)), (3, zI (0))] 0 0 zSH f Q) : zR sc (d + 1) 90 0 [] [(0, zP (1)), (1, zP (22))] 0 0 zSH f Q := zwn_R (stp := fun mi pc => bif Nat.beq mi 90 && Nat.beq pc 4 then some [0, 1, 2, 3] else none) (inl := fun _ => false) (nov := (fun j => bif Nat.beq j 90 then false else bif Nat.beq j 88 then false else bif Nat.beq j 92 then false else bif Nat.beq j 95 then false else true)) 6 h
set_option maxRecDepth 100000 in
theorem c1b90_4 {sc : zC} {d : Nat} {x2 x3 : Int} {f : zF} {Q : zQ} (h : if x3 < w32 ((f (1) (0)) * (4)) then (∃ A2 : zQ, zR sc d 91 0 [] [(0, zP (1)), (1, zP (22)), (2, zI x3)] 0 0 zSH f A2 ∧ ∀ (r3 : Int) (f1 : zF), zIn r3 → A2 (some (zI r3)) zSH f1 → (∃ A5 : zQ, zR sc d 93 0 [] [(0, zP (1)), (1, zI (w32 (Int.tdiv x3 (4)))), (2, zI r3)] 0 0 zSH f1 A5 ∧ ∀ (r6 : Int) (f4 : zF), zIn r6 → A5 (some (zI r6)) zSH f4 → (zR sc (d + 1) 90 4 [] [(0, zP (1)), (1, zP (22)), (2, zI (w32 (x2 + r6))), (3, zI (w32 (x3 + 1)))] 0 0 zSH f4 Q))) else (if f (2) (59) < 6 then (Q (some (zI x2)) zSH (zup (zup (zup f (5) (0) (w32 ((f (5) (0)) + (1)))) (5) (2) (w32 ((f (5) (2)) + x2))) (2) (59) (w32 ((f (2) (59)) + (1))))) else (∃ A8 : zQ, zR sc d 94 0 [] [(0, zP (1))] 0 0 zSH (zup (zup (zup f (5) (0) (w32 ((f (5) (0)) + (1)))) (5) (2) (w32 ((f (5) (2)) + x2))) (2) (59) (0)) A8 ∧ ∀ f7 : zF, A8 none zSH f7 → (Q (some (zI x2)) zSH f7)))) : zR sc (d + 1) 90 4 [] [(0, zP (1)), (1, zP (22)), (2, zI x2), (3, zI x3)] 0 0 zSH f Q := zwn_R (stp := fun mi pc => bif Nat.beq mi 90 && Nat.beq pc 4 then some [0, 1, 2, 3] else none) (inl := fun _ => false) (nov := (fun j => bif Nat.beq j 90 then false else bif Nat.beq j 88 then false else bif Nat.beq j 92 then false else bif Nat.beq j 95 then false else true)) 66 h
set_option maxRecDepth 100000 in
theorem c1b91_0 {sc : zC} {d : Nat} {a : Int} {f : zF} {Q : zQ} (h : zov (Int.tdiv a (4)) (zix a (24) (zR sc (d + 1) 91 15 [] [(0, zP (1)), (1, zP (22)), (2, zI a), (3, zI (Int.tdiv a (4))), (4, zI (f (6) (a.toNat))), (5, zI (0))] 0 0 zSH f Q))) : zR sc (d + 1) 91 0 [] [(0, zP (1)), (1, zP (22)), (2, zI a)] 0 0 zSH f Q := zwn_R (stp := fun mi pc => bif Nat.beq mi 91 && Nat.beq pc 15 then some [0, 1, 2, 3, 4, 5] else none) (inl := fun _ => false) (nov := (fun j => bif Nat.beq j 90 then false else bif Nat.beq j 88 then false else bif Nat.beq j 92 then false else bif Nat.beq j 95 then false else true)) 13 h
set_option maxRecDepth 100000 in
theorem c1b91_15 {sc : zC} {d : Nat} {x2 x3 x4 x5 : Int} {f : zF} {Q : zQ} (h : if x5 < f (1) (1) then (zov ((30) + x5) (zix ((30) + x5) (60) (zix x5 (7) (zov ((f (2) (((30) + x5).toNat)) - (f (4) (x5.toNat))) (zov ((44) + x5) (zix ((44) + x5) (60) (if f (2) (((44) + x5).toNat) = x3 then (if 0 < (if (f (2) (((30) + x5).toNat)) - (f (4) (x5.toNat)) < x4 then (f (2) (((30) + x5).toNat)) - (f (4) (x5.toNat)) else x4) then (zix x5 (7) (∃ A2 : zQ, zR sc d 29 0 [] [(0, zP (22)), (1, zI x4), (2, zI (f (4) (x5.toNat))), (3, zI (f (2) (((30) + x5).toNat))), (4, zI (Int.tmod x2 (4))), (5, zI x3), (6, zI x5)] 0 0 zSH f A2 ∧ ∀ (r3 : Int) (f1 : zF), zIn r3 → A2 (some (zI r3)) zSH f1 → (zov (x4 - (if 0 < (if (if (f (2) (((30) + x5).toNat)) - (f (4) (x5.toNat)) < x4 then (f (2) (((30) + x5).toNat)) - (f (4) (x5.toNat)) else x4) < r3 then (if (f (2) (((30) + x5).toNat)) - (f (4) (x5.toNat)) < x4 then (f (2) (((30) + x5).toNat)) - (f (4) (x5.toNat)) else x4) else r3) then (if (if (f (2) (((30) + x5).toNat)) - (f (4) (x5.toNat)) < x4 then (f (2) (((30) + x5).toNat)) - (f (4) (x5.toNat)) else x4) < r3 then (if (f (2) (((30) + x5).toNat)) - (f (4) (x5.toNat)) < x4 then (f (2) (((30) + x5).toNat)) - (f (4) (x5.toNat)) else x4) else r3) else 0)) (∃ A5 : zQ, zR sc d 92 0 [] [(0, zP (1)), (1, zI x5), (2, zI x2), (3, zI (if 0 < (if (if (f (2) (((30) + x5).toNat)) - (f (4) (x5.toNat)) < x4 then (f (2) (((30) + x5).toNat)) - (f (4) (x5.toNat)) else x4) < r3 then (if (f (2) (((30) + x5).toNat)) - (f (4) (x5.toNat)) < x4 then (f (2) (((30) + x5).toNat)) - (f (4) (x5.toNat)) else x4) else r3) then (if (if (f (2) (((30) + x5).toNat)) - (f (4) (x5.toNat)) < x4 then (f (2) (((30) + x5).toNat)) - (f (4) (x5.toNat)) else x4) < r3 then (if (f (2) (((30) + x5).toNat)) - (f (4) (x5.toNat)) < x4 then (f (2) (((30) + x5).toNat)) - (f (4) (x5.toNat)) else x4) else r3) else 0))] 0 0 zSH f1 A5 ∧ ∀ f4 : zF, A5 none zSH f4 → (zov (x5 + 1) (zR sc (d + 1) 91 15 [] [(0, zP (1)), (1, zP (22)), (2, zI x2), (3, zI x3), (4, zI (x4 - (if 0 < (if (if (f (2) (((30) + x5).toNat)) - (f (4) (x5.toNat)) < x4 then (f (2) (((30) + x5).toNat)) - (f (4) (x5.toNat)) else x4) < r3 then (if (f (2) (((30) + x5).toNat)) - (f (4) (x5.toNat)) < x4 then (f (2) (((30) + x5).toNat)) - (f (4) (x5.toNat)) else x4) else r3) then (if (if (f (2) (((30) + x5).toNat)) - (f (4) (x5.toNat)) < x4 then (f (2) (((30) + x5).toNat)) - (f (4) (x5.toNat)) else x4) < r3 then (if (f (2) (((30) + x5).toNat)) - (f (4) (x5.toNat)) < x4 then (f (2) (((30) + x5).toNat)) - (f (4) (x5.toNat)) else x4) else r3) else 0))), (5, zI (x5 + 1))] 0 0 zSH f4 Q)))))) else (zov (x5 + 1) (zR sc (d + 1) 91 15 [] [(0, zP (1)), (1, zP (22)), (2, zI x2), (3, zI x3), (4, zI x4), (5, zI (x5 + 1))] 0 0 zSH f Q))) else (zov (x5 + 1) (zR sc (d + 1) 91 15 [] [(0, zP (1)), (1, zP (22)), (2, zI x2), (3, zI x3), (4, zI x4), (5, zI (x5 + 1))] 0 0 zSH f Q))))))))) else (Q (some (zI x4)) zSH f)) : zR sc (d + 1) 91 15 [] [(0, zP (1)), (1, zP (22)), (2, zI x2), (3, zI x3), (4, zI x4), (5, zI x5)] 0 0 zSH f Q := zwn_R (stp := fun mi pc => bif Nat.beq mi 91 && Nat.beq pc 15 then some [0, 1, 2, 3, 4, 5] else none) (inl := fun _ => false) (nov := (fun j => bif Nat.beq j 90 then false else bif Nat.beq j 88 then false else bif Nat.beq j 92 then false else bif Nat.beq j 95 then false else true)) 69 h
set_option maxRecDepth 100000 in
theorem c1b92_0 {sc : zC} {d : Nat} {a b e : Int} {f : zF} {Q : zQ} (h : zix (w32 ((w32 (a * (24))) + b)) (168) (zix (w32 ((w32 (a * (24))) + b)) (168) (zix a (7) (zix a (7) (Q none zSH (zup (zup (zup f (3) ((w32 ((w32 (a * (24))) + b)).toNat) (w32 ((f (3) ((w32 ((w32 (a * (24))) + b)).toNat)) + e))) (4) (a.toNat) (w32 ((f (4) (a.toNat)) + e))) (5) (1) (w32 ((f (5) (1)) + e)))))))) : zR sc (d + 1) 92 0 [] [(0, zP (1)), (1, zI a), (2, zI b), (3, zI e)] 0 0 zSH f Q := zwn_R (stp := fun _ _ => none) (inl := fun _ => false) (nov := (fun j => bif Nat.beq j 90 then false else bif Nat.beq j 88 then false else bif Nat.beq j 92 then false else bif Nat.beq j 95 then false else true)) 31 h
set_option maxRecDepth 100000 in
theorem c1b93_0 {sc : zC} {d : Nat} {a b : Int} {f : zF} {Q : zQ} (h : zov ((24) + a) (zix ((24) + a) (60) (zov ((f (2) (((24) + a).toNat)) + b) (zov ((24) + a) (zix ((24) + a) (60) (zov ((if (f (2) (((24) + a).toNat)) + b < 9999 then (f (2) (((24) + a).toNat)) + b else 9999) - (f (2) (((24) + a).toNat))) (Q (some (zI ((if (f (2) (((24) + a).toNat)) + b < 9999 then (f (2) (((24) + a).toNat)) + b else 9999) - (f (2) (((24) + a).toNat))))) zSH (zup f (2) (((24) + a).toNat) (if (f (2) (((24) + a).toNat)) + b < 9999 then (f (2) (((24) + a).toNat)) + b else 9999))))))))) : zR sc (d + 1) 93 0 [] [(0, zP (1)), (1, zI a), (2, zI b)] 0 0 zSH f Q := zwn_R (stp := fun _ _ => none) (inl := fun _ => false) (nov := (fun j => bif Nat.beq j 90 then false else bif Nat.beq j 88 then false else bif Nat.beq j 92 then false else bif Nat.beq j 95 then false else true)) 26 h
set_option maxRecDepth 100000 in
theorem c1b94_0 {sc : zC} {d : Nat} {f : zF} {Q : zQ} (h : zR sc (d + 1) 94 2 [] [(0, zP (1)), (1, zI (0))] 0 0 zSH f Q) : zR sc (d + 1) 94 0 [] [(0, zP (1))] 0 0 zSH f Q := zwn_R (stp := fun mi pc => bif Nat.beq mi 94 && Nat.beq pc 2 then some [0, 1] else none) (inl := fun _ => false) (nov := (fun j => bif Nat.beq j 90 then false else bif Nat.beq j 88 then false else bif Nat.beq j 92 then false else bif Nat.beq j 95 then false else true)) 4 h
set_option maxRecDepth 100000 in
theorem c1b94_2 {sc : zC} {d : Nat} {x1 : Int} {f : zF} {Q : zQ} (h : if x1 < f (1) (1) then (zR sc (d + 1) 94 12 [] [(0, zP (1)), (1, zI x1), (2, zI (0))] 0 0 zSH f Q) else (Q none zSH f)) : zR sc (d + 1) 94 2 [] [(0, zP (1)), (1, zI x1)] 0 0 zSH f Q := zwn_R (stp := fun mi pc => bif Nat.beq mi 94 && Nat.beq pc 12 then some [0, 1, 2] else none) (inl := fun _ => false) (nov := (fun j => bif Nat.beq j 90 then false else bif Nat.beq j 88 then false else bif Nat.beq j 92 then false else bif Nat.beq j 95 then false else true)) 9 h
set_option maxRecDepth 100000 in
theorem c1b94_12 {sc : zC} {d : Nat} {x1 x2 : Int} {f : zF} {Q : zQ} (h : zov ((f (1) (0)) * (4)) (if x2 < (f (1) (0)) * (4) then (∃ A2 : zQ, zR sc d 95 0 [] [(0, zP (1)), (1, zI x1), (2, zI x2)] 0 0 zSH f A2 ∧ ∀ f1 : zF, A2 none zSH f1 → (zov (x2 + 1) (zR sc (d + 1) 94 12 [] [(0, zP (1)), (1, zI x1), (2, zI (x2 + 1))] 0 0 zSH f1 Q))) else (zov (x1 + 1) (zR sc (d + 1) 94 2 [] [(0, zP (1)), (1, zI (x1 + 1))] 0 0 zSH f Q)))) : zR sc (d + 1) 94 12 [] [(0, zP (1)), (1, zI x1), (2, zI x2)] 0 0 zSH f Q := zwn_R (stp := fun mi pc => bif Nat.beq mi 94 && Nat.beq pc 2 then some [0, 1] else bif Nat.beq mi 94 && Nat.beq pc 12 then some [0, 1, 2] else none) (inl := fun _ => false) (nov := (fun j => bif Nat.beq j 90 then false else bif Nat.beq j 88 then false else bif Nat.beq j 92 then false else bif Nat.beq j 95 then false else true)) 16 h
set_option maxRecDepth 100000 in
theorem c1b95_0 {sc : zC} {d : Nat} {a b : Int} {f : zF} {Q : zQ} (h : zix (w32 ((37) + a)) (60) (zix (w32 ((51) + (f (2) ((w32 ((37) + a)).toNat)))) (60) (zix (w32 ((55) + (f (2) ((w32 ((37) + a)).toNat)))) (60) (zix (w32 ((w32 (a * (24))) + b)) (168) (zix (w32 ((55) + (f (2) ((w32 ((37) + a)).toNat)))) (60) (zix (w32 ((55) + (f (2) ((w32 ((37) + a)).toNat)))) (60) (zix (w32 ((w32 (a * (24))) + b)) (168) (zix (w32 ((w32 (a * (24))) + b)) (168) (zix a (7) (zix a (7) (Q none zSH (zup (zup (zup (zup f (2) ((w32 ((55) + (f (2) ((w32 ((37) + a)).toNat)))).toNat) (w32 ((f (2) ((w32 ((55) + (f (2) ((w32 ((37) + a)).toNat)))).toNat)) + (if f (3) ((w32 ((w32 (a * (24))) + b)).toNat) < (if 0 < w32 ((f (2) ((w32 ((51) + (f (2) ((w32 ((37) + a)).toNat)))).toNat)) - (f (2) ((w32 ((55) + (f (2) ((w32 ((37) + a)).toNat)))).toNat))) then w32 ((f (2) ((w32 ((51) + (f (2) ((w32 ((37) + a)).toNat)))).toNat)) - (f (2) ((w32 ((55) + (f (2) ((w32 ((37) + a)).toNat)))).toNat))) else 0) then f (3) ((w32 ((w32 (a * (24))) + b)).toNat) else (if 0 < w32 ((f (2) ((w32 ((51) + (f (2) ((w32 ((37) + a)).toNat)))).toNat)) - (f (2) ((w32 ((55) + (f (2) ((w32 ((37) + a)).toNat)))).toNat))) then w32 ((f (2) ((w32 ((51) + (f (2) ((w32 ((37) + a)).toNat)))).toNat)) - (f (2) ((w32 ((55) + (f (2) ((w32 ((37) + a)).toNat)))).toNat))) else 0))))) (3) ((w32 ((w32 (a * (24))) + b)).toNat) (w32 ((f (3) ((w32 ((w32 (a * (24))) + b)).toNat)) - (if f (3) ((w32 ((w32 (a * (24))) + b)).toNat) < (if 0 < w32 ((f (2) ((w32 ((51) + (f (2) ((w32 ((37) + a)).toNat)))).toNat)) - (f (2) ((w32 ((55) + (f (2) ((w32 ((37) + a)).toNat)))).toNat))) then w32 ((f (2) ((w32 ((51) + (f (2) ((w32 ((37) + a)).toNat)))).toNat)) - (f (2) ((w32 ((55) + (f (2) ((w32 ((37) + a)).toNat)))).toNat))) else 0) then f (3) ((w32 ((w32 (a * (24))) + b)).toNat) else (if 0 < w32 ((f (2) ((w32 ((51) + (f (2) ((w32 ((37) + a)).toNat)))).toNat)) - (f (2) ((w32 ((55) + (f (2) ((w32 ((37) + a)).toNat)))).toNat))) then w32 ((f (2) ((w32 ((51) + (f (2) ((w32 ((37) + a)).toNat)))).toNat)) - (f (2) ((w32 ((55) + (f (2) ((w32 ((37) + a)).toNat)))).toNat))) else 0))))) (4) (a.toNat) (w32 ((f (4) (a.toNat)) - (if f (3) ((w32 ((w32 (a * (24))) + b)).toNat) < (if 0 < w32 ((f (2) ((w32 ((51) + (f (2) ((w32 ((37) + a)).toNat)))).toNat)) - (f (2) ((w32 ((55) + (f (2) ((w32 ((37) + a)).toNat)))).toNat))) then w32 ((f (2) ((w32 ((51) + (f (2) ((w32 ((37) + a)).toNat)))).toNat)) - (f (2) ((w32 ((55) + (f (2) ((w32 ((37) + a)).toNat)))).toNat))) else 0) then f (3) ((w32 ((w32 (a * (24))) + b)).toNat) else (if 0 < w32 ((f (2) ((w32 ((51) + (f (2) ((w32 ((37) + a)).toNat)))).toNat)) - (f (2) ((w32 ((55) + (f (2) ((w32 ((37) + a)).toNat)))).toNat))) then w32 ((f (2) ((w32 ((51) + (f (2) ((w32 ((37) + a)).toNat)))).toNat)) - (f (2) ((w32 ((55) + (f (2) ((w32 ((37) + a)).toNat)))).toNat))) else 0))))) (5) (3) (w32 ((f (5) (3)) + (if f (3) ((w32 ((w32 (a * (24))) + b)).toNat) < (if 0 < w32 ((f (2) ((w32 ((51) + (f (2) ((w32 ((37) + a)).toNat)))).toNat)) - (f (2) ((w32 ((55) + (f (2) ((w32 ((37) + a)).toNat)))).toNat))) then w32 ((f (2) ((w32 ((51) + (f (2) ((w32 ((37) + a)).toNat)))).toNat)) - (f (2) ((w32 ((55) + (f (2) ((w32 ((37) + a)).toNat)))).toNat))) else 0) then f (3) ((w32 ((w32 (a * (24))) + b)).toNat) else (if 0 < w32 ((f (2) ((w32 ((51) + (f (2) ((w32 ((37) + a)).toNat)))).toNat)) - (f (2) ((w32 ((55) + (f (2) ((w32 ((37) + a)).toNat)))).toNat))) then w32 ((f (2) ((w32 ((51) + (f (2) ((w32 ((37) + a)).toNat)))).toNat)) - (f (2) ((w32 ((55) + (f (2) ((w32 ((37) + a)).toNat)))).toNat))) else 0)))))))))))))))) : zR sc (d + 1) 95 0 [] [(0, zP (1)), (1, zI a), (2, zI b)] 0 0 zSH f Q := zwn_R (stp := fun _ _ => none) (inl := fun _ => false) (nov := (fun j => bif Nat.beq j 90 then false else bif Nat.beq j 88 then false else bif Nat.beq j 92 then false else bif Nat.beq j 95 then false else true)) 75 h
set_option maxRecDepth 100000 in
theorem c1b88_0 {sc : zC} {d : Nat} {a : Int} {f : zF} {Q : zQ} (h : zR sc (d + 1) 88 5 [] [(0, zP (1)), (1, zP (22)), (2, zI a), (3, zI (0)), (4, zI (0))] 0 0 zSH f Q) : zR sc (d + 1) 88 0 [] [(0, zP (1)), (1, zP (22)), (2, zI a)] 0 0 zSH f Q := zwn_R (stp := fun mi pc => bif Nat.beq mi 88 && Nat.beq pc 5 then some [0, 1, 2, 3, 4] else none) (inl := fun _ => false) (nov := (fun j => bif Nat.beq j 90 then false else bif Nat.beq j 88 then false else bif Nat.beq j 92 then false else bif Nat.beq j 95 then false else true)) 6 h
set_option maxRecDepth 100000 in
theorem c1b88_5 {sc : zC} {d : Nat} {x2 x3 x4 : Int} {f : zF} {Q : zQ} (h : if x4 < x2 then (∃ A2 : zQ, zR sc d 90 0 [] [(0, zP (1)), (1, zP (22))] 0 0 zSH (zcp f (2) (6) (0) (0) (24)) A2 ∧ ∀ (r3 : Int) (f1 : zF), zIn r3 → A2 (some (zI r3)) zSH f1 → (zR sc (d + 1) 88 5 [] [(0, zP (1)), (1, zP (22)), (2, zI x2), (3, zI (w32 (x3 + r3))), (4, zI (w32 (x4 + 1)))] 0 0 zSH f1 Q)) else (Q (some (zI x3)) zSH f)) : zR sc (d + 1) 88 5 [] [(0, zP (1)), (1, zP (22)), (2, zI x2), (3, zI x3), (4, zI x4)] 0 0 zSH f Q := zwn_R (stp := fun mi pc => bif Nat.beq mi 88 && Nat.beq pc 5 then some [0, 1, 2, 3, 4] else none) (inl := fun _ => false) (nov := (fun j => bif Nat.beq j 90 then false else bif Nat.beq j 88 then false else bif Nat.beq j 92 then false else bif Nat.beq j 95 then false else true)) 23 h
/-! the class's days, on the street 1 -/
/-- the street's cells and what they stand for; t1, t3: the tallies of what was put by, told, ahead of these days -/
def cR1 (w : zLw) (t1 t3 : Int) (P A f : zF) : Prop := (f 1 0 = P 5 0 ∧ f 1 1 = P 5 1) ∧ (∀ g, g < 7 → f 2 (30 + g) = P 0 g ∧ f 2 (37 + g) = P 1 g ∧ f 2 (44 + g) = P 3 g) ∧ (∀ k, k < 4 → f 2 (51 + k) = P 2 k ∧ f 2 (55 + k) = A 2 k) ∧ (∀ h, h < 6 → f 2 (24 + h) = A 1 h) ∧ f 2 59 = A 3 0 ∧ (∀ j, j < 168 → f 3 j = A 0 j) ∧ (∀ g, g < 7 → f 4 g = ld A g) ∧ (∀ hs, hs < 24 → f 6 hs = P 4 hs) ∧ (tle (f 5 1) (t1 + A 3 1) ∧ tle (f 5 3) (t3 + A 3 3)) ∧ cLw w f
/-- all other cells stay -/
def cM1 (f f1 : zF) : Prop := ∀ c j, c ≠ 3 → c ≠ 4 → c ≠ 5 → c ≠ 6 → c ≠ 24 → c ≠ 25 → (c ≠ 22 ∨ j ≠ 4) → (c ≠ 2 ∨ (j < 24 ∨ (30 ≤ j ∧ j < 55) ∨ 60 ≤ j)) → f1 c j = f c j
/-- tallies of days and of what became clutter stay -/
def cT1 (f f1 : zF) : Prop := f1 5 0 = f 5 0 ∧ f1 5 2 = f 5 2 ∧ f1 5 4 = f 5 4 ∧ f1 5 5 = f 5 5
section CD1
variable {w : zLw} {t1 t3 : Int} {P A f : zF} {g hs : Nat} {left v : Int} {sc : zC} {d : Nat} {Q : zQ}
set_option maxRecDepth 4000 in
set_option maxHeartbeats 400000 in
theorem cM1_t {f f1 f2 : zF} (h : cM1 f f1) (g : cM1 f1 f2) : cM1 f f2 := fun c j a1 a2 a3 a4 a5 a6 a7 a8 => (g c j a1 a2 a3 a4 a5 a6 a7 a8).trans (h c j a1 a2 a3 a4 a5 a6 a7 a8)
set_option maxRecDepth 4000 in
set_option maxHeartbeats 400000 in
theorem cT1_t {f f1 f2 : zF} (h : cT1 f f1) (g : cT1 f1 f2) : cT1 f f2 := ⟨g.1.trans h.1, g.2.1.trans h.2.1, g.2.2.1.trans h.2.2.1, g.2.2.2.trans h.2.2.2⟩
set_option maxRecDepth 4000 in
set_option maxHeartbeats 400000 in
theorem cLw_l {f f1 : zF} (h : ∀ j, f1 23 j = f 23 j) (g : f1 22 1 = f 22 1) (k : cLw w f) : cLw w f1 := ⟨fun hw => ⟨g.trans (k.1 hw).1, cdl_keep h (k.1 hw).2.1, (k.1 hw).2.2⟩, fun hw => g.trans (k.2 hw)⟩
set_option maxRecDepth 4000 in
set_option maxHeartbeats 400000 in
theorem cLw_k {f f1 : zF} (k : cLw w f) (h : ∀ j, f1 23 j = f 23 j) (g : f1 22 1 = f 22 1) : cLw w f1 := cLw_l h g k
set_option maxRecDepth 4000 in
set_option maxHeartbeats 400000 in
theorem cR1_l {f1 : zF} (h : lfm f f1) (k : cR1 w t1 t3 P A f) : cR1 w t1 t3 P A f1 ∧ cM1 f f1 ∧ cT1 f f1 := by
  obtain ⟨⟨k1, k2⟩, k3, k4, k5, k6, k7, k8, k9, ⟨k10, k11⟩, k12⟩ := k
  have e : ∀ c j, c ≠ 24 → c ≠ 25 → c ≠ 22 → f1 c j = f c j := fun c j a b n => h c j a b (Or.inl n)
  refine ⟨⟨⟨?_, ?_⟩, fun g hg => ⟨?_, ?_, ?_⟩, fun k hk => ⟨?_, ?_⟩, fun g hg => ?_, ?_, fun j hj => ?_, fun g hg => ?_, fun j hj => ?_, ⟨?_, ?_⟩, cLw_l (fun j => e 23 j (by decide) (by decide) (by decide)) (h 22 1 (by decide) (by decide) (Or.inr (by decide))) k12⟩, fun c j a1 a2 a3 a4 a5 a6 a7 a8 => h c j a5 a6 a7, ?_, ?_, ?_, ?_⟩
  all_goals rw [e _ _ (by decide) (by decide) (by decide)]
  · exact k1
  · exact k2
  · exact (k3 g hg).1
  · exact (k3 g hg).2.1
  · exact (k3 g hg).2.2
  · exact (k4 k hk).1
  · exact (k4 k hk).2
  · exact k5 g hg
  · exact k6
  · exact k7 j hj
  · exact k8 g hg
  · exact k9 j hj
  · exact k10
  · exact k11
set_option maxRecDepth 4000 in
set_option maxHeartbeats 400000 in
/-- what a girl takes is put by -/
theorem c1_put (p : pIn P) (a : dIn P A) (hg : g < 7) (hh : (hs : Int) < 4 * P 5 0) (hv : 0 ≤ v ∧ v ≤ 99) (k : cR1 w t1 t3 P A f) (K : ∀ f1, cR1 w t1 t3 P (aTk A g hs v) f1 → cM1 f f1 → cT1 f f1 → Q none zSH f1) (hd : 1 ≤ d := by omega) : zR sc d 92 0 [] [(0, zP 1), (1, zI (g : Int)), (2, zI (hs : Int)), (3, zI v)] 0 0 zSH f Q := by
  have hp := p.1
  obtain ⟨⟨k1, k2⟩, k3, k4, k5, k6, k7, k8, k9, ⟨k10, k11⟩, k12⟩ := id k
  have a0 := a.1 (24 * g + hs) (by omega)
  have a9 := own_le a hg (hs := hs) (by omega)
  have l0 := ld_0 a hg
  have l9 := a.2.1 g hg
  refine zR_le hd (c1b92_0 (d := 0) ?_)
  have e1 : wq (w32 ((g : Int) * 24) + (hs : Int)) ((24 * g + hs : Nat) : Int) := wq_2 (by omega) (by omega) (by omega)
  have e2 : wq (f 3 (24 * g + hs) + v) (A 0 (24 * g + hs) + v) := by
    rw [k7 (24 * g + hs) (by omega)]
    exact wq_i (by omega) rfl
  have e3 : wq (f 4 g + v) (ld A g + v) := by
    rw [k8 g hg]
    exact wq_i (by omega) rfl
  simp only [wq_e e1, Int.toNat_natCast, wq_e e2, wq_e e3]
  refine zix_p (by omega) (zix_p (by omega) (zix_p (by omega) (zix_p (by omega) (K _ ?_ ?_ ?_))))
  · refine ⟨⟨k1, k2⟩, k3, k4, k5, k6, fun j hj => ?_, fun g' hg' => ?_, k9, ⟨?_, k11⟩, cLw_k k12 (fun _ => rfl) rfl⟩
    · rw [aTk_0]
      show (if j = 24 * g + hs then A 0 (24 * g + hs) + v else f 3 j) = _
      rw [k7 j hj]
    · rw [aTk_ld (by omega)]
      show (if g' = g then ld A g + v else f 4 g') = _
      rw [k8 g' hg']
    · show w32 (f 5 1 + v) = w32 (t1 + (A 3 1 + v))
      rw [tle_e k10, w32_a, Int.add_assoc]
  · intro c j a1 a2 a3 a4 a5 a6 a7 a8
    simp only [zup_at, if_neg a1, if_neg a2, if_neg a3]
  · exact ⟨rfl, rfl, rfl, rfl⟩
set_option maxRecDepth 4000 in
set_option maxHeartbeats 400000 in
/-- what is left becomes clutter -/
theorem c1_lie {h : Nat} (p : pIn P) (a : dIn P A) (hh : h < 6) (hl : 0 ≤ left ∧ left ≤ 9) (k : cR1 w t1 t3 P A f) (K : ∀ f1, cR1 w t1 t3 P (aCl A h left) f1 → cM1 f f1 → cT1 f f1 → Q (some (zI (cnw A h left - A 1 h))) zSH f1) (hd : 1 ≤ d := by omega) : zR sc d 93 0 [] [(0, zP 1), (1, zI (h : Int)), (2, zI left)] 0 0 zSH f Q := by
  obtain ⟨⟨k1, k2⟩, k3, k4, k5, k6, k7, k8, k9, ⟨k10, k11⟩, k12⟩ := id k
  have a1 := a.2.2.1 h hh
  have c1 := cnw_b (left := left) a hh hl.1
  refine zR_le hd (c1b93_0 (d := 0) ?_)
  have e0 : (24 : Int) + (h : Int) = ((24 + h : Nat) : Int) := by omega
  have e1 : (if A 1 h + left < 9999 then A 1 h + left else 9999) = cnw A h left := by
    unfold cnw
    by_cases q : A 1 h + left < 9999
    · rw [if_pos q, if_neg (by omega)]
    · rw [if_neg q]
      by_cases q2 : 9999 < A 1 h + left
      · rw [if_pos q2]
      · rw [if_neg q2]; omega
  simp only [e0, Int.toNat_natCast, k5 h hh, e1]
  have hz : (0 : Int) ≤ ((24 + h : Nat) : Int) ∧ ((24 + h : Nat) : Int) ≤ 29 := by omega
  refine zov_p (by omega) (zix_p (by omega) (zov_p (by omega) (zov_p (by omega) (zix_p (by omega) (zov_p (by omega) (K _ ?_ ?_ ⟨rfl, rfl, rfl, rfl⟩))))))
  · refine ⟨⟨k1, k2⟩, fun g hg => ?_, fun q hq => ?_, fun h' hh' => ?_, ?_, k7, k8, k9, ⟨k10, k11⟩, cLw_k k12 (fun _ => rfl) rfl⟩
    · show (if 30 + g = 24 + h then _ else f 2 (30 + g)) = _ ∧ (if 37 + g = 24 + h then _ else f 2 (37 + g)) = _ ∧ (if 44 + g = 24 + h then _ else f 2 (44 + g)) = _
      rw [if_neg (by omega), if_neg (by omega), if_neg (by omega)]
      exact k3 g hg
    · show (if 51 + q = 24 + h then _ else f 2 (51 + q)) = _ ∧ (if 55 + q = 24 + h then _ else f 2 (55 + q)) = _
      rw [if_neg (by omega), if_neg (by omega)]
      exact k4 q hq
    · show (if 24 + h' = 24 + h then cnw A h left else f 2 (24 + h')) = aCl A h left 1 h'
      unfold aCl
      simp only [zup_at, Nat.reduceEqDiff, reduceIte]
      by_cases e : h' = h
      · rw [if_pos (by omega), if_pos e]
      · rw [if_neg (by omega), if_neg e]
        exact k5 h' hh'
    · show (if 59 = 24 + h then _ else f 2 59) = _
      rw [if_neg (by omega)]
      exact k6
  · intro c j a1 a2 a3 a4 a5 a6 a7 a8
    rw [zup_at]
    by_cases e : c = 2
    · rw [if_pos e, if_neg (by omega)]
    · rw [if_neg e]
set_option maxRecDepth 4000 in
set_option maxHeartbeats 400000 in
/-- what is said to a hill -/
theorem c1_tell (p : pIn P) (a : dIn P A) (hg : g < 7) (hh : hs < 24) (k : cR1 w t1 t3 P A f) (K : ∀ f1, cR1 w t1 t3 P (aTl P A g hs) f1 → cM1 f f1 → cT1 f f1 → Q none zSH f1) (hd : 1 ≤ d := by omega) : zR sc d 95 0 [] [(0, zP 1), (1, zI (g : Int)), (2, zI (hs : Int))] 0 0 zSH f Q := by
  obtain ⟨⟨k1, k2⟩, k3, k4, k5, k6, k7, k8, k9, ⟨k10, k11⟩, k12⟩ := id k
  obtain ⟨b1, b2, b3⟩ := tnw_b p a hg hh
  have a0 := a.1 (24 * g + hs) (by omega)
  have a9 := own_le a hg hh
  have l0 := ld_0 a hg
  have l9 := a.2.1 g hg
  have l1 := sN_le (F := fun q => A 0 (24 * g + q)) 24 hs hh (fun q hq => a.1 (24 * g + q) (by omega))
  have l1 : A 0 (24 * g + hs) ≤ ld A g := l1
  have hk := (p.2.2.1 g hg).2
  obtain ⟨q, hq⟩ : ∃ q : Nat, P 1 g = (q : Int) := ⟨(P 1 g).toNat, by omega⟩
  have hq4 : q < 4 := by omega
  have p2 := p.2.2.2.1 q hq4
  have a2 := a.2.2.2.1 q hq4
  refine zR_le hd (c1b95_0 (d := 0) ?_)
  have e1 : wq (37 + (g : Int)) ((37 + g : Nat) : Int) := wq_i (by omega) (by omega)
  have e2 : f 2 (37 + g) = (q : Int) := (k3 g hg).2.1.trans hq
  have e3 : wq (51 + (q : Int)) ((51 + q : Nat) : Int) := wq_i (by omega) (by omega)
  have e4 : wq (55 + (q : Int)) ((55 + q : Nat) : Int) := wq_i (by omega) (by omega)
  have e5 : wq (w32 ((g : Int) * 24) + (hs : Int)) ((24 * g + hs : Nat) : Int) := wq_2 (by omega) (by omega) (by omega)
  have e6 : wq (P 2 q - A 2 q) (P 2 q - A 2 q) := wq_i (by omega) rfl
  have e7 : (if A 0 (24 * g + hs) < (if 0 < P 2 q - A 2 q then P 2 q - A 2 q else 0) then A 0 (24 * g + hs) else (if 0 < P 2 q - A 2 q then P 2 q - A 2 q else 0)) = tnw P A g hs := by
    unfold tnw
    rw [hq, Int.toNat_natCast]
    by_cases c1 : 0 < P 2 q - A 2 q
    · rw [if_pos c1]
      by_cases c2 : A 0 (24 * g + hs) < P 2 q - A 2 q
      · rw [if_pos c2, if_neg (by omega)]
      · rw [if_neg c2, if_neg (by omega)]
    · rw [if_neg c1, if_neg (by omega)]
      by_cases c2 : A 0 (24 * g + hs) < P 2 q - A 2 q
      · rw [if_pos c2]; split <;> omega
      · rw [if_neg c2]; split <;> omega
  rw [hq, Int.toNat_natCast] at b3
  have e8 : wq (A 2 q + tnw P A g hs) (A 2 q + tnw P A g hs) := wq_i (by omega) rfl
  have e9 : wq (A 0 (24 * g + hs) - tnw P A g hs) (A 0 (24 * g + hs) - tnw P A g hs) := wq_i (by omega) rfl
  have e10 : wq (ld A g - tnw P A g hs) (ld A g - tnw P A g hs) := wq_i (by omega) rfl
  simp only [wq_e e1, Int.toNat_natCast, e2, wq_e e3, wq_e e4, wq_e e5, (k4 q hq4).1, (k4 q hq4).2, wq_e e6, k7 (24 * g + hs) (by omega), e7, wq_e e8, wq_e e9, k8 g hg, wq_e e10]
  refine zix_p (by omega) (zix_p (by omega) (zix_p (by omega) (zix_p (by omega) (zix_p (by omega) (zix_p (by omega) (zix_p (by omega) (zix_p (by omega) (zix_p (by omega) (zix_p (by omega) (K _ ?_ ?_ ⟨rfl, rfl, rfl, rfl⟩))))))))))
  · refine ⟨⟨k1, k2⟩, fun g' hg' => ?_, fun q' hq' => ?_, fun h hh' => ?_, ?_, fun j hj => ?_, fun g' hg' => ?_, k9, ⟨k10, ?_⟩, cLw_k k12 (fun _ => rfl) rfl⟩
    · show (if 30 + g' = 55 + q then _ else f 2 (30 + g')) = _ ∧ (if 37 + g' = 55 + q then _ else f 2 (37 + g')) = _ ∧ (if 44 + g' = 55 + q then _ else f 2 (44 + g')) = _
      rw [if_neg (by omega), if_neg (by omega), if_neg (by omega)]
      exact k3 g' hg'
    · show (if 51 + q' = 55 + q then _ else f 2 (51 + q')) = _ ∧ (if 55 + q' = 55 + q then A 2 q + tnw P A g hs else f 2 (55 + q')) = _
      rw [if_neg (by omega), aTl_2, hq, Int.toNat_natCast]
      refine ⟨(k4 q' hq').1, ?_⟩
      by_cases e : q' = q
      · rw [if_pos (by omega), if_pos e]
      · rw [if_neg (by omega), if_neg e]
        exact (k4 q' hq').2
    · show (if 24 + h = 55 + q then _ else f 2 (24 + h)) = _
      rw [if_neg (by omega)]
      exact k5 h hh'
    · show (if 59 = 55 + q then _ else f 2 59) = _
      rw [if_neg (by omega)]
      exact k6
    · rw [aTl_0]
      show (if j = 24 * g + hs then A 0 (24 * g + hs) - tnw P A g hs else f 3 j) = _
      rw [k7 j hj, Int.sub_eq_add_neg]
    · rw [aTl_ld hh]
      show (if g' = g then ld A g - tnw P A g hs else f 4 g') = _
      rw [k8 g' hg', Int.sub_eq_add_neg]
    · show w32 (f 5 3 + tnw P A g hs) = w32 (t3 + (A 3 3 + tnw P A g hs))
      rw [tle_e k11, w32_a, Int.add_assoc]
  · intro c j a1 a2 a3 a4 a5 a6 a7 a8
    simp only [zup_at, if_neg a1, if_neg a2, if_neg a3]
    by_cases e : c = 2
    · rw [if_pos e, if_neg (by omega)]
    · rw [if_neg e]
set_option maxRecDepth 4000 in
set_option maxHeartbeats 400000 in
/-- all girls take of a cell -/
theorem c1_away (p : pIn P) (a : dIn P A) (hh : (hs : Int) < 4 * P 5 0) (k : cR1 w t1 t3 P A f) (K : ∀ f1, cR1 w t1 t3 P (gLp w P A hs (P 4 hs) (P 5 1).toNat).1 f1 → cM1 f f1 → cT1 f f1 → Q (some (zI (gLp w P A hs (P 4 hs) (P 5 1).toNat).2)) zSH f1) : zR sc (d + 4) 91 0 [] [(0, zP 1), (1, zP 22), (2, zI (hs : Int))] 0 0 zSH f Q := by
  have hp := p.1
  have hG := p.2.1
  have hB : ∀ n, n ≤ 7 → _ := gLp_in (w := w) p a hh (p.2.2.2.2 hs (by omega)).1
  have h9 := (p.2.2.2.2 hs (by omega)).2
  refine c1b91_0 (d := d + 3) ?_
  rw [td4]
  refine zov_p (by omega) (zix_p (by omega) ?_)
  rw [Int.toNat_natCast, k.2.2.2.2.2.2.2.1 hs (by omega)]
  have L : ∀ n, n ≤ (P 5 1).toNat → ∀ f1, cR1 w t1 t3 P (gLp w P A hs (P 4 hs) n).1 f1 → cM1 f f1 → cT1 f f1 → zR sc (d + 4) 91 15 [] [(0, zP 1), (1, zP 22), (2, zI (hs : Int)), (3, zI ((hs / 4 : Nat) : Int)), (4, zI (gLp w P A hs (P 4 hs) n).2), (5, zI (n : Int))] 0 0 zSH f1 Q := by
    refine zloop (P 5 1).toNat (fun n hn ih f1 kf mf tf => ?_) (fun f1 kf mf tf => ?_)
    · obtain ⟨i1, i2, i3⟩ := hB n (by omega)
      obtain ⟨b1, b2, b3⟩ := pTk_b (w := w) (hs := hs) p i1 (show n < 7 by omega) i2
      obtain ⟨⟨q1, q2⟩, q3, q4, q5, q6, q7, q8, q9, q10, q12⟩ := id kf
      have r1 := (p.2.2.1 n (by omega)).1
      have r2 := ld_0 i1 (show n < 7 by omega)
      have r3 := i1.2.1 n (by omega)
      refine c1b91_15 (d := d + 3) ?_
      have e0 : (30 : Int) + (n : Int) = ((30 + n : Nat) : Int) := by omega
      have e1 : (44 : Int) + (n : Int) = ((44 + n : Nat) : Int) := by omega
      rw [q2, if_pos (by omega)]
      simp only [e0, e1, Int.toNat_natCast, (q3 n (by omega)).1, (q3 n (by omega)).2.2, q8 n (by omega), tm4]
      refine zov_p (by omega) (zix_p (by omega) (zix_p (by omega) (zov_p (by omega) (zov_p (by omega) (zix_p (by omega) ?_)))))
      have go : ∀ (f2 : zF) (y : Int), y = (gLp w P A hs (P 4 hs) (n + 1)).2 → cR1 w t1 t3 P (gLp w P A hs (P 4 hs) (n + 1)).1 f2 → cM1 f f2 → cT1 f f2 → zov ((n : Int) + 1) (zR sc (d + 3 + 1) 91 15 [] [(0, zP 1), (1, zP 22), (2, zI (hs : Int)), (3, zI ((hs / 4 : Nat) : Int)), (4, zI y), (5, zI ((n : Int) + 1))] 0 0 zSH f2 Q) := by
        intro f2 y hy kf2 mf2 tf2
        refine zov_p (by omega) ?_
        rw [hy, show (n : Int) + 1 = ((n + 1 : Nat) : Int) by omega]
        exact ih f2 kf2 mf2 tf2
      -- nothing taken
      have no : pTk w P (gLp w P A hs (P 4 hs) n).1 n hs (gLp w P A hs (P 4 hs) n).2 = 0 → zov ((n : Int) + 1) (zR sc (d + 3 + 1) 91 15 [] [(0, zP 1), (1, zP 22), (2, zI (hs : Int)), (3, zI ((hs / 4 : Nat) : Int)), (4, zI (gLp w P A hs (P 4 hs) n).2), (5, zI ((n : Int) + 1))] 0 0 zSH f1 Q) := by
        intro h0
        have eA : (gLp w P A hs (P 4 hs) (n + 1)).1 = (gLp w P A hs (P 4 hs) n).1 := by
          show aTk (gLp w P A hs (P 4 hs) n).1 n hs (pTk w P (gLp w P A hs (P 4 hs) n).1 n hs (gLp w P A hs (P 4 hs) n).2) = _
          rw [h0]
          unfold aTk
          rw [Int.add_zero, Int.add_zero, zup_id (rfl : (gLp w P A hs (P 4 hs) n).1 0 (24 * n + hs) = _), zup_id (rfl : (gLp w P A hs (P 4 hs) n).1 3 1 = _)]
        refine go f1 _ ?_ (by rw [eA]; exact kf) mf tf
        show _ = (gLp w P A hs (P 4 hs) n).2 - pTk w P (gLp w P A hs (P 4 hs) n).1 n hs (gLp w P A hs (P 4 hs) n).2
        rw [h0, Int.sub_zero]
      by_cases h3 : P 3 n = ((hs / 4 : Nat) : Int)
      · rw [if_pos h3]
        by_cases hf : 0 < (if P 0 n - ld (gLp w P A hs (P 4 hs) n).1 n < (gLp w P A hs (P 4 hs) n).2 then P 0 n - ld (gLp w P A hs (P 4 hs) n).1 n else (gLp w P A hs (P 4 hs) n).2)
        · rw [if_pos hf]
          refine zix_p (by omega) (s_law q12 (fun f2 h2 => ?_))
          obtain ⟨kf2, mf2, tf2⟩ := cR1_l h2 kf
          have ev : pTk w P (gLp w P A hs (P 4 hs) n).1 n hs (gLp w P A hs (P 4 hs) n).2 = _ := if_pos h3
          rw [← ev]
          refine zov_p (by omega) ?_
          refine zcall (fun f3 => cR1 w t1 t3 P (gLp w P A hs (P 4 hs) (n + 1)).1 f3 ∧ cM1 f2 f3 ∧ cT1 f2 f3) (c1_put p i1 (by omega) hh ⟨b1, by omega⟩ kf2 (fun f3 a1 a2 a3 => ⟨a1, a2, a3⟩)) (fun f3 h => ?_)
          exact go f3 _ rfl h.1 (cM1_t mf (cM1_t mf2 h.2.1)) (cT1_t tf (cT1_t tf2 h.2.2))
        · rw [if_neg hf]
          refine no ?_
          unfold pTk
          rw [if_pos h3]
          refine if_neg ?_
          split <;> omega
      · rw [if_neg h3]
        refine no ?_
        unfold pTk
        rw [if_neg h3]
    · refine c1b91_15 (d := d + 3) ?_
      rw [kf.1.2, if_neg (by omega)]
      exact K f1 kf mf tf
  exact L 0 (Nat.zero_le _) f k (fun _ _ _ _ _ _ _ _ _ _ => rfl) ⟨rfl, rfl, rfl, rfl⟩
set_option maxRecDepth 4000 in
set_option maxHeartbeats 400000 in
/-- all go home -/
theorem c1_home (p : pIn P) (a : dIn P A) (k : cR1 w t1 t3 P A f) (K : ∀ f1, cR1 w t1 t3 P (oLp P A (P 5 1).toNat) f1 → cM1 f f1 → cT1 f f1 → Q none zSH f1) : zR sc (d + 2) 94 0 [] [(0, zP 1)] 0 0 zSH f Q := by
  have hp := p.1
  have hG := p.2.1
  refine c1b94_0 (d := d + 1) ?_
  have L : ∀ n, n ≤ (P 5 1).toNat → ∀ f1, cR1 w t1 t3 P (oLp P A n) f1 → cM1 f f1 → cT1 f f1 → zR sc (d + 2) 94 2 [] [(0, zP 1), (1, zI (n : Int))] 0 0 zSH f1 Q := by
    refine zloop (P 5 1).toNat (fun n hn ih f1 kf mf tf => ?_) (fun f1 kf mf tf => ?_)
    · have i1 := oLp_in p a n (by omega)
      refine c1b94_2 (d := d + 1) ?_
      rw [kf.1.2, if_pos (by omega)]
      have M : ∀ q, q ≤ (4 * P 5 0).toNat → ∀ f2, cR1 w t1 t3 P (hLp P (oLp P A n) n q) f2 → cM1 f f2 → cT1 f f2 → zR sc (d + 2) 94 12 [] [(0, zP 1), (1, zI (n : Int)), (2, zI (q : Int))] 0 0 zSH f2 Q := by
        refine zloop (4 * P 5 0).toNat (fun q hq ih2 f2 kf2 mf2 tf2 => ?_) (fun f2 kf2 mf2 tf2 => ?_)
        · have i2 := hLp_in p i1 (g := n) (by omega) q (by omega)
          refine c1b94_12 (d := d + 1) ?_
          rw [kf2.1.1]
          refine zov_p (by omega) ?_
          rw [if_pos (by omega)]
          refine zcall (fun f3 => cR1 w t1 t3 P (hLp P (oLp P A n) n (q + 1)) f3 ∧ cM1 f2 f3 ∧ cT1 f2 f3) (c1_tell p i2 (by omega) (by omega) kf2 (fun f3 a1 a2 a3 => ⟨a1, a2, a3⟩)) (fun f3 h => ?_)
          refine zov_p (by omega) ?_
          rw [show (q : Int) + 1 = ((q + 1 : Nat) : Int) by omega]
          exact ih2 f3 h.1 (cM1_t mf2 h.2.1) (cT1_t tf2 h.2.2)
        · refine c1b94_12 (d := d + 1) ?_
          rw [kf2.1.1]
          refine zov_p (by omega) ?_
          rw [if_neg (by omega)]
          refine zov_p (by omega) ?_
          rw [show (n : Int) + 1 = ((n + 1 : Nat) : Int) by omega]
          refine ih f2 ?_ mf2 tf2
          show cR1 w t1 t3 P (hLp P (oLp P A n) n 24) f2
          rw [hLp_to p i1 (by omega) 24 (by omega) (Nat.le_refl _)]
          exact kf2
      exact M 0 (Nat.zero_le _) f1 kf mf tf
    · refine c1b94_2 (d := d + 1) ?_
      rw [kf.1.2, if_neg (by omega)]
      exact K f1 kf mf tf
  exact L 0 (Nat.zero_le _) f k (fun _ _ _ _ _ _ _ _ _ _ => rfl) ⟨rfl, rfl, rfl, rfl⟩
set_option maxRecDepth 4000 in
set_option maxHeartbeats 400000 in
/-- a day -/
theorem c1_live (p : pIn P) (a : dIn P A) (k : cR1 w (f 5 1) (f 5 3) P (a00 A) f) (K : ∀ f1, cR1 w (f 5 1) (f 5 3) P (dDy w P A) f1 → cM1 f f1 → f1 5 0 = w32 (f 5 0 + 1) → f1 5 2 = w32 (f 5 2 + w32 (dDy w P A 3 2)) → (f1 5 4 = f 5 4 ∧ f1 5 5 = f 5 5) → Q (some (zI (w32 (dDy w P A 3 2)))) zSH f1) : zR sc (d + 6) 90 0 [] [(0, zP 1), (1, zP 22)] 0 0 zSH f Q := by
  have hp := p.1
  have hG := p.2.1
  have a0 : dIn P (a00 A) := dIn_3 (dIn_3 (dIn_3 a (Or.inl (by decide))) (Or.inl (by decide))) (Or.inl (by decide))
  refine c1b90_0 (d := d + 5) ?_
  have w4 : wq (P 5 0 * 4) (4 * P 5 0) := wq_i (by omega) (by omega)
  have L : ∀ n, n ≤ (4 * P 5 0).toNat → ∀ f1, cR1 w (f 5 1) (f 5 3) P (cLp w P (a00 A) n) f1 → cM1 f f1 → cT1 f f1 → zR sc (d + 6) 90 4 [] [(0, zP 1), (1, zP 22), (2, zI (w32 (cLp w P (a00 A) n 3 2))), (3, zI (n : Int))] 0 0 zSH f1 Q := by
    refine zloop (4 * P 5 0).toNat (fun n hn ih f1 kf mf tf => ?_) (fun f1 kf mf tf => ?_)
    · have i1 := cLp_in (w := w) p a0 n (by omega)
      obtain ⟨g1, g2, g3⟩ := gLp_in (w := w) (hs := n) (left := P 4 n) p i1 (by omega) (p.2.2.2.2 n (by omega)).1 (P 5 1).toNat (by omega)
      have g9 := (p.2.2.2.2 n (by omega)).2
      refine c1b90_4 (d := d + 5) ?_
      rw [kf.1.1, wq_e w4, if_pos (by omega)]
      refine zcall1 (fun v f2 => v = (gLp w P (cLp w P (a00 A) n) n (P 4 n) (P 5 1).toNat).2 ∧ cR1 w (f 5 1) (f 5 3) P (gLp w P (cLp w P (a00 A) n) n (P 4 n) (P 5 1).toNat).1 f2 ∧ cM1 f1 f2 ∧ cT1 f1 f2) (c1_away (d := d + 1) p i1 (by omega) kf (fun f2 a1 a2 a3 => ⟨_, rfl, rfl, a1, a2, a3⟩)) (fun v f2 _ h => ?_)
      obtain ⟨rfl, h1, h2, h3⟩ := h
      rw [td4, w32_in (z := ((n / 4 : Nat) : Int)) (by omega)]
      refine zcall1 (fun v f3 => v = cnw (gLp w P (cLp w P (a00 A) n) n (P 4 n) (P 5 1).toNat).1 (n / 4) (gLp w P (cLp w P (a00 A) n) n (P 4 n) (P 5 1).toNat).2 - (gLp w P (cLp w P (a00 A) n) n (P 4 n) (P 5 1).toNat).1 1 (n / 4) ∧ cR1 w (f 5 1) (f 5 3) P (cLp w P (a00 A) (n + 1)) f3 ∧ cM1 f2 f3 ∧ cT1 f2 f3) (c1_lie p g1 (by omega) ⟨g2, by omega⟩ h1 (fun f3 a1 a2 a3 => ⟨_, rfl, rfl, a1, a2, a3⟩)) (fun v f3 _ h => ?_)
      obtain ⟨rfl, h4, h5, h6⟩ := h
      have e32 : (gLp w P (cLp w P (a00 A) n) n (P 4 n) (P 5 1).toNat).1 3 2 = cLp w P (a00 A) n 3 2 := gLp_32 _
      rw [w32_in (z := (n : Int) + 1) (by omega), show (n : Int) + 1 = ((n + 1 : Nat) : Int) by omega, w32_a]
      refine cast ?_ (ih f3 h4 (cM1_t mf (cM1_t h2 h5)) (cT1_t tf (cT1_t h3 h6)))
      rw [show cLp w P (a00 A) (n + 1) 3 2 = cLp w P (a00 A) n 3 2 + (cnw (gLp w P (cLp w P (a00 A) n) n (P 4 n) (P 5 1).toNat).1 (n / 4) (gLp w P (cLp w P (a00 A) n) n (P 4 n) (P 5 1).toNat).2 - (gLp w P (cLp w P (a00 A) n) n (P 4 n) (P 5 1).toNat).1 1 (n / 4)) by
        rw [← e32]; rfl]
    · have i1 := cLp_in (w := w) p a0 (4 * P 5 0).toNat (by omega)
      have i5 := i1.2.2.2.2.1
      refine c1b90_4 (d := d + 5) ?_
      rw [kf.1.1, wq_e w4, if_neg (by omega)]
      obtain ⟨⟨q1, q2⟩, q3, q4, q5, q6, q7, q8, q9, ⟨q10, q11⟩, q12⟩ := id kf
      rw [q6]
      by_cases h6 : cLp w P (a00 A) (4 * P 5 0).toNat 3 0 < 6
      · have e : dDy w P A = zup (cLp w P (a00 A) (4 * P 5 0).toNat) 3 0 (cLp w P (a00 A) (4 * P 5 0).toNat 3 0 + 1) := if_pos h6
        rw [e] at K
        rw [if_pos h6, w32_in (z := cLp w P (a00 A) (4 * P 5 0).toNat 3 0 + 1) (by omega), tf.1, tf.2.1]
        refine K _ ⟨⟨q1, q2⟩, fun g hg => ?_, fun q hq => ?_, fun h hh => ?_, rfl, q7, q8, q9, ⟨q10, q11⟩, cLw_k q12 (fun _ => rfl) rfl⟩ (cM1_t mf (fun c j a1 a2 a3 a4 a5 a6 a7 a8 => ?_)) rfl rfl tf.2.2
        · show (if 30 + g = 59 then _ else f1 2 (30 + g)) = _ ∧ (if 37 + g = 59 then _ else f1 2 (37 + g)) = _ ∧ (if 44 + g = 59 then _ else f1 2 (44 + g)) = _
          rw [if_neg (by omega), if_neg (by omega), if_neg (by omega)]
          exact q3 g hg
        · show (if 51 + q = 59 then _ else f1 2 (51 + q)) = _ ∧ (if 55 + q = 59 then _ else f1 2 (55 + q)) = _
          rw [if_neg (by omega), if_neg (by omega)]
          exact q4 q hq
        · show (if 24 + h = 59 then _ else f1 2 (24 + h)) = _
          rw [if_neg (by omega)]
          exact q5 h hh
        · simp only [zup_at, if_neg a3]
          by_cases e : c = 2
          · rw [if_pos e, if_neg (by omega)]
          · rw [if_neg e]
      · have e : dDy w P A = oLp P (zup (cLp w P (a00 A) (4 * P 5 0).toNat) 3 0 0) (P 5 1).toNat := if_neg h6
        have e2 : dDy w P A 3 2 = cLp w P (a00 A) (4 * P 5 0).toNat 3 2 := by rw [e, oLp_32]; rfl
        rw [e2] at K
        rw [e] at K
        rw [if_neg h6, tf.1, tf.2.1]
        refine zcall (fun f3 => cR1 w (f 5 1) (f 5 3) P (oLp P (zup (cLp w P (a00 A) (4 * P 5 0).toNat) 3 0 0) (P 5 1).toNat) f3 ∧ cM1 _ f3 ∧ cT1 _ f3) (c1_home (A := zup (cLp w P (a00 A) (4 * P 5 0).toNat) 3 0 0) (t1 := f 5 1) (t3 := f 5 3) (d := d + 3) p (dIn_3 i1 (Or.inr (by decide))) ⟨⟨q1, q2⟩, fun g hg => ?_, fun q hq => ?_, fun h hh => ?_, rfl, q7, q8, q9, ⟨q10, q11⟩, cLw_k q12 (fun _ => rfl) rfl⟩ (fun f3 a1 a2 a3 => ⟨a1, a2, a3⟩)) (fun f3 h => ?_)
        · show (if 30 + g = 59 then _ else f1 2 (30 + g)) = _ ∧ (if 37 + g = 59 then _ else f1 2 (37 + g)) = _ ∧ (if 44 + g = 59 then _ else f1 2 (44 + g)) = _
          rw [if_neg (by omega), if_neg (by omega), if_neg (by omega)]
          exact q3 g hg
        · show (if 51 + q = 59 then _ else f1 2 (51 + q)) = _ ∧ (if 55 + q = 59 then _ else f1 2 (55 + q)) = _
          rw [if_neg (by omega), if_neg (by omega)]
          exact q4 q hq
        · show (if 24 + h = 59 then _ else f1 2 (24 + h)) = _
          rw [if_neg (by omega)]
          exact q5 h hh
        · refine K f3 h.1 (cM1_t mf (cM1_t (fun c j a1 a2 a3 a4 a5 a6 a7 a8 => ?_) h.2.1)) h.2.2.1 h.2.2.2.1 ⟨h.2.2.2.2.1.trans tf.2.2.1, h.2.2.2.2.2.trans tf.2.2.2⟩
          simp only [zup_at, if_neg a3]
          by_cases e : c = 2
          · rw [if_pos e, if_neg (by omega)]
          · rw [if_neg e]
  exact L 0 (Nat.zero_le _) f k (fun _ _ _ _ _ _ _ _ _ _ => rfl) ⟨rfl, rfl, rfl, rfl⟩
end CD1
/-- ahead of a day: what the street's numbers stand for -/
def cN1 (w : zLw) (P A f : zF) : Prop := (f 1 0 = P 5 0 ∧ f 1 1 = P 5 1) ∧ (∀ g, g < 7 → f 2 (30 + g) = P 0 g ∧ f 2 (37 + g) = P 1 g ∧ f 2 (44 + g) = P 3 g) ∧ (∀ k, k < 4 → f 2 (51 + k) = P 2 k ∧ f 2 (55 + k) = A 2 k) ∧ (∀ h, h < 6 → f 2 (24 + h) = A 1 h) ∧ f 2 59 = A 3 0 ∧ (∀ j, j < 168 → f 3 j = A 0 j) ∧ (∀ g, g < 7 → f 4 g = ld A g) ∧ (∀ hs, hs < 24 → f 2 hs = P 4 hs) ∧ cLw w f
section CN1
variable {w : zLw} {t1 t3 : Int} {P A f f1 : zF} {sc : zC} {d : Nat} {Q : zQ}
set_option maxRecDepth 4000 in
set_option maxHeartbeats 400000 in
theorem c1_in (k : cN1 w P A f) (z1 : zIn (f 5 1)) (z3 : zIn (f 5 3)) : cR1 w (f 5 1) (f 5 3) P (a00 A) (zcp f 2 6 0 0 24) := by
  obtain ⟨k0, k1, k2, k3, k4, k5, k6, k7, k8⟩ := k
  refine ⟨k0, k1, k2, k3, k4, k5, k6, fun hs h => ?_, ⟨?_, ?_⟩, cLw_k k8 (fun _ => rfl) rfl⟩
  · show (if 0 ≤ hs ∧ hs < 0 + 24 then f 2 (0 + (hs - 0)) else f 6 hs) = P 4 hs
    rw [if_pos (by omega), Nat.zero_add, Nat.sub_zero]
    exact k7 hs h
  · show f 5 1 = w32 (f 5 1 + 0)
    rw [Int.add_zero, w32_in z1]
  · show f 5 3 = w32 (f 5 3 + 0)
    rw [Int.add_zero, w32_in z3]
set_option maxRecDepth 4000 in
set_option maxHeartbeats 400000 in
theorem c1_out (k : cR1 w t1 t3 P A f1) (m : cM1 f f1) (h : ∀ hs, hs < 24 → f 2 hs = P 4 hs) : cN1 w P A f1 ∧ zIn (f1 5 1) ∧ zIn (f1 5 3) := by
  obtain ⟨k0, k1, k2, k3, k4, k5, k6, k7, ⟨k8, k9⟩, k10⟩ := k
  refine ⟨⟨k0, k1, k2, k3, k4, k5, k6, fun hs hh => ?_, k10⟩, ?_, ?_⟩
  · rw [m 2 hs (by decide) (by decide) (by decide) (by decide) (by decide) (by decide) (Or.inl (by decide)) (Or.inr (Or.inl hh))]
    exact h hs hh
  · rw [tle_e k8]; exact zin_w _
  · rw [tle_e k9]; exact zin_w _
set_option maxRecDepth 4000 in
set_option maxHeartbeats 400000 in
/-- one day, from the numbers on -/
theorem c1_dy (p : pIn P) (a : dIn P A) (k : cN1 w P A f) (z1 : zIn (f 5 1)) (z3 : zIn (f 5 3)) : zR sc (d + 6) 90 0 [] [(0, zP 1), (1, zP 22)] 0 0 zSH (zcp f 2 6 0 0 24) (fun r _ f1 => r = some (zI (w32 (dDy w P A 3 2))) ∧ cN1 w P (dDy w P A) f1 ∧ cM1 f f1 ∧ (zIn (f1 5 1) ∧ zIn (f1 5 3)) ∧ (f1 5 0 = w32 (f 5 0 + 1) ∧ f1 5 1 = w32 (f 5 1 + dDy w P A 3 1) ∧ f1 5 2 = w32 (f 5 2 + w32 (dDy w P A 3 2)) ∧ f1 5 3 = w32 (f 5 3 + dDy w P A 3 3) ∧ f1 5 4 = f 5 4 ∧ f1 5 5 = f 5 5)) := by
  refine c1_live p a (c1_in k z1 z3) (fun f1 k1 m1 e0 e2 e4 => ?_)
  have mf : cM1 f f1 := cM1_t (fun c j a1 a2 a3 a4 a5 a6 a7 a8 => by rw [zcp_at, if_neg a4]) m1
  obtain ⟨h1, h2, h3⟩ := c1_out k1 mf k.2.2.2.2.2.2.2.1
  exact ⟨rfl, h1, mf, ⟨h2, h3⟩, e0, k1.2.2.2.2.2.2.2.2.1.1, e2, k1.2.2.2.2.2.2.2.2.1.2, e4.1, e4.2⟩
set_option maxRecDepth 4000 in
set_option maxHeartbeats 400000 in
/-- n days -/
theorem c1_days {n : Nat} (hn : n ≤ 60) (p : pIn P) (a : dIn P A) (k : cN1 w P A f) (z1 : zIn (f 5 1)) (z3 : zIn (f 5 3)) (K : ∀ v f1, cN1 w P (dIt w P A n) f1 → cM1 f f1 → zIn (f1 5 1) → zIn (f1 5 3) → Q (some (zI v)) zSH f1) : zR sc (d + 7) 88 0 [] [(0, zP 1), (1, zP 22), (2, zI (n : Int))] 0 0 zSH f Q := by
  refine c1b88_0 (d := d + 6) ?_
  have L : ∀ i, i ≤ n → ∀ v f1, cN1 w P (dIt w P A i) f1 → cM1 f f1 → zIn (f1 5 1) → zIn (f1 5 3) → zR sc (d + 7) 88 5 [] [(0, zP 1), (1, zP 22), (2, zI (n : Int)), (3, zI v), (4, zI (i : Int))] 0 0 zSH f1 Q := by
    refine zloop n (fun i hi ih v f1 k1 m1 y1 y3 => ?_) (fun v f1 k1 m1 y1 y3 => ?_)
    · refine c1b88_5 (d := d + 6) ?_
      rw [if_pos (by omega)]
      refine zcall1 (fun _ f2 => cN1 w P (dIt w P A (i + 1)) f2 ∧ cM1 f1 f2 ∧ zIn (f2 5 1) ∧ zIn (f2 5 3)) (zR_imp (c1_dy (d := d) p (dIt_in p a i) k1 y1 y3) (fun r _ f2 h => by obtain ⟨h1, h2, h3, ⟨h4, h5⟩, -⟩ := h; exact ⟨_, h1, h2, h3, h4, h5⟩)) (fun v2 f2 _ h => ?_)
      obtain ⟨h1, h2, h3, h4⟩ := h
      rw [w32_in (z := (i : Int) + 1) (by omega), show (i : Int) + 1 = ((i + 1 : Nat) : Int) by omega]
      exact ih _ f2 h1 (cM1_t m1 h2) h3 h4
    · refine c1b88_5 (d := d + 6) ?_
      rw [if_neg (by omega)]
      exact K v f1 k1 m1 y1 y3
  exact L 0 (Nat.zero_le _) 0 f k (fun _ _ _ _ _ _ _ _ _ _ => rfl) z1 z3
set_option maxRecDepth 4000 in
set_option maxHeartbeats 400000 in
/-- a day in deed -/
theorem c1_one (p : pIn P) (a : dIn P A) (k : cN1 w P A f) (z1 : zIn (f 5 1)) (z3 : zIn (f 5 3)) (K : ∀ f1, cN1 w P (dDy w P A) f1 → cM1 f f1 → (f1 5 0 = w32 (f 5 0 + 1) ∧ f1 5 1 = w32 (f 5 1 + dDy w P A 3 1) ∧ f1 5 2 = w32 (f 5 2 + w32 (dDy w P A 3 2)) ∧ f1 5 3 = w32 (f 5 3 + dDy w P A 3 3) ∧ f1 5 4 = f 5 4 ∧ f1 5 5 = f 5 5) → Q (some (zI (w32 (dDy w P A 3 2)))) zSH f1) : zR sc (d + 7) 88 0 [] [(0, zP 1), (1, zP 22), (2, zI 1)] 0 0 zSH f Q := by
  refine c1b88_0 (d := d + 6) (c1b88_5 (d := d + 6) ?_)
  rw [if_pos (by decide)]
  refine zcall1 (fun v f2 => v = w32 (dDy w P A 3 2) ∧ cN1 w P (dDy w P A) f2 ∧ cM1 f f2 ∧ (f2 5 0 = w32 (f 5 0 + 1) ∧ f2 5 1 = w32 (f 5 1 + dDy w P A 3 1) ∧ f2 5 2 = w32 (f 5 2 + w32 (dDy w P A 3 2)) ∧ f2 5 3 = w32 (f 5 3 + dDy w P A 3 3) ∧ f2 5 4 = f 5 4 ∧ f2 5 5 = f 5 5)) (zR_imp (c1_dy (d := d) p a k z1 z3) (fun r _ f2 h => by obtain ⟨h1, h2, h3, -, h4⟩ := h; exact ⟨_, h1, rfl, h2, h3, h4⟩)) (fun v f2 _ h => ?_)
  obtain ⟨rfl, h1, h2, h3⟩ := h
  refine c1b88_5 (d := d + 6) ?_
  rw [show w32 (0 + 1) = 1 by decide, if_neg (by decide), Int.zero_add, w32_in (zin_w _)]
  exact K f2 h1 h2 h3
end CN1
end
