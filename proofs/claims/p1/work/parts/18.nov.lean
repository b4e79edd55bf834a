/-! locals in another order, or fewer of them; steps without wrapping -/
def zle (l l' : zL) : Prop := ∀ i v, zget i l = some v → zget i l' = some v
def znd : List Nat → Bool
  | [] => true
  | a :: l => !(l.contains a) && znd l
def znk (l : zL) : Prop := znd (l.map (·.1)) = true
theorem zget_none {i : Nat} : ∀ {l : zL}, (l.map (·.1)).contains i = false → zget i l = none
  | [], _ => rfl
  | (k, v) :: l, h => by
    simp only [List.map_cons, List.contains_cons, Bool.or_eq_false_iff] at h
    show (bif Nat.beq k i then some v else zget i l) = none
    have h1 : Nat.beq k i = false := by
      cases hb : Nat.beq k i with
      | false => rfl
      | true =>
        have := Nat.eq_of_beq_eq_true hb
        subst this
        simp at h
    rw [h1]
    exact zget_none h.2
theorem zget_filter {p : Nat → Nat → Bool} {i : Nat} {v : zV} : ∀ {l : zL}, zget i l = some v → p i (zcat v) = true → zget i (l.filter (fun q => p q.1 (zcat q.2))) = some v
  | [], h, _ => by cases h
  | (k, w) :: l, h, hp => by
    have h : (bif Nat.beq k i then some w else zget i l) = some v := h
    cases hb : Nat.beq k i with
    | true =>
      rw [hb] at h
      have := Nat.eq_of_beq_eq_true hb
      subst this
      cases h
      simp only [List.filter_cons, hp, if_true]
      show (bif Nat.beq k k then some v else _) = some v
      rw [hb]; rfl
    | false =>
      rw [hb] at h
      have ih := zget_filter (p := p) h hp
      simp only [List.filter_cons]
      split
      · show (bif Nat.beq k i then some w else _) = some v
        rw [hb]; exact ih
      · exact ih
theorem zfilter_keys {p : Nat → Nat → Bool} {i : Nat} : ∀ {l : zL}, (l.map (·.1)).contains i = false → ((l.filter (fun q => p q.1 (zcat q.2))).map (·.1)).contains i = false
  | [], _ => rfl
  | (k, w) :: l, h => by
    simp only [List.map_cons, List.contains_cons, Bool.or_eq_false_iff] at h
    have ih := zfilter_keys (p := p) h.2
    simp only [List.filter_cons]
    split
    · simp only [List.map_cons, List.contains_cons, Bool.or_eq_false_iff]
      exact ⟨h.1, ih⟩
    · exact ih
theorem zfilter_nk {p : Nat → Nat → Bool} : ∀ {l : zL}, znk l → znk (l.filter (fun q => p q.1 (zcat q.2)))
  | [], _ => rfl
  | (k, w) :: l, h => by
    unfold znk at h
    simp only [List.map_cons, znd, Bool.and_eq_true, Bool.not_eq_true'] at h
    have ih := zfilter_nk (p := p) (l := l) h.2
    simp only [List.filter_cons]
    split
    · unfold znk
      simp only [List.map_cons, znd, Bool.and_eq_true, Bool.not_eq_true']
      exact ⟨zfilter_keys h.1, ih⟩
    · exact ih
theorem zfilter_get {p : Nat → Nat → Bool} {i : Nat} {v : zV} : ∀ {l : zL}, znk l → zget i (l.filter (fun q => p q.1 (zcat q.2))) = some v → zget i l = some v ∧ p i (zcat v) = true
  | [], _, h => by cases h
  | (k, w) :: l, hn, h => by
    unfold znk at hn
    simp only [List.map_cons, znd, Bool.and_eq_true, Bool.not_eq_true'] at hn
    simp only [List.filter_cons] at h
    show (bif Nat.beq k i then some w else zget i l) = some v ∧ _
    cases hb : Nat.beq k i with
    | true =>
      have := Nat.eq_of_beq_eq_true hb
      subst this
      split at h
      next hp =>
        have h : (bif Nat.beq k k then some w else _) = some v := h
        rw [hb] at h
        cases h
        exact ⟨rfl, hp⟩
      next hp =>
        rw [zget_none (zfilter_keys hn.1)] at h
        cases h
    | false =>
      split at h
      · have h : (bif Nat.beq k i then some w else _) = some v := h
        rw [hb] at h
        exact zfilter_get hn.2 h
      · exact zfilter_get hn.2 h
theorem zle_set {p : Nat → Nat → Bool} {i : Nat} {w : zV} {l l' : zL} (hn : znk l) (h : zle l l') : zle ((i, w) :: l.filter (fun q => p q.1 (zcat q.2))) ((i, w) :: l'.filter (fun q => p q.1 (zcat q.2))) := by
  intro j v hj
  have hj : (bif Nat.beq i j then some w else zget j _) = some v := hj
  show (bif Nat.beq i j then some w else zget j _) = some v
  cases hb : Nat.beq i j with
  | true => rw [hb] at hj; exact hj
  | false =>
    rw [hb] at hj
    obtain ⟨h1, h2⟩ := zfilter_get hn hj
    exact zget_filter (h j v h1) h2
theorem znk_set {p : Nat → Nat → Bool} {i : Nat} {w : zV} {l : zL} (hp : ∀ n, p i n = false) (hn : znk l) : znk ((i, w) :: l.filter (fun q => p q.1 (zcat q.2))) := by
  have h1 : ∀ {l : zL}, ((l.filter (fun q => p q.1 (zcat q.2))).map (·.1)).contains i = false := by
    intro l
    induction l with
    | nil => rfl
    | cons q l ih =>
      simp only [List.filter_cons]
      split
      next hq =>
        simp only [List.map_cons, List.contains_cons, Bool.or_eq_false_iff]
        refine ⟨?_, ih⟩
        cases hb : i == q.1 with
        | false => rfl
        | true =>
          have := eq_of_beq hb
          subst this
          rw [hp] at hq
          cases hq
      · exact ih
  unfold znk
  simp only [List.map_cons, znd, Bool.and_eq_true, Bool.not_eq_true']
  exact ⟨h1, zfilter_nk hn⟩
theorem zle_set1 {i : Nat} {w : zV} {l l' : zL} (hn : znk l) (h : zle l l') : zle (zset1 i w l) (zset1 i w l') := zle_set (p := fun a b => !(a == i) && !(a + 1 == i && b == 2)) hn h
theorem zle_set2 {i : Nat} {w : zV} {l l' : zL} (hn : znk l) (h : zle l l') : zle (zset2 i w l) (zset2 i w l') := zle_set (p := fun a b => !(a == i) && (!(a == i + 1) && !(a + 1 == i && b == 2))) hn h
theorem znk_set1 {i : Nat} {w : zV} {l : zL} (hn : znk l) : znk (zset1 i w l) := znk_set (p := fun a b => !(a == i) && !(a + 1 == i && b == 2)) (fun n => by simp) hn
theorem znk_set2 {i : Nat} {w : zV} {l : zL} (hn : znk l) : znk (zset2 i w l) := znk_set (p := fun a b => !(a == i) && (!(a == i + 1) && !(a + 1 == i && b == 2))) (fun n => by simp) hn
theorem zargs_keys : ∀ (vs : List zV) (i j : Nat), j < i → ((zargs i vs).map (·.1)).contains j = false
  | [], _, _, _ => rfl
  | v :: vs, i, j, h => by
    show ((i :: (zargs (if zcat v = 2 then i + 2 else i + 1) vs).map (·.1)).contains j) = false
    rw [List.contains_cons, Bool.or_eq_false_iff]
    refine ⟨by simp; omega, zargs_keys vs _ j (by split <;> omega)⟩
theorem zargs_nk : ∀ (vs : List zV) (i : Nat), znk (zargs i vs)
  | [], _ => rfl
  | v :: vs, i => by
    show znd (i :: (zargs (if zcat v = 2 then i + 2 else i + 1) vs).map (·.1)) = true
    simp only [znd, Bool.and_eq_true, Bool.not_eq_true']
    exact ⟨zargs_keys vs _ i (by split <;> omega), zargs_nk vs _⟩
def zPl (sc : zC) : zPr := fun d mi pc st lv kc ks sh f Q => znk lv → ∀ lv', zle lv lv' → zR sc d mi pc st lv' kc ks sh f Q
theorem zC0_l {sc : zC} {d j : Nat} {as : List zV} {sh : zH} {f : zF} {K K' : zQ} (hK : ∀ r sh f, K r sh f → K' r sh f) (h : zC0 (zPl sc) d j (zargs 0 as) sh f K) : zC0 (zR sc) d j (zargs 0 as) sh f K' := by
  obtain ⟨Q0, h1, h2⟩ := h
  exact ⟨Q0, h1 (zargs_nk as 0) _ (fun _ _ h => h), zret_mono hK h2⟩
