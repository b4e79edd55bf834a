noncomputable section
/-! locals in another order, or fewer of them; steps without wrapping -/
def zle (l l' : zL) : Prop := ∀ i v, zget i l = some v → zget i l' = some v
def znd : List Nat → Bool
  | [] => true
  | a :: l => !(l.contains a) && znd l
def znk (l : zL) : Prop := znd (l.map (·.1)) = true
theorem zget_none {i : Nat} : ∀ {l : zL}, (l.map (·.1)).contains i = false → zget i l = none
  | [], _ => rfl
  | (k, v) :: l, h => by
    simp only [List.map_cons, List.contains_cons, Bool.or_eq_false_iff] at h
    show (bif Nat.beq k i then some v else zget i l) = none
    have h1 : Nat.beq k i = false := by
      cases hb : Nat.beq k i with
      | false => rfl
      | true =>
        have := Nat.eq_of_beq_eq_true hb
        subst this
        simp at h
    rw [h1]
    exact zget_none h.2
theorem zget_filter {p : Nat → Nat → Bool} {i : Nat} {v : zV} : ∀ {l : zL}, zget i l = some v → p i (zcat v) = true → zget i (l.filter (fun q => p q.1 (zcat q.2))) = some v
  | [], h, _ => by cases h
  | (k, w) :: l, h, hp => by
    have h : (bif Nat.beq k i then some w else zget i l) = some v := h
    cases hb : Nat.beq k i with
    | true =>
      rw [hb] at h
      have := Nat.eq_of_beq_eq_true hb
      subst this
      cases h
      simp only [List.filter_cons, hp, if_true]
      show (bif Nat.beq k k then some v else _) = some v
      rw [hb]; rfl
    | false =>
      rw [hb] at h
      have ih := zget_filter (p := p) h hp
      simp only [List.filter_cons]
      split
      · show (bif Nat.beq k i then some w else _) = some v
        rw [hb]; exact ih
      · exact ih
theorem zfilter_keys {p : Nat → Nat → Bool} {i : Nat} : ∀ {l : zL}, (l.map (·.1)).contains i = false → ((l.filter (fun q => p q.1 (zcat q.2))).map (·.1)).contains i = false
  | [], _ => rfl
  | (k, w) :: l, h => by
    simp only [List.map_cons, List.contains_cons, Bool.or_eq_false_iff] at h
    have ih := zfilter_keys (p := p) h.2
    simp only [List.filter_cons]
    split
    · simp only [List.map_cons, List.contains_cons, Bool.or_eq_false_iff]
      exact ⟨h.1, ih⟩
    · exact ih
theorem zfilter_nk {p : Nat → Nat → Bool} : ∀ {l : zL}, znk l → znk (l.filter (fun q => p q.1 (zcat q.2)))
  | [], _ => rfl
  | (k, w) :: l, h => by
    unfold znk at h
    simp only [List.map_cons, znd, Bool.and_eq_true, Bool.not_eq_true'] at h
    have ih := zfilter_nk (p := p) (l := l) h.2
    simp only [List.filter_cons]
    split
    · unfold znk
      simp only [List.map_cons, znd, Bool.and_eq_true, Bool.not_eq_true']
      exact ⟨zfilter_keys h.1, ih⟩
    · exact ih
theorem zfilter_get {p : Nat → Nat → Bool} {i : Nat} {v : zV} : ∀ {l : zL}, znk l → zget i (l.filter (fun q => p q.1 (zcat q.2))) = some v → zget i l = some v ∧ p i (zcat v) = true
  | [], _, h => by cases h
  | (k, w) :: l, hn, h => by
    unfold znk at hn
    simp only [List.map_cons, znd, Bool.and_eq_true, Bool.not_eq_true'] at hn
    simp only [List.filter_cons] at h
    show (bif Nat.beq k i then some w else zget i l) = some v ∧ _
    cases hb : Nat.beq k i with
    | true =>
      have := Nat.eq_of_beq_eq_true hb
      subst this
      split at h
      next hp =>
        have h : (bif Nat.beq k k then some w else _) = some v := h
        rw [hb] at h
        cases h
        exact ⟨rfl, hp⟩
      next hp =>
        rw [zget_none (zfilter_keys hn.1)] at h
        cases h
    | false =>
      split at h
      · have h : (bif Nat.beq k i then some w else _) = some v := h
        rw [hb] at h
        exact zfilter_get hn.2 h
      · exact zfilter_get hn.2 h
theorem zle_set {p : Nat → Nat → Bool} {i : Nat} {w : zV} {l l' : zL} (hn : znk l) (h : zle l l') : zle ((i, w) :: l.filter (fun q => p q.1 (zcat q.2))) ((i, w) :: l'.filter (fun q => p q.1 (zcat q.2))) := by
  intro j v hj
  have hj : (bif Nat.beq i j then some w else zget j _) = some v := hj
  show (bif Nat.beq i j then some w else zget j _) = some v
  cases hb : Nat.beq i j with
  | true => rw [hb] at hj; exact hj
  | false =>
    rw [hb] at hj
    obtain ⟨h1, h2⟩ := zfilter_get hn hj
    exact zget_filter (h j v h1) h2
theorem znk_set {p : Nat → Nat → Bool} {i : Nat} {w : zV} {l : zL} (hp : ∀ n, p i n = false) (hn : znk l) : znk ((i, w) :: l.filter (fun q => p q.1 (zcat q.2))) := by
  have h1 : ∀ {l : zL}, ((l.filter (fun q => p q.1 (zcat q.2))).map (·.1)).contains i = false := by
    intro l
    induction l with
    | nil => rfl
    | cons q l ih =>
      simp only [List.filter_cons]
      split
      next hq =>
        simp only [List.map_cons, List.contains_cons, Bool.or_eq_false_iff]
        refine ⟨?_, ih⟩
        cases hb : i == q.1 with
        | false => rfl
        | true =>
          have := eq_of_beq hb
          subst this
          rw [hp] at hq
          cases hq
      · exact ih
  unfold znk
  simp only [List.map_cons, znd, Bool.and_eq_true, Bool.not_eq_true']
  exact ⟨h1, zfilter_nk hn⟩
theorem zle_set1 {i : Nat} {w : zV} {l l' : zL} (hn : znk l) (h : zle l l') : zle (zset1 i w l) (zset1 i w l') := zle_set (p := fun a b => !(a == i) && !(a + 1 == i && b == 2)) hn h
theorem zle_set2 {i : Nat} {w : zV} {l l' : zL} (hn : znk l) (h : zle l l') : zle (zset2 i w l) (zset2 i w l') := zle_set (p := fun a b => !(a == i) && (!(a == i + 1) && !(a + 1 == i && b == 2))) hn h
theorem znk_set1 {i : Nat} {w : zV} {l : zL} (hn : znk l) : znk (zset1 i w l) := znk_set (p := fun a b => !(a == i) && !(a + 1 == i && b == 2)) (fun n => by simp) hn
theorem znk_set2 {i : Nat} {w : zV} {l : zL} (hn : znk l) : znk (zset2 i w l) := znk_set (p := fun a b => !(a == i) && (!(a == i + 1) && !(a + 1 == i && b == 2))) (fun n => by simp) hn
theorem zargs_keys : ∀ (vs : List zV) (i j : Nat), j < i → ((zargs i vs).map (·.1)).contains j = false
  | [], _, _, _ => rfl
  | v :: vs, i, j, h => by
    show ((i :: (zargs (if zcat v = 2 then i + 2 else i + 1) vs).map (·.1)).contains j) = false
    rw [List.contains_cons, Bool.or_eq_false_iff]
    refine ⟨by simp; omega, zargs_keys vs _ j (by split <;> omega)⟩
theorem zargs_nk : ∀ (vs : List zV) (i : Nat), znk (zargs i vs)
  | [], _ => rfl
  | v :: vs, i => by
    show znd (i :: (zargs (if zcat v = 2 then i + 2 else i + 1) vs).map (·.1)) = true
    simp only [znd, Bool.and_eq_true, Bool.not_eq_true']
    exact ⟨zargs_keys vs _ i (by split <;> omega), zargs_nk vs _⟩
def zPl (sc : zC) : zPr := fun d mi pc st lv kc ks sh f Q => znk lv → ∀ lv', zle lv lv' → zR sc d mi pc st lv' kc ks sh f Q
theorem zC0_l {sc : zC} {d j : Nat} {as : List zV} {sh : zH} {f : zF} {K K' : zQ} (hK : ∀ r sh f, K r sh f → K' r sh f) (h : zC0 (zPl sc) d j (zargs 0 as) sh f K) : zC0 (zR sc) d j (zargs 0 as) sh f K' := by
  obtain ⟨Q0, h1, h2⟩ := h
  exact ⟨Q0, h1 (zargs_nk as 0) _ (fun _ _ h => h), zret_mono hK h2⟩
section LVM
variable {sc : zC} {C C' : zCr} {P P' : zPr} {Q : zQ} {lv lv' : zL} {i : Nat}
theorem zop2_lvm (hP : ∀ d mi pc st kc ks sh f, P d mi pc st lv kc ks sh f Q → P' d mi pc st lv' kc ks sh f Q) {g : Int → Int → Int} {d mi pc : Nat} {st : List zV} {kc ks : Nat} {sh : zH} {f : zF} : zop2 P d mi pc st lv kc ks sh f Q g → zop2 P' d mi pc st lv' kc ks sh f Q g := by
  intro h
  unfold zop2 at h ⊢
  split at h
  · exact hP _ _ _ _ _ _ _ _ h
  · exact h.elim
theorem zlop2_lvm (hP : ∀ d mi pc st kc ks sh f, P d mi pc st lv kc ks sh f Q → P' d mi pc st lv' kc ks sh f Q) {g : Int → Int → Int} {d mi pc : Nat} {st : List zV} {kc ks : Nat} {sh : zH} {f : zF} : zlop2 P d mi pc st lv kc ks sh f Q g → zlop2 P' d mi pc st lv' kc ks sh f Q g := by
  intro h
  unfold zlop2 at h ⊢
  split at h
  · exact hP _ _ _ _ _ _ _ _ h
  · exact h.elim
theorem zop1_lvm (hP : ∀ d mi pc st kc ks sh f, P d mi pc st lv kc ks sh f Q → P' d mi pc st lv' kc ks sh f Q) {g : Int → zV} {d mi pc : Nat} {st : List zV} {kc ks : Nat} {sh : zH} {f : zF} : zop1 P d mi pc st lv kc ks sh f Q g → zop1 P' d mi pc st lv' kc ks sh f Q g := by
  intro h
  unfold zop1 at h ⊢
  split at h
  · exact hP _ _ _ _ _ _ _ _ h
  · exact h.elim
theorem zgetf_lvm (hP : ∀ d mi pc st kc ks sh f, P d mi pc st lv kc ks sh f Q → P' d mi pc st lv' kc ks sh f Q) {e : zE} {d mi pc : Nat} {st : List zV} {kc ks : Nat} {sh : zH} {f : zF} : zgetf P d mi pc st lv kc ks sh f Q e → zgetf P' d mi pc st lv' kc ks sh f Q e := by
  intro h
  unfold zgetf at h ⊢
  split at h
  · split at h
    · split at h
      · split at h
        · exact zb_mono (fun h => hP _ _ _ _ _ _ _ _ h) h
        · exact zb_mono (fun h => h.elim) h
        · exact zb_mono (fun h => hP _ _ _ _ _ _ _ _ h) h
        · exact zb_mono (fun h => h.elim) h
      · exact h.elim
    · exact h.elim
  · exact h.elim
theorem zputf_lvm (hP : ∀ d mi pc st kc ks sh f, P d mi pc st lv kc ks sh f Q → P' d mi pc st lv' kc ks sh f Q) {e : zE} {d mi pc : Nat} {st : List zV} {kc ks : Nat} {sh : zH} {f : zF} : zputf P d mi pc st lv kc ks sh f Q e → zputf P' d mi pc st lv' kc ks sh f Q e := by
  intro h
  unfold zputf at h ⊢
  split at h
  · split at h
    · split at h
      · exact zb_mono (fun h => hP _ _ _ _ _ _ _ _ h) h
      · exact h.elim
    · exact h.elim
  · split at h
    · split at h
      · exact zb_mono (fun h => zrB_mono (fun h => hP _ _ _ _ _ _ _ _ h) h) h
      · exact h.elim
    · exact h.elim
  · split at h
    · split at h
      · exact zb_mono (fun h => hP _ _ _ _ _ _ _ _ h) h
      · exact h.elim
    · exact h.elim
  · exact h.elim
theorem znewa_lvm (hP : ∀ d mi pc st kc ks sh f, P d mi pc st lv kc ks sh f Q → P' d mi pc st lv' kc ks sh f Q) {b : Bool} {d mi pc : Nat} {st : List zV} {kc ks : Nat} {sh : zH} {f : zF} : znewa P d mi pc st lv kc ks sh f Q b → znewa P' d mi pc st lv' kc ks sh f Q b := by
  intro h
  unfold znewa at h ⊢
  split at h
  · exact zb_mono (fun h => hP _ _ _ _ _ _ _ _ h) h
  · exact h.elim
theorem znew_lvm (hP : ∀ d mi pc st kc ks sh f, P d mi pc st lv kc ks sh f Q → P' d mi pc st lv' kc ks sh f Q) {e : zE} {d mi pc : Nat} {st : List zV} {kc ks : Nat} {sh : zH} {f : zF} : znew P d mi pc st lv kc ks sh f Q e → znew P' d mi pc st lv' kc ks sh f Q e := by
  intro h
  unfold znew at h ⊢
  split at h
  · exact zb_mono (fun h => hP _ _ _ _ _ _ _ _ h) h
  · exact h.elim
theorem zaload_lvm (hP : ∀ d mi pc st kc ks sh f, P d mi pc st lv kc ks sh f Q → P' d mi pc st lv' kc ks sh f Q) {b : Bool} {d mi pc : Nat} {st : List zV} {kc ks : Nat} {sh : zH} {f : zF} : zaload sc P d mi pc st lv kc ks sh f Q b → zaload sc P' d mi pc st lv' kc ks sh f Q b := by
  intro h
  unfold zaload at h ⊢
  split at h
  · split at h
    · exact zb_mono (fun h => zix_mono (fun h => hP _ _ _ _ _ _ _ _ h) h) h
    · exact h.elim
  · exact zb2_mono id (fun h => zix_mono (fun h => hP _ _ _ _ _ _ _ _ h) h) h
  · exact h.elim
theorem zalen_lvm (hP : ∀ d mi pc st kc ks sh f, P d mi pc st lv kc ks sh f Q → P' d mi pc st lv' kc ks sh f Q) {d mi pc : Nat} {st : List zV} {kc ks : Nat} {sh : zH} {f : zF} : zalen sc P d mi pc st lv kc ks sh f Q → zalen sc P' d mi pc st lv' kc ks sh f Q := by
  intro h
  unfold zalen at h ⊢
  split at h
  · split at h
    · exact hP _ _ _ _ _ _ _ _ h
    · exact h.elim
  · exact zb_mono (fun h => hP _ _ _ _ _ _ _ _ h) h
  · exact h.elim
theorem zastore_lvm (hP : ∀ d mi pc st kc ks sh f, P d mi pc st lv kc ks sh f Q → P' d mi pc st lv' kc ks sh f Q) {b : Bool} {d mi pc : Nat} {st : List zV} {kc ks : Nat} {sh : zH} {f : zF} : zastore P d mi pc st lv kc ks sh f Q b → zastore P' d mi pc st lv' kc ks sh f Q b := by
  intro h
  unfold zastore at h ⊢
  cases b <;> dsimp only at h ⊢
  · split at h
    · split at h
      · exact zix_mono (fun h => hP _ _ _ _ _ _ _ _ h) h
      · exact h.elim
    · exact h.elim
  · split at h
    · split at h
      · exact zix_mono (fun h => hP _ _ _ _ _ _ _ _ h) h
      · exact h.elim
    · exact h.elim
theorem zgo_lvm (hC : ∀ d j as sh f (K K' : zQ), (∀ r sh f, K r sh f → K' r sh f) → C d j (zargs 0 as) sh f K → C' d j (zargs 0 as) sh f K') (hP : ∀ d mi pc st kc ks sh f, P d mi pc st lv kc ks sh f Q → P' d mi pc st lv' kc ks sh f Q) {d mi pc : Nat} {as rest : List zV} {kc ks : Nat} {sh : zH} {f : zF} {j ml : Nat} : zgo C P d mi pc as rest lv kc ks sh f Q j ml → zgo C' P' d mi pc as rest lv' kc ks sh f Q j ml := by
  cases d with
  | zero => exact False.elim
  | succ d =>
    exact zb_mono (zb2_mono (zb_mono (fun h => hC _ _ _ _ _ _ _ (fun r sh f h => hP _ _ _ _ _ _ _ _ h) h)) (fun h => hC _ _ _ _ _ _ _ (fun r sh f h => hP _ _ _ _ _ _ _ _ h) h))
theorem zinvoke_lvm (hC : ∀ d j as sh f (K K' : zQ), (∀ r sh f, K r sh f → K' r sh f) → C d j (zargs 0 as) sh f K → C' d j (zargs 0 as) sh f K') (hP : ∀ d mi pc st kc ks sh f, P d mi pc st lv kc ks sh f Q → P' d mi pc st lv' kc ks sh f Q) {d mi pc : Nat} {st : List zV} {kc ks : Nat} {sh : zH} {f : zF} {e : zE} {v : Nat} : zinvoke C P d mi pc st lv kc ks sh f Q e v → zinvoke C' P' d mi pc st lv' kc ks sh f Q e v := by
  intro h
  unfold zinvoke at h ⊢
  split at h
  · split at h
    · exact zb_mono (fun h => zgo_lvm hC hP h) h
    · split at h
      · split at h
        · exact zb_mono (fun h => zgo_lvm hC hP h) h
        · exact h.elim
      · exact h.elim
    · split at h
      · exact zb_mono (fun h => zgo_lvm hC hP h) h
      · exact h.elim
  · split at h
    · split at h
      · exact zb_mono (fun h => zgo_lvm hC hP h) h
      · exact h.elim
    · exact h.elim
  · split at h
    · split at h
      · exact zb_mono (fun h => hP _ _ _ _ _ _ _ _ h) h
      · exact h.elim
    · exact h.elim
  · split at h
    · split at h
      · split at h
        · split at h
          · exact zb_mono (fun h => zi_mono (fun h => hP _ _ _ _ _ _ _ _ h) _ h) h
          · exact h.elim
        · exact h.elim
      · exact h.elim
    · exact h.elim
  · split at h
    · split at h
      · exact zb_mono (fun h => hP _ _ _ _ _ _ _ _ h) h
      · exact h.elim
    · exact h.elim
  · split at h
    · split at h
      · exact zb_mono (fun h => hP _ _ _ _ _ _ _ _ h) h
      · exact h.elim
    · exact h.elim
  · exact h.elim
theorem zld_lvm (hl : zle lv lv') (hP : ∀ d mi pc st kc ks sh f, P d mi pc st lv kc ks sh f Q → P' d mi pc st lv' kc ks sh f Q) {len i tk : Nat} {d mi pc : Nat} {st : List zV} {kc ks : Nat} {sh : zH} {f : zF} : zld P d mi pc st lv kc ks sh f Q len i tk → zld P' d mi pc st lv' kc ks sh f Q len i tk := by
  intro h
  unfold zld at h ⊢
  cases hz : zget i lv with
  | none => rw [hz] at h; exact h.elim
  | some v => rw [hz] at h; rw [hl _ _ hz]; exact zb_mono (fun h => hP _ _ _ _ _ _ _ _ h) h
theorem zst1_lvm (hP : ∀ v d mi pc st kc ks sh f, P d mi pc st (zset1 i v lv) kc ks sh f Q → P' d mi pc st (zset1 i v lv') kc ks sh f Q) {len : Nat} {d mi pc : Nat} {st : List zV} {kc ks : Nat} {sh : zH} {f : zF} : zst1 P d mi pc st lv kc ks sh f Q len i → zst1 P' d mi pc st lv' kc ks sh f Q len i := by
  intro h
  unfold zst1 at h ⊢
  split at h
  · exact hP _ _ _ _ _ _ _ _ _ h
  · exact h.elim
theorem zst2_lvm (hP : ∀ v d mi pc st kc ks sh f, P d mi pc st (zset2 i v lv) kc ks sh f Q → P' d mi pc st (zset2 i v lv') kc ks sh f Q) {len : Nat} {d mi pc : Nat} {st : List zV} {kc ks : Nat} {sh : zH} {f : zF} : zst2 P d mi pc st lv kc ks sh f Q len i → zst2 P' d mi pc st lv' kc ks sh f Q len i := by
  intro h
  unfold zst2 at h ⊢
  split at h
  · exact hP _ _ _ _ _ _ _ _ _ h
  · exact h.elim
theorem zstA_lvm (hP : ∀ v d mi pc st kc ks sh f, P d mi pc st (zset1 i v lv) kc ks sh f Q → P' d mi pc st (zset1 i v lv') kc ks sh f Q) {len : Nat} {d mi pc : Nat} {st : List zV} {kc ks : Nat} {sh : zH} {f : zF} : zstA P d mi pc st lv kc ks sh f Q len i → zstA P' d mi pc st lv' kc ks sh f Q len i := by
  intro h
  unfold zstA at h ⊢
  split at h
  · exact hP _ _ _ _ _ _ _ _ _ h
  · exact h.elim
theorem zstep_lvm (hC : ∀ d j as sh f (K K' : zQ), (∀ r sh f, K r sh f → K' r sh f) → C d j (zargs 0 as) sh f K → C' d j (zargs 0 as) sh f K') (hP : ∀ l l', znk l → zle l l' → ∀ d mi pc st kc ks sh f, P d mi pc st l kc ks sh f Q → P' d mi pc st l' kc ks sh f Q) (hn : znk lv) (hl : zle lv lv') {d mi pc : Nat} {st : List zV} {kc ks : Nat} {sh : zH} {f : zF} : zstep sc C P d mi pc st lv kc ks sh f Q → zstep sc C' P' d mi pc st lv' kc ks sh f Q := by
  have hP0 := hP lv lv' hn hl
  have hP1 := fun (i : Nat) (v : zV) => hP (zset1 i v lv) (zset1 i v lv') (znk_set1 hn) (zle_set1 hn hl)
  have hP2 := fun (i : Nat) (v : zV) => hP (zset2 i v lv) (zset2 i v lv') (znk_set2 hn) (zle_set2 hn hl)
  unfold zstep
  cases zAg mi pc with
  | none => exact id
  | some r =>
    obtain ⟨ins, len, e⟩ := r
    cases ins <;> first
      | exact hP0 _ _ _ _ _ _ _ _
      | exact id
      | exact zld_lvm hl hP0
      | exact zop2_lvm hP0
      | exact zlop2_lvm hP0
      | exact zop1_lvm hP0
      | exact zst1_lvm (hP1 _)
      | exact zst2_lvm (hP2 _)
      | exact zstA_lvm (hP1 _)
      | exact zgetf_lvm hP0
      | exact zputf_lvm hP0
      | exact zinvoke_lvm hC hP0
      | exact znew_lvm hP0
      | exact zalen_lvm hP0
      | exact zaload_lvm hP0
      | exact zastore_lvm hP0
      | (intro h; dsimp only at h ⊢; split at h <;> first
          | exact hP0 _ _ _ _ _ _ _ _ h
          | exact h.elim
          | exact zb_mono (fun h => hP0 _ _ _ _ _ _ _ _ h) h
          | exact zif_mono (fun h => hP0 _ _ _ _ _ _ _ _ h) (fun h => hP0 _ _ _ _ _ _ _ _ h) h
          | exact zsw_mono (fun o h => hP0 _ _ _ _ _ _ _ _ h) _ _ h
          | exact zlk_mono (fun o h => hP0 _ _ _ _ _ _ _ _ h) _ h
          | exact zie_mono (fun h => hP0 _ _ _ _ _ _ _ _ h) _ h
          | exact znewa_lvm hP0 h
          | (rename_i hx; rw [hl _ _ hx]; exact hP1 _ _ _ _ _ _ _ _ _ _ h)
          | (split at h <;> first
            | exact h
            | exact h.elim))
      | (rename_i a; cases a <;> first | exact znewa_lvm hP0 | exact id)
end LVM
theorem zR_lv {sc : zC} {d mi pc : Nat} {st : List zV} {lv lv' : zL} {kc ks : Nat} {sh : zH} {f : zF} {Q : zQ} (h : zR sc d mi pc st lv kc ks sh f Q) (hn : znk lv) (hl : zle lv lv') : zR sc d mi pc st lv' kc ks sh f Q :=
  h (zPl sc) (fun _ _ _ _ _ _ _ _ _ _ h hn _ hl => zR_fold (zstep_lvm (fun _ _ _ _ _ _ _ hK h => zC0_l hK h) (fun _ _ hn hl _ _ _ _ _ _ _ _ h => h hn _ hl) hn hl h)) hn lv' hl
def zpick : List Nat → zL → zL
  | [], _ => []
  | k :: ks, lv => match zget k lv with
    | some v => (k, v) :: zpick ks lv
    | none => zpick ks lv
theorem zpick_le : ∀ (ks : List Nat) (lv : zL), zle (zpick ks lv) lv
  | [], _, _, _, h => by cases h
  | k :: ks, lv, i, v, h => by
    unfold zpick at h
    cases hz : zget k lv with
    | none => rw [hz] at h; exact zpick_le ks lv i v h
    | some w =>
      rw [hz] at h
      have h : (bif Nat.beq k i then some w else zget i (zpick ks lv)) = some v := h
      cases hb : Nat.beq k i with
      | true =>
        rw [hb] at h
        have := Nat.eq_of_beq_eq_true hb
        subst this
        rw [hz]; exact h
      | false => rw [hb] at h; exact zpick_le ks lv i v h
theorem zpick_keys {i : Nat} : ∀ (ks : List Nat) (lv : zL), ks.contains i = false → ((zpick ks lv).map (·.1)).contains i = false
  | [], _, _ => rfl
  | k :: ks, lv, h => by
    simp only [List.contains_cons, Bool.or_eq_false_iff] at h
    unfold zpick
    cases zget k lv with
    | none => exact zpick_keys ks lv h.2
    | some w =>
      simp only [List.map_cons, List.contains_cons, Bool.or_eq_false_iff]
      exact ⟨h.1, zpick_keys ks lv h.2⟩
theorem zpick_nk : ∀ (ks : List Nat) (lv : zL), znd ks = true → znk (zpick ks lv)
  | [], _, _ => rfl
  | k :: ks, lv, h => by
    simp only [znd, Bool.and_eq_true, Bool.not_eq_true'] at h
    unfold zpick
    cases zget k lv with
    | none => exact zpick_nk ks lv h.2
    | some w =>
      unfold znk
      simp only [List.map_cons, znd, Bool.and_eq_true, Bool.not_eq_true']
      exact ⟨zpick_keys ks lv h.1, zpick_nk ks lv h.2⟩
theorem zR_pick {sc : zC} (ks0 : List Nat) {d mi pc : Nat} {st : List zV} {lv : zL} {kc ks : Nat} {sh : zH} {f : zF} {Q : zQ} (hk : znd ks0 = true) (h : zR sc d mi pc st (zpick ks0 lv) kc ks sh f Q) : zR sc d mi pc st lv kc ks sh f Q := zR_lv h (zpick_nk ks0 lv hk) (zpick_le ks0 lv)
/-- where the sum must stay within an int -/
def zov (z : Int) (A : Prop) : Prop := (-2147483648 ≤ z ∧ z ≤ 2147483647) ∧ A
theorem w32_in {z : Int} (h : -2147483648 ≤ z ∧ z ≤ 2147483647) : w32 z = z := by
  unfold w32
  exact Int.bmod_eq_of_le (by omega) (by omega)
theorem zov_i {z : Int} {A B : Prop} (g : w32 z = z → A → B) (h : zov z A) : B := g (w32_in h.1) h.2
def zop2N (P : zPr) (d mi pc : Nat) (st : List zV) (lv : zL) (kc ks : Nat) (sh : zH) (f : zF) (Q : zQ) (g : Int → Int → Int) : Prop := match st with
  | .inl y :: .inl x :: r => zov (g x y) (P d mi (pc + 1) (zI (g x y) :: r) lv kc ks sh f Q)
  | _ => False
theorem zop2N_R {P : zPr} {d mi pc : Nat} {st : List zV} {lv : zL} {kc ks : Nat} {sh : zH} {f : zF} {Q : zQ} {g : Int → Int → Int} (h : zop2N P d mi pc st lv kc ks sh f Q g) : zop2 P d mi pc st lv kc ks sh f Q (fun x y => w32 (g x y)) := by
  unfold zop2N at h
  unfold zop2
  split at h
  · refine zov_i (fun e h => ?_) h
    dsimp only
    rw [e]; exact h
  · exact h.elim
/-- a step in which sums stay within an int -/
def zstepN (sc : zC) (C : zCr) (P : zPr) : zPr := fun d mi pc st lv kc ks sh f Q => match zAg mi pc with
  | some (.iadd, _) => zop2N P d mi pc st lv kc ks sh f Q (fun x y => x + y)
  | some (.isub, _) => zop2N P d mi pc st lv kc ks sh f Q (fun x y => x - y)
  | some (.imul, _) => zop2N P d mi pc st lv kc ks sh f Q (fun x y => x * y)
  | some (.iinc i n, _) => match zget i lv with
    | some (.inl x) => zov (x + n) (P d mi (pc + 3) st (zset1 i (zI (x + n)) lv) kc ks sh f Q)
    | _ => False
  | some (.ineg, _) => match st with
    | .inl x :: r => zov (-x) (P d mi (pc + 1) (zI (-x) :: r) lv kc ks sh f Q)
    | _ => False
  | some (.idiv, _) => match st with
    | .inl y :: .inl x :: r => if y = 0 then False else zov (x.tdiv y) (P d mi (pc + 1) (zI (x.tdiv y) :: r) lv kc ks sh f Q)
    | _ => False
  | some (.l2i, _) => match st with
    | .inr (.inl x) :: r => zov x (P d mi (pc + 1) (zI x :: r) lv kc ks sh f Q)
    | _ => False
  | _ => zstep sc C P d mi pc st lv kc ks sh f Q
theorem zstepN_R {sc : zC} {C : zCr} {P : zPr} {d mi pc : Nat} {st : List zV} {lv : zL} {kc ks : Nat} {sh : zH} {f : zF} {Q : zQ} (h : zstepN sc C P d mi pc st lv kc ks sh f Q) : zstep sc C P d mi pc st lv kc ks sh f Q := by
  unfold zstepN at h
  split at h
  next e => unfold zstep; rw [e]; exact zop2N_R h
  next e => unfold zstep; rw [e]; exact zop2N_R h
  next e => unfold zstep; rw [e]; exact zop2N_R h
  next e =>
    unfold zstep; rw [e]; dsimp only
    split at h
    next hx => rw [hx]; exact zov_i (fun e h => by rw [← e] at h; exact h) h
    next => exact h.elim
  next e =>
    unfold zstep; rw [e]; dsimp only
    unfold zop1
    split at h
    · exact zov_i (fun e h => by dsimp only; rw [e]; exact h) h
    · exact h.elim
  next e =>
    unfold zstep; rw [e]; dsimp only
    split at h
    · exact zie_mono (fun h => zov_i (fun e h => by rw [e]; exact h) h) _ h
    · exact h.elim
  next e =>
    unfold zstep; rw [e]; dsimp only
    split at h
    · exact zov_i (fun e h => by dsimp only; rw [e]; exact h) h
    · exact h.elim
  next => exact h
/-- steps until a place where it is to stop (with these locals), or k of them -/
def zwn (sc : zC) (stp : Nat → Nat → Option (List Nat)) (inl nov : Nat → Bool) : Nat → zPr
  | 0 => zR sc
  | k + 1 => fun d mi pc st lv kc ks sh f Q => (bif nov mi then zstepN else zstep) sc (fun d j lv sh f K => bif inl j && (Nat.ble zNI j && Nat.ble (zRk j) 3) then zwn sc stp inl nov k d j 0 [] lv 0 0 sh f K else zC0 (zR sc) d j lv sh f K)
      (fun d mi pc st lv kc ks sh f Q => match stp mi pc with
        | some l => bif znd l then zR sc d mi pc st (zpick l lv) kc ks sh f Q else False
        | none => zwn sc stp inl nov k d mi pc st lv kc ks sh f Q) d mi pc st lv kc ks sh f Q
theorem zwn_R {sc : zC} {stp : Nat → Nat → Option (List Nat)} {inl nov : Nat → Bool} : ∀ (k : Nat) {d mi pc : Nat} {st : List zV} {lv : zL} {kc ks : Nat} {sh : zH} {f : zF} {Q : zQ}, zwn sc stp inl nov k d mi pc st lv kc ks sh f Q → zR sc d mi pc st lv kc ks sh f Q
  | 0, _, _, _, _, _, _, _, _, _, _, h => h
  | k + 1, d, mi, pc, st, lv, kc, ks, sh, f, Q, h => by
    apply zR_fold
    replace h : zstep sc (fun d j lv sh f K => bif inl j && (Nat.ble zNI j && Nat.ble (zRk j) 3) then zwn sc stp inl nov k d j 0 [] lv 0 0 sh f K else zC0 (zR sc) d j lv sh f K)
      (fun d mi pc st lv kc ks sh f Q => match stp mi pc with
        | some l => bif znd l then zR sc d mi pc st (zpick l lv) kc ks sh f Q else False
        | none => zwn sc stp inl nov k d mi pc st lv kc ks sh f Q) d mi pc st lv kc ks sh f Q := by
      unfold zwn at h
      cases hb : nov mi with
      | true => rw [hb] at h; exact zstepN_R h
      | false => rw [hb] at h; exact h
    have h2 := zstep_mono (sc := sc) (C' := zC0 (zR sc)) (P' := zR sc) (δ := 0) (Q' := Q) (fun d j lv sh f K K' hK h => by
      rw [Nat.zero_add]
      cases hb : inl j && (Nat.ble zNI j && Nat.ble (zRk j) 3) with
      | true =>
        rw [hb] at h
        simp only [Bool.and_eq_true] at hb
        refine ⟨K, zwn_R k h, ?_⟩
        have hn : Nat.blt j zNI = false := by
          have h3 := Nat.le_of_ble_eq_true hb.2.1
          cases h4 : Nat.blt j zNI with
          | false => rfl
          | true =>
            have h5 : j + 1 ≤ zNI := Nat.le_of_ble_eq_true h4
            omega
        rw [hn]
        exact zret_mono hK (zret_self hb.2.2 sh K)
      | false =>
        rw [hb] at h
        obtain ⟨Q0, h1, h2⟩ := h
        exact ⟨Q0, h1, zret_mono hK h2⟩) (fun d mi pc st lv kc ks sh f h => by
      rw [Nat.zero_add]
      cases hb : stp mi pc with
      | some l =>
        rw [hb] at h
        have h : (bif znd l then zR sc d mi pc st (zpick l lv) kc ks sh f Q else False) := h
        cases hd : znd l with
        | true => rw [hd] at h; exact zR_pick l hd h
        | false => rw [hd] at h; exact h.elim
      | none => rw [hb] at h; exact zwn_R k h) (fun _ _ _ h => h) h
    rw [Nat.zero_add] at h2
    exact h2
end
