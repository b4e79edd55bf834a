noncomputable section
/-! how the pure machine's state lies in the machine's -/
def zrv (ads : List Nat) (sa : Nat → Nat) : zV → Value → Prop
  | .inl z, w => w = .int (Int32.ofInt z) ∧ zIn z
  | .inr (.inl z), w => w = .long (Int64.ofInt z) ∧ zIn64 z
  | .inr (.inr (.inl k)), w => ∃ a, ads[k]? = some a ∧ w = .ref a
  | .inr (.inr (.inr t)), w => w = .ref (sa t)
def zrs (ads : List Nat) (sa : Nat → Nat) : List zV → List Value → Prop
  | [], [] => True
  | v :: vs, w :: ws => zrv ads sa v w ∧ zrs ads sa vs ws
  | _, _ => False
def zrl (ads : List Nat) (sa : Nat → Nat) : zL → List (Nat × Value) → Prop
  | [], [] => True
  | (i, v) :: vs, (j, w) :: ws => (i = j ∧ zrv ads sa v w) ∧ zrl ads sa vs ws
  | _, _ => False
def zrk (ads : List Nat) (g : Nat → Int) (j : Nat) : (Nat ⊕ Nat) → Value → Prop
  | .inl k, w => ∃ a, ads[k]? = some a ∧ w = .ref a
  | .inr n, w => if n = 2 then w = .null else w = .int (Int32.ofInt (g j)) ∧ zIn (g j)
def zre (ads : List Nat) (tys : List (ClassId × FieldType)) (g : Nat → Int) : zSh → va_E → Prop
  | .inl (ci, ks), x => ∃ fs, x = .inr (ci, fs) ∧ fs.length = ks.length ∧ ∀ j kd, ks[j]? = some kd → ∃ w, fs[j]? = some w ∧ zrk ads g j kd w
  | .inr (false, n), x => ∃ (cA : ClassId) (t : Nat) (h : Nat → Int32), tys[t]? = some (cA, FieldType.int) ∧ x = .inl (cA, n, .inl h) ∧ n < 2147483648 ∧ ∀ j, h j = Int32.ofInt (g j) ∧ zIn (g j)
  | .inr (true, n), x => ∃ (cA : ClassId) (t : Nat) (h : Nat → Int64), tys[t]? = some (cA, FieldType.long) ∧ x = .inl (cA, n, .inr (.inl h)) ∧ n < 2147483648 ∧ ∀ j, h j = Int64.ofInt (g j) ∧ zIn64 (g j)
def zrw (ads : List Nat) (tys : List (ClassId × FieldType)) (sh : zH) (f : zF) (ws : va_W) : Prop :=
  ads.length = sh.length ∧ ws.length = sh.length ∧ ∀ c s, sh[c]? = some s → ∃ a x, ads[c]? = some a ∧ ws[c]? = some (a, x) ∧ zre ads tys (f c) s x
theorem zrv_cat {ads : List Nat} {sa : Nat → Nat} {v : zV} {w : Value} (h : zrv ads sa v w) : w.category = zcat v := by
  rcases v with z | z | k | t
  · rw [h.1]; rfl
  · rw [h.1]; rfl
  · obtain ⟨a, -, rfl⟩ := h; rfl
  · have h : w = .ref (sa t) := h
    rw [h]; rfl
theorem zrs_cats {ads : List Nat} {sa : Nat → Nat} : ∀ {vs : List zV} {ws : List Value}, zrs ads sa vs ws → (ws.map fun v => v.category).sum = zcats vs
  | [], [], _ => rfl
  | v :: vs, w :: ws, h => by
    show w.category + (ws.map fun v => v.category).sum = zcat v + zcats vs
    rw [zrv_cat h.1, zrs_cats h.2]
  | [], _ :: _, h => h.elim
  | _ :: _, [], h => h.elim
theorem zrs_len {ads : List Nat} {sa : Nat → Nat} : ∀ {vs : List zV} {ws : List Value}, zrs ads sa vs ws → ws.length = vs.length
  | [], [], _ => rfl
  | v :: vs, w :: ws, h => by rw [List.length_cons, List.length_cons, zrs_len h.2]
  | [], _ :: _, h => h.elim
  | _ :: _, [], h => h.elim
theorem zrs_take {ads : List Nat} {sa : Nat → Nat} : ∀ (n : Nat) {vs : List zV} {ws : List Value}, zrs ads sa vs ws → zrs ads sa (vs.take n) (ws.take n)
  | 0, _, _, _ => trivial
  | n + 1, [], [], _ => trivial
  | n + 1, v :: vs, w :: ws, h => ⟨h.1, zrs_take n h.2⟩
  | _ + 1, [], _ :: _, h => h.elim
  | _ + 1, _ :: _, [], h => h.elim
theorem zrs_drop {ads : List Nat} {sa : Nat → Nat} : ∀ (n : Nat) {vs : List zV} {ws : List Value}, zrs ads sa vs ws → zrs ads sa (vs.drop n) (ws.drop n)
  | 0, _, _, h => h
  | n + 1, [], [], _ => trivial
  | n + 1, v :: vs, w :: ws, h => zrs_drop n h.2
  | _ + 1, [], _ :: _, h => h.elim
  | _ + 1, _ :: _, [], h => h.elim
theorem zrs_app {ads : List Nat} {sa : Nat → Nat} : ∀ {vs : List zV} {ws : List Value} {vs' : List zV} {ws' : List Value}, zrs ads sa vs ws → zrs ads sa vs' ws' → zrs ads sa (vs ++ vs') (ws ++ ws')
  | [], [], _, _, _, h => h
  | v :: vs, w :: ws, _, _, h, h' => ⟨h.1, zrs_app h.2 h'⟩
  | [], _ :: _, _, _, h, _ => h.elim
  | _ :: _, [], _, _, h, _ => h.elim
theorem zrs_rev {ads : List Nat} {sa : Nat → Nat} : ∀ {vs : List zV} {ws : List Value}, zrs ads sa vs ws → zrs ads sa vs.reverse ws.reverse
  | [], [], _ => trivial
  | v :: vs, w :: ws, h => by
    rw [List.reverse_cons, List.reverse_cons]
    exact zrs_app (zrs_rev h.2) ⟨h.1, trivial⟩
  | [], _ :: _, h => h.elim
  | _ :: _, [], h => h.elim
theorem zrs_slots {ads : List Nat} {sa : Nat → Nat} : ∀ {vs : List zV} {ws : List Value}, zrs ads sa vs ws → (lg_sl ws).length = zlen vs
  | [], [], _ => rfl
  | v :: vs, w :: ws, h => by
    have h1 : lg_sl (w :: ws) = (if w.category = 2 then [.val w, .second] else [.val w]) ++ lg_sl ws := rfl
    rw [h1, List.length_append, zrs_slots h.2]
    show _ = zcat v + zlen vs
    rw [← zrv_cat h.1]
    rcases lv_cat w with hc | hc <;> simp [hc]
  | [], _ :: _, h => h.elim
  | _ :: _, [], h => h.elim
theorem zrl_args {ads : List Nat} {sa : Nat → Nat} : ∀ {vs : List zV} {ws : List Value} (i : Nat), zrs ads sa vs ws → zrl ads sa (zargs i vs) (lv_args i ws)
  | [], [], _, _ => trivial
  | v :: vs, w :: ws, i, h => by
    show zrl ads sa ((i, v) :: zargs (if zcat v = 2 then i + 2 else i + 1) vs) ((i, w) :: lv_args (if w.category = 2 then i + 2 else i + 1) ws)
    rw [zrv_cat h.1]
    exact ⟨⟨rfl, h.1⟩, zrl_args _ h.2⟩
  | [], _ :: _, _, h => h.elim
  | _ :: _, [], _, h => h.elim
theorem zrl_get {ads : List Nat} {sa : Nat → Nat} {i : Nat} {v : zV} : ∀ {lv : zL} {ls : List (Nat × Value)}, zrl ads sa lv ls → zget i lv = some v → ∃ (k : Nat) (w : Value), ls[k]? = some (i, w) ∧ zrv ads sa v w
  | [], [], _, h => by cases h
  | (j, x) :: lv, (j', w) :: ls, h, hg => by
    obtain ⟨⟨h1, h2⟩, h3⟩ := h
    subst h1
    simp only [zget] at hg
    cases hb : Nat.beq j i with
    | true =>
      rw [hb] at hg
      have := Nat.eq_of_beq_eq_true hb
      subst this
      cases hg
      exact ⟨0, w, rfl, h2⟩
    | false =>
      rw [hb] at hg
      obtain ⟨k, w', h4, h5⟩ := zrl_get h3 hg
      exact ⟨k + 1, w', h4, h5⟩
  | [], _ :: _, h, _ => h.elim
  | _ :: _, [], h, _ => h.elim
theorem zrl_filter {ads : List Nat} {sa : Nat → Nat} {p : Nat → Nat → Bool} : ∀ {lv : zL} {ls : List (Nat × Value)}, zrl ads sa lv ls → zrl ads sa (lv.filter (fun q => p q.1 (zcat q.2))) (ls.filter (fun q => p q.1 q.2.category))
  | [], [], _ => trivial
  | (j, x) :: lv, (j', w) :: ls, h => by
    obtain ⟨⟨h1, h2⟩, h3⟩ := h
    subst h1
    have ih := zrl_filter (p := p) h3
    simp only [List.filter_cons, zrv_cat h2]
    cases p j (zcat x) with
    | true => exact ⟨⟨rfl, h2⟩, ih⟩
    | false => exact ih
  | [], _ :: _, h => h.elim
  | _ :: _, [], h => h.elim
theorem zrl_set1 {ads : List Nat} {sa : Nat → Nat} {i : Nat} {v : zV} {w : Value} {lv : zL} {ls : List (Nat × Value)} (h : zrl ads sa lv ls) (hv : zrv ads sa v w) : zrl ads sa (zset1 i v lv) ((i, w) :: ls.filter (fun q => !(q.1 == i) && !(q.1 + 1 == i && q.2.category == 2))) :=
  ⟨⟨rfl, hv⟩, zrl_filter (p := fun a b => !(a == i) && !(a + 1 == i && b == 2)) h⟩
theorem zrl_set2 {ads : List Nat} {sa : Nat → Nat} {i : Nat} {v : zV} {w : Value} {lv : zL} {ls : List (Nat × Value)} (h : zrl ads sa lv ls) (hv : zrv ads sa v w) : zrl ads sa (zset2 i v lv) ((i, w) :: ls.filter (fun q => !(q.1 == i) && (!(q.1 == i + 1) && !(q.1 + 1 == i && q.2.category == 2)))) :=
  ⟨⟨rfl, hv⟩, zrl_filter (p := fun a b => !(a == i) && (!(a == i + 1) && !(a + 1 == i && b == 2))) h⟩
theorem zrv_more {ads la : List Nat} {sa : Nat → Nat} {v : zV} {w : Value} (h : zrv ads sa v w) : zrv (ads ++ la) sa v w := by
  rcases v with z | z | k | t
  · exact h
  · exact h
  · obtain ⟨a, h1, h2⟩ := h
    exact ⟨a, by rw [List.getElem?_append_left (List.getElem?_eq_some_iff.mp h1).1]; exact h1, h2⟩
  · exact h
theorem zrs_more {ads la : List Nat} {sa : Nat → Nat} : ∀ {vs : List zV} {ws : List Value}, zrs ads sa vs ws → zrs (ads ++ la) sa vs ws
  | [], [], _ => trivial
  | v :: vs, w :: ws, h => ⟨zrv_more h.1, zrs_more h.2⟩
  | [], _ :: _, h => h.elim
  | _ :: _, [], h => h.elim
theorem zrl_more {ads la : List Nat} {sa : Nat → Nat} : ∀ {vs : zL} {ws : List (Nat × Value)}, zrl ads sa vs ws → zrl (ads ++ la) sa vs ws
  | [], [], _ => trivial
  | (i, v) :: vs, (j, w) :: ws, h => ⟨⟨h.1.1, zrv_more h.1.2⟩, zrl_more h.2⟩
  | [], _ :: _, h => h.elim
  | _ :: _, [], h => h.elim
theorem zrk_more {ads la : List Nat} {g : Nat → Int} {j : Nat} {kd : Nat ⊕ Nat} {w : Value} (h : zrk ads g j kd w) : zrk (ads ++ la) g j kd w := by
  rcases kd with k | n
  · obtain ⟨a, h1, h2⟩ := h
    exact ⟨a, by rw [List.getElem?_append_left (List.getElem?_eq_some_iff.mp h1).1]; exact h1, h2⟩
  · exact h
theorem zre_more {ads la : List Nat} {tys lt : List (ClassId × FieldType)} {g : Nat → Int} {s : zSh} {x : va_E} (h : zre ads tys g s x) : zre (ads ++ la) (tys ++ lt) g s x := by
  rcases s with ⟨ci, ks⟩ | ⟨b, n⟩
  · obtain ⟨fs, h1, h2, h3⟩ := h
    refine ⟨fs, h1, h2, fun j kd hj => ?_⟩
    obtain ⟨w, h4, h5⟩ := h3 j kd hj
    exact ⟨w, h4, zrk_more h5⟩
  · cases b with
    | false =>
      obtain ⟨cA, t, k, h1, h2⟩ := h
      exact ⟨cA, t, k, by rw [List.getElem?_append_left (List.getElem?_eq_some_iff.mp h1).1]; exact h1, h2⟩
    | true =>
      obtain ⟨cA, t, k, h1, h2⟩ := h
      exact ⟨cA, t, k, by rw [List.getElem?_append_left (List.getElem?_eq_some_iff.mp h1).1]; exact h1, h2⟩
theorem zrw_at {ads : List Nat} {tys : List (ClassId × FieldType)} {sh : zH} {f : zF} {ws : va_W} (h : zrw ads tys sh f ws) {c a : Nat} {s : zSh} (hs : sh[c]? = some s) (ha : ads[c]? = some a) : ∃ x, ws[c]? = some (a, x) ∧ zre ads tys (f c) s x := by
  obtain ⟨a', x, h1, h2, h3⟩ := h.2.2 c s hs
  cases ha.symm.trans h1
  exact ⟨x, h2, h3⟩
/-- one cell changes -/
theorem zrw_set {ads : List Nat} {tys : List (ClassId × FieldType)} {sh : zH} {f f' : zF} {ws : va_W} (h : zrw ads tys sh f ws) {c a : Nat} {s s' : zSh} (hs : sh[c]? = some s) (ha : ads[c]? = some a) {x' : va_E} (hf : ∀ c', c' ≠ c → f' c' = f c') (hx : zre ads tys (f' c) s' x') : zrw ads tys (sh.set c s') f' (ws.set c (a, x')) := by
  refine ⟨by rw [List.length_set]; exact h.1, by rw [List.length_set, List.length_set]; exact h.2.1, fun c' t ht => ?_⟩
  by_cases hc : c' = c
  · subst hc
    have hl := (List.getElem?_eq_some_iff.mp hs).1
    rw [List.getElem?_set_self hl] at ht
    cases ht
    exact ⟨a, x', ha, by rw [List.getElem?_set_self (by rw [h.2.1]; exact hl)], hx⟩
  · rw [List.getElem?_set_ne (Ne.symm hc)] at ht
    obtain ⟨a', x, h1, h2, h3⟩ := h.2.2 c' t ht
    exact ⟨a', x, h1, by rw [List.getElem?_set_ne (Ne.symm hc)]; exact h2, by rw [hf c' hc]; exact h3⟩
theorem zset_self {α : Type} {l : List α} {c : Nat} {s : α} (h : l[c]? = some s) : l.set c s = l := by
  apply List.ext_getElem?
  intro i
  by_cases hi : i = c
  · subst hi
    rw [List.getElem?_set_self (List.getElem?_eq_some_iff.mp h).1, h]
  · rw [List.getElem?_set_ne (Ne.symm hi)]
theorem zrw_put {ads : List Nat} {tys : List (ClassId × FieldType)} {sh : zH} {f f' : zF} {ws : va_W} (h : zrw ads tys sh f ws) {c a : Nat} {s : zSh} (hs : sh[c]? = some s) (ha : ads[c]? = some a) {x' : va_E} (hf : ∀ c', c' ≠ c → f' c' = f c') (hx : zre ads tys (f' c) s x') : zrw ads tys sh f' (ws.set c (a, x')) := by
  have h2 := zrw_set (s' := s) h hs ha hf hx
  rw [zset_self hs] at h2
  exact h2
theorem zrw_push {ads : List Nat} {tys lt : List (ClassId × FieldType)} {sh : zH} {f f' : zF} {ws : va_W} (h : zrw ads tys sh f ws) {q : Nat} {s' : zSh} {x' : va_E} (hf : ∀ c', c' ≠ sh.length → f' c' = f c') (hx : zre (ads ++ [q]) (tys ++ lt) (f' sh.length) s' x') : zrw (ads ++ [q]) (tys ++ lt) (sh ++ [s']) f' (ws ++ [(q, x')]) := by
  refine ⟨by simp [h.1], by simp [h.2.1], fun c t ht => ?_⟩
  by_cases hc : c < sh.length
  · rw [List.getElem?_append_left hc] at ht
    obtain ⟨a, x, h1, h2, h3⟩ := h.2.2 c t ht
    refine ⟨a, x, ?_, ?_, ?_⟩
    · rw [List.getElem?_append_left (by rw [h.1]; exact hc)]; exact h1
    · rw [List.getElem?_append_left (by rw [h.2.1]; exact hc)]; exact h2
    · rw [hf c (by omega)]; exact zre_more h3
  · rw [List.getElem?_append_right (by omega)] at ht
    have h0 : c - sh.length = 0 := by
      have := (List.getElem?_eq_some_iff.mp ht).1
      simp at this
      omega
    have hcl : c = sh.length := by omega
    subst hcl
    rw [h0] at ht
    cases ht
    refine ⟨q, x', ?_, ?_, hx⟩
    · rw [← h.1, List.getElem?_append_right (Nat.le_refl _), Nat.sub_self]; rfl
    · rw [← h.2.1, List.getElem?_append_right (Nat.le_refl _), Nat.sub_self]; rfl
end
