noncomputable section
/-! what two runs give is given together -/
section CONJ
variable {sc : zC} {C C' C'' : zCr} {P P' P'' : zPr} {Q Q' Q'' : zQ}
theorem zix_and {i : Int} {n : Nat} {A B D : Prop} (h : A → B → D) : zix i n A → zix i n B → zix i n D := by
  unfold zix; split
  · exact h
  · exact fun k _ => k
theorem zrB_and {z : Int} {A B D : Prop} (h : A → B → D) : zrB z A → zrB z B → zrB z D := by
  unfold zrB; split
  · exact h
  · split
    · exact h
    · exact fun k _ => k
theorem zif_and {c : ClassFile.Cond} {x y : Int} {A B A' B' A'' B'' : Prop} (h : A → A' → A'') (g : B → B' → B'') : zif c x y A B → zif c x y A' B' → zif c x y A'' B'' := by
  unfold zif; cases c <;> dsimp only <;> split <;> first | exact h | exact g
theorem zsw_and {x : Int} {K K' K'' : Int → Prop} {d : Int} (h : ∀ o, K o → K' o → K'' o) : ∀ (os : List Int) (k : Int), zsw x K d k os → zsw x K' d k os → zsw x K'' d k os
  | [], _ => h d
  | o :: os, k => by
    show (if x = k then K o else zsw x K d (k + 1) os) → (if x = k then K' o else zsw x K' d (k + 1) os) → (if x = k then K'' o else zsw x K'' d (k + 1) os)
    split
    · exact h o
    · exact zsw_and h os (k + 1)
theorem zlk_and {x : Int} {K K' K'' : Int → Prop} {d : Int} (h : ∀ o, K o → K' o → K'' o) : ∀ (os : List (Int × Int)), zlk x K d os → zlk x K' d os → zlk x K'' d os
  | [] => h d
  | (a, o) :: os => by
    show (if x = a then K o else zlk x K d os) → (if x = a then K' o else zlk x K' d os) → (if x = a then K'' o else zlk x K'' d os)
    split
    · exact h o
    · exact zlk_and h os
theorem zb_and {b : Bool} {A A' A'' : Prop} (h : A → A' → A'') : (bif b then A else False) → (bif b then A' else False) → (bif b then A'' else False) := by
  cases b
  · exact fun k _ => k
  · exact h
theorem zb2_and {b : Bool} {A A' A'' B B' B'' : Prop} (h : A → A' → A'') (g : B → B' → B'') : (bif b then A else B) → (bif b then A' else B') → (bif b then A'' else B'') := by
  cases b
  · exact g
  · exact h
theorem zi_and {c : Prop} {A A' A'' : Prop} (h : A → A' → A'') : ∀ i : Decidable c, @ite Prop c i A False → @ite Prop c i A' False → @ite Prop c i A'' False := by
  intro i
  cases i with
  | isTrue k => rw [if_pos k, if_pos k, if_pos k]; exact h
  | isFalse k => rw [if_neg k, if_neg k, if_neg k]; exact fun k _ => k
theorem zie_and {c : Prop} {A A' A'' : Prop} (h : A → A' → A'') : ∀ i : Decidable c, @ite Prop c i False A → @ite Prop c i False A' → @ite Prop c i False A'' := by
  intro i
  cases i with
  | isTrue k => rw [if_pos k, if_pos k, if_pos k]; exact fun k _ => k
  | isFalse k => rw [if_neg k, if_neg k, if_neg k]; exact h
theorem zld_and (hP : ∀ d mi pc st lv kc ks sh f, P d mi pc st lv kc ks sh f Q → P' d mi pc st lv kc ks sh f Q' → P'' d mi pc st lv kc ks sh f Q'') {len i tk : Nat} {d mi pc : Nat} {st : List zV} {lv : zL} {kc ks : Nat} {sh : zH} {f : zF} : zld P d mi pc st lv kc ks sh f Q len i tk → zld P' d mi pc st lv kc ks sh f Q' len i tk → zld P'' d mi pc st lv kc ks sh f Q'' len i tk := by
  unfold zld
  cases zget i lv with
  | none => exact fun h _ => h.elim
  | some v => exact zb_and (fun h g => hP _ _ _ _ _ _ _ _ _ h g)
theorem zop2_and (hP : ∀ d mi pc st lv kc ks sh f, P d mi pc st lv kc ks sh f Q → P' d mi pc st lv kc ks sh f Q' → P'' d mi pc st lv kc ks sh f Q'') {g : Int → Int → Int} {d mi pc : Nat} {st : List zV} {lv : zL} {kc ks : Nat} {sh : zH} {f : zF} : zop2 P d mi pc st lv kc ks sh f Q g → zop2 P' d mi pc st lv kc ks sh f Q' g → zop2 P'' d mi pc st lv kc ks sh f Q'' g := by
  unfold zop2
  split
  · exact fun h g => hP _ _ _ _ _ _ _ _ _ h g
  · exact fun h _ => h.elim
theorem zlop2_and (hP : ∀ d mi pc st lv kc ks sh f, P d mi pc st lv kc ks sh f Q → P' d mi pc st lv kc ks sh f Q' → P'' d mi pc st lv kc ks sh f Q'') {g : Int → Int → Int} {d mi pc : Nat} {st : List zV} {lv : zL} {kc ks : Nat} {sh : zH} {f : zF} : zlop2 P d mi pc st lv kc ks sh f Q g → zlop2 P' d mi pc st lv kc ks sh f Q' g → zlop2 P'' d mi pc st lv kc ks sh f Q'' g := by
  unfold zlop2
  split
  · exact fun h g => hP _ _ _ _ _ _ _ _ _ h g
  · exact fun h _ => h.elim
theorem zop1_and (hP : ∀ d mi pc st lv kc ks sh f, P d mi pc st lv kc ks sh f Q → P' d mi pc st lv kc ks sh f Q' → P'' d mi pc st lv kc ks sh f Q'') {g : Int → zV} {d mi pc : Nat} {st : List zV} {lv : zL} {kc ks : Nat} {sh : zH} {f : zF} : zop1 P d mi pc st lv kc ks sh f Q g → zop1 P' d mi pc st lv kc ks sh f Q' g → zop1 P'' d mi pc st lv kc ks sh f Q'' g := by
  unfold zop1
  split
  · exact fun h g => hP _ _ _ _ _ _ _ _ _ h g
  · exact fun h _ => h.elim
theorem zst1_and (hP : ∀ d mi pc st lv kc ks sh f, P d mi pc st lv kc ks sh f Q → P' d mi pc st lv kc ks sh f Q' → P'' d mi pc st lv kc ks sh f Q'') {len i : Nat} {d mi pc : Nat} {st : List zV} {lv : zL} {kc ks : Nat} {sh : zH} {f : zF} : zst1 P d mi pc st lv kc ks sh f Q len i → zst1 P' d mi pc st lv kc ks sh f Q' len i → zst1 P'' d mi pc st lv kc ks sh f Q'' len i := by
  unfold zst1
  split
  · exact fun h g => hP _ _ _ _ _ _ _ _ _ h g
  · exact fun h _ => h.elim
theorem zst2_and (hP : ∀ d mi pc st lv kc ks sh f, P d mi pc st lv kc ks sh f Q → P' d mi pc st lv kc ks sh f Q' → P'' d mi pc st lv kc ks sh f Q'') {len i : Nat} {d mi pc : Nat} {st : List zV} {lv : zL} {kc ks : Nat} {sh : zH} {f : zF} : zst2 P d mi pc st lv kc ks sh f Q len i → zst2 P' d mi pc st lv kc ks sh f Q' len i → zst2 P'' d mi pc st lv kc ks sh f Q'' len i := by
  unfold zst2
  split
  · exact fun h g => hP _ _ _ _ _ _ _ _ _ h g
  · exact fun h _ => h.elim
theorem zstA_and (hP : ∀ d mi pc st lv kc ks sh f, P d mi pc st lv kc ks sh f Q → P' d mi pc st lv kc ks sh f Q' → P'' d mi pc st lv kc ks sh f Q'') {len i : Nat} {d mi pc : Nat} {st : List zV} {lv : zL} {kc ks : Nat} {sh : zH} {f : zF} : zstA P d mi pc st lv kc ks sh f Q len i → zstA P' d mi pc st lv kc ks sh f Q' len i → zstA P'' d mi pc st lv kc ks sh f Q'' len i := by
  unfold zstA
  split
  · exact fun h g => hP _ _ _ _ _ _ _ _ _ h g
  · exact fun h _ => h.elim
theorem zgetf_and (hP : ∀ d mi pc st lv kc ks sh f, P d mi pc st lv kc ks sh f Q → P' d mi pc st lv kc ks sh f Q' → P'' d mi pc st lv kc ks sh f Q'') {e : zE} {d mi pc : Nat} {st : List zV} {lv : zL} {kc ks : Nat} {sh : zH} {f : zF} : zgetf P d mi pc st lv kc ks sh f Q e → zgetf P' d mi pc st lv kc ks sh f Q' e → zgetf P'' d mi pc st lv kc ks sh f Q'' e := by
  unfold zgetf
  split
  · split
    · split
      · split
        · exact zb_and (fun h g => hP _ _ _ _ _ _ _ _ _ h g)
        · exact zb_and (fun h _ => h.elim)
        · exact zb_and (fun h g => hP _ _ _ _ _ _ _ _ _ h g)
        · exact zb_and (fun h _ => h.elim)
      · exact fun h _ => h.elim
    · exact fun h _ => h.elim
  · exact fun h _ => h.elim
theorem zputf_and (hP : ∀ d mi pc st lv kc ks sh f, P d mi pc st lv kc ks sh f Q → P' d mi pc st lv kc ks sh f Q' → P'' d mi pc st lv kc ks sh f Q'') {e : zE} {d mi pc : Nat} {st : List zV} {lv : zL} {kc ks : Nat} {sh : zH} {f : zF} : zputf P d mi pc st lv kc ks sh f Q e → zputf P' d mi pc st lv kc ks sh f Q' e → zputf P'' d mi pc st lv kc ks sh f Q'' e := by
  unfold zputf
  split
  · split
    · split
      · exact zb_and (fun h g => hP _ _ _ _ _ _ _ _ _ h g)
      · exact fun h _ => h.elim
    · exact fun h _ => h.elim
  · split
    · split
      · exact zb_and (fun h g => zrB_and (fun h g => hP _ _ _ _ _ _ _ _ _ h g) h g)
      · exact fun h _ => h.elim
    · exact fun h _ => h.elim
  · split
    · split
      · exact zb_and (fun h g => hP _ _ _ _ _ _ _ _ _ h g)
      · exact fun h _ => h.elim
    · exact fun h _ => h.elim
  · exact fun h _ => h.elim
theorem znewa_and (hP : ∀ d mi pc st lv kc ks sh f, P d mi pc st lv kc ks sh f Q → P' d mi pc st lv kc ks sh f Q' → P'' d mi pc st lv kc ks sh f Q'') {b : Bool} {d mi pc : Nat} {st : List zV} {lv : zL} {kc ks : Nat} {sh : zH} {f : zF} : znewa P d mi pc st lv kc ks sh f Q b → znewa P' d mi pc st lv kc ks sh f Q' b → znewa P'' d mi pc st lv kc ks sh f Q'' b := by
  unfold znewa
  split
  · exact zb_and (fun h g => hP _ _ _ _ _ _ _ _ _ h g)
  · exact fun h _ => h.elim
theorem znew_and (hP : ∀ d mi pc st lv kc ks sh f, P d mi pc st lv kc ks sh f Q → P' d mi pc st lv kc ks sh f Q' → P'' d mi pc st lv kc ks sh f Q'') {e : zE} {d mi pc : Nat} {st : List zV} {lv : zL} {kc ks : Nat} {sh : zH} {f : zF} : znew P d mi pc st lv kc ks sh f Q e → znew P' d mi pc st lv kc ks sh f Q' e → znew P'' d mi pc st lv kc ks sh f Q'' e := by
  unfold znew
  split
  · exact zb_and (fun h g => hP _ _ _ _ _ _ _ _ _ h g)
  · exact fun h _ => h.elim
theorem zaload_and (hP : ∀ d mi pc st lv kc ks sh f, P d mi pc st lv kc ks sh f Q → P' d mi pc st lv kc ks sh f Q' → P'' d mi pc st lv kc ks sh f Q'') {b : Bool} {d mi pc : Nat} {st : List zV} {lv : zL} {kc ks : Nat} {sh : zH} {f : zF} : zaload sc P d mi pc st lv kc ks sh f Q b → zaload sc P' d mi pc st lv kc ks sh f Q' b → zaload sc P'' d mi pc st lv kc ks sh f Q'' b := by
  unfold zaload
  split
  · split
    · exact zb_and (fun h g => zix_and (fun h g => hP _ _ _ _ _ _ _ _ _ h g) h g)
    · exact fun h _ => h.elim
  · exact zb2_and (fun k _ => k) (fun h g => zix_and (fun h g => hP _ _ _ _ _ _ _ _ _ h g) h g)
  · exact fun h _ => h.elim
theorem zalen_and (hP : ∀ d mi pc st lv kc ks sh f, P d mi pc st lv kc ks sh f Q → P' d mi pc st lv kc ks sh f Q' → P'' d mi pc st lv kc ks sh f Q'') {d mi pc : Nat} {st : List zV} {lv : zL} {kc ks : Nat} {sh : zH} {f : zF} : zalen sc P d mi pc st lv kc ks sh f Q → zalen sc P' d mi pc st lv kc ks sh f Q' → zalen sc P'' d mi pc st lv kc ks sh f Q'' := by
  unfold zalen
  split
  · split
    · exact fun h g => hP _ _ _ _ _ _ _ _ _ h g
    · exact fun h _ => h.elim
  · exact zb_and (fun h g => hP _ _ _ _ _ _ _ _ _ h g)
  · exact fun h _ => h.elim
theorem zastore_and (hP : ∀ d mi pc st lv kc ks sh f, P d mi pc st lv kc ks sh f Q → P' d mi pc st lv kc ks sh f Q' → P'' d mi pc st lv kc ks sh f Q'') {b : Bool} {d mi pc : Nat} {st : List zV} {lv : zL} {kc ks : Nat} {sh : zH} {f : zF} : zastore P d mi pc st lv kc ks sh f Q b → zastore P' d mi pc st lv kc ks sh f Q' b → zastore P'' d mi pc st lv kc ks sh f Q'' b := by
  unfold zastore
  cases b <;> dsimp only
  · split
    · split
      · exact zix_and (fun h g => hP _ _ _ _ _ _ _ _ _ h g)
      · exact fun h _ => h.elim
    · exact fun h _ => h.elim
  · split
    · split
      · exact zix_and (fun h g => hP _ _ _ _ _ _ _ _ _ h g)
      · exact fun h _ => h.elim
    · exact fun h _ => h.elim
theorem zgo_and (hC : ∀ d j lv sh f (K K' K'' : zQ), (∀ r sh f, K r sh f → K' r sh f → K'' r sh f) → C d j lv sh f K → C' d j lv sh f K' → C'' d j lv sh f K'') (hP : ∀ d mi pc st lv kc ks sh f, P d mi pc st lv kc ks sh f Q → P' d mi pc st lv kc ks sh f Q' → P'' d mi pc st lv kc ks sh f Q'') {d mi pc : Nat} {as rest : List zV} {lv : zL} {kc ks : Nat} {sh : zH} {f : zF} {j ml : Nat} : zgo C P d mi pc as rest lv kc ks sh f Q j ml → zgo C' P' d mi pc as rest lv kc ks sh f Q' j ml → zgo C'' P'' d mi pc as rest lv kc ks sh f Q'' j ml := by
  cases d with
  | zero => exact fun h _ => h.elim
  | succ d =>
    exact zb_and (zb2_and (zb_and (fun h g => hC _ _ _ _ _ _ _ _ (fun r sh f h g => hP _ _ _ _ _ _ _ _ _ h g) h g)) (fun h g => hC _ _ _ _ _ _ _ _ (fun r sh f h g => hP _ _ _ _ _ _ _ _ _ h g) h g))
theorem zinvoke_and (hC : ∀ d j lv sh f (K K' K'' : zQ), (∀ r sh f, K r sh f → K' r sh f → K'' r sh f) → C d j lv sh f K → C' d j lv sh f K' → C'' d j lv sh f K'') (hP : ∀ d mi pc st lv kc ks sh f, P d mi pc st lv kc ks sh f Q → P' d mi pc st lv kc ks sh f Q' → P'' d mi pc st lv kc ks sh f Q'') {d mi pc : Nat} {st : List zV} {lv : zL} {kc ks : Nat} {sh : zH} {f : zF} {e : zE} {v : Nat} : zinvoke C P d mi pc st lv kc ks sh f Q e v → zinvoke C' P' d mi pc st lv kc ks sh f Q' e v → zinvoke C'' P'' d mi pc st lv kc ks sh f Q'' e v := by
  unfold zinvoke
  split
  · split
    · exact zb_and (fun h g => zgo_and hC hP h g)
    · split
      · split
        · exact zb_and (fun h g => zgo_and hC hP h g)
        · exact fun h _ => h.elim
      · exact fun h _ => h.elim
    · split
      · exact zb_and (fun h g => zgo_and hC hP h g)
      · exact fun h _ => h.elim
  · split
    · split
      · exact zb_and (fun h g => zgo_and hC hP h g)
      · exact fun h _ => h.elim
    · exact fun h _ => h.elim
  · split
    · split
      · exact zb_and (fun h g => hP _ _ _ _ _ _ _ _ _ h g)
      · exact fun h _ => h.elim
    · exact fun h _ => h.elim
  · split
    · split
      · split
        · split
          · exact zb_and (fun h => zi_and (fun h g => hP _ _ _ _ _ _ _ _ _ h g) _ h)
          · exact fun h _ => h.elim
        · exact fun h _ => h.elim
      · exact fun h _ => h.elim
    · exact fun h _ => h.elim
  · split
    · split
      · exact zb_and (fun h g => hP _ _ _ _ _ _ _ _ _ h g)
      · exact fun h _ => h.elim
    · exact fun h _ => h.elim
  · split
    · split
      · exact zb_and (fun h g => hP _ _ _ _ _ _ _ _ _ h g)
      · exact fun h _ => h.elim
    · exact fun h _ => h.elim
  · exact fun h _ => h.elim
theorem zstep_and (hC : ∀ d j lv sh f (K K' K'' : zQ), (∀ r sh f, K r sh f → K' r sh f → K'' r sh f) → C d j lv sh f K → C' d j lv sh f K' → C'' d j lv sh f K'') (hP : ∀ d mi pc st lv kc ks sh f, P d mi pc st lv kc ks sh f Q → P' d mi pc st lv kc ks sh f Q' → P'' d mi pc st lv kc ks sh f Q'') (hQ : ∀ r sh f, Q r sh f → Q' r sh f → Q'' r sh f) {d mi pc : Nat} {st : List zV} {lv : zL} {kc ks : Nat} {sh : zH} {f : zF} : zstep sc C P d mi pc st lv kc ks sh f Q → zstep sc C' P' d mi pc st lv kc ks sh f Q' → zstep sc C'' P'' d mi pc st lv kc ks sh f Q'' := by
  unfold zstep
  cases zAg mi pc with
  | none => exact fun h _ => h.elim
  | some r =>
    obtain ⟨ins, len, e⟩ := r
    cases ins <;> first
      | exact hP _ _ _ _ _ _ _ _ _
      | exact fun h _ => h.elim
      | exact zld_and hP
      | exact zop2_and hP
      | exact zlop2_and hP
      | exact zop1_and hP
      | exact zst1_and hP
      | exact zst2_and hP
      | exact zstA_and hP
      | exact zgetf_and hP
      | exact zputf_and hP
      | exact zinvoke_and hC hP
      | exact znew_and hP
      | exact zalen_and hP
      | exact zaload_and hP
      | exact zastore_and hP
      | (dsimp only; split <;> first
          | exact hP _ _ _ _ _ _ _ _ _
          | exact fun h _ => h.elim
          | exact zb_and (fun h g => hP _ _ _ _ _ _ _ _ _ h g)
          | exact zif_and (fun h g => hP _ _ _ _ _ _ _ _ _ h g) (fun h g => hP _ _ _ _ _ _ _ _ _ h g)
          | exact zsw_and (fun o h g => hP _ _ _ _ _ _ _ _ _ h g) _ _
          | exact zlk_and (fun o h g => hP _ _ _ _ _ _ _ _ _ h g) _
          | exact zie_and (fun h g => hP _ _ _ _ _ _ _ _ _ h g) _
          | exact znewa_and hP
          | (split <;> first
            | exact hQ _ _ _
            | exact fun h _ => h.elim
            | exact zrB_and (fun h g => hQ _ _ _ h g)))
      | (rename_i a; cases a <;> first | exact znewa_and hP | exact fun h _ => h.elim)
theorem zret_and {rk : Nat} {a : Bool} {sh : zH} {A A' A'' B B' B'' : zQ} (g : ∀ r sh f, A'' r sh f → A r sh f ∧ A' r sh f) (h : ∀ r sh f, B r sh f → B' r sh f → B'' r sh f) (k : zret rk a sh A B) (k' : zret rk a sh A' B') : zret rk a sh A'' B'' := by
  revert k k'
  unfold zret
  split
  · split
    · exact fun k k' sh f q => h _ _ _ (k sh f (g _ _ _ q).1) (k' sh f (g _ _ _ q).2)
    · exact fun k k' f q => h _ _ _ (k f (g _ _ _ q).1) (k' f (g _ _ _ q).2)
  · split
    · exact fun k _ => k
    · exact fun k k' z f z1 q => h _ _ _ (k z f z1 (g _ _ _ q).1) (k' z f z1 (g _ _ _ q).2)
  · split
    · exact fun k _ => k
    · exact fun k k' z f z1 q => h _ _ _ (k z f z1 (g _ _ _ q).1) (k' z f z1 (g _ _ _ q).2)
  · split
    · exact fun k _ => k
    · exact fun k k' z f z1 q => h _ _ _ (k z f z1 (g _ _ _ q).1) (k' z f z1 (g _ _ _ q).2)
  · exact fun k _ => k
theorem zR_unfold {d mi pc : Nat} {st : List zV} {lv : zL} {kc ks : Nat} {sh : zH} {f : zF} (h : zR sc d mi pc st lv kc ks sh f Q) : zstep sc (zC0 (zR sc)) (zR sc) d mi pc st lv kc ks sh f Q := by
  refine h (fun d mi pc st lv kc ks sh f Q => zstep sc (zC0 (zR sc)) (zR sc) d mi pc st lv kc ks sh f Q) ?_
  intro d mi pc st lv kc ks sh f Q h
  have h2 := zstep_mono (C' := zC0 (zR sc)) (P' := zR sc) (δ := 0) (Q' := Q) (fun d j lv sh f K K' hK ⟨Q0, h1, h2⟩ => ⟨Q0, by rw [Nat.zero_add]; exact zR_fold h1, zret_mono hK h2⟩) (fun d mi pc st lv kc ks sh f h1 => by rw [Nat.zero_add]; exact zR_fold h1) (fun _ _ _ h => h) h
  rw [Nat.zero_add] at h2
  exact h2
/-- two conditions that a run meets it meets together -/
theorem zR_and {d mi pc : Nat} {st : List zV} {lv : zL} {kc ks : Nat} {sh : zH} {f : zF} (h : zR sc d mi pc st lv kc ks sh f Q) (k : zR sc d mi pc st lv kc ks sh f Q') : zR sc d mi pc st lv kc ks sh f (fun r sh f => Q r sh f ∧ Q' r sh f) := by
  refine h (fun d mi pc st lv kc ks sh f Q => ∀ Q' : zQ, zR sc d mi pc st lv kc ks sh f Q' → zR sc d mi pc st lv kc ks sh f (fun r sh f => Q r sh f ∧ Q' r sh f)) ?_ Q' k
  intro d mi pc st lv kc ks sh f Q h Q' k
  apply zR_fold
  refine zstep_and ?_ (fun d mi pc st lv kc ks sh f h k => h Q' k) (fun _ _ _ h k => ⟨h, k⟩) h (zR_unfold k)
  rintro d j lv sh f K K' K'' hK ⟨A, h1, h2⟩ ⟨A', k1, k2⟩
  exact ⟨_, h1 A' k1, zret_and (fun _ _ _ h => h) hK h2 k2⟩
end CONJ
end
