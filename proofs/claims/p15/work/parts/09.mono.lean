noncomputable section
/-! a step grows with what it asks for -/
section MONO
variable {sc : zC} {C C' : zCr} {P P' : zPr} {δ : Nat} {Q Q' : zQ}
variable (hC : ∀ d j lv sh f (K K' : zQ), (∀ r sh f, K r sh f → K' r sh f) → C d j lv sh f K → C' (δ + d) j lv sh f K')
variable (hP : ∀ d mi pc st lv kc ks sh f, P d mi pc st lv kc ks sh f Q → P' (δ + d) mi pc st lv kc ks sh f Q')
variable (hQ : ∀ r sh f, Q r sh f → Q' r sh f)
theorem zix_mono {i : Int} {n : Nat} {A B : Prop} (h : A → B) : zix i n A → zix i n B := by
  unfold zix; split <;> intro k
  · exact h k
  · exact k
theorem zrB_mono {z : Int} {A B : Prop} (h : A → B) : zrB z A → zrB z B := by
  unfold zrB; split
  · exact h
  · split
    · exact h
    · exact id
theorem zif_mono {c : ClassFile.Cond} {x y : Int} {A B A' B' : Prop} (h : A → A') (g : B → B') : zif c x y A B → zif c x y A' B' := by
  unfold zif; cases c <;> dsimp only <;> split <;> first | exact h | exact g
theorem zsw_mono {x : Int} {K K' : Int → Prop} {d : Int} (h : ∀ o, K o → K' o) : ∀ (os : List Int) (k : Int), zsw x K d k os → zsw x K' d k os
  | [], _ => h d
  | o :: os, k => by
    show (if x = k then K o else zsw x K d (k + 1) os) → (if x = k then K' o else zsw x K' d (k + 1) os)
    split
    · exact h o
    · exact zsw_mono h os (k + 1)
theorem zlk_mono {x : Int} {K K' : Int → Prop} {d : Int} (h : ∀ o, K o → K' o) : ∀ (os : List (Int × Int)), zlk x K d os → zlk x K' d os
  | [] => h d
  | (a, o) :: os => by
    show (if x = a then K o else zlk x K d os) → (if x = a then K' o else zlk x K' d os)
    split
    · exact h o
    · exact zlk_mono h os
theorem zret_mono {rk : Nat} {a : Bool} {sh : zH} {A B B' : zQ} (h : ∀ r sh f, B r sh f → B' r sh f) (k : zret rk a sh A B) : zret rk a sh A B' := by
  unfold zret at k ⊢
  split at k
  · split at k
    · exact fun sh f g => h _ _ _ (k sh f g)
    · exact fun f g => h _ _ _ (k f g)
  · split at k
    · exact k
    · exact fun z f g1 g => h _ _ _ (k z f g1 g)
  · split at k
    · exact k
    · exact fun z f g1 g => h _ _ _ (k z f g1 g)
  · split at k
    · exact k
    · exact fun z f g1 g => h _ _ _ (k z f g1 g)
  · exact k
theorem zb_mono {b : Bool} {A A' : Prop} (h : A → A') : (bif b then A else False) → (bif b then A' else False) := by
  cases b
  · exact id
  · exact h
theorem zld_mono (hP : ∀ d mi pc st lv kc ks sh f, P d mi pc st lv kc ks sh f Q → P' (δ + d) mi pc st lv kc ks sh f Q') {len i tk : Nat} {d mi pc : Nat} {st : List zV} {lv : zL} {kc ks : Nat} {sh : zH} {f : zF} : zld P d mi pc st lv kc ks sh f Q len i tk → zld P' (δ + d) mi pc st lv kc ks sh f Q' len i tk := by
  intro h
  unfold zld at h ⊢
  cases hz : zget i lv with
  | none => rw [hz] at h; exact h.elim
  | some v => rw [hz] at h; exact zb_mono (fun h => hP _ _ _ _ _ _ _ _ _ h) h
theorem zop2_mono (hP : ∀ d mi pc st lv kc ks sh f, P d mi pc st lv kc ks sh f Q → P' (δ + d) mi pc st lv kc ks sh f Q') {g : Int → Int → Int} {d mi pc : Nat} {st : List zV} {lv : zL} {kc ks : Nat} {sh : zH} {f : zF} : zop2 P d mi pc st lv kc ks sh f Q g → zop2 P' (δ + d) mi pc st lv kc ks sh f Q' g := by
  intro h
  unfold zop2 at h ⊢
  split at h
  · exact hP _ _ _ _ _ _ _ _ _ h
  · exact h.elim
theorem zlop2_mono (hP : ∀ d mi pc st lv kc ks sh f, P d mi pc st lv kc ks sh f Q → P' (δ + d) mi pc st lv kc ks sh f Q') {g : Int → Int → Int} {d mi pc : Nat} {st : List zV} {lv : zL} {kc ks : Nat} {sh : zH} {f : zF} : zlop2 P d mi pc st lv kc ks sh f Q g → zlop2 P' (δ + d) mi pc st lv kc ks sh f Q' g := by
  intro h
  unfold zlop2 at h ⊢
  split at h
  · exact hP _ _ _ _ _ _ _ _ _ h
  · exact h.elim
theorem zop1_mono (hP : ∀ d mi pc st lv kc ks sh f, P d mi pc st lv kc ks sh f Q → P' (δ + d) mi pc st lv kc ks sh f Q') {g : Int → zV} {d mi pc : Nat} {st : List zV} {lv : zL} {kc ks : Nat} {sh : zH} {f : zF} : zop1 P d mi pc st lv kc ks sh f Q g → zop1 P' (δ + d) mi pc st lv kc ks sh f Q' g := by
  intro h
  unfold zop1 at h ⊢
  split at h
  · exact hP _ _ _ _ _ _ _ _ _ h
  · exact h.elim
theorem zst1_mono (hP : ∀ d mi pc st lv kc ks sh f, P d mi pc st lv kc ks sh f Q → P' (δ + d) mi pc st lv kc ks sh f Q') {len i : Nat} {d mi pc : Nat} {st : List zV} {lv : zL} {kc ks : Nat} {sh : zH} {f : zF} : zst1 P d mi pc st lv kc ks sh f Q len i → zst1 P' (δ + d) mi pc st lv kc ks sh f Q' len i := by
  intro h
  unfold zst1 at h ⊢
  split at h
  · exact hP _ _ _ _ _ _ _ _ _ h
  · exact h.elim
theorem zst2_mono (hP : ∀ d mi pc st lv kc ks sh f, P d mi pc st lv kc ks sh f Q → P' (δ + d) mi pc st lv kc ks sh f Q') {len i : Nat} {d mi pc : Nat} {st : List zV} {lv : zL} {kc ks : Nat} {sh : zH} {f : zF} : zst2 P d mi pc st lv kc ks sh f Q len i → zst2 P' (δ + d) mi pc st lv kc ks sh f Q' len i := by
  intro h
  unfold zst2 at h ⊢
  split at h
  · exact hP _ _ _ _ _ _ _ _ _ h
  · exact h.elim
theorem zstA_mono (hP : ∀ d mi pc st lv kc ks sh f, P d mi pc st lv kc ks sh f Q → P' (δ + d) mi pc st lv kc ks sh f Q') {len i : Nat} {d mi pc : Nat} {st : List zV} {lv : zL} {kc ks : Nat} {sh : zH} {f : zF} : zstA P d mi pc st lv kc ks sh f Q len i → zstA P' (δ + d) mi pc st lv kc ks sh f Q' len i := by
  intro h
  unfold zstA at h ⊢
  split at h
  · exact hP _ _ _ _ _ _ _ _ _ h
  · exact h.elim
theorem zb2_mono {b : Bool} {A A' B B' : Prop} (h : A → A') (g : B → B') : (bif b then A else B) → (bif b then A' else B') := by
  cases b
  · exact g
  · exact h
theorem zi_mono {c : Prop} {A A' : Prop} (h : A → A') : ∀ i : Decidable c, @ite Prop c i A False → @ite Prop c i A' False := by
  intro i
  cases i with
  | isTrue k => rw [if_pos k, if_pos k]; exact h
  | isFalse k => rw [if_neg k, if_neg k]; exact id
theorem zie_mono {c : Prop} {A A' : Prop} (h : A → A') : ∀ i : Decidable c, @ite Prop c i False A → @ite Prop c i False A' := by
  intro i
  cases i with
  | isTrue k => rw [if_pos k, if_pos k]; exact id
  | isFalse k => rw [if_neg k, if_neg k]; exact h
theorem zgetf_mono (hP : ∀ d mi pc st lv kc ks sh f, P d mi pc st lv kc ks sh f Q → P' (δ + d) mi pc st lv kc ks sh f Q') {e : zE} {d mi pc : Nat} {st : List zV} {lv : zL} {kc ks : Nat} {sh : zH} {f : zF} : zgetf P d mi pc st lv kc ks sh f Q e → zgetf P' (δ + d) mi pc st lv kc ks sh f Q' e := by
  intro h
  unfold zgetf at h ⊢
  split at h
  · split at h
    · split at h
      · split at h
        · exact zb_mono (fun h => hP _ _ _ _ _ _ _ _ _ h) h
        · exact zb_mono (fun h => h.elim) h
        · exact zb_mono (fun h => hP _ _ _ _ _ _ _ _ _ h) h
        · exact zb_mono (fun h => h.elim) h
      · exact h.elim
    · exact h.elim
  · exact h.elim
theorem zputf_mono (hP : ∀ d mi pc st lv kc ks sh f, P d mi pc st lv kc ks sh f Q → P' (δ + d) mi pc st lv kc ks sh f Q') {e : zE} {d mi pc : Nat} {st : List zV} {lv : zL} {kc ks : Nat} {sh : zH} {f : zF} : zputf P d mi pc st lv kc ks sh f Q e → zputf P' (δ + d) mi pc st lv kc ks sh f Q' e := by
  intro h
  unfold zputf at h ⊢
  split at h
  · split at h
    · split at h
      · exact zb_mono (fun h => hP _ _ _ _ _ _ _ _ _ h) h
      · exact h.elim
    · exact h.elim
  · split at h
    · split at h
      · exact zb_mono (fun h => zrB_mono (fun h => hP _ _ _ _ _ _ _ _ _ h) h) h
      · exact h.elim
    · exact h.elim
  · split at h
    · split at h
      · exact zb_mono (fun h => hP _ _ _ _ _ _ _ _ _ h) h
      · exact h.elim
    · exact h.elim
  · exact h.elim
theorem znewa_mono (hP : ∀ d mi pc st lv kc ks sh f, P d mi pc st lv kc ks sh f Q → P' (δ + d) mi pc st lv kc ks sh f Q') {b : Bool} {d mi pc : Nat} {st : List zV} {lv : zL} {kc ks : Nat} {sh : zH} {f : zF} : znewa P d mi pc st lv kc ks sh f Q b → znewa P' (δ + d) mi pc st lv kc ks sh f Q' b := by
  intro h
  unfold znewa at h ⊢
  split at h
  · exact zb_mono (fun h => hP _ _ _ _ _ _ _ _ _ h) h
  · exact h.elim
theorem znew_mono (hP : ∀ d mi pc st lv kc ks sh f, P d mi pc st lv kc ks sh f Q → P' (δ + d) mi pc st lv kc ks sh f Q') {e : zE} {d mi pc : Nat} {st : List zV} {lv : zL} {kc ks : Nat} {sh : zH} {f : zF} : znew P d mi pc st lv kc ks sh f Q e → znew P' (δ + d) mi pc st lv kc ks sh f Q' e := by
  intro h
  unfold znew at h ⊢
  split at h
  · exact zb_mono (fun h => hP _ _ _ _ _ _ _ _ _ h) h
  · exact h.elim
theorem zaload_mono (hP : ∀ d mi pc st lv kc ks sh f, P d mi pc st lv kc ks sh f Q → P' (δ + d) mi pc st lv kc ks sh f Q') {b : Bool} {d mi pc : Nat} {st : List zV} {lv : zL} {kc ks : Nat} {sh : zH} {f : zF} : zaload sc P d mi pc st lv kc ks sh f Q b → zaload sc P' (δ + d) mi pc st lv kc ks sh f Q' b := by
  intro h
  unfold zaload at h ⊢
  split at h
  · split at h
    · exact zb_mono (fun h => zix_mono (fun h => hP _ _ _ _ _ _ _ _ _ h) h) h
    · exact h.elim
  · exact zb2_mono id (fun h => zix_mono (fun h => hP _ _ _ _ _ _ _ _ _ h) h) h
  · exact h.elim
theorem zalen_mono (hP : ∀ d mi pc st lv kc ks sh f, P d mi pc st lv kc ks sh f Q → P' (δ + d) mi pc st lv kc ks sh f Q') {d mi pc : Nat} {st : List zV} {lv : zL} {kc ks : Nat} {sh : zH} {f : zF} : zalen sc P d mi pc st lv kc ks sh f Q → zalen sc P' (δ + d) mi pc st lv kc ks sh f Q' := by
  intro h
  unfold zalen at h ⊢
  split at h
  · split at h
    · exact hP _ _ _ _ _ _ _ _ _ h
    · exact h.elim
  · exact zb_mono (fun h => hP _ _ _ _ _ _ _ _ _ h) h
  · exact h.elim
theorem zastore_mono (hP : ∀ d mi pc st lv kc ks sh f, P d mi pc st lv kc ks sh f Q → P' (δ + d) mi pc st lv kc ks sh f Q') {b : Bool} {d mi pc : Nat} {st : List zV} {lv : zL} {kc ks : Nat} {sh : zH} {f : zF} : zastore P d mi pc st lv kc ks sh f Q b → zastore P' (δ + d) mi pc st lv kc ks sh f Q' b := by
  intro h
  unfold zastore at h ⊢
  cases b <;> dsimp only at h ⊢
  · split at h
    · split at h
      · exact zix_mono (fun h => hP _ _ _ _ _ _ _ _ _ h) h
      · exact h.elim
    · exact h.elim
  · split at h
    · split at h
      · exact zix_mono (fun h => hP _ _ _ _ _ _ _ _ _ h) h
      · exact h.elim
    · exact h.elim
theorem zgo_mono (hC : ∀ d j lv sh f (K K' : zQ), (∀ r sh f, K r sh f → K' r sh f) → C d j lv sh f K → C' (δ + d) j lv sh f K') (hP : ∀ d mi pc st lv kc ks sh f, P d mi pc st lv kc ks sh f Q → P' (δ + d) mi pc st lv kc ks sh f Q') {d mi pc : Nat} {as rest : List zV} {lv : zL} {kc ks : Nat} {sh : zH} {f : zF} {j ml : Nat} : zgo C P d mi pc as rest lv kc ks sh f Q j ml → zgo C' P' (δ + d) mi pc as rest lv kc ks sh f Q' j ml := by
  cases d with
  | zero => exact False.elim
  | succ d =>
    exact zb_mono (zb2_mono (zb_mono (fun h => hC _ _ _ _ _ _ _ (fun r sh f h => hP _ _ _ _ _ _ _ _ _ h) h)) (fun h => hC _ _ _ _ _ _ _ (fun r sh f h => hP _ _ _ _ _ _ _ _ _ h) h))
theorem zbd_mono {d δ : Nat} {b : Bool} {A A' : Prop} (h : A → A') : (bif Nat.blt 0 d && b then A else False) → (bif Nat.blt 0 (δ + d) && b then A' else False) := by
  cases d with
  | zero => exact False.elim
  | succ d => exact zb_mono h
theorem zinvoke_mono (hC : ∀ d j lv sh f (K K' : zQ), (∀ r sh f, K r sh f → K' r sh f) → C d j lv sh f K → C' (δ + d) j lv sh f K') (hP : ∀ d mi pc st lv kc ks sh f, P d mi pc st lv kc ks sh f Q → P' (δ + d) mi pc st lv kc ks sh f Q') {d mi pc : Nat} {st : List zV} {lv : zL} {kc ks : Nat} {sh : zH} {f : zF} {e : zE} {v : Nat} : zinvoke C P d mi pc st lv kc ks sh f Q e v → zinvoke C' P' (δ + d) mi pc st lv kc ks sh f Q' e v := by
  intro h
  unfold zinvoke at h ⊢
  split at h
  · split at h
    · exact zb_mono (fun h => zgo_mono hC hP h) h
    · split at h
      · split at h
        · exact zb_mono (fun h => zgo_mono hC hP h) h
        · exact h.elim
      · exact h.elim
    · split at h
      · exact zb_mono (fun h => zgo_mono hC hP h) h
      · exact h.elim
  · split at h
    · split at h
      · exact zb_mono (fun h => zgo_mono hC hP h) h
      · exact h.elim
    · exact h.elim
  · split at h
    · split at h
      · exact zbd_mono (fun h => hP _ _ _ _ _ _ _ _ _ h) h
      · exact h.elim
    · exact h.elim
  · split at h
    · split at h
      · split at h
        · split at h
          · exact zbd_mono (fun h => zi_mono (fun h => hP _ _ _ _ _ _ _ _ _ h) _ h) h
          · exact h.elim
        · exact h.elim
      · exact h.elim
    · exact h.elim
  · split at h
    · split at h
      · exact zbd_mono (fun h => hP _ _ _ _ _ _ _ _ _ h) h
      · exact h.elim
    · exact h.elim
  · split at h
    · split at h
      · exact zbd_mono (fun h => hP _ _ _ _ _ _ _ _ _ h) h
      · exact h.elim
    · exact h.elim
  · exact h.elim
theorem zstep_mono (hC : ∀ d j lv sh f (K K' : zQ), (∀ r sh f, K r sh f → K' r sh f) → C d j lv sh f K → C' (δ + d) j lv sh f K') (hP : ∀ d mi pc st lv kc ks sh f, P d mi pc st lv kc ks sh f Q → P' (δ + d) mi pc st lv kc ks sh f Q') (hQ : ∀ r sh f, Q r sh f → Q' r sh f) {d mi pc : Nat} {st : List zV} {lv : zL} {kc ks : Nat} {sh : zH} {f : zF} : zstep sc C P d mi pc st lv kc ks sh f Q → zstep sc C' P' (δ + d) mi pc st lv kc ks sh f Q' := by
  unfold zstep
  cases zAg mi pc with
  | none => exact id
  | some r =>
    obtain ⟨ins, len, e⟩ := r
    cases ins <;> first
      | exact hP _ _ _ _ _ _ _ _ _
      | exact id
      | exact zld_mono hP
      | exact zop2_mono hP
      | exact zlop2_mono hP
      | exact zop1_mono hP
      | exact zst1_mono hP
      | exact zst2_mono hP
      | exact zstA_mono hP
      | exact zgetf_mono hP
      | exact zputf_mono hP
      | exact zinvoke_mono hC hP
      | exact znew_mono hP
      | exact zalen_mono hP
      | exact zaload_mono hP
      | exact zastore_mono hP
      | (intro h; dsimp only at h ⊢; split at h <;> first
          | exact hP _ _ _ _ _ _ _ _ _ h
          | exact h.elim
          | exact zb_mono (fun h => hP _ _ _ _ _ _ _ _ _ h) h
          | exact zif_mono (fun h => hP _ _ _ _ _ _ _ _ _ h) (fun h => hP _ _ _ _ _ _ _ _ _ h) h
          | exact zsw_mono (fun o h => hP _ _ _ _ _ _ _ _ _ h) _ _ h
          | exact zlk_mono (fun o h => hP _ _ _ _ _ _ _ _ _ h) _ h
          | exact zie_mono (fun h => hP _ _ _ _ _ _ _ _ _ h) _ h
          | exact znewa_mono hP h
          | (split at h <;> first
            | exact hQ _ _ _ h
            | exact h.elim
            | exact zrB_mono (fun h => hQ _ _ _ h) h))
      | (rename_i a; cases a <;> first | exact znewa_mono hP | exact id)
end MONO
end
