noncomputable section
/-! THE JUDGEMENT: the least one that is closed under steps -/
def zC0 (P : zPr) : zCr := fun d j lv sh f K => ∃ Q0 : zQ, P d j 0 [] lv 0 0 sh f Q0 ∧ zret (zRk j) (Nat.blt j zNI) sh Q0 K
def zR (sc : zC) : zPr := fun d mi pc st lv kc ks sh f Q => ∀ P : zPr, (∀ d mi pc st lv kc ks sh f Q, zstep sc (zC0 P) P d mi pc st lv kc ks sh f Q → P d mi pc st lv kc ks sh f Q) → P d mi pc st lv kc ks sh f Q
section RR
variable {sc : zC} {d mi pc : Nat} {st : List zV} {lv : zL} {kc ks : Nat} {sh : zH} {f : zF} {Q Q' : zQ}
theorem zR_fold (h : zstep sc (zC0 (zR sc)) (zR sc) d mi pc st lv kc ks sh f Q) : zR sc d mi pc st lv kc ks sh f Q := by
  intro P hP
  apply hP
  have h2 := zstep_mono (C' := zC0 P) (P' := P) (δ := 0) (Q' := Q) (fun d j lv sh f K K' hK ⟨Q0, h1, h2⟩ => ⟨Q0, by rw [Nat.zero_add]; exact h1 P hP, zret_mono hK h2⟩) (fun d mi pc st lv kc ks sh f h1 => by rw [Nat.zero_add]; exact h1 P hP) (fun _ _ _ h => h) h
  rw [Nat.zero_add] at h2
  exact h2
theorem zR_up (δ : Nat) (h : zR sc d mi pc st lv kc ks sh f Q) (hQ : ∀ r sh f, Q r sh f → Q' r sh f) : zR sc (δ + d) mi pc st lv kc ks sh f Q' := by
  refine h (fun d mi pc st lv kc ks sh f Q => ∀ Q' : zQ, (∀ r sh f, Q r sh f → Q' r sh f) → zR sc (δ + d) mi pc st lv kc ks sh f Q') ?_ Q' hQ
  intro d mi pc st lv kc ks sh f Q h Q' hq
  apply zR_fold
  exact zstep_mono (δ := δ) (fun d j lv sh f K K' hK ⟨Q0, h1, h2⟩ => ⟨Q0, h1 Q0 (fun _ _ _ h => h), zret_mono hK h2⟩) (fun d mi pc st lv kc ks sh f h1 => h1 Q' hq) hq h
theorem zR_imp (h : zR sc d mi pc st lv kc ks sh f Q) (hQ : ∀ r sh f, Q r sh f → Q' r sh f) : zR sc d mi pc st lv kc ks sh f Q' := by
  have h2 := zR_up 0 h hQ
  rw [Nat.zero_add] at h2
  exact h2
theorem zR_le {d' : Nat} (hd : d ≤ d') (h : zR sc d mi pc st lv kc ks sh f Q) : zR sc d' mi pc st lv kc ks sh f Q := by
  have h2 := zR_up (d' - d) h (fun _ _ _ h => h)
  rw [Nat.sub_add_cancel hd] at h2
  exact h2
end RR
theorem zret_self {rk : Nat} (h : Nat.ble rk 3 = true) (sh : zH) (A : zQ) : zret rk false sh A A := by
  rcases rk with _ | _ | _ | _ | rk
  · exact fun _ h => h
  · exact fun _ _ _ h => h
  · exact fun _ _ _ h => h
  · exact fun _ _ _ h => h
  · cases h
/-- steps until a place where it is to stop, or k of them -/
def zwp (sc : zC) (stp : Nat → Nat → Bool) (inl : Nat → Bool) : Nat → zPr
  | 0 => zR sc
  | k + 1 => zstep sc (fun d j lv sh f K => bif inl j && (Nat.ble zNI j && Nat.ble (zRk j) 3) then zwp sc stp inl k d j 0 [] lv 0 0 sh f K else zC0 (zR sc) d j lv sh f K)
      (fun d mi pc st lv kc ks sh f Q => bif stp mi pc then zR sc d mi pc st lv kc ks sh f Q else zwp sc stp inl k d mi pc st lv kc ks sh f Q)
theorem zwp_R {sc : zC} {stp : Nat → Nat → Bool} {inl : Nat → Bool} : ∀ (k : Nat) {d mi pc : Nat} {st : List zV} {lv : zL} {kc ks : Nat} {sh : zH} {f : zF} {Q : zQ}, zwp sc stp inl k d mi pc st lv kc ks sh f Q → zR sc d mi pc st lv kc ks sh f Q
  | 0, _, _, _, _, _, _, _, _, _, _, h => h
  | k + 1, d, mi, pc, st, lv, kc, ks, sh, f, Q, h => by
    apply zR_fold
    have h2 := zstep_mono (sc := sc) (C' := zC0 (zR sc)) (P' := zR sc) (δ := 0) (Q' := Q) (fun d j lv sh f K K' hK h => by
      rw [Nat.zero_add]
      cases hb : inl j && (Nat.ble zNI j && Nat.ble (zRk j) 3) with
      | true =>
        rw [hb] at h
        simp only [Bool.and_eq_true] at hb
        refine ⟨K, zwp_R k h, ?_⟩
        have hn : Nat.blt j zNI = false := by
          have h3 := Nat.le_of_ble_eq_true hb.2.1
          cases h4 : Nat.blt j zNI with
          | false => rfl
          | true =>
            have h5 : j + 1 ≤ zNI := Nat.le_of_ble_eq_true h4
            omega
        rw [hn]
        exact zret_mono hK (zret_self hb.2.2 sh K)
      | false =>
        rw [hb] at h
        obtain ⟨Q0, h1, h2⟩ := h
        exact ⟨Q0, h1, zret_mono hK h2⟩) (fun d mi pc st lv kc ks sh f h => by
      rw [Nat.zero_add]
      cases hb : stp mi pc with
      | true => rw [hb] at h; exact h
      | false => rw [hb] at h; exact zwp_R k h) (fun _ _ _ h => h) h
    rw [Nat.zero_add] at h2
    exact h2
end
