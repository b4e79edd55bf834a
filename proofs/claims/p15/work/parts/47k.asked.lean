noncomputable section
set_option maxRecDepth 100000 in
theorem b31_0 {sc : zC} {d : Nat} {a : Int} {f : zF} {Q : zQ} (h : if f (22) (4) < 120 then (zix (f (22) (4)) (120) (zov ((f (22) (4)) + (1)) (Q none zSH (zup (zup f (25) ((f (22) (4)).toNat) a) (22) (4) ((f (22) (4)) + (1)))))) else (Q none zSH f)) : zR sc (d + 1) 31 0 [] [(0, zP (22)), (1, zI a)] 0 0 zSH f Q := zwn_R (stp := fun _ _ => none) (inl := fun _ => false) (nov := (fun j => bif Nat.beq j 30 then false else true)) 22 h
set_option maxRecDepth 100000 in
theorem b32_0 {sc : zC} {d : Nat} {f : zF} {Q : zQ} (h : if 0 < f (22) (4) then (zov ((f (22) (4)) - (1)) (zix ((f (22) (4)) - (1)) (120) (Q (some (zI (f (25) (((f (22) (4)) - (1)).toNat)))) zSH (zup f (22) (4) ((f (22) (4)) - (1)))))) else (Q (some (zI (0))) zSH f)) : zR sc (d + 1) 32 0 [] [(0, zP (22))] 0 0 zSH f Q := zwn_R (stp := fun _ _ => none) (inl := fun _ => false) (nov := (fun j => bif Nat.beq j 30 then false else true)) 19 h
set_option maxRecDepth 100000 in
theorem b30_0 {sc : zC} {d : Nat} {a b c : Int} {f : zF} {Q : zQ} (h : if b = 33 then (if c = 0 then (Q (some (zI (1))) zSH f) else (Q (some (zI (0))) zSH f)) else if b = 37 then (if c = 0 then (Q (some (zI (0))) zSH f) else (if c = 0 then False else Q (some (zI (Int.tmod a c))) zSH f)) else if b = 38 then (if a = 0 then (Q (some (zI (0))) zSH f) else (if c = 0 then (Q (some (zI (0))) zSH f) else (Q (some (zI (1))) zSH f))) else if b = 42 then (Q (some (zI (w32 (a * c)))) zSH f) else if b = 43 then (Q (some (zI (w32 (a + c)))) zSH f) else if b = 45 then (Q (some (zI (w32 (a - c)))) zSH f) else if b = 47 then (if c = 0 then (Q (some (zI (0))) zSH f) else (if c = 0 then False else Q (some (zI (w32 (Int.tdiv a c)))) zSH f)) else if b = 60 then (if a < c then (Q (some (zI (1))) zSH f) else (Q (some (zI (0))) zSH f)) else if b = 61 then (if a = c then (Q (some (zI (1))) zSH f) else (Q (some (zI (0))) zSH f)) else if b = 62 then (if c < a then (Q (some (zI (1))) zSH f) else (Q (some (zI (0))) zSH f)) else if b = 126 then (Q (some (zI (w32 (-c)))) zSH f) else (if a = 0 then (if c = 0 then (Q (some (zI (0))) zSH f) else (Q (some (zI (1))) zSH f)) else (Q (some (zI (1))) zSH f))) : zR sc (d + 1) 30 0 [] [(0, zI a), (1, zI b), (2, zI c)] 0 0 zSH f Q := zwn_R (stp := fun _ _ => none) (inl := fun _ => false) (nov := (fun j => bif Nat.beq j 30 then false else true)) 91 h
set_option maxRecDepth 100000 in
theorem b29_0 {sc : zC} {d : Nat} {v1 v2 v3 v4 v5 v6 : Int} {f : zF} {Q : zQ} (h : if f (22) (1) = 0 then (Q (some (zI v1)) zSH f) else (zR sc (d + 1) 29 65 [] [(0, zP (22)), (7, zI (0)), (8, zI (0))] 0 0 zSH (zup (zup (zup (zup (zup (zup (zup f (24) (0) v1) (24) (1) v2) (24) (2) v3) (24) (3) v4) (24) (4) v5) (24) (5) v6) (22) (4) (0)) Q)) : zR sc (d + 1) 29 0 [] [(0, zP (22)), (1, zI v1), (2, zI v2), (3, zI v3), (4, zI v4), (5, zI v5), (6, zI v6)] 0 0 zSH f Q := zwn_R (stp := fun mi pc => bif Nat.beq mi 29 && Nat.beq pc 65 then some [0, 7, 8] else none) (inl := fun _ => false) (nov := (fun j => bif Nat.beq j 30 then false else true)) 44 h
set_option maxRecDepth 100000 in
theorem b29_65 {sc : zC} {d : Nat} {x7 x8 : Int} {f : zF} {Q : zQ} (h : if x8 < f (22) (1) then (zix x8 (121) (zov (-(f (23) (x8.toNat))) (if x7 = 0 then (if 0 < -(f (23) (x8.toNat)) then (if 6 < -(f (23) (x8.toNat)) then (if -(f (23) (x8.toNat)) = 59 then (∃ A2 : zQ, zR sc d 32 0 [] [(0, zP (22))] 0 0 zSH f A2 ∧ ∀ (r3 : Int) (f1 : zF), zIn r3 → A2 (some (zI r3)) zSH f1 → (Q (some (zI r3)) zSH f1)) else (if -(f (23) (x8.toNat)) = 63 then (∃ A5 : zQ, zR sc d 32 0 [] [(0, zP (22))] 0 0 zSH f A5 ∧ ∀ (r6 : Int) (f4 : zF), zIn r6 → A5 (some (zI r6)) zSH f4 → (if r6 = 0 then (zov (x8 + 1) (zR sc (d + 1) 29 65 [] [(0, zP (22)), (7, zI (1)), (8, zI (x8 + 1))] 0 0 zSH f4 Q)) else (zov (x8 + 1) (zR sc (d + 1) 29 65 [] [(0, zP (22)), (7, zI (0)), (8, zI (x8 + 1))] 0 0 zSH f4 Q)))) else (∃ A8 : zQ, zR sc d 32 0 [] [(0, zP (22))] 0 0 zSH f A8 ∧ ∀ (r9 : Int) (f7 : zF), zIn r9 → A8 (some (zI r9)) zSH f7 → (if -(f (23) (x8.toNat)) = 33 then (∃ A11 : zQ, zR sc d 30 0 [] [(0, zI (0)), (1, zI (-(f (23) (x8.toNat)))), (2, zI r9)] 0 0 zSH f7 A11 ∧ ∀ (r12 : Int) (f10 : zF), zIn r12 → A11 (some (zI r12)) zSH f10 → (∃ A14 : zQ, zR sc d 31 0 [] [(0, zP (22)), (1, zI r12)] 0 0 zSH f10 A14 ∧ ∀ f13 : zF, A14 none zSH f13 → (zov (x8 + 1) (zR sc (d + 1) 29 65 [] [(0, zP (22)), (7, zI x7), (8, zI (x8 + 1))] 0 0 zSH f13 Q)))) else (if -(f (23) (x8.toNat)) = 126 then (∃ A16 : zQ, zR sc d 30 0 [] [(0, zI (0)), (1, zI (-(f (23) (x8.toNat)))), (2, zI r9)] 0 0 zSH f7 A16 ∧ ∀ (r17 : Int) (f15 : zF), zIn r17 → A16 (some (zI r17)) zSH f15 → (∃ A19 : zQ, zR sc d 31 0 [] [(0, zP (22)), (1, zI r17)] 0 0 zSH f15 A19 ∧ ∀ f18 : zF, A19 none zSH f18 → (zov (x8 + 1) (zR sc (d + 1) 29 65 [] [(0, zP (22)), (7, zI x7), (8, zI (x8 + 1))] 0 0 zSH f18 Q)))) else (∃ A21 : zQ, zR sc d 32 0 [] [(0, zP (22))] 0 0 zSH f7 A21 ∧ ∀ (r22 : Int) (f20 : zF), zIn r22 → A21 (some (zI r22)) zSH f20 → (∃ A24 : zQ, zR sc d 30 0 [] [(0, zI r22), (1, zI (-(f (23) (x8.toNat)))), (2, zI r9)] 0 0 zSH f20 A24 ∧ ∀ (r25 : Int) (f23 : zF), zIn r25 → A24 (some (zI r25)) zSH f23 → (∃ A27 : zQ, zR sc d 31 0 [] [(0, zP (22)), (1, zI r25)] 0 0 zSH f23 A27 ∧ ∀ f26 : zF, A27 none zSH f26 → (zov (x8 + 1) (zR sc (d + 1) 29 65 [] [(0, zP (22)), (7, zI x7), (8, zI (x8 + 1))] 0 0 zSH f26 Q)))))))))) else (zov ((-(f (23) (x8.toNat))) - (1)) (zix ((-(f (23) (x8.toNat))) - (1)) (6) (∃ A29 : zQ, zR sc d 31 0 [] [(0, zP (22)), (1, zI (f (24) (((-(f (23) (x8.toNat))) - (1)).toNat)))] 0 0 zSH f A29 ∧ ∀ f28 : zF, A29 none zSH f28 → (zov (x8 + 1) (zR sc (d + 1) 29 65 [] [(0, zP (22)), (7, zI x7), (8, zI (x8 + 1))] 0 0 zSH f28 Q)))))) else (zix x8 (121) (∃ A31 : zQ, zR sc d 31 0 [] [(0, zP (22)), (1, zI (f (23) (x8.toNat)))] 0 0 zSH f A31 ∧ ∀ f30 : zF, A31 none zSH f30 → (zov (x8 + 1) (zR sc (d + 1) 29 65 [] [(0, zP (22)), (7, zI x7), (8, zI (x8 + 1))] 0 0 zSH f30 Q))))) else (if -(f (23) (x8.toNat)) = 59 then (zov (x8 + 1) (zR sc (d + 1) 29 65 [] [(0, zP (22)), (7, zI (0)), (8, zI (x8 + 1))] 0 0 zSH f Q)) else (zov (x8 + 1) (zR sc (d + 1) 29 65 [] [(0, zP (22)), (7, zI (1)), (8, zI (x8 + 1))] 0 0 zSH f Q)))))) else (Q (some (zI (0))) zSH f)) : zR sc (d + 1) 29 65 [] [(0, zP (22)), (7, zI x7), (8, zI x8)] 0 0 zSH f Q := zwn_R (stp := fun mi pc => bif Nat.beq mi 29 && Nat.beq pc 65 then some [0, 7, 8] else none) (inl := fun _ => false) (nov := (fun j => bif Nat.beq j 30 then false else true)) 128 h
/-! the class's law asked: what a code gives -/
def pcb (L : List Int) : Prop := ∀ c, c ∈ L → -126 ≤ c ∧ c ≤ 9999
set_option maxRecDepth 4000 in
set_option maxHeartbeats 400000 in
theorem pcb_app {L M : List Int} (h : pcb L) (g : pcb M) : pcb (L ++ M) := fun c hc => (List.mem_append.mp hc).elim (h c) (g c)
set_option maxRecDepth 4000 in
set_option maxHeartbeats 400000 in
theorem pcb_1 {a : Int} (h : -126 ≤ a ∧ a ≤ 9999) : pcb [a] := fun c hc => by rw [List.mem_singleton.mp hc]; exact h
set_option maxRecDepth 4000 in
set_option maxHeartbeats 400000 in
theorem pcb_0 : pcb [] := fun c hc => by cases hc
section CODE
variable {T : Nat → Int} {n p : Int}
set_option maxRecDepth 4000 in
set_option maxHeartbeats 400000 in
theorem pdg_m : ∀ (j : Nat) (v p : Int), ((j = 4 ∧ v ≤ 0) ∨ (j = 3 ∧ v ≤ 9) ∨ (j = 2 ∧ v ≤ 99) ∨ (j = 1 ∧ v ≤ 999) ∨ (j = 0 ∧ v ≤ 9999)) → (pdg T n j v p).1 ≤ 9999
  | 0, v, p, h => by show v ≤ 9999; omega
  | j + 1, v, p, h => by
    by_cases g : 48 ≤ nxt T n p ∧ nxt T n p ≤ 57
    · rw [pdg_s g]
      exact pdg_m j _ _ (by omega)
    · rw [pdg_e g]
      show v ≤ 9999
      omega
set_option maxRecDepth 4000 in
set_option maxHeartbeats 400000 in
theorem pps_cb : ∀ k : Nat, (∀ m o p : Int, 0 ≤ m → m ≤ 5 → pcb (pps T n k m o p).2.2) ∧ (∀ l o p : Int, 0 ≤ l → l ≤ 4 → pcb (pps T n k (10 + l) o p).2.2)
  | 0 => ⟨fun _ _ _ _ _ => pcb_0, fun _ _ _ _ _ => pcb_0⟩
  | k + 1 => by
    obtain ⟨ih1, ih2⟩ := pps_cb k
    refine ⟨fun m o p h0 h5 => ?_, fun l o p h0 h4 => ?_⟩
    · by_cases hm : m = 5
      · subst hm
        rw [pps_O]
        unfold pO
        split
        · exact pcb_1 (by
            have h1 := pdg_v (T := T) (n := n) 4 0 p (Int.le_refl _)
            have h2 := pdg_m (T := T) (n := n) 4 0 p (by omega)
            show -126 ≤ (pdg T n 4 0 p).1 ∧ (pdg T n 4 0 p).1 ≤ 9999
            omega)
        · split
          next h => exact pcb_1 (by have := pnm_b h; omega)
          next h =>
            split
            next c3 =>
              unfold pP
              split
              · split
                · split
                  · exact ih1 0 _ _ (by decide) (by decide)
                  · exact pcb_0
                · exact pcb_0
              · split
                · refine pcb_app (ih1 5 _ _ (by decide) (by decide)) (pcb_1 ?_)
                  split <;> omega
                · exact pcb_0
            next => exact pcb_0
      · rw [pps_V (by omega)]
        unfold pV
        split
        · exact pcb_app (ih1 _ _ _ (by omega) (by omega)) (ih2 _ _ _ h0 (by omega))
        · exact pcb_0
    · rw [pps_W h0]
      unfold pW
      split
      next hc =>
        have hn := plv_b (c := nxt T n p) (by omega)
        have h1 : pcb ((pps T n k (l + 1) o (p + 1)).2.2 ++ [-(nxt T n p)]) := pcb_app (ih1 _ _ _ (by omega) (by omega)) (pcb_1 (by omega))
        split
        · split
          · exact h1
          · exact pcb_app h1 (ih2 _ _ _ h0 h4)
        · exact pcb_0
      next => exact pcb_0
set_option maxRecDepth 4000 in
set_option maxHeartbeats 400000 in
theorem pln_cb {k : Nat} (hb : (pln T n (pps T n k) p).1 = true) : pcb (pln T n (pps T n k) p).2.2 ∧ ∃ L, (pln T n (pps T n k) p).2.2 = L ++ [-59] := by
  have h0 := fun p => (pps_cb (T := T) (n := n) k).1 0 0 p (by decide) (by decide)
  unfold pln at hb ⊢
  by_cases h1 : (pps T n k 0 0 p).1 = true
  · rw [if_pos h1] at hb ⊢
    by_cases h2 : nxt T n (pps T n k 0 0 p).2.1 = 63
    · rw [if_pos h2] at hb ⊢
      unfold pl2 at hb ⊢
      by_cases h3 : (pps T n k 0 0 ((pps T n k 0 0 p).2.1 + 1)).1 = true
      · rw [if_pos h3]
        exact ⟨pcb_app (pcb_app (pcb_app (h0 p) (pcb_1 (by decide))) (h0 _)) (pcb_1 (by decide)), _, rfl⟩
      · rw [if_neg h3] at hb
        cases hb
    · rw [if_neg h2]
      exact ⟨pcb_app (h0 p) (pcb_1 (by decide)), _, rfl⟩
  · rw [if_neg h1] at hb
    cases hb
set_option maxRecDepth 4000 in
set_option maxHeartbeats 400000 in
theorem ptx_cb {k : Nat} (hk : 20 * n + 7 ≤ (k : Int)) : ∀ (j : Nat) (p : Int), 0 ≤ p ∧ p ≤ n → n - p < (j : Int) → (ptx T n (pps T n k) j p).1 = true → pcb (ptx T n (pps T n k) j p).2.2 ∧ (∃ L, (ptx T n (pps T n k) j p).2.2 = L ++ [-59]) ∧ ((ptx T n (pps T n k) j p).2.2.length : Int) ≤ (ptx T n (pps T n k) j p).2.1 - p + 1
  | 0, p, hp, hj, _ => by omega
  | j + 1, p, hp, hj, hb => by
    obtain ⟨G1, G2, G3⟩ := pln_at (T := T) hk hp
    have E : ptx T n (pps T n k) (j + 1) p = if (pln T n (pps T n k) p).1 = true then (if nxt T n (pln T n (pps T n k) p).2.1 = 59 then pcat (pln T n (pps T n k) p) (ptx T n (pps T n k) j ((pln T n (pps T n k) p).2.1 + 1)) else pln T n (pps T n k) p) else pfl (pln T n (pps T n k) p) := rfl
    rw [E] at hb ⊢
    clear E
    by_cases h1 : (pln T n (pps T n k) p).1 = true
    · rw [if_pos h1] at hb ⊢
      obtain ⟨c1, c2⟩ := pln_cb h1
      obtain ⟨G4, G5⟩ := G3 h1
      by_cases h2 : nxt T n (pln T n (pps T n k) p).2.1 = 59
      · rw [if_pos h2] at hb ⊢
        have pn := nxt_lt (T := T) (n := n) (p := (pln T n (pps T n k) p).2.1) (by omega)
        obtain ⟨d1, ⟨L, d2⟩, d3⟩ := ptx_cb hk j ((pln T n (pps T n k) p).2.1 + 1) (by omega) (by omega) hb
        refine ⟨pcb_app c1 d1, ⟨(pln T n (pps T n k) p).2.2 ++ L, ?_⟩, ?_⟩
        · show (pln T n (pps T n k) p).2.2 ++ (ptx T n (pps T n k) j ((pln T n (pps T n k) p).2.1 + 1)).2.2 = _
          rw [d2, List.append_assoc]
        · show (((pln T n (pps T n k) p).2.2 ++ (ptx T n (pps T n k) j ((pln T n (pps T n k) p).2.1 + 1)).2.2).length : Int) ≤ (ptx T n (pps T n k) j ((pln T n (pps T n k) p).2.1 + 1)).2.1 - p + 1
          rw [List.length_append]
          omega
      · rw [if_neg h2]
        exact ⟨c1, c2, G4⟩
    · rw [if_neg h1] at hb
      cases hb
/-- a code that may be asked: so long, its ends, its bounds -/
def pok (L : List Int) : Prop := pcb L ∧ (∃ M, L = M ++ [-59]) ∧ L.length ≤ 121
set_option maxRecDepth 4000 in
set_option maxHeartbeats 400000 in
theorem prd_ok (hn : 0 ≤ n ∧ n ≤ 120) (h : pfa n (prd T n) = -1) : pok (prd T n).2.2 := by
  have ha := ptx_at (T := T) (n := n) (k := (20 * n + 7).toNat) (by omega) 121 0 (by omega)
  have ha : 0 ≤ (prd T n).2.1 ∧ (prd T n).2.1 ≤ n := ha
  have hb : (prd T n).1 = true := by
    cases hz : (prd T n).1 with
    | true => rfl
    | false =>
      exfalso
      unfold pfa at h
      rw [hz, if_neg (by decide)] at h
      omega
  obtain ⟨h1, h2, h3⟩ := ptx_cb (T := T) (n := n) (k := (20 * n + 7).toNat) (by omega) 121 0 (by omega) (by omega) hb
  have h3 : ((prd T n).2.2.length : Int) ≤ (prd T n).2.1 - 0 + 1 := h3
  exact ⟨h1, h2, by omega⟩
end CODE
def stk (f : zF) : List Int → Prop
  | [] => True
  | v :: st => f 25 st.length = v ∧ stk f st
def stS (f : zF) (st : List Int) : Prop := f 22 4 = (st.length : Int) ∧ stk f st
set_option maxRecDepth 4000 in
set_option maxHeartbeats 400000 in
theorem stk_keep {f f1 : zF} : ∀ {st : List Int}, (∀ j, j < st.length → f1 25 j = f 25 j) → stk f st → stk f1 st
  | [], _, _ => True.intro
  | v :: st, h, g => ⟨(h st.length (by rw [List.length_cons]; omega)).trans g.1, stk_keep (fun j hj => h j (by rw [List.length_cons]; omega)) g.2⟩
/-- only the law's stack changes -/
def sfm (f f1 : zF) : Prop := ∀ c j, c ≠ 25 → (c ≠ 22 ∨ j ≠ 4) → f1 c j = f c j
set_option maxRecDepth 4000 in
set_option maxHeartbeats 400000 in
theorem sfm_t {f f1 f2 : zF} (h : sfm f f1) (g : sfm f1 f2) : sfm f f2 := fun c j a b => (g c j a b).trans (h c j a b)
section ANS
variable {f : zF} {sc : zC} {d : Nat} {Q : zQ} {st : List Int}
set_option maxRecDepth 4000 in
set_option maxHeartbeats 400000 in
theorem s_pop {P : Int → zF → Prop} (S : stS f st) (hl : st.length ≤ 120) (g : ∀ f1, stS f1 st.tail → sfm f f1 → P (st.headD 0) f1) (hd : 1 ≤ d := by omega) : ∃ A : zQ, zR sc d 32 0 [] [(0, zP 22)] 0 0 zSH f A ∧ ∀ (r : Int) (f1 : zF), zIn r → A (some (zI r)) zSH f1 → P r f1 := by
  refine zcall1 (fun v f1 => v = st.headD 0 ∧ stS f1 st.tail ∧ sfm f f1) (zR_le hd (b32_0 (d := 0) ?_)) (fun v f1 _ h => ?_)
  · obtain ⟨S1, S2⟩ := S
    cases st with
    | nil =>
      rw [if_neg (by rw [S1]; decide)]
      exact ⟨_, rfl, rfl, ⟨S1, S2⟩, fun _ _ _ _ => rfl⟩
    | cons v st =>
      rw [List.length_cons] at S1 hl
      rw [if_pos (by omega)]
      refine zov_p (by omega) (zix_p (by omega) ⟨_, rfl, ?_, ⟨?_, stk_keep (f := f) (st := st) (fun _ _ => rfl) S2.2⟩, fun c j a b => ?_⟩)
      · rw [show (f 22 4 - 1).toNat = st.length by omega]
        exact S2.1
      · show f 22 4 - 1 = (st.length : Int)
        omega
      · rw [zup_at]
        by_cases e : c = 22
        · rw [if_pos e, if_neg (by omega)]
        · rw [if_neg e]
  · obtain ⟨rfl, h1, h2⟩ := h
    exact g f1 h1 h2
set_option maxRecDepth 4000 in
set_option maxHeartbeats 400000 in
theorem s_push {P : zF → Prop} {w : Int} (S : stS f st) (hl : st.length < 120) (g : ∀ f1, stS f1 (w :: st) → sfm f f1 → P f1) (hd : 1 ≤ d := by omega) : ∃ A : zQ, zR sc d 31 0 [] [(0, zP 22), (1, zI w)] 0 0 zSH f A ∧ ∀ f1 : zF, A none zSH f1 → P f1 := by
  refine zcall (fun f1 => stS f1 (w :: st) ∧ sfm f f1) (zR_le hd (b31_0 (d := 0) ?_)) (fun f1 h => g f1 h.1 h.2)
  obtain ⟨S1, S2⟩ := S
  rw [if_pos (by omega)]
  refine zix_p (by omega) (zov_p (by omega) ⟨⟨?_, ?_, stk_keep (f := f) (fun j hj => ?_) S2⟩, fun c j a b => ?_⟩)
  · show f 22 4 + 1 = ((w :: st).length : Int)
    rw [List.length_cons]
    omega
  · show (if (25 : Nat) = 22 then _ else zup f 25 (f 22 4).toNat w 25 st.length) = w
    rw [if_neg (by decide), zup_at, if_pos rfl, if_pos (by omega)]
  · show (if (25 : Nat) = 22 then _ else zup f 25 (f 22 4).toNat w 25 j) = f 25 j
    rw [if_neg (by decide), zup_at, if_pos rfl, if_neg (by omega)]
  · rw [zup_at]
    by_cases e : c = 22
    · rw [if_pos e, if_neg (by omega), zup_at, if_neg a]
    · rw [if_neg e, zup_at, if_neg a]
set_option maxRecDepth 4000 in
set_option maxHeartbeats 400000 in
theorem s_join {a b c : Int} (k : Q (some (zI (pjn a b c))) zSH f) (hd : 1 ≤ d := by omega) : zR sc d 30 0 [] [(0, zI a), (1, zI b), (2, zI c)] 0 0 zSH f Q := by
  refine zR_le hd (b30_0 (d := 0) ?_)
  have k' : ∀ v, pjn a b c = v → Q (some (zI v)) zSH f := fun v e => e ▸ k
  repeat' (refine zit (fun h => ?_) (fun h => ?_))
  all_goals first | contradiction | (refine k' _ ?_; unfold pjn; simp only [*, if_true, if_false, Int.reduceEq])
def cdl (f : zF) : Nat → List Int → Prop
  | _, [] => True
  | i, c :: L => f 23 i = c ∧ cdl f (i + 1) L
set_option maxRecDepth 4000 in
set_option maxHeartbeats 400000 in
theorem cdl_keep {f f1 : zF} : ∀ {L : List Int} {i : Nat}, (∀ j, f1 23 j = f 23 j) → cdl f i L → cdl f1 i L
  | [], _, _, _ => True.intro
  | c :: L, i, h, g => ⟨(h i).trans g.1, cdl_keep h g.2⟩
set_option maxHeartbeats 400000 in
set_option maxRecDepth 100000 in
theorem s_ans {nm : Nat → Int} : ∀ (L : List Int) (i : Nat) (st : List Int) (po : Bool) (f : zF), cdl f i L → f 22 1 = (i : Int) + (L.length : Int) → i + L.length ≤ 121 → st.length ≤ i → stS f st → pcb L → (L = [] ∨ ∃ M, L = M ++ [-59]) → (∀ j, j < 6 → f 24 j = nm j) → (∀ f1, sfm f f1 → Q (some (zI (pan nm L st po))) zSH f1) → zR sc (d + 2) 29 65 [] [(0, zP 22), (7, zI (pbi po)), (8, zI (i : Int))] 0 0 zSH f Q := by
  intro L
  induction L with
  | nil =>
    intro i st po f hc hlen hi hst S hb hl hn K
    rw [List.length_nil] at hlen
    refine b29_65 (d := d + 1) ?_
    rw [if_neg (by omega)]
    exact K f (fun _ _ _ _ => rfl)
  | cons c L ih =>
    intro i st po f hc hlen hi hst S hb hl hn K
    obtain ⟨hc1, hc2⟩ := hc
    rw [List.length_cons] at hlen hi
    have cb := hb c List.mem_cons_self
    have hb' : pcb L := fun a ha => hb a (List.mem_cons_of_mem _ ha)
    have hl' : L = [] ∨ ∃ M, L = M ++ [-59] := by
      rcases hl with h | ⟨M, h⟩
      · cases h
      · cases M with
        | nil =>
          injection h with h1 h2
          exact Or.inl h2
        | cons a M =>
          injection h with h1 h2
          exact Or.inr ⟨M, h2⟩
    have h120 : c ≠ -59 → i < 120 := by
      intro hne
      rcases hl with h | ⟨M, h⟩
      · cases h
      · cases M with
        | nil =>
          injection h with h1 h2
          exact absurd h1 hne
        | cons a M =>
          injection h with h1 h2
          have h2 : L = M ++ [-59] := h2
          rw [h2, List.length_append, List.length_singleton] at hi
          omega
    have go : ∀ (st' : List Int) (po' : Bool) (f' : zF), sfm f f' → stS f' st' → st'.length ≤ i + 1 → pan nm (c :: L) st po = pan nm L st' po' → zov ((i : Int) + 1) (zR sc (d + 2) 29 65 [] [(0, zP 22), (7, zI (pbi po')), (8, zI ((i : Int) + 1))] 0 0 zSH f' Q) := by
      intro st' po' f' hf hs hl2 hp
      refine zov_p (by omega) ?_
      rw [show (i : Int) + 1 = ((i + 1 : Nat) : Int) by omega]
      refine ih (i + 1) st' po' f' (cdl_keep (fun j => hf 23 j (by decide) (Or.inl (by decide))) hc2) ((hf 22 1 (by decide) (Or.inr (by decide))).trans (by omega)) (by omega) hl2 hs hb' hl' (fun j hj => (hf 24 j (by decide) (Or.inl (by decide))).trans (hn j hj)) (fun f1 h1 => ?_)
      rw [← hp]
      exact K f1 (sfm_t hf h1)
    have rf : sfm f f := fun _ _ _ _ => rfl
    refine b29_65 (d := d + 1) ?_
    rw [Int.toNat_natCast, hc1, if_pos (by omega)]
    refine zix_p (by omega) (zov_p (by omega) ?_)
    cases po with
    | true =>
      rw [if_neg (show ¬ pbi true = 0 by decide)]
      by_cases h59 : c = -59
      · rw [if_pos (by omega)]
        exact go st false f rf S (by omega) (by rw [h59]; rfl)
      · rw [if_neg (by omega)]
        exact go st true f rf S (by omega) (by
          show (if true = true then pan nm L st (decide (c ≠ -59)) else _) = _
          rw [if_pos rfl, decide_eq_true h59])
    | false =>
      rw [if_pos (show pbi false = 0 by decide)]
      have e0 : c ≠ -59 → c ≠ -63 → pan nm (c :: L) st false = pan nm L (pst nm c st) false := by
        intro h1 h2
        show (if false = true then _ else if c = -59 then _ else if c = -63 then _ else pan nm L (pst nm c st) false) = _
        rw [if_neg (by decide), if_neg h1, if_neg h2]
      by_cases h0 : 0 ≤ c
      · rw [if_neg (by omega)]
        have := h120 (by omega)
        refine zix_p (by omega) (s_push (w := c) S (by omega) (fun f1 h1 h2 => ?_))
        refine go (c :: st) false f1 h2 h1 (by rw [List.length_cons]; omega) ?_
        rw [e0 (by omega) (by omega)]
        unfold pst
        rw [if_pos h0]
      · rw [if_pos (by omega)]
        by_cases h6 : -6 ≤ c
        · rw [if_neg (by omega)]
          have := h120 (by omega)
          refine zov_p (by omega) (zix_p (by omega) (s_push S (by omega) (fun f1 h1 h2 => ?_)))
          refine go _ false f1 h2 h1 (by rw [List.length_cons]; omega) ?_
          rw [e0 (by omega) (by omega)]
          unfold pst
          rw [if_neg h0, if_pos h6, hn _ (by omega)]
        · rw [if_pos (by omega)]
          by_cases h59 : c = -59
          · rw [if_pos (by omega)]
            refine s_pop S (by omega) (fun f1 h1 h2 => ?_)
            have K := K f1 h2
            rw [h59] at K
            exact K
          · rw [if_neg (by omega)]
            have hi2 := h120 h59
            by_cases h63 : c = -63
            · rw [if_pos (by omega)]
              refine s_pop S (by omega) (fun f1 h1 h2 => ?_)
              have hlt : st.tail.length ≤ i + 1 := by rw [List.length_tail]; omega
              have ep : pan nm (c :: L) st false = pan nm L st.tail (decide (st.headD 0 = 0)) := by rw [h63]; rfl
              refine zit (fun hv => ?_) (fun hv => ?_)
              · exact go st.tail true f1 h2 h1 hlt (by rw [ep, decide_eq_true hv])
              · exact go st.tail false f1 h2 h1 hlt (by rw [ep, decide_eq_false hv])
            · rw [if_neg (by omega)]
              refine s_pop S (by omega) (fun f1 h1 h2 => ?_)
              have hlt : st.tail.length ≤ i := by rw [List.length_tail]; omega
              by_cases h33 : c = -33 ∨ c = -126
              · have ep : pan nm (c :: L) st false = pan nm L (pjn 0 (-c) (st.headD 0) :: st.tail) false := by
                  rw [e0 h59 h63]
                  unfold pst
                  rw [if_neg h0, if_neg h6, if_pos h33]
                have fin : ∃ A : zQ, zR sc (d + 1) 30 0 [] [(0, zI 0), (1, zI (-c)), (2, zI (st.headD 0))] 0 0 zSH f1 A ∧ ∀ (r : Int) (f10 : zF), zIn r → A (some (zI r)) zSH f10 → ∃ A14 : zQ, zR sc (d + 1) 31 0 [] [(0, zP 22), (1, zI r)] 0 0 zSH f10 A14 ∧ ∀ f13 : zF, A14 none zSH f13 → (zov ((i : Int) + 1) (zR sc (d + 1 + 1) 29 65 [] [(0, zP 22), (7, zI (pbi false)), (8, zI ((i : Int) + 1))] 0 0 zSH f13 Q)) :=
                  zcallE (s_join ⟨rfl, rfl⟩) (s_push h1 (by omega) (fun f3 h3 h4 => go _ false f3 (sfm_t h2 h4) h3 (by rw [List.length_cons]; omega) ep))
                rcases h33 with h33 | h33
                · rw [if_pos (by omega)]
                  exact fin
                · rw [if_neg (by omega), if_pos (by omega)]
                  exact fin
              · rw [if_neg (by omega), if_neg (by omega)]
                refine s_pop h1 (by omega) (fun f2 h3 h4 => ?_)
                refine zcallE (s_join ⟨rfl, rfl⟩) (s_push h3 (by rw [List.length_tail]; omega) (fun f3 h5 h6' => go _ false f3 (sfm_t h2 (sfm_t h4 h6')) h5 (by rw [List.length_cons, List.length_tail]; omega) ?_))
                rw [e0 h59 h63]
                unfold pst
                rw [if_neg h0, if_neg h6, if_neg h33]
/-- a law: is there a text, its code -/
abbrev zLw : Type := Bool × List Int
def lnm (a b c e g h : Int) : Nat → Int := fun i => match i with
  | 0 => a
  | 1 => b
  | 2 => c
  | 3 => e
  | 4 => g
  | _ => h
def zan (w : zLw) (a b c e g h : Int) : Int := if w.1 = true then pan (lnm a b c e g h) w.2 [] false else a
def cLw (w : zLw) (f : zF) : Prop := (w.1 = true → f 22 1 = (w.2.length : Int) ∧ cdl f 0 w.2 ∧ pok w.2) ∧ (¬ w.1 = true → f 22 1 = 0)
/-- the law's own cells: its names, its stack -/
def lfm (f f1 : zF) : Prop := ∀ c j, c ≠ 24 → c ≠ 25 → (c ≠ 22 ∨ j ≠ 4) → f1 c j = f c j
set_option maxRecDepth 4000 in
set_option maxHeartbeats 400000 in
theorem s_law {w : zLw} {v1 v2 v3 v4 v5 v6 : Int} {P : Int → zF → Prop} (hw : cLw w f) (g : ∀ f1, lfm f f1 → P (zan w v1 v2 v3 v4 v5 v6) f1) (hd : 3 ≤ d := by omega) : ∃ A : zQ, zR sc d 29 0 [] [(0, zP 22), (1, zI v1), (2, zI v2), (3, zI v3), (4, zI v4), (5, zI v5), (6, zI v6)] 0 0 zSH f A ∧ ∀ (r : Int) (f1 : zF), zIn r → A (some (zI r)) zSH f1 → P r f1 := by
  refine zcall1 (fun v f1 => v = zan w v1 v2 v3 v4 v5 v6 ∧ lfm f f1) (zR_le hd (b29_0 (d := 2) ?_)) (fun v f1 _ h => by obtain ⟨rfl, h⟩ := h; exact g f1 h)
  unfold zan
  by_cases hw1 : w.1 = true
  · rw [if_pos hw1]
    obtain ⟨h1, h2, h3, h4, h5⟩ := hw.1 hw1
    have hpos : 0 < w.2.length := by
      obtain ⟨M, e⟩ := h4
      rw [e, List.length_append, List.length_singleton]
      omega
    rw [if_neg (by omega)]
    refine s_ans (d := 1) (nm := lnm v1 v2 v3 v4 v5 v6) w.2 0 [] false _ (cdl_keep (f := f) (fun _ => rfl) h2) (by show f 22 1 = _; omega) (by omega) (Nat.le_refl _) ⟨rfl, True.intro⟩ h3 (Or.inr h4) (fun j hj => ?_) (fun f1 h => ⟨_, rfl, rfl, fun c j a b e => ?_⟩)
    · match j, hj with
      | 0, _ => rfl
      | 1, _ => rfl
      | 2, _ => rfl
      | 3, _ => rfl
      | 4, _ => rfl
      | 5, _ => rfl
      | n + 6, h => omega
    · rw [h c j b e]
      simp only [zup_at]
      by_cases e22 : c = 22
      · rw [if_pos e22, if_neg (by omega), if_neg a, if_neg a, if_neg a, if_neg a, if_neg a, if_neg a]
      · rw [if_neg e22, if_neg a, if_neg a, if_neg a, if_neg a, if_neg a, if_neg a]
  · rw [if_neg hw1, if_pos (hw.2 hw1)]
    exact ⟨_, rfl, rfl, fun _ _ _ _ _ => rfl⟩
end ANS
end
