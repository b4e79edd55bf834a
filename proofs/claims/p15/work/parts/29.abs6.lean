noncomputable section
/-! loops and methods -/
abbrev aQ : Type := Bool × aA
def aevq (ρ : Nat → Int) (q : aQ) : Int := bif q.1 then aev ρ q.2 else -aev ρ q.2
def aSbq (σ : List aA) (q : aQ) : aQ := (q.1, aSb σ q.2)
def aBAq (n : Nat) (q : aQ) : Bool := aBA n q.2
abbrev aHd : Type := Nat × (List aI × (aL × ((List (aK × aA) × List (aA × aA)) × List aQ)))
def aGe0 (N : List aI) (a b : aA) : Bool := (Nat.beq a.1 b.1 && ile b.2 a.2) || (match aiv N a, aiv N b with
    | some I, some J => ile J.2 I.1
    | _, _ => false)
/-- the first is the second at least, as far as is known -/
def aGe (N : List aI) (T : List aT) : Nat → aA → aA → Bool
  | 0, a, b => aGe0 N a b
  | k + 1, a, b => aGe0 N a b || T.any (fun t => (Nat.beq t.1.1 14 && aeq t.2 t.1.2.1) && (Nat.beq t.1.2.1.1 a.1 && aGe N T k (t.1.2.2.1, t.1.2.2.2 + (a.2 - t.1.2.1.2)) b))
def aLtq (N : List aI) (T : List aT) (a b : aA) : Bool := aGe N T 3 b (a.1, a.2 + 1)
def aLex (N : List aI) (T : List aT) : List aQ → List aQ → Bool
  | a :: as, b :: bs => (a.1 == b.1) && ((aMt N a.2 b.2 && aLex N T as bs) || (bif a.1 then aLtq N T a.2 b.2 else aLtq N T b.2 a.2))
  | _, _ => false
def muB : Int := 8589934592
def mu : List Int → Int
  | [] => 0
  | v :: vs => (muB - v) * (17179869185 ^ vs.length) + mu vs
def muR (l : List Int) : Prop := ∀ v ∈ l, -muB ≤ v ∧ v ≤ muB
theorem mu_in : ∀ {l : List Int}, muR l → 0 ≤ mu l ∧ mu l < 17179869185 ^ l.length
  | [], _ => by unfold mu; decide
  | v :: vs, h => by
    have h1 := h v List.mem_cons_self
    have h2 := mu_in (l := vs) (fun w hw => h w (List.mem_cons_of_mem _ hw))
    unfold muB at h1
    show 0 ≤ (8589934592 - v) * (17179869185 ^ vs.length) + mu vs ∧ (8589934592 - v) * (17179869185 ^ vs.length) + mu vs < 17179869185 ^ (vs.length + 1)
    rw [Int.pow_succ]
    generalize (17179869185 : Int) ^ vs.length = M at h2 ⊢
    have hM : 0 < M := by omega
    have a1 : 0 ≤ (8589934592 - v) * M := Int.mul_nonneg (by omega) (by omega)
    have a2 : (8589934592 - v) * M ≤ 17179869184 * M := Int.mul_le_mul_of_nonneg_right (by omega) (by omega)
    omega
def lexL : List Int → List Int → Prop
  | a :: as, b :: bs => (a = b ∧ lexL as bs) ∨ a < b
  | _, _ => False
theorem mu_lt : ∀ {l m : List Int}, muR l → muR m → l.length = m.length → lexL l m → mu m < mu l
  | [], _, _, _, _, h => by cases h
  | _ :: _, [], _, _, _, h => by cases h
  | a :: as, b :: bs, hl, hm, e, h => by
    replace e : as.length = bs.length := by simpa using e
    have hl2 : muR as := fun w hw => hl w (List.mem_cons_of_mem _ hw)
    have hm2 : muR bs := fun w hw => hm w (List.mem_cons_of_mem _ hw)
    show (muB - b) * (17179869185 ^ bs.length) + mu bs < (muB - a) * (17179869185 ^ as.length) + mu as
    rw [e]
    rcases h with ⟨rfl, h⟩ | h
    · have := mu_lt hl2 hm2 e h
      omega
    · have p1 := mu_in hl2
      have p2 := mu_in hm2
      rw [e] at p1
      generalize (17179869185 : Int) ^ bs.length = M at p1 p2 ⊢
      have a1 : (muB - b + 1) * M ≤ (muB - a) * M := Int.mul_le_mul_of_nonneg_right (by omega) (by omega)
      rw [Int.add_mul, Int.one_mul] at a1
      omega
def aRg (N : List aI) (b : aQ) : Bool := match aiv N b.2 with
  | some J => ile (-8589934592) J.1 && ile J.2 8589934592
  | none => false
def aIdn : Nat → List aA
  | 0 => []
  | k + 1 => aIdn k ++ [(k, 0)]
def aIdc (σ : List aA) : Nat → Bool
  | 0 => true
  | k + 1 => aeq (σ.getD k (0, 0)) (k, 0) && aIdc σ k
def aBdL (lv : aL) : List aA → aL → List aA
  | σ, [] => σ
  | σ, q :: L => aBdL lv (match aget q.1 lv with
    | some a => aBdV σ q.2 a
    | none => σ) L
def aLc (N : List aI) (σ : List aA) (lv L : aL) : Bool := L.all (fun q => match aget q.1 lv with
  | some a => aMv N σ q.2 a
  | none => false)
def ane : List aV → Bool
  | [] => true
  | _ => false
def aHs (n0 : Nat) (H : aHd) (lv : aL) (S : aS) : List aA := aBdF S.2.2.2 (aBdL lv (aIdn n0) H.2.2.1) H.2.2.2.1.1
def aCk (n0 : Nat) (rk : Option (List aQ)) (H : aHd) (st : List aV) (lv : aL) (S : aS) (σ : List aA) : Bool :=
  ((ane st && aIdc σ n0) && (aLc S.1 σ lv H.2.2.1 && znd (H.2.2.1.map (·.1)))) && (((aNc2 S.1 σ 0 H.2.1 && aFc S.1 σ S.2.2.2 H.2.2.2.1.1) && H.2.2.2.1.2.all (fun p => aGe S.1 S.2.2.1 3 (aSb σ p.1) (aSb σ p.2))) && (match rk with
    | none => true
    | some r0 => aLex S.1 S.2.2.1 r0 (H.2.2.2.2.map (aSbq σ))))
def afh (pc : Nat) : List aHd → Option aHd
  | [] => none
  | H :: L => bif Nat.beq H.1 pc then some H else afh pc L
def aCut (heads : List aHd) (n0 : Nat) (rk : Option (List aQ)) : aU := fun pc st lv S => match afh pc heads with
  | none => none
  | some H => some (aCk n0 rk H st lv S (aHs n0 H lv S))
/-- names up to n0 and those of the answer -/
def aRg2 (n0 : Nat) (ret : Option aV) (post : List (aK × aA) × List (aA × aA)) (r : Option aV) (S : aS) : List aA := aBdF S.2.2.2 (match ret, r with
  | some p, some a => aBdV (aIdn n0) p a
  | _, _ => aIdn n0) post.1
def aRtC (n0 : Nat) (N1 : List aI) (ret : Option aV) (post : List (aK × aA) × List (aA × aA)) (r : Option aV) (S : aS) (σ : List aA) : Bool := (aIdc σ n0 && (match ret, r with
    | none, none => true
    | some p, some a => aMv S.1 σ p a
    | _, _ => false)) && ((aNc2 S.1 σ n0 N1 && aFc S.1 σ S.2.2.2 post.1) && post.2.all (fun p => aGe S.1 S.2.2.1 3 (aSb σ p.1) (aSb σ p.2)))
def aRt (n0 : Nat) (N1 : List aI) (ret : Option aV) (post : List (aK × aA) × List (aA × aA)) : aR := fun r S => aRtC n0 N1 ret post r S (aRg2 n0 ret post r S)
def aHck (G : aG) (sums : List aSum) (inl : Nat → Bool) (spl : aX) (fuel : Nat) (s : aSum) (heads : List aHd) (L : Nat) (H : aHd) : Bool :=
  ((Nat.ble s.2.2.1.length H.2.1.length && Nat.beq H.2.2.2.2.length L) && (H.2.2.2.2.all (aBAq H.2.1.length) && H.2.2.2.2.all (aRg H.2.1))) && aRun G s.2.2.2.2.2.1 sums inl spl fuel (aCut heads s.2.2.1.length (some H.2.2.2.2)) s.2.1 s.1 true H.1 [] H.2.2.1 (H.2.1, ([], (H.2.2.2.1.2.map aGt, H.2.2.2.1.1))) (aRt s.2.2.1.length s.2.2.2.2.2.2.1 s.2.2.2.2.2.2.2.1 s.2.2.2.2.2.2.2.2)
def aMeth (G : aG) (sums : List aSum) (inl : Nat → Bool) (spl : aX) (fuel : Nat) (s : aSum) (heads : List aHd) (L : Nat) : Bool :=
  (Nat.blt 0 s.2.2.1.length && heads.all (aHck G sums inl spl fuel s heads L)) && aRun G s.2.2.2.2.2.1 sums inl spl fuel (aCut heads s.2.2.1.length none) s.2.1 s.1 true 0 [] (aargs 0 s.2.2.2.1) (s.2.2.1, ([], ([], s.2.2.2.2.1))) (aRt s.2.2.1.length s.2.2.2.2.2.2.1 s.2.2.2.2.2.2.2.1 s.2.2.2.2.2.2.2.2)
section AMETH2
variable {G : aG} {W : List (Nat × Nat)} {sc : zC} {f0 f : zF} {ρ : Nat → Int} {S : aS} {σ : List aA}
theorem aGe0_ok {N : List aI} (hN : aNm ρ N) {a b : aA} (h : aGe0 N a b = true) : aev ρ b ≤ aev ρ a := by
  unfold aGe0 at h
  simp only [Bool.or_eq_true, Bool.and_eq_true, ile_iff] at h
  rcases h with h | h
  · have := Nat.eq_of_beq_eq_true h.1
    have h2 := h.2
    unfold aev
    rw [this]
    omega
  · split at h
    next I J hI hJ =>
      have a1 := aiv_ok hN hI
      have a2 := aiv_ok hN hJ
      rw [ile_iff] at h
      unfold aIn at a1 a2
      omega
    next => cases h
theorem aGe_ok {N : List aI} {T : List aT} (hN : aNm ρ N) (hT : ∀ t ∈ T, aev ρ t.2 = zbin t.1.1 (aev ρ t.1.2.1) (aev ρ t.1.2.2)) : ∀ {k : Nat} {a b : aA}, aGe N T k a b = true → aev ρ b ≤ aev ρ a
  | 0, a, b, h => aGe0_ok hN h
  | k + 1, a, b, h => by
    have h : (aGe0 N a b || T.any (fun t => (Nat.beq t.1.1 14 && aeq t.2 t.1.2.1) && (Nat.beq t.1.2.1.1 a.1 && aGe N T k (t.1.2.2.1, t.1.2.2.2 + (a.2 - t.1.2.1.2)) b))) = true := h
    rw [Bool.or_eq_true, List.any_eq_true] at h
    rcases h with h | ⟨t, ht, h⟩
    · exact aGe0_ok hN h
    · simp only [Bool.and_eq_true] at h
      obtain ⟨⟨h1, h2⟩, h3, h4⟩ := h
      have e := hT t ht
      rw [Nat.eq_of_beq_eq_true h1, aeq_ok h2] at e
      have e : aev ρ t.1.2.1 = (if aev ρ t.1.2.1 < aev ρ t.1.2.2 then aev ρ t.1.2.2 else aev ρ t.1.2.1) := e
      have g : aev ρ t.1.2.2 ≤ aev ρ t.1.2.1 := by
        by_cases hc : aev ρ t.1.2.1 < aev ρ t.1.2.2
        · rw [if_pos hc] at e; omega
        · omega
      have r := aGe_ok hN hT h4
      have h3 := Nat.eq_of_beq_eq_true h3
      unfold aev at g r ⊢
      rw [h3] at g
      dsimp only at r
      omega
theorem aLtq_ok {N : List aI} {T : List aT} (hN : aNm ρ N) (hT : ∀ t ∈ T, aev ρ t.2 = zbin t.1.1 (aev ρ t.1.2.1) (aev ρ t.1.2.2)) {a b : aA} (h : aLtq N T a b = true) : aev ρ a < aev ρ b := by
  have := aGe_ok hN hT h
  unfold aev at this ⊢
  dsimp only at this
  omega
theorem aLex_ok {N : List aI} {T : List aT} (hN : aNm ρ N) (hT : ∀ t ∈ T, aev ρ t.2 = zbin t.1.1 (aev ρ t.1.2.1) (aev ρ t.1.2.2)) : ∀ {l m : List aQ}, aLex N T l m = true → lexL (l.map (aevq ρ)) (m.map (aevq ρ))
  | [], _, h => by cases h
  | _ :: _, [], h => by cases h
  | (u, a) :: as, (v, b) :: bs, h => by
    have h : ((u == v) && ((aMt N a b && aLex N T as bs) || (bif u then aLtq N T a b else aLtq N T b a))) = true := h
    show (aevq ρ (u, a) = aevq ρ (v, b) ∧ lexL (as.map (aevq ρ)) (bs.map (aevq ρ))) ∨ aevq ρ (u, a) < aevq ρ (v, b)
    rw [Bool.and_eq_true] at h
    have e := eq_of_beq h.1
    subst e
    rw [Bool.or_eq_true, Bool.and_eq_true] at h
    rcases h.2 with h | h
    · refine Or.inl ⟨?_, aLex_ok hN hT h.2⟩
      unfold aevq
      rw [aMt_ok h.1 hN]
    · right
      cases u with
      | true => exact aLtq_ok hN hT h
      | false =>
        have := aLtq_ok hN hT h
        show -aev ρ a < -aev ρ b
        omega
theorem aRg_ok {N : List aI} {b : aQ} (hN : aNm ρ N) (h : aRg N b = true) : -muB ≤ aevq ρ b ∧ aevq ρ b ≤ muB := by
  unfold aRg at h
  split at h
  next J hJ =>
    have := aiv_ok hN hJ
    rw [Bool.and_eq_true, ile_iff, ile_iff] at h
    unfold aIn at this
    unfold muB aevq
    cases b.1 <;> simp only [cond_true, cond_false] <;> omega
  next => cases h
theorem aIdc_ok : ∀ {n : Nat}, aIdc σ n = true → ∀ i, i < n → asm ρ σ i = ρ i
  | 0, _, i, hi => by omega
  | n + 1, h, i, hi => by
    have h : (aeq (σ.getD n (0, 0)) (n, 0) && aIdc σ n) = true := h
    rw [Bool.and_eq_true] at h
    by_cases e : i = n
    · subst e
      unfold asm
      rw [aeq_ok h.1]
      show ρ i + 0 = ρ i
      exact Int.add_zero _
    · exact aIdc_ok h.2 i (by omega)
theorem aget_mem {i : Nat} {v : aV} : ∀ {l : aL}, aget i l = some v → (i, v) ∈ l
  | [], h => by cases h
  | (k, w) :: l, h => by
    unfold aget at h
    cases hb : Nat.beq k i with
    | true =>
      rw [hb, cond_true] at h
      cases h
      rw [Nat.eq_of_beq_eq_true hb]
      exact List.mem_cons_self
    | false =>
      rw [hb, cond_false] at h
      exact List.mem_cons_of_mem _ (aget_mem h)
theorem aLc_ok {N : List aI} {lv L : aL} (hN : aNm ρ N) (h : aLc N σ lv L = true) : zle (aML (asm ρ σ) L) (aML ρ lv) := by
  intro i v hv
  rw [aget_ok] at hv
  cases hg : aget i L with
  | none => rw [hg] at hv; cases hv
  | some p =>
    rw [hg] at hv
    have hv : some (aM (asm ρ σ) p) = some v := hv
    cases hv
    unfold aLc at h
    rw [List.all_eq_true] at h
    have h1 := h _ (aget_mem hg)
    dsimp only at h1
    rw [aget_ok]
    split at h1
    next a ha =>
      rw [ha, aMv_ok h1 hN]
      rfl
    next => cases h1
theorem afh_ok {pc : Nat} {H : aHd} : ∀ {L : List aHd}, afh pc L = some H → H ∈ L ∧ H.1 = pc
  | [], h => by cases h
  | K :: L, h => by
    unfold afh at h
    cases hb : Nat.beq K.1 pc with
    | true =>
      rw [hb, cond_true] at h
      cases h
      exact ⟨List.mem_cons_self, Nat.eq_of_beq_eq_true hb⟩
    | false =>
      rw [hb, cond_false] at h
      obtain ⟨h1, h2⟩ := afh_ok h
      exact ⟨List.mem_cons_of_mem _ h1, h2⟩
theorem znk_map {ρ' : Nat → Int} {L : aL} (h : znd (L.map (·.1)) = true) : znk (aML ρ' L) := by
  unfold znk aML
  rw [List.map_map]
  exact h
theorem aMeth_ok {sums : List aSum} {inl : Nat → Bool} {spl : aX} {fuel : Nat} {s : aSum} {heads : List aHd} {L : Nat} (hsum : ∀ s ∈ sums, aSumOk G s) (h : aMeth G sums inl spl fuel s heads L = true) : aSumOk G s := by
  intro sc f ρ0 d hD h00 hN0 hF0 hG0
  obtain ⟨j, D, N0, args, pre, V, N1, ret, post⟩ := s
  refine zR_le hD ?_
  unfold aMeth at h
  simp only [Bool.and_eq_true] at h
  obtain ⟨⟨n0, hh⟩, he⟩ := h
  have n0 : 0 < N0.length := Nat.le_of_ble_eq_true n0
  rw [List.all_eq_true] at hh
  show zR sc D j 0 [] (zargs 0 (args.map (aM ρ0))) 0 0 zSH f (aPQ G sc N0 N1 ret post V ρ0 f)
  -- what a return gives
  have hret : ∀ (r : Option aV) (S : aS) (ρ : Nat → Int) (f' : zF), aRt N0.length N1 ret post r S = true → aOk G V sc f ρ S f' → aExt N0.length ρ0 ρ → aPQ G sc N0 N1 ret post V ρ0 f (r.map (aM ρ)) zSH f' := by
    intro r S ρ f' hr ok x
    unfold aRt at hr
    generalize aRg2 N0.length ret post r S = σ at hr
    unfold aRtC at hr
    simp only [Bool.and_eq_true] at hr
    obtain ⟨⟨r1, r2⟩, ⟨r3, r4⟩, r5⟩ := hr
    obtain ⟨o0, o1, o2, o3, o4, o5, o6⟩ := ok
    have hid := aIdc_ok (ρ := ρ) r1
    refine ⟨rfl, asm ρ σ, (hid 0 n0).trans o0, fun i hi => (hid i hi).trans (x i hi), ?_, ?_, aFc_ok o1 o4 r4, ?_, o5, o6⟩
    · intro i I hI
      rw [List.getElem?_append] at hI
      by_cases hi : i < N0.length
      · rw [if_pos hi] at hI
        rw [hid i hi, x i hi]
        exact hN0 i I hI
      · rw [if_neg hi] at hI
        have := aNc2_ok o1 r3 _ I hI
        rw [show N0.length + (i - N0.length) = i by omega] at this
        exact this
    · cases ret with
      | none =>
        cases r with
        | none => rfl
        | some a => cases r2
      | some p =>
        cases r with
        | none => cases r2
        | some a => exact congrArg some (aMv_ok r2 o1).symm
    · intro p hp
      rw [List.all_eq_true] at r5
      have := aGe_ok o1 o3 (r5 p hp)
      rw [aSb_ok, aSb_ok] at this
      exact this
  -- what a head gives, once reached
  have hcut : ∀ (rk : Option (List aQ)) (pc : Nat) (st : List aV) (lv : aL) (S : aS) (ρ : Nat → Int) (f' : zF), aCut heads N0.length rk pc st lv S = some true → aOk G V sc f ρ S f' → aExt N0.length ρ0 ρ → (∀ H ∈ heads, H.1 = pc → ∀ ρ', ρ' 0 = 0 → aNm ρ' H.2.1 → aExt N0.length ρ0 ρ' → aFa sc ρ' f' H.2.2.2.1.1 → aGs ρ' H.2.2.2.1.2 → aGok G (afx sc f') → aFr V f f' → (∀ r0, rk = some r0 → lexL (r0.map (aevq ρ)) (H.2.2.2.2.map (aevq ρ'))) → zR sc D j pc [] (aML ρ' H.2.2.1) 0 0 zSH f' (aPQ G sc N0 N1 ret post V ρ0 f)) → zR sc D j pc (st.map (aM ρ)) (aML ρ lv) 0 0 zSH f' (aPQ G sc N0 N1 ret post V ρ0 f) := by
    intro rk pc st lv S ρ f' hc ok x g
    unfold aCut at hc
    split at hc
    · cases hc
    next H hH =>
      simp only [Option.some.injEq] at hc
      obtain ⟨h1, h2⟩ := afh_ok hH
      unfold aCk at hc
      generalize aHs N0.length H lv S = σ at hc
      simp only [Bool.and_eq_true] at hc
      obtain ⟨⟨⟨c1, c2⟩, c3, c4⟩, ⟨⟨c5, c6⟩, c8⟩, c7⟩ := hc
      obtain ⟨o0, o1, o2, o3, o4, o5, o6⟩ := ok
      have hid := aIdc_ok (ρ := ρ) c2
      cases st with
      | cons a b => cases c1
      | nil =>
        refine zR_lv (g H h1 h2 (asm ρ σ) ((hid 0 n0).trans o0) ?_ (fun i hi => (hid i hi).trans (x i hi)) (aFc_ok o1 o4 c6) (fun p hp => by
          rw [List.all_eq_true] at c8
          have := aGe_ok o1 o3 (c8 p hp)
          rw [aSb_ok, aSb_ok] at this
          exact this) o5 o6 ?_) (znk_map c4) (aLc_ok o1 c3)
        · intro i I hI
          have := aNc2_ok o1 c5 i I hI
          rw [Nat.zero_add] at this
          exact this
        · intro r0 hr
          subst hr
          have := aLex_ok o1 o3 c7
          rw [List.map_map] at this
          have e : (aevq ρ ∘ aSbq σ) = aevq (asm ρ σ) := by
            funext p
            show (bif p.1 then aev ρ (aSb σ p.2) else -aev ρ (aSb σ p.2)) = _
            rw [aSb_ok]
            rfl
          rw [e] at this
          exact this
  -- heads
  have hheads : ∀ (m : Nat) (H : aHd), H ∈ heads → ∀ (ρ : Nat → Int) (f' : zF), ρ 0 = 0 → aNm ρ H.2.1 → aExt N0.length ρ0 ρ → aFa sc ρ f' H.2.2.2.1.1 → aGs ρ H.2.2.2.1.2 → aGok G (afx sc f') → aFr V f f' → (mu (H.2.2.2.2.map (aevq ρ))).toNat < m → zR sc D j H.1 [] (aML ρ H.2.2.1) 0 0 zSH f' (aPQ G sc N0 N1 ret post V ρ0 f) := by
    intro m
    induction m with
    | zero => intro H _ ρ f' _ _ _ _ _ _ _ hm; omega
    | succ m ih =>
      intro H hH ρ f' h0 hN hx hF hg hG hW hm
      have hk := hh H hH
      unfold aHck at hk
      simp only [Bool.and_eq_true] at hk
      obtain ⟨⟨⟨k1, k2⟩, k3, k4⟩, k5⟩ := hk
      have k1 : N0.length ≤ H.2.1.length := Nat.le_of_ble_eq_true k1
      rw [List.all_eq_true] at k3 k4
      have rg : muR (H.2.2.2.2.map (aevq ρ)) := by
        intro v hv
        rw [List.mem_map] at hv
        obtain ⟨b, hb, rfl⟩ := hv
        exact aRg_ok hN (k4 b hb)
      have := aRun_ok (f0 := f) (ρ := ρ) (kc := 0) (ks := 0) (Q := aPQ G sc N0 N1 ret post V ρ0 f) (sc := sc) (f := f') hsum fuel k5 ⟨h0, hN, (fun i hi => by cases hi), (fun t ht => by
        have ht : t ∈ H.2.2.2.1.2.map aGt := ht
        rw [List.mem_map] at ht
        obtain ⟨p, hp, rfl⟩ := ht
        exact aGt_ok (hg p hp)), hF, hG, hW⟩ ?_ ?_
      · exact this
      · intro pc st lv S ρ' f'' hc ok x hle
        have x0 : aExt N0.length ρ0 ρ' := aExt_t k1 hx x
        refine hcut _ pc st lv S ρ' f'' hc ok x0 (fun H' hH' hpc ρ'' q0 q1 q2 q3 q3g q4 q5 q6 => ?_)
        subst hpc
        refine ih H' hH' ρ'' f'' q0 q1 q2 q3 q3g q4 q5 ?_
        have hk' := hh H' hH'
        unfold aHck at hk'
        simp only [Bool.and_eq_true] at hk'
        obtain ⟨⟨⟨-, k2'⟩, -, k4'⟩, -⟩ := hk'
        rw [List.all_eq_true] at k4'
        have rg' : muR (H'.2.2.2.2.map (aevq ρ'')) := by
          intro v hv
          rw [List.mem_map] at hv
          obtain ⟨b, hb, rfl⟩ := hv
          exact aRg_ok q1 (k4' b hb)
        have q7 := q6 _ rfl
        have e : H.2.2.2.2.map (aevq ρ') = H.2.2.2.2.map (aevq ρ) := List.map_congr_left (fun b hb => by
          have := aev_x x (k3 b hb)
          unfold aevq
          rw [this])
        rw [e] at q7
        have := mu_lt rg rg' (by rw [List.length_map, List.length_map, Nat.eq_of_beq_eq_true k2, Nat.eq_of_beq_eq_true k2']) q7
        have p1 := mu_in rg'
        omega
      · intro r S ρ' f'' hr ok x hle
        exact hret r S ρ' f'' hr ok (aExt_t k1 hx x)
  have := aRun_ok (f0 := f) (ρ := ρ0) (kc := 0) (ks := 0) (Q := aPQ G sc N0 N1 ret post V ρ0 f) (sc := sc) (f := f) hsum fuel he ⟨h00, hN0, (fun i hi => by cases hi), (fun t ht => by cases ht), hF0, hG0, (fun c j _ => rfl)⟩ ?_ ?_
  · rw [aargs_ok]
    exact this
  · intro pc st lv S ρ' f'' hc ok x hle
    refine hcut _ pc st lv S ρ' f'' hc ok x (fun H' hH' hpc ρ'' q0 q1 q2 q3 q3g q4 q5 q6 => ?_)
    subst hpc
    exact hheads _ H' hH' ρ'' f'' q0 q1 q2 q3 q3g q4 q5 (Nat.lt_succ_self _)
  · intro r S ρ' f'' hr ok x hle
    exact hret r S ρ' f'' hr ok x
end AMETH2
end
