noncomputable section
/-! names, facts, what they stand for -/
def aev (ρ : Nat → Int) (a : aA) : Int := ρ a.1 + a.2
def aM (ρ : Nat → Int) : aV → zV
  | .inl a => zI (aev ρ a)
  | .inr (.inl a) => zJ (aev ρ a)
  | .inr (.inr (.inl (a, b))) => zI (zlcmp (aev ρ a) (aev ρ b))
  | .inr (.inr (.inr (.inl c))) => zP c
  | .inr (.inr (.inr (.inr t))) => zS t
def aML (ρ : Nat → Int) (l : aL) : zL := l.map (fun q => (q.1, aM ρ q.2))
def aBA (n : Nat) (a : aA) : Bool := Nat.blt a.1 n
def aBV (n : Nat) : aV → Bool
  | .inl a => aBA n a
  | .inr (.inl a) => aBA n a
  | .inr (.inr (.inl (a, b))) => aBA n a && aBA n b
  | .inr (.inr (.inr _)) => true
def aBs (n : Nat) (st : List aV) : Bool := st.all (aBV n)
def aBl (n : Nat) (lv : aL) : Bool := lv.all (fun q => aBV n q.2)
def aBT (n : Nat) (t : aT) : Bool := aBA n t.1.2.1 && (aBA n t.1.2.2 && aBA n t.2)
def aBF (n : Nat) (q : aK × aA) : Bool := aBA n q.1.2 && aBA n q.2
def aBS (n : Nat) (S : aS) : Bool := S.2.1.all (fun i => Nat.blt i n) && (S.2.2.1.all (aBT n) && S.2.2.2.all (aBF n))
def aExt (n : Nat) (ρ ρ' : Nat → Int) : Prop := ∀ i, i < n → ρ' i = ρ i
theorem aExt_r (n : Nat) (ρ : Nat → Int) : aExt n ρ ρ := fun _ _ => rfl
theorem aExt_t {n m : Nat} {ρ ρ' ρ'' : Nat → Int} (hn : n ≤ m) (h : aExt n ρ ρ') (g : aExt m ρ' ρ'') : aExt n ρ ρ'' := fun i hi => (g i (by omega)).trans (h i hi)
theorem aev_x {n : Nat} {ρ ρ' : Nat → Int} (h : aExt n ρ ρ') {a : aA} (b : aBA n a = true) : aev ρ' a = aev ρ a := by
  unfold aev
  rw [h a.1 (by have : a.1 + 1 ≤ n := Nat.le_of_ble_eq_true b; omega)]
theorem aM_x {n : Nat} {ρ ρ' : Nat → Int} (h : aExt n ρ ρ') {v : aV} (b : aBV n v = true) : aM ρ' v = aM ρ v := by
  rcases v with a | a | ⟨a, a2⟩ | c | t
  · exact congrArg zI (aev_x h b)
  · exact congrArg zJ (aev_x h b)
  · have k : (aBA n a && aBA n a2) = true := b
    rw [Bool.and_eq_true] at k
    show zI (zlcmp (aev ρ' a) (aev ρ' a2)) = zI (zlcmp (aev ρ a) (aev ρ a2))
    rw [aev_x h k.1, aev_x h k.2]
  · rfl
  · rfl
theorem aMs_x {n : Nat} {ρ ρ' : Nat → Int} (h : aExt n ρ ρ') {st : List aV} (b : aBs n st = true) : st.map (aM ρ') = st.map (aM ρ) := by
  unfold aBs at b
  rw [List.all_eq_true] at b
  exact List.map_congr_left (fun v hv => aM_x h (b v hv))
theorem aML_x {n : Nat} {ρ ρ' : Nat → Int} (h : aExt n ρ ρ') {lv : aL} (b : aBl n lv = true) : aML ρ' lv = aML ρ lv := by
  unfold aBl at b
  rw [List.all_eq_true] at b
  exact List.map_congr_left (fun q hq => by rw [aM_x h (b q hq)])
def afx (sc : zC) (f : zF) : zF := fun c j => bif Nat.beq c 1000 then sc.2 j else bif Nat.beq c 1001 then (sc.1 : Int) else bif Nat.beq c 1003 then zbin 3 (j : Int) 100 else bif Nat.beq c 1004 then zbin 4 (j : Int) 100 else f c j
def gAt : List (Nat × aI) → Nat → Option aI
  | [], _ => none
  | (b, I) :: L, j => bif Nat.blt j b then some I else gAt L j
/-- a change's place and value go together: a hill is one of four -/
def zcm (s v : Int) : Prop := 37 ≤ s → s < 44 → 0 ≤ v ∧ v ≤ 3
/-- what holds of the changes kept, of both -/
def zRel (F : zF) : Prop := (∀ j, j < 40 → zcm (F 27 j) (F 28 j) ∧ zcm (F 27 j) (F 29 j)) ∧ (∀ j, j < 40 → zcm (F 52 j) (F 53 j) ∧ zcm (F 52 j) (F 54 j)) ∧ F 50 5 ≤ F 50 4
/-- cells of which it speaks -/
def zsq (c : Nat) : Bool := [27, 28, 29, 52, 53, 54].any (Nat.beq c)
def zsp (c j : Nat) : Bool := zsq c || (Nat.beq c 50 && (Nat.beq j 4 || Nat.beq j 5))
theorem zRel_fr {F F' : zF} (h : zRel F) (g : ∀ c j, zsp c j = true → F' c j = F c j) : zRel F' := by
  obtain ⟨h1, h2, h3⟩ := h
  refine ⟨fun j hj => ?_, fun j hj => ?_, ?_⟩
  · rw [g 27 j rfl, g 28 j rfl, g 29 j rfl]; exact h1 j hj
  · rw [g 52 j rfl, g 53 j rfl, g 54 j rfl]; exact h2 j hj
  · rw [g 50 5 rfl, g 50 4 rfl]; exact h3
def aGk (G : aG) (F : zF) : Prop := ∀ c j I, gAt (G c) j = some I → aIn I (F c j)
def aGok (G : aG) (F : zF) : Prop := aGk G F ∧ zRel F
def aNm (ρ : Nat → Int) (N : List aI) : Prop := ∀ i I, N[i]? = some I → aIn I (ρ i)
def wcov (W : List (Nat × Nat)) (c j : Nat) : Bool := W.any (fun q => Nat.beq q.1 c && (Nat.beq q.2 999 || Nat.beq q.2 j))
def aFr (W : List (Nat × Nat)) (f0 f : zF) : Prop := ∀ c j, wcov W c j = false → f c j = f0 c j
def aOk (G : aG) (W : List (Nat × Nat)) (sc : zC) (f0 : zF) (ρ : Nat → Int) (S : aS) (f : zF) : Prop :=
  ρ 0 = 0 ∧ aNm ρ S.1 ∧ (∀ i ∈ S.2.1, ρ i ≠ 0) ∧ (∀ t ∈ S.2.2.1, aev ρ t.2 = zbin t.1.1 (aev ρ t.1.2.1) (aev ρ t.1.2.2)) ∧ (∀ q ∈ S.2.2.2, 0 ≤ aev ρ q.1.2 ∧ afx sc f q.1.1 (aev ρ q.1.2).toNat = aev ρ q.2) ∧ aGok G (afx sc f) ∧ aFr W f0 f
def aPost (G : aG) (W : List (Nat × Nat)) (sc : zC) (f0 : zF) (ρ : Nat → Int) (S : aS) (f : zF) (st : List aV) (lv : aL) (k : aA → aS → Bool) (v : Int) : Prop :=
  ∃ a S' ρ', k a S' = true ∧ aOk G W sc f0 ρ' S' f ∧ aev ρ' a = v ∧ aExt S.1.length ρ ρ' ∧ S.1.length ≤ S'.1.length ∧ st.map (aM ρ') = st.map (aM ρ) ∧ aML ρ' lv = aML ρ lv
section AOPS
variable {G : aG} {W : List (Nat × Nat)} {sc : zC} {f0 f : zF} {ρ : Nat → Int} {S : aS} {st : List aV} {lv : aL}
def aup (ρ : Nat → Int) (n : Nat) (v : Int) : Nat → Int := fun i => if i = n then v else ρ i
theorem aup_lt {n i : Nat} {v : Int} (h : i < n) : aup ρ n v i = ρ i := by
  unfold aup; rw [if_neg (by omega)]
theorem aup_eq {n : Nat} {v : Int} : aup ρ n v n = v := by
  unfold aup; rw [if_pos rfl]
theorem aev_c (h0 : ρ 0 = 0) (c : Int) : aev ρ (0, c) = c := by
  unfold aev; rw [h0]; exact Int.zero_add c
def aNew (st : List aV) (lv : aL) (S : aS) (I : aI) (k : aA → aS → Bool) : Bool :=
  bif (Nat.blt 0 S.1.length && aBs S.1.length st) && (aBl S.1.length lv && aBS S.1.length S) then k (S.1.length, 0) (S.1 ++ [I], S.2) else false
theorem aPost_id {k : aA → aS → Bool} {a : aA} {v : Int} (ok : aOk G W sc f0 ρ S f) (h : k a S = true) (e : aev ρ a = v) : aPost G W sc f0 ρ S f st lv k v := ⟨a, S, ρ, h, ok, e, aExt_r _ _, Nat.le_refl _, rfl, rfl⟩
theorem aNew_ok {I : aI} {k : aA → aS → Bool} {v : Int} (h : aNew st lv S I k = true) (ok : aOk G W sc f0 ρ S f) (hv : aIn I v) : aPost G W sc f0 ρ S f st lv k v := by
  unfold aNew at h
  cases hb : (Nat.blt 0 S.1.length && aBs S.1.length st) && (aBl S.1.length lv && aBS S.1.length S) with
  | false => rw [hb] at h; cases h
  | true =>
    rw [hb] at h
    simp only [Bool.and_eq_true] at hb
    obtain ⟨⟨h0, h1⟩, h2, h3⟩ := hb
    have h0 : 0 < S.1.length := Nat.le_of_ble_eq_true h0
    have x : aExt S.1.length ρ (aup ρ S.1.length v) := fun i hi => aup_lt hi
    unfold aBS at h3
    simp only [Bool.and_eq_true, List.all_eq_true] at h3
    obtain ⟨k1, k2, k3⟩ := h3
    obtain ⟨o0, o1, o2, o3, o4, o5, o6⟩ := ok
    refine ⟨(S.1.length, 0), (S.1 ++ [I], S.2), _, h, ⟨?_, ?_, ?_, ?_, ?_, o5, o6⟩, ?_, x, by simp, aMs_x x h1, aML_x x h2⟩
    · exact (x 0 h0).trans o0
    · intro i J hJ
      rw [List.getElem?_append] at hJ
      by_cases hi : i < S.1.length
      · rw [if_pos hi] at hJ
        rw [x i hi]
        exact o1 i J hJ
      · rw [if_neg hi] at hJ
        have : i = S.1.length := by
          rcases Nat.lt_or_ge (i - S.1.length) 1 with h | h
          · omega
          · rw [List.getElem?_eq_none (by simpa using h)] at hJ
            cases hJ
        subst this
        simp only [Nat.sub_self, List.getElem?_cons_zero, Option.some.injEq] at hJ
        subst hJ
        rw [aup_eq]
        exact hv
    · intro i hi
      have e : aup ρ S.1.length v i = ρ i := x i (Nat.le_of_ble_eq_true (k1 i hi))
      rw [e]
      exact o2 i hi
    · intro t ht
      have kt := k2 t ht
      unfold aBT at kt
      simp only [Bool.and_eq_true] at kt
      rw [aev_x x kt.1, aev_x x kt.2.1, aev_x x kt.2.2]
      exact o3 t ht
    · intro q hq
      have kt := k3 q hq
      unfold aBF at kt
      simp only [Bool.and_eq_true] at kt
      rw [aev_x x kt.1, aev_x x kt.2]
      exact o4 q hq
    · show aup ρ S.1.length v S.1.length + 0 = v
      rw [aup_eq, Int.add_zero]
def aiv (N : List aI) (a : aA) : Option aI := match N[a.1]? with
  | some I => some (I.1 + a.2, I.2 + a.2)
  | none => none
theorem aiv_ok {N : List aI} {a : aA} {I : aI} (h : aNm ρ N) (e : aiv N a = some I) : aIn I (aev ρ a) := by
  unfold aiv at e
  split at e
  next J hJ =>
    cases e
    have := h _ _ hJ
    unfold aIn aev at *
    dsimp only
    omega
  next => cases e
def aeq (a b : aA) : Bool := Nat.beq a.1 b.1 && ieq a.2 b.2
theorem aeq_ok {a b : aA} (h : aeq a b = true) : a = b := by
  unfold aeq at h
  rw [Bool.and_eq_true, ieq_iff] at h
  exact Prod.ext (Nat.eq_of_beq_eq_true h.1) h.2
def amem (op : Nat) (x y : aA) : List aT → Option aA
  | [] => none
  | t :: T => bif Nat.beq t.1.1 op && (aeq t.1.2.1 x && aeq t.1.2.2 y) then some t.2 else amem op x y T
theorem amem_ok {op : Nat} {x y a : aA} : ∀ {T : List aT}, amem op x y T = some a → ((op, (x, y)), a) ∈ T
  | [], h => by cases h
  | t :: T, h => by
    unfold amem at h
    cases hb : Nat.beq t.1.1 op && (aeq t.1.2.1 x && aeq t.1.2.2 y) with
    | false => rw [hb] at h; exact List.mem_cons_of_mem _ (amem_ok h)
    | true =>
      rw [hb] at h
      simp only [Bool.and_eq_true] at hb
      have e1 := Nat.eq_of_beq_eq_true hb.1
      have e2 := aeq_ok hb.2.1
      have e3 := aeq_ok hb.2.2
      have h : some t.2 = some a := h
      cases h
      obtain ⟨⟨o, x', y'⟩, b⟩ := t
      dsimp only at e1 e2 e3
      subst e1; subst e2; subst e3
      exact List.mem_cons_self
def aAff (op : Nat) (x y : aA) : Option aA := match op with
  | 0 => bif Nat.beq y.1 0 then some (x.1, x.2 + y.2) else bif Nat.beq x.1 0 then some (y.1, x.2 + y.2) else none
  | 1 => bif Nat.beq y.1 0 then some (x.1, x.2 - y.2) else bif Nat.beq x.1 y.1 then some (0, x.2 - y.2) else none
  | _ => none
def aTry (op : Nat) (N : List aI) (x y : aA) : Option aA := match aAff op x y with
  | some a => match aiv N a with
    | some K => bif asub K aF32 then some (bif ieq K.1 K.2 then (0, K.1) else a) else none
    | none => none
  | none => none
theorem aTry_ok {op : Nat} {N : List aI} {x y a : aA} (h0 : ρ 0 = 0) (hN : aNm ρ N) (h : aTry op N x y = some a) : aev ρ a = zbin op (aev ρ x) (aev ρ y) := by
  unfold aTry at h
  split at h
  next b hb =>
    split at h
    next K hK =>
      cases hk : asub K aF32 with
      | false => rw [hk] at h; cases h
      | true =>
        rw [hk] at h
        have h : some (bif ieq K.1 K.2 then (0, K.1) else b) = some a := h
        have hba : aev ρ a = aev ρ b := by
          cases h
          cases hk2 : ieq K.1 K.2 with
          | false => rfl
          | true =>
            rw [cond_true, aev_c h0]
            rw [ieq_iff] at hk2
            have := aiv_ok hN hK
            unfold aIn at this
            omega
        rw [hba]
        clear h hba
        have r : zIn (aev ρ b) := aF32_ok.1 (asub_ok hk (aiv_ok hN hK))
        have g : w32 (aev ρ b) = aev ρ b := w32_in r
        rw [← g]
        unfold aAff at hb
        split at hb
        · cases hy : Nat.beq y.1 0 with
          | true =>
            rw [hy] at hb
            have hb : some (x.1, x.2 + y.2) = some b := hb
            cases hb
            show w32 _ = w32 _
            congr 1
            unfold aev
            rw [Nat.eq_of_beq_eq_true hy, h0]
            dsimp only
            omega
          | false =>
            rw [hy] at hb
            cases hx : Nat.beq x.1 0 with
            | true =>
              rw [hx] at hb
              have hb : some (y.1, x.2 + y.2) = some b := hb
              cases hb
              show w32 _ = w32 _
              congr 1
              unfold aev
              rw [Nat.eq_of_beq_eq_true hx, h0]
              dsimp only
              omega
            | false => rw [hx] at hb; cases hb
        · cases hy : Nat.beq y.1 0 with
          | true =>
            rw [hy] at hb
            have hb : some (x.1, x.2 - y.2) = some b := hb
            cases hb
            show w32 _ = w32 _
            congr 1
            unfold aev
            rw [Nat.eq_of_beq_eq_true hy, h0]
            dsimp only
            omega
          | false =>
            rw [hy] at hb
            cases hx : Nat.beq x.1 y.1 with
            | true =>
              rw [hx] at hb
              have hb : some (0, x.2 - y.2) = some b := hb
              cases hb
              show w32 _ = w32 _
              congr 1
              unfold aev
              rw [Nat.eq_of_beq_eq_true hx, h0]
              dsimp only
              omega
            | false => rw [hx] at hb; cases hb
        · cases hb
    next => cases h
  next => cases h
def afind (c : Nat) (a : aA) : List (aK × aA) → Option aA
  | [] => none
  | q :: L => bif Nat.beq q.1.1 c && aeq q.1.2 a then some q.2 else afind c a L
theorem afind_ok {c : Nat} {a v : aA} : ∀ {L : List (aK × aA)}, afind c a L = some v → ((c, a), v) ∈ L
  | [], h => by cases h
  | q :: L, h => by
    unfold afind at h
    cases hb : Nat.beq q.1.1 c && aeq q.1.2 a with
    | false => rw [hb] at h; exact List.mem_cons_of_mem _ (afind_ok h)
    | true =>
      rw [hb] at h
      rw [Bool.and_eq_true] at hb
      have e1 := Nat.eq_of_beq_eq_true hb.1
      have e2 := aeq_ok hb.2
      have h : some q.2 = some v := h
      cases h
      obtain ⟨⟨c', a'⟩, v⟩ := q
      dsimp only at e1 e2
      subst e1; subst e2
      exact List.mem_cons_self
theorem afx_3 {j : Nat} : afx sc f 1003 j = zbin 3 (j : Int) 100 := by
  unfold afx
  rw [show Nat.beq 1003 1000 = false from rfl, show Nat.beq 1003 1001 = false from rfl, show Nat.beq 1003 1003 = true from rfl, cond_false, cond_false, cond_true]
theorem afx_4 {j : Nat} : afx sc f 1004 j = zbin 4 (j : Int) 100 := by
  unfold afx
  rw [show Nat.beq 1004 1000 = false from rfl, show Nat.beq 1004 1001 = false from rfl, show Nat.beq 1004 1003 = false from rfl, show Nat.beq 1004 1004 = true from rfl, cond_false, cond_false, cond_false, cond_true]
def aHun (op : Nat) (x y : aA) (L : List (aK × aA)) : Option aA := bif aeq y (0, 100) then (bif Nat.beq op 3 then afind 1003 x L else bif Nat.beq op 4 then afind 1004 x L else none) else none
theorem aHun_ok {op : Nat} {x y a : aA} {L : List (aK × aA)} (h0 : ρ 0 = 0) (hF : ∀ q ∈ L, 0 ≤ aev ρ q.1.2 ∧ afx sc f q.1.1 (aev ρ q.1.2).toNat = aev ρ q.2) (h : aHun op x y L = some a) : aev ρ a = zbin op (aev ρ x) (aev ρ y) := by
  unfold aHun at h
  cases hy : aeq y (0, 100) with
  | false => rw [hy] at h; cases h
  | true =>
    rw [hy, cond_true] at h
    rw [aeq_ok hy, aev_c h0]
    cases h3 : Nat.beq op 3 with
    | true =>
      rw [h3, cond_true] at h
      obtain ⟨k1, k2⟩ := hF _ (afind_ok h)
      have k2 : zbin 3 (((aev ρ x).toNat : Nat) : Int) 100 = aev ρ a := afx_3.symm.trans k2
      have k1 : 0 ≤ aev ρ x := k1
      rw [Int.toNat_of_nonneg k1] at k2
      rw [Nat.eq_of_beq_eq_true h3, k2]
    | false =>
      rw [h3, cond_false] at h
      cases h4 : Nat.beq op 4 with
      | true =>
        rw [h4, cond_true] at h
        obtain ⟨k1, k2⟩ := hF _ (afind_ok h)
        have k2 : zbin 4 (((aev ρ x).toNat : Nat) : Int) 100 = aev ρ a := afx_4.symm.trans k2
        have k1 : 0 ≤ aev ρ x := k1
        rw [Int.toNat_of_nonneg k1] at k2
        rw [Nat.eq_of_beq_eq_true h4, k2]
      | false => rw [h4] at h; cases h
def amq (op : Nat) : Bool := Nat.beq op 3 || Nat.beq op 4
def aTm (op : Nat) (x y a : aA) (S : aS) : aS := (S.1, (S.2.1, (((op, (x, y)), a) :: S.2.2.1, S.2.2.2)))
def aBin (op : Nat) (st : List aV) (lv : aL) (S : aS) (x y : aA) (k : aA → aS → Bool) : Bool := match aiv S.1 x, aiv S.1 y with
  | some I, some J => bif asub I aF32 && asub J aF32 then (match aTry op S.1 x y with
    | some a => k a S
    | none => match amem op x y S.2.2.1 with
      | some a => k a S
      | none => match aHun op x y S.2.2.2 with
        | some a => k a S
        | none => bif ieq (aivl op I J).1 (aivl op I J).2 then k (0, (aivl op I J).1) S else
        aNew (.inl x :: .inl y :: st) lv S (aivl op I J) (fun a S' => k a (bif amq op then aTm op x y a S' else S'))) else false
  | _, _ => false
theorem aBin_ok {op : Nat} {x y : aA} {k : aA → aS → Bool} (h : aBin op st lv S x y k = true) (ok : aOk G W sc f0 ρ S f) : aPost G W sc f0 ρ S f st lv k (zbin op (aev ρ x) (aev ρ y)) := by
  have ok0 := ok
  obtain ⟨o0, o1, o2, o3, o4, o5, o6⟩ := ok
  unfold aBin at h
  split at h
  next I J hI hJ =>
    cases hb : asub I aF32 && asub J aF32 with
    | false => rw [hb] at h; cases h
    | true =>
      rw [hb] at h
      rw [Bool.and_eq_true] at hb
      have hx := aiv_ok o1 hI
      have hy := aiv_ok o1 hJ
      have h : (match aTry op S.1 x y with
        | some a => k a S
        | none => match amem op x y S.2.2.1 with
          | some a => k a S
          | none => match aHun op x y S.2.2.2 with
            | some a => k a S
            | none => bif ieq (aivl op I J).1 (aivl op I J).2 then k (0, (aivl op I J).1) S else
            aNew (.inl x :: .inl y :: st) lv S (aivl op I J) (fun a S' => k a (bif amq op then aTm op x y a S' else S'))) = true := h
      have hin := aivl_ok (op := op) hx hy (aF32_ok.1 (asub_ok hb.1 hx)) (aF32_ok.1 (asub_ok hb.2 hy))
      split at h
      next a ha => exact aPost_id ok0 h (aTry_ok o0 o1 ha)
      next =>
        split at h
        next a ha => exact aPost_id ok0 h (o3 _ (amem_ok ha))
        next =>
          split at h
          next a ha => exact aPost_id ok0 h (aHun_ok o0 o4 ha)
          next =>
            cases he : ieq (aivl op I J).1 (aivl op I J).2 with
            | true =>
              rw [he] at h
              refine aPost_id ok0 h ?_
              rw [ieq_iff] at he
              unfold aIn at hin
              rw [aev_c o0]
              omega
            | false =>
              rw [he, cond_false] at h
              obtain ⟨a, S', ρ', k1, k2, k3, k4, k5, k6, k7⟩ := aNew_ok h ok0 hin
              have k6 : (Sum.inl x :: Sum.inl y :: st).map (aM ρ') = (Sum.inl x :: Sum.inl y :: st).map (aM ρ) := k6
              simp only [List.map_cons, List.cons.injEq] at k6
              have ex : aev ρ' x = aev ρ x := Sum.inl.inj k6.1
              have ey : aev ρ' y = aev ρ y := Sum.inl.inj k6.2.1
              cases hm : amq op with
              | false =>
                rw [hm] at k1
                exact ⟨a, S', ρ', k1, k2, k3, k4, k5, k6.2.2, k7⟩
              | true =>
                rw [hm] at k1
                obtain ⟨p0, p1, p2, p3, p4, p5, p6⟩ := k2
                refine ⟨a, _, ρ', k1, ⟨p0, p1, p2, ?_, p4, p5, p6⟩, k3, k4, k5, k6.2.2, k7⟩
                intro t ht
                rcases List.mem_cons.1 ht with rfl | ht
                · show aev ρ' a = zbin op (aev ρ' x) (aev ρ' y)
                  rw [k3, ex, ey]
                · exact p3 t ht
  next => cases h
/-! what a comparison tells -/
def aRs (i : Nat) (K : aI) (S : aS) : Option aS := match S.1[i]? with
  | some I => bif ile (imax I.1 K.1) (imin I.2 K.2) then some (S.1.set i (imax I.1 K.1, imin I.2 K.2), S.2) else none
  | none => some S
def aGo (G : aG) (W : List (Nat × Nat)) (sc : zC) (f0 : zF) (ρ : Nat → Int) (S : aS) (f : zF) (o : Option aS) : Prop := ∃ S', o = some S' ∧ aOk G W sc f0 ρ S' f ∧ S'.1.length = S.1.length
theorem aNm_set {N : List aI} {i : Nat} {J : aI} (h : aNm ρ N) (g : aIn J (ρ i)) : aNm ρ (N.set i J) := by
  intro j I hI
  rw [List.getElem?_set] at hI
  by_cases e : i = j
  · rw [if_pos e] at hI
    subst e
    split at hI
    · cases hI; exact g
    · cases hI
  · rw [if_neg e] at hI
    exact h j I hI
theorem aRs_ok {i : Nat} {K : aI} (ok : aOk G W sc f0 ρ S f) (h : aIn K (ρ i)) : aGo G W sc f0 ρ S f (aRs i K S) := by
  obtain ⟨o0, o1, o2, o3, o4, o5, o6⟩ := ok
  unfold aRs
  split
  next I hI =>
    have hI := o1 i I hI
    have hj : aIn (imax I.1 K.1, imin I.2 K.2) (ρ i) := ⟨imax_le hI.1 h.1, imin_ge hI.2 h.2⟩
    have : ile (imax I.1 K.1) (imin I.2 K.2) = true := ile_iff.2 (Int.le_trans hj.1 hj.2)
    rw [this]
    exact ⟨_, rfl, ⟨o0, aNm_set o1 hj, o2, o3, o4, o5, o6⟩, by simp⟩
  next => exact ⟨S, rfl, ⟨o0, o1, o2, o3, o4, o5, o6⟩, rfl⟩
theorem aGo_b {o : Option aS} {g : aS → Option aS} (h : aGo G W sc f0 ρ S f o) (k : ∀ S', aOk G W sc f0 ρ S' f → S'.1.length = S.1.length → aGo G W sc f0 ρ S' f (g S')) : aGo G W sc f0 ρ S f (match (generalizing := false) o with | some S' => g S' | none => none) := by
  obtain ⟨S', rfl, h2, h3⟩ := h
  obtain ⟨S2, e, h4, h5⟩ := k S' h2 h3
  exact ⟨S2, e, h4, h5.trans h3⟩
/-- x and d more are y at most -/
def aLe (d : Int) (x y : aA) (S : aS) : Option aS := bif Nat.beq x.1 y.1 then (bif ile (x.2 + d) y.2 then some S else none) else match aiv S.1 x, aiv S.1 y with
  | some I, some J => match aRs x.1 (I.1 - x.2, J.2 - d - x.2) S with
    | some S1 => aRs y.1 (I.1 + d - y.2, J.2 - y.2) S1
    | none => none
  | _, _ => some S
theorem aLe_ok {d : Int} {x y : aA} (ok : aOk G W sc f0 ρ S f) (h : aev ρ x + d ≤ aev ρ y) : aGo G W sc f0 ρ S f (aLe d x y S) := by
  unfold aLe
  cases hn : Nat.beq x.1 y.1 with
  | true =>
    have e := Nat.eq_of_beq_eq_true hn
    have : ile (x.2 + d) y.2 = true := by
      rw [ile_iff]
      unfold aev at h
      rw [e] at h
      omega
    rw [this]
    exact ⟨S, rfl, ok, rfl⟩
  | false =>
    show aGo G W sc f0 ρ S f (match aiv S.1 x, aiv S.1 y with
      | some I, some J => match aRs x.1 (I.1 - x.2, J.2 - d - x.2) S with
        | some S1 => aRs y.1 (I.1 + d - y.2, J.2 - y.2) S1
        | none => none
      | _, _ => some S)
    split
    next I J hI hJ =>
      have hx := aiv_ok ok.2.1 hI
      have hy := aiv_ok ok.2.1 hJ
      unfold aIn aev at hx hy
      unfold aev at h
      exact aGo_b (aRs_ok ok (by unfold aIn; first | omega | (dsimp only; omega))) (fun S' ok' _ => aRs_ok ok' (by unfold aIn; first | omega | (dsimp only; omega)))
    next => exact ⟨S, rfl, ok, rfl⟩
def aEq (x y : aA) (S : aS) : Option aS := match aLe 0 x y S with
  | some S1 => aLe 0 y x S1
  | none => none
theorem aEq_ok {x y : aA} (ok : aOk G W sc f0 ρ S f) (h : aev ρ x = aev ρ y) : aGo G W sc f0 ρ S f (aEq x y S) :=
  aGo_b (aLe_ok ok (by omega)) (fun S' ok' _ => aLe_ok ok' (by omega))
def aNc (i : Nat) (c : Int) (S : aS) : Option aS := match (match S.1[i]? with
    | some I => bif ieq I.1 c then aRs i (I.1 + 1, I.2) S else bif ieq I.2 c then aRs i (I.1, I.2 - 1) S else some S
    | none => some S) with
  | some S1 => bif ieq c 0 then some (S1.1, (i :: S1.2.1, S1.2.2)) else some S1
  | none => none
theorem aNc_ok {i : Nat} {c : Int} (ok : aOk G W sc f0 ρ S f) (h : ρ i ≠ c) : aGo G W sc f0 ρ S f (aNc i c S) := by
  unfold aNc
  refine aGo_b ?_ ?_
  · split
    next I hI =>
      have hI := ok.2.1 i I hI
      unfold aIn at hI
      cases h1 : ieq I.1 c with
      | true =>
        rw [ieq_iff] at h1
        exact aRs_ok ok (by unfold aIn; first | omega | (dsimp only; omega))
      | false =>
        cases h2 : ieq I.2 c with
        | true =>
          rw [ieq_iff] at h2
          exact aRs_ok ok (by unfold aIn; first | omega | (dsimp only; omega))
        | false => exact ⟨S, rfl, ok, rfl⟩
    next => exact ⟨S, rfl, ok, rfl⟩
  · intro S' ok' _
    cases hc : ieq c 0 with
    | true =>
      rw [ieq_iff] at hc
      subst hc
      obtain ⟨o0, o1, o2, o3⟩ := ok'
      refine ⟨_, rfl, ⟨o0, o1, ?_, o3⟩, rfl⟩
      intro j hj
      rcases List.mem_cons.1 hj with rfl | hj
      · exact h
      · exact o2 j hj
    | false => exact ⟨S', rfl, ok', rfl⟩
def aNe (x y : aA) (S : aS) : Option aS := bif Nat.beq x.1 y.1 then (bif ieq x.2 y.2 then none else some S) else bif Nat.beq y.1 0 then aNc x.1 (y.2 - x.2) S else bif Nat.beq x.1 0 then aNc y.1 (x.2 - y.2) S else some S
theorem aNe_ok {x y : aA} (ok : aOk G W sc f0 ρ S f) (h : aev ρ x ≠ aev ρ y) : aGo G W sc f0 ρ S f (aNe x y S) := by
  unfold aNe
  unfold aev at h
  cases h1 : Nat.beq x.1 y.1 with
  | true =>
    have e := Nat.eq_of_beq_eq_true h1
    cases h2 : ieq x.2 y.2 with
    | true => rw [ieq_iff] at h2; rw [e, h2] at h; exact absurd rfl h
    | false => exact ⟨S, rfl, ok, rfl⟩
  | false =>
    cases h2 : Nat.beq y.1 0 with
    | true =>
      have e := Nat.eq_of_beq_eq_true h2
      rw [e, ok.1] at h
      exact aNc_ok ok (by omega)
    | false =>
      cases h3 : Nat.beq x.1 0 with
      | true =>
        have e := Nat.eq_of_beq_eq_true h3
        rw [e, ok.1] at h
        exact aNc_ok ok (by omega)
      | false => exact ⟨S, rfl, ok, rfl⟩
def aTh (o : Option aS) (K : aS → Bool) : Bool := match o with
  | none => true
  | some S => K S
theorem aTh_ok {o : Option aS} {K : aS → Bool} (h : aTh o K = true) (g : aGo G W sc f0 ρ S f o) : ∃ S', K S' = true ∧ aOk G W sc f0 ρ S' f ∧ S'.1.length = S.1.length := by
  obtain ⟨S', rfl, h2, h3⟩ := g
  exact ⟨S', h, h2, h3⟩
def aCd (c : ClassFile.Cond) (x y : aA) (S : aS) (A B : aS → Bool) : Bool := match c with
  | .eq => aTh (aEq x y S) A && aTh (aNe x y S) B
  | .ne => aTh (aEq x y S) B && aTh (aNe x y S) A
  | .lt => aTh (aLe 1 x y S) A && aTh (aLe 0 y x S) B
  | .ge => aTh (aLe 1 x y S) B && aTh (aLe 0 y x S) A
  | .gt => aTh (aLe 1 y x S) A && aTh (aLe 0 x y S) B
  | .le => aTh (aLe 1 y x S) B && aTh (aLe 0 x y S) A
theorem aCd_ok {c : ClassFile.Cond} {x y : aA} {A B : aS → Bool} {PA PB : Prop} (h : aCd c x y S A B = true) (ok : aOk G W sc f0 ρ S f) (hA : ∀ S', A S' = true → aOk G W sc f0 ρ S' f → S'.1.length = S.1.length → PA) (hB : ∀ S', B S' = true → aOk G W sc f0 ρ S' f → S'.1.length = S.1.length → PB) : zif c (aev ρ x) (aev ρ y) PA PB := by
  have fA : ∀ {o : Option aS}, aTh o A = true → aGo G W sc f0 ρ S f o → PA := fun h g => by
    obtain ⟨S', h1, h2, h3⟩ := aTh_ok h g
    exact hA S' h1 h2 h3
  have fB : ∀ {o : Option aS}, aTh o B = true → aGo G W sc f0 ρ S f o → PB := fun h g => by
    obtain ⟨S', h1, h2, h3⟩ := aTh_ok h g
    exact hB S' h1 h2 h3
  unfold aCd at h
  unfold zif
  cases c <;> dsimp only at h ⊢ <;> rw [Bool.and_eq_true] at h <;> split
  · exact fA h.1 (aEq_ok ok (by assumption))
  · exact fB h.2 (aNe_ok ok (by assumption))
  · exact fB h.1 (aEq_ok ok (by assumption))
  · exact fA h.2 (aNe_ok ok (by assumption))
  · exact fA h.1 (aLe_ok ok (by omega))
  · exact fB h.2 (aLe_ok ok (by omega))
  · exact fB h.1 (aLe_ok ok (by omega))
  · exact fA h.2 (aLe_ok ok (by omega))
  · exact fA h.1 (aLe_ok ok (by omega))
  · exact fB h.2 (aLe_ok ok (by omega))
  · exact fB h.1 (aLe_ok ok (by omega))
  · exact fA h.2 (aLe_ok ok (by omega))
theorem zif_cmp {c : ClassFile.Cond} {x y : Int} {A B : Prop} (h : zif c x y A B) : zif c (zlcmp x y) 0 A B := by
  have e1 : zlcmp x y = 0 ↔ x = y := by
    unfold zlcmp; split
    · exact ⟨fun h => by omega, fun h => by omega⟩
    · split
      · exact ⟨fun _ => by assumption, fun _ => rfl⟩
      · exact ⟨fun h => by omega, fun h => by omega⟩
  have e2 : zlcmp x y < 0 ↔ x < y := by
    unfold zlcmp; split
    · exact ⟨fun _ => by assumption, fun _ => by omega⟩
    · split
      · exact ⟨fun h => by omega, fun h => by omega⟩
      · exact ⟨fun h => by omega, fun h => by omega⟩
  have e3 : 0 < zlcmp x y ↔ y < x := by
    unfold zlcmp; split
    · exact ⟨fun h => by omega, fun h => by omega⟩
    · split
      · exact ⟨fun h => by omega, fun h => by omega⟩
      · exact ⟨fun _ => by omega, fun _ => by omega⟩
  unfold zif at h ⊢
  cases c <;> dsimp only at h ⊢ <;> simp only [e1, e2, e3] <;> exact h
def aSw (x : aA) (K : Int → aS → Bool) (d : Int) : Int → List Int → aS → Bool
  | _, [], S => K d S
  | k, o :: os, S => aTh (aEq x (0, k) S) (K o) && aTh (aNe x (0, k) S) (aSw x K d (k + 1) os)
theorem aSw_ok {x : aA} {K : Int → aS → Bool} {d : Int} {P : Int → Prop} {n : Nat} (hK : ∀ o S', K o S' = true → aOk G W sc f0 ρ S' f → S'.1.length = n → P o) : ∀ (os : List Int) (k : Int) (S : aS), S.1.length = n → aSw x K d k os S = true → aOk G W sc f0 ρ S f → zsw (aev ρ x) P d k os
  | [], k, S, hn, h, ok => hK d S h ok hn
  | o :: os, k, S, hn, h, ok => by
    have h : (aTh (aEq x (0, k) S) (K o) && aTh (aNe x (0, k) S) (aSw x K d (k + 1) os)) = true := h
    rw [Bool.and_eq_true] at h
    have e0 : aev ρ (0, k) = k := by unfold aev; rw [ok.1]; exact Int.zero_add k
    show (if aev ρ x = k then P o else zsw (aev ρ x) P d (k + 1) os)
    split
    next e =>
      obtain ⟨S', h1, h2, h3⟩ := aTh_ok h.1 (aEq_ok ok (e.trans e0.symm))
      exact hK o S' h1 h2 (h3.trans hn)
    next e =>
      obtain ⟨S', h1, h2, h3⟩ := aTh_ok h.2 (aNe_ok ok (fun q => e (q.trans e0)))
      exact aSw_ok hK os (k + 1) S' (h3.trans hn) h1 h2
def aLk (x : aA) (K : Int → aS → Bool) (d : Int) : List (Int × Int) → aS → Bool
  | [], S => K d S
  | (a, o) :: os, S => aTh (aEq x (0, a) S) (K o) && aTh (aNe x (0, a) S) (aLk x K d os)
theorem aLk_ok {x : aA} {K : Int → aS → Bool} {d : Int} {P : Int → Prop} {n : Nat} (hK : ∀ o S', K o S' = true → aOk G W sc f0 ρ S' f → S'.1.length = n → P o) : ∀ (os : List (Int × Int)) (S : aS), S.1.length = n → aLk x K d os S = true → aOk G W sc f0 ρ S f → zlk (aev ρ x) P d os
  | [], S, hn, h, ok => hK d S h ok hn
  | (a, o) :: os, S, hn, h, ok => by
    have h : (aTh (aEq x (0, a) S) (K o) && aTh (aNe x (0, a) S) (aLk x K d os)) = true := h
    rw [Bool.and_eq_true] at h
    have e0 : aev ρ (0, a) = a := by unfold aev; rw [ok.1]; exact Int.zero_add a
    show (if aev ρ x = a then P o else zlk (aev ρ x) P d os)
    split
    next e =>
      obtain ⟨S', h1, h2, h3⟩ := aTh_ok h.1 (aEq_ok ok (e.trans e0.symm))
      exact hK o S' h1 h2 (h3.trans hn)
    next e =>
      obtain ⟨S', h1, h2, h3⟩ := aTh_ok h.2 (aNe_ok ok (fun q => e (q.trans e0)))
      exact aLk_ok hK os S' (h3.trans hn) h1 h2
/-! reading and writing -/
def adrop (c : Nat) (a : aA) (L : List (aK × aA)) : List (aK × aA) := L.filter (fun q => !(Nat.beq q.1.1 c) || (Nat.beq q.1.2.1 a.1 && !(ieq q.1.2.2 a.2)))
def gJ : List (Nat × aI) → Nat → Nat → Option aI
  | [], _, _ => none
  | (b, I) :: L, lo, hi => bif Nat.blt hi b then some I else bif Nat.ble b lo then gJ L lo hi else match gJ L lo hi with
    | some J => some (imin I.1 J.1, imax I.2 J.2)
    | none => none
theorem gJ_ok {j lo hi : Nat} (h1 : lo ≤ j) (h2 : j ≤ hi) : ∀ {L : List (Nat × aI)} {J : aI}, gJ L lo hi = some J → ∃ I, gAt L j = some I ∧ ∀ z, aIn I z → aIn J z
  | [], J, h => by cases h
  | (b, I) :: L, J, h => by
    unfold gJ at h
    unfold gAt
    cases hb : Nat.blt hi b with
    | true =>
      rw [hb] at h
      have h : some I = some J := h
      cases h
      have hb : hi + 1 ≤ b := Nat.le_of_ble_eq_true hb
      have : Nat.blt j b = true := Nat.ble_eq_true_of_le (by omega)
      rw [this]
      exact ⟨I, rfl, fun _ h => h⟩
    | false =>
      rw [hb] at h
      cases hc : Nat.ble b lo with
      | true =>
        rw [hc] at h
        have hc := Nat.le_of_ble_eq_true hc
        have : Nat.blt j b = false := by
          cases hd : Nat.blt j b with
          | false => rfl
          | true =>
            have hd : j + 1 ≤ b := Nat.le_of_ble_eq_true hd
            omega
        rw [this]
        exact gJ_ok h1 h2 h
      | false =>
        rw [hc] at h
        have h : (match gJ L lo hi with
          | some J => some (imin I.1 J.1, imax I.2 J.2)
          | none => none) = some J := h
        split at h
        next J' hJ =>
          cases h
          have key : ∀ {K : aI} {z : Int}, (K.1 = I.1 ∧ K.2 = I.2) ∨ (K.1 = J'.1 ∧ K.2 = J'.2) → aIn K z → aIn (imin I.1 J'.1, imax I.2 J'.2) z := by
            intro K z hk hz
            have a1 := imin_l I.1 J'.1
            have a2 := imin_r I.1 J'.1
            have a3 := imax_l I.2 J'.2
            have a4 := imax_r I.2 J'.2
            unfold aIn at *
            dsimp only
            omega
          cases hd : Nat.blt j b with
          | true => exact ⟨I, rfl, fun z hz => key (Or.inl ⟨rfl, rfl⟩) hz⟩
          | false =>
            obtain ⟨I', e, k⟩ := gJ_ok h1 h2 hJ
            exact ⟨I', e, fun z hz => key (Or.inr ⟨rfl, rfl⟩) (k z hz)⟩
        next => cases h
def gFit : List (Nat × aI) → Nat → Nat → aI → Bool
  | [], _, _, _ => true
  | (b, I) :: L, lo, hi, V => bif Nat.ble b lo then gFit L lo hi V else asub V I && (bif Nat.blt hi b then true else gFit L lo hi V)
theorem gFit_ok {j lo hi : Nat} (h1 : lo ≤ j) (h2 : j ≤ hi) {V I : aI} : ∀ {L : List (Nat × aI)}, gFit L lo hi V = true → gAt L j = some I → asub V I = true
  | [], _, h => by cases h
  | (b, K) :: L, h, g => by
    unfold gFit at h
    unfold gAt at g
    cases hb : Nat.ble b lo with
    | true =>
      rw [hb] at h
      have hb := Nat.le_of_ble_eq_true hb
      cases hd : Nat.blt j b with
      | true =>
        have hd : j + 1 ≤ b := Nat.le_of_ble_eq_true hd
        omega
      | false =>
        rw [hd] at g
        exact gFit_ok h1 h2 h g
    | false =>
      rw [hb] at h
      have h : (asub V K && (bif Nat.blt hi b then true else gFit L lo hi V)) = true := h
      rw [Bool.and_eq_true] at h
      cases hd : Nat.blt j b with
      | true =>
        rw [hd] at g
        have g : some K = some I := g
        cases g
        exact h.1
      | false =>
        rw [hd] at g
        cases he : Nat.blt hi b with
        | true =>
          have he : hi + 1 ≤ b := Nat.le_of_ble_eq_true he
          have : Nat.blt j b = true := Nat.ble_eq_true_of_le (by omega)
          rw [this] at hd
          cases hd
        | false =>
          have h2' := h.2
          rw [he] at h2'
          exact gFit_ok h1 h2 h2' g
def aLd (L : List (Nat × aI)) (st : List aV) (lv : aL) (S : aS) (c : Nat) (i : aA) (lo hi : Nat) (k : aA → aS → Bool) : Bool := match afind c i S.2.2.2 with
  | some v => k v S
  | none => match gJ L lo hi with
    | none => false
    | some I => bif ieq I.1 I.2 then k (0, I.1) S else aNew (.inl i :: st) lv S I (fun v S' => k v (S'.1, (S'.2.1, (S'.2.2.1, ((c, i), v) :: S'.2.2.2))))
theorem aLd_ok {c lo hi : Nat} {i : aA} {k : aA → aS → Bool} (h : aLd (G c) st lv S c i lo hi k = true) (ok : aOk G W sc f0 ρ S f) (g0 : 0 ≤ aev ρ i) (g1 : (lo : Int) ≤ aev ρ i) (g2 : aev ρ i ≤ hi) : aPost G W sc f0 ρ S f st lv k (afx sc f c (aev ρ i).toNat) := by
  have ok0 := ok
  obtain ⟨o0, o1, o2, o3, o4, o5, o6⟩ := ok
  unfold aLd at h
  split at h
  next v hv => exact aPost_id ok0 h (o4 _ (afind_ok hv)).2.symm
  next =>
    split at h
    · cases h
    next I hI =>
      obtain ⟨J, hJ, hJI⟩ := gJ_ok (j := (aev ρ i).toNat) (by omega) (by omega) hI
      have hin := hJI _ (o5.1 c _ J hJ)
      cases he : ieq I.1 I.2 with
      | true =>
        rw [he] at h
        refine aPost_id ok0 h ?_
        rw [ieq_iff] at he
        unfold aIn at hin
        rw [aev_c o0]
        omega
      | false =>
        rw [he, cond_false] at h
        obtain ⟨a, S', ρ', k1, k2, k3, k4, k5, k6, k7⟩ := aNew_ok h ok0 hin
        have k6 : (Sum.inl i :: st).map (aM ρ') = (Sum.inl i :: st).map (aM ρ) := k6
        simp only [List.map_cons, List.cons.injEq] at k6
        have ex : aev ρ' i = aev ρ i := Sum.inl.inj k6.1
        obtain ⟨p0, p1, p2, p3, p4, p5, p6⟩ := k2
        refine ⟨a, _, ρ', k1, ⟨p0, p1, p2, p3, ?_, p5, p6⟩, k3, k4, k5, k6.2, k7⟩
        intro q hq
        have hq : q ∈ ((c, i), a) :: S'.2.2.2 := hq
        rcases List.mem_cons.1 hq with rfl | hq
        · show 0 ≤ aev ρ' i ∧ afx sc f c (aev ρ' i).toNat = aev ρ' a
          rw [ex, k3]
          exact ⟨g0, rfl⟩
        · exact p4 q hq
def wcv (W : List (Nat × Nat)) (c lo hi : Nat) : Bool := (!(zsq c) && (!(Nat.beq c 50) || (Nat.beq lo hi && !(Nat.beq lo 4 || Nat.beq lo 5)))) && W.any (fun q => Nat.beq q.1 c && (Nat.beq q.2 999 || (Nat.beq lo hi && Nat.beq q.2 lo)))
theorem wcv_sp {c lo hi j : Nat} (h : wcv W c lo hi = true) (h1 : lo ≤ j) (h2 : j ≤ hi) : zsp c j = false := by
  unfold wcv at h
  simp only [Bool.and_eq_true, Bool.not_eq_true', Bool.or_eq_true] at h
  obtain ⟨⟨k1, k2⟩, -⟩ := h
  unfold zsp
  rw [k1, Bool.false_or]
  rcases k2 with k2 | ⟨k2, k3⟩
  · rw [k2]; rfl
  · have e1 := Nat.eq_of_beq_eq_true k2
    have e : j = lo := by omega
    rw [e, k3, Bool.and_false]
theorem wcv_ok {c lo hi j : Nat} (h : wcv W c lo hi = true) (h1 : lo ≤ j) (h2 : j ≤ hi) : wcov W c j = true := by
  unfold wcv at h
  rw [Bool.and_eq_true] at h
  replace h := h.2
  unfold wcov
  rw [List.any_eq_true] at h ⊢
  obtain ⟨q, hq, h⟩ := h
  refine ⟨q, hq, ?_⟩
  simp only [Bool.and_eq_true, Bool.or_eq_true] at h ⊢
  refine ⟨h.1, ?_⟩
  rcases h.2 with h | h
  · exact Or.inl h
  · have e1 := Nat.eq_of_beq_eq_true h.1
    have e2 := Nat.eq_of_beq_eq_true h.2
    have e3 : j = lo := by omega
    rw [e2, e3]
    exact Or.inr (Nat.beq_refl lo)
def aSf (S : aS) (c : Nat) (i v : aA) : aS := (S.1, (S.2.1, (S.2.2.1, ((c, i), v) :: adrop c i S.2.2.2)))
theorem afx_lt {c j : Nat} (hc : c < 1000) : afx sc f c j = f c j := by
  have h : ∀ n, 1000 ≤ n → Nat.beq c n = false := by
    intro n hn
    cases h : Nat.beq c n with
    | false => rfl
    | true => have := Nat.eq_of_beq_eq_true h; omega
  unfold afx
  rw [h 1000 (by decide), h 1001 (by decide), h 1003 (by decide), h 1004 (by decide)]; rfl
theorem afx_up {c j : Nat} {v : Int} (hc : c < 1000) : afx sc (zup f c j v) = zup (afx sc f) c j v := by
  funext a b
  by_cases e : a = c
  · subst e
    rw [afx_lt hc]
    unfold zup
    rw [if_pos rfl, if_pos rfl, afx_lt hc]
  · have h1 : zup f c j v a b = f a b := by unfold zup; rw [if_neg e]
    have h2 : zup (afx sc f) c j v a b = afx sc f a b := by unfold zup; rw [if_neg e]
    rw [h2]
    unfold afx
    rw [h1]
theorem aSf_ok {c lo hi : Nat} {i v : aA} {V : aI} (ok : aOk G W sc f0 ρ S f) (hV : aIn V (aev ρ v)) (hg : gFit (G c) lo hi V = true) (hw : wcv W c lo hi = true) (hc : c < 1000) (g0 : 0 ≤ aev ρ i) (g1 : (lo : Int) ≤ aev ρ i) (g2 : aev ρ i ≤ hi) : aOk G W sc f0 ρ (aSf S c i v) (zup f c (aev ρ i).toNat (aev ρ v)) := by
  obtain ⟨o0, o1, o2, o3, o4, o5, o6⟩ := ok
  refine ⟨o0, o1, o2, o3, ?_, ?_, ?_⟩
  · intro q hq
    rw [afx_up hc]
    rcases List.mem_cons.1 hq with rfl | hq
    · refine ⟨g0, ?_⟩
      show (if c = c then (if (aev ρ i).toNat = (aev ρ i).toNat then aev ρ v else _) else _) = aev ρ v
      rw [if_pos rfl, if_pos rfl]
    · have hq : q ∈ List.filter _ _ := hq
      rw [List.mem_filter] at hq
      obtain ⟨h1, h2⟩ := hq
      obtain ⟨h3, h4⟩ := o4 q h1
      refine ⟨h3, ?_⟩
      rw [← h4]
      by_cases e : q.1.1 = c
      · have hne : (aev ρ q.1.2).toNat ≠ (aev ρ i).toNat := by
          intro k
          have hb : Nat.beq q.1.1 c = true := by rw [e]; exact Nat.beq_refl c
          simp only [hb, Bool.not_true, Bool.false_or, Bool.and_eq_true, Bool.not_eq_true'] at h2
          have e2 := Nat.eq_of_beq_eq_true h2.1
          have e3 : q.1.2.2 ≠ i.2 := fun z => by
            have := ieq_iff.2 z
            rw [this] at h2
            cases h2.2
          have : aev ρ q.1.2 = aev ρ i := by omega
          unfold aev at this
          rw [e2] at this
          omega
        unfold zup
        rw [if_pos e, if_neg hne]
      · unfold zup
        rw [if_neg e]
  · refine ⟨?_, zRel_fr o5.2 (fun a b hab => ?_)⟩
    rotate_left
    · rw [afx_up hc]
      unfold zup
      by_cases e : a = c
      · by_cases e2 : b = (aev ρ i).toNat
        · have := wcv_sp (j := b) hw (by omega) (by omega)
          rw [e, this] at hab
          cases hab
        · rw [if_pos e, if_neg e2]
      · rw [if_neg e]
    intro c' j I hI
    rw [afx_up hc]
    have k := o5.1 c' j I hI
    unfold zup
    by_cases e : c' = c
    · rw [if_pos e]
      by_cases e2 : j = (aev ρ i).toNat
      · rw [if_pos e2]
        rw [e] at hI
        exact asub_ok (gFit_ok (by omega) (by omega) hg hI) hV
      · rw [if_neg e2]; exact k
    · rw [if_neg e]; exact k
  · intro c' j hj
    unfold zup
    by_cases e : c' = c
    · by_cases e2 : j = (aev ρ i).toNat
      · have := wcv_ok (j := j) hw (by omega) (by omega)
        rw [e, this] at hj
        cases hj
      · rw [if_pos e, if_neg e2]; exact o6 c' j hj
    · rw [if_neg e]; exact o6 c' j hj
end AOPS
end
