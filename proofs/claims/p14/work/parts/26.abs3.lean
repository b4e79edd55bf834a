noncomputable section
/-! one step -/
def acat : aV → Nat
  | .inr (.inl _) => 2
  | _ => 1
def aty : aV → Nat
  | .inl _ => 0
  | .inr (.inl _) => 1
  | .inr (.inr (.inl _)) => 9
  | .inr (.inr (.inr _)) => 2
def aget (i : Nat) : aL → Option aV
  | [] => none
  | (k, v) :: l => bif Nat.beq k i then some v else aget i l
def aset1 (i : Nat) (v : aV) (l : aL) : aL := (i, v) :: l.filter (fun q => !(q.1 == i) && !(q.1 + 1 == i && acat q.2 == 2))
def aset2 (i : Nat) (v : aV) (l : aL) : aL := (i, v) :: l.filter (fun q => !(q.1 == i) && (!(q.1 == i + 1) && !(q.1 + 1 == i && acat q.2 == 2)))
def aargs : Nat → List aV → aL
  | _, [] => []
  | i, v :: vs => (i, v) :: aargs (if acat v = 2 then i + 2 else i + 1) vs
def alen : List aV → Nat
  | [] => 0
  | v :: vs => acat v + alen vs
theorem acat_ok (ρ : Nat → Int) (v : aV) : zcat (aM ρ v) = acat v := by
  rcases v with a | a | ⟨a, b⟩ | c | t <;> rfl
theorem aty_ok {ρ : Nat → Int} {v : aV} {k : Nat} (hk : k ≤ 2) (h : Nat.beq (aty v) k = true) : Nat.beq (zty (aM ρ v)) k = true := by
  rcases v with a | a | ⟨a, b⟩ | c | t
  · exact h
  · exact h
  · have : 9 = k := Nat.eq_of_beq_eq_true h
    omega
  · exact h
  · exact h
theorem aget_ok {ρ : Nat → Int} {i : Nat} : ∀ {l : aL}, zget i (aML ρ l) = (aget i l).map (aM ρ)
  | [] => rfl
  | (k, v) :: l => by
    show (bif Nat.beq k i then some (aM ρ v) else zget i (aML ρ l)) = Option.map (aM ρ) (bif Nat.beq k i then some v else aget i l)
    cases Nat.beq k i with
    | true => rfl
    | false => exact aget_ok
theorem aset1_ok {ρ : Nat → Int} {i : Nat} {v : aV} {l : aL} : zset1 i (aM ρ v) (aML ρ l) = aML ρ (aset1 i v l) := by
  unfold zset1 aset1 aML
  rw [List.map_cons, List.filter_map]
  congr 2
  apply List.filter_congr
  intro q _
  simp only [Function.comp, acat_ok]
theorem aset2_ok {ρ : Nat → Int} {i : Nat} {v : aV} {l : aL} : zset2 i (aM ρ v) (aML ρ l) = aML ρ (aset2 i v l) := by
  unfold zset2 aset2 aML
  rw [List.map_cons, List.filter_map]
  congr 2
  apply List.filter_congr
  intro q _
  simp only [Function.comp, acat_ok]
theorem aargs_ok {ρ : Nat → Int} : ∀ {vs : List aV} {i : Nat}, zargs i (vs.map (aM ρ)) = aML ρ (aargs i vs)
  | [], _ => rfl
  | v :: vs, i => by
    show (i, aM ρ v) :: zargs (if zcat (aM ρ v) = 2 then i + 2 else i + 1) (vs.map (aM ρ)) = (i, aM ρ v) :: aML ρ (aargs (if acat v = 2 then i + 2 else i + 1) vs)
    rw [acat_ok, aargs_ok]
theorem alen_ok {ρ : Nat → Int} : ∀ {vs : List aV}, zlen (vs.map (aM ρ)) = alen vs
  | [] => rfl
  | v :: vs => by
    show zcat (aM ρ v) + zlen (vs.map (aM ρ)) = acat v + alen vs
    rw [acat_ok, alen_ok]
theorem acats_ok {ρ : Nat → Int} : ∀ {vs : List aV}, zcats (vs.map (aM ρ)) = alen vs
  | [] => rfl
  | v :: vs => by
    show zcat (aM ρ v) + zcats (vs.map (aM ρ)) = acat v + alen vs
    rw [acat_ok, acats_ok]
abbrev aP : Type := Nat → List aV → aL → aS → Bool
abbrev aR : Type := Option aV → aS → Bool
abbrev aC : Type := Nat → List aV → aS → aR → Bool
def aHP (G : aG) (W : List (Nat × Nat)) (sc : zC) (f0 : zF) (d mi kc ks : Nat) (Q : zQ) (P : aP) (n : Nat) (ρ : Nat → Int) : Prop :=
  ∀ pc st lv S ρ' f, P pc st lv S = true → aOk G W sc f0 ρ' S f → aExt n ρ ρ' → n ≤ S.1.length → zR sc d mi pc (st.map (aM ρ')) (aML ρ' lv) kc ks zSH f Q
def aHR (G : aG) (W : List (Nat × Nat)) (sc : zC) (f0 : zF) (Q : zQ) (R : aR) (n : Nat) (ρ : Nat → Int) : Prop :=
  ∀ r S ρ' f, R r S = true → aOk G W sc f0 ρ' S f → aExt n ρ ρ' → n ≤ S.1.length → Q (r.map (aM ρ')) zSH f
def aIx (N : List aI) (i : aA) (n : Nat) : Option (Nat × Nat) := match aiv N i with
  | some I => bif ile 0 I.1 && Nat.blt I.2.toNat n then some (I.1.toNat, I.2.toNat) else none
  | none => none
theorem aIx_ok {ρ : Nat → Int} {N : List aI} {i : aA} {n lo hi : Nat} (h : aNm ρ N) (e : aIx N i n = some (lo, hi)) : 0 ≤ aev ρ i ∧ (lo : Int) ≤ aev ρ i ∧ aev ρ i ≤ hi ∧ aev ρ i < n := by
  unfold aIx at e
  split at e
  next I hI =>
    have := aiv_ok h hI
    cases hb : ile 0 I.1 && Nat.blt I.2.toNat n with
    | false => rw [hb] at e; cases e
    | true =>
      rw [hb, cond_true] at e
      simp only [Option.some.injEq, Prod.mk.injEq] at e
      rw [Bool.and_eq_true, ile_iff] at hb
      have h2 : I.2.toNat + 1 ≤ n := Nat.le_of_ble_eq_true hb.2
      unfold aIn at this
      omega
  next => cases e
def aTab (t : Nat) : Option (List Int × aI) := match t with
  | 0 => some (zl_START, (0, 59))
  | 1 => some (zl_LEAST, (-1, 1))
  | 2 => some (zl_GREATEST, (3, 9999))
  | 3 => some (zl_ABOVE, (-1, 4))
  | 4 => some (zl_BODIES, (0, 81))
  | _ => none
theorem aTab_ok {t : Nat} {l : List Int} {I : aI} (h : aTab t = some (l, I)) (sc : zC) : zTb sc t = (l.length, fun j => l.getD j 0) ∧ ∀ j, j < l.length → aIn I (l.getD j 0) := by
  unfold aTab at h
  split at h
  · cases h; exact ⟨rfl, by unfold aIn; decide⟩
  · cases h; exact ⟨rfl, by unfold aIn; decide⟩
  · cases h; exact ⟨rfl, by unfold aIn; decide⟩
  · cases h; exact ⟨rfl, by unfold aIn; decide⟩
  · cases h; exact ⟨rfl, by unfold aIn; decide⟩
  · cases h
section ASTEP
variable {G : aG} {W : List (Nat × Nat)} {sc : zC} {f0 f : zF} {ρ : Nat → Int} {S : aS} {st : List aV} {lv : aL} {d mi pc kc ks : Nat} {Q : zQ} {P : aP} {R : aR}
theorem aPost_P {k : aA → aS → Bool} {v : Int} {T : Prop} (h : aPost G W sc f0 ρ S f st lv k v) (g : ∀ a S' ρ', k a S' = true → aOk G W sc f0 ρ' S' f → aev ρ' a = v → aExt S.1.length ρ ρ' → S.1.length ≤ S'.1.length → st.map (aM ρ') = st.map (aM ρ) → aML ρ' lv = aML ρ lv → T) : T := by
  obtain ⟨a, S', ρ', h1, h2, h3, h4, h5, h6, h7⟩ := h
  exact g a S' ρ' h1 h2 h3 h4 h5 h6 h7
theorem aHP_i (hP : aHP G W sc f0 d mi kc ks Q P S.1.length ρ) (ok : aOk G W sc f0 ρ S f) {st' : List aV} {lv' : aL} (h : P pc st' lv' S = true) : zR sc d mi pc (st'.map (aM ρ)) (aML ρ lv') kc ks zSH f Q := hP _ _ _ _ _ _ h ok (aExt_r _ _) (Nat.le_refl _)
def aldv (P : aP) (pc : Nat) (st : List aV) (lv : aL) (S : aS) (i tk : Nat) : Bool := match aget i lv with
  | some v => bif Nat.beq (aty v) tk then P pc (v :: st) lv S else false
  | none => false
theorem aldv_ok {len i tk : Nat} (htk : tk ≤ 2) (h : aldv P (pc + len) st lv S i tk = true) (ok : aOk G W sc f0 ρ S f) (hP : aHP G W sc f0 d mi kc ks Q P S.1.length ρ) : zld (zR sc) d mi pc (st.map (aM ρ)) (aML ρ lv) kc ks zSH f Q len i tk := by
  unfold aldv at h
  unfold zld
  rw [aget_ok]
  cases hg : aget i lv with
  | none => rw [hg] at h; cases h
  | some v =>
    rw [hg] at h
    dsimp only at h
    cases hb : Nat.beq (aty v) tk with
    | false => rw [hb] at h; cases h
    | true =>
      rw [hb, cond_true] at h
      show (bif Nat.beq (zty (aM ρ v)) tk then zR sc d mi (pc + len) ((v :: st).map (aM ρ)) (aML ρ lv) kc ks zSH f Q else False)
      rw [aty_ok htk hb]
      exact aHP_i hP ok h
def a2 (P : aP) (pc : Nat) (st : List aV) (lv : aL) (S : aS) (op : Nat) : Bool := match st with
  | .inl y :: .inl x :: r => aBin op r lv S x y (fun a S' => P pc (.inl a :: r) lv S')
  | _ => false
theorem a2_ok {op : Nat} {g : Int → Int → Int} (hg : ∀ x y, g x y = zbin op x y) (h : a2 P (pc + 1) st lv S op = true) (ok : aOk G W sc f0 ρ S f) (hP : aHP G W sc f0 d mi kc ks Q P S.1.length ρ) : zop2 (zR sc) d mi pc (st.map (aM ρ)) (aML ρ lv) kc ks zSH f Q g := by
  unfold a2 at h
  split at h
  next y x r =>
    refine aPost_P (aBin_ok h ok) (fun a S' ρ' h1 h2 h3 h4 h5 h6 h7 => ?_)
    have := hP _ _ _ _ _ _ h1 h2 h4 h5
    show zR sc d mi (pc + 1) (zI (g (aev ρ x) (aev ρ y)) :: r.map (aM ρ)) (aML ρ lv) kc ks zSH f Q
    rw [hg, ← h3, ← h6, ← h7]
    exact this
  next => cases h
def a1 (P : aP) (pc : Nat) (st : List aV) (lv : aL) (S : aS) (op : Nat) : Bool := match st with
  | .inl x :: r => aBin op r lv S x (0, 0) (fun a S' => P pc (.inl a :: r) lv S')
  | _ => false
theorem a1_ok {op : Nat} {g : Int → zV} (hg : ∀ x, g x = zI (zbin op x 0)) (h : a1 P (pc + 1) st lv S op = true) (ok : aOk G W sc f0 ρ S f) (hP : aHP G W sc f0 d mi kc ks Q P S.1.length ρ) : zop1 (zR sc) d mi pc (st.map (aM ρ)) (aML ρ lv) kc ks zSH f Q g := by
  unfold a1 at h
  split at h
  next x r =>
    refine aPost_P (aBin_ok h ok) (fun a S' ρ' h1 h2 h3 h4 h5 h6 h7 => ?_)
    have := hP _ _ _ _ _ _ h1 h2 h4 h5
    show zR sc d mi (pc + 1) (g (aev ρ x) :: r.map (aM ρ)) (aML ρ lv) kc ks zSH f Q
    rw [aev_c ok.1] at h3
    rw [hg, ← h3, ← h6, ← h7]
    exact this
  next => cases h
def anz (S : aS) (y : aA) : Bool := (match aiv S.1 y with
  | some I => ile 1 I.1 || ile I.2 (-1)
  | none => false) || (ieq y.2 0 && S.2.1.any (Nat.beq y.1))
theorem anz_ok {y : aA} (h : anz S y = true) (ok : aOk G W sc f0 ρ S f) : ¬ aev ρ y = 0 := by
  unfold anz at h
  rw [Bool.or_eq_true] at h
  rcases h with h | h
  · split at h
    next I hI =>
      have := aiv_ok ok.2.1 hI
      rw [Bool.or_eq_true, ile_iff, ile_iff] at h
      unfold aIn at this
      omega
    next => cases h
  · rw [Bool.and_eq_true, ieq_iff, List.any_eq_true] at h
    obtain ⟨h1, i, hi, h2⟩ := h
    have := ok.2.2.1 i hi
    rw [← Nat.eq_of_beq_eq_true h2] at this
    unfold aev
    omega
def adv (P : aP) (pc : Nat) (st : List aV) (lv : aL) (S : aS) (op : Nat) : Bool := match st with
  | .inl y :: .inl x :: r => anz S y && aBin op r lv S x y (fun a S' => P pc (.inl a :: r) lv S')
  | _ => false
theorem adv_ok {op : Nat} {g : Int → Int → Int} (hg : ∀ x y, g x y = zbin op x y) (h : adv P (pc + 1) st lv S op = true) (ok : aOk G W sc f0 ρ S f) (hP : aHP G W sc f0 d mi kc ks Q P S.1.length ρ) : ∃ y x r, st.map (aM ρ) = (.inl y :: .inl x :: r : List zV) ∧ ¬ y = 0 ∧ zR sc d mi (pc + 1) (zI (g x y) :: r) (aML ρ lv) kc ks zSH f Q := by
  unfold adv at h
  split at h
  next y x r =>
    rw [Bool.and_eq_true] at h
    refine ⟨aev ρ y, aev ρ x, r.map (aM ρ), rfl, anz_ok h.1 ok, ?_⟩
    refine aPost_P (aBin_ok h.2 ok) (fun a S' ρ' h1 h2 h3 h4 h5 h6 h7 => ?_)
    have := hP _ _ _ _ _ _ h1 h2 h4 h5
    rw [hg, ← h3, ← h6, ← h7]
    exact this
  next => cases h
def afr (P : aP) (pc : Nat) (r : List aV) (lv : aL) (S : aS) : Bool := aNew r lv S aF64 (fun a S' => P pc (.inr (.inl a) :: r) lv S')
theorem afr_ok {r : List aV} {z : Int} (hz : zIn64 z) (h : afr P pc r lv S = true) (ok : aOk G W sc f0 ρ S f) (hP : aHP G W sc f0 d mi kc ks Q P S.1.length ρ) : zR sc d mi pc (zJ z :: r.map (aM ρ)) (aML ρ lv) kc ks zSH f Q := by
  refine aPost_P (aNew_ok h ok (aF64_ok.2 hz)) (fun a S' ρ' h1 h2 h3 h4 h5 h6 h7 => ?_)
  have := hP _ _ _ _ _ _ h1 h2 h4 h5
  rw [← h3, ← h6, ← h7]
  exact this
def al2 (P : aP) (pc : Nat) (st : List aV) (lv : aL) (S : aS) : Bool := match st with
  | .inr (.inl _) :: .inr (.inl _) :: r => afr P pc r lv S
  | _ => false
theorem al2_ok {g : Int → Int → Int} (hg : ∀ x y, zIn64 (g x y)) (h : al2 P (pc + 1) st lv S = true) (ok : aOk G W sc f0 ρ S f) (hP : aHP G W sc f0 d mi kc ks Q P S.1.length ρ) : zlop2 (zR sc) d mi pc (st.map (aM ρ)) (aML ρ lv) kc ks zSH f Q g := by
  unfold al2 at h
  split at h
  next y x r => exact afr_ok (hg _ _) h ok hP
  next => cases h
def ast1 (P : aP) (pc : Nat) (st : List aV) (lv : aL) (S : aS) (i : Nat) : Bool := match st with
  | .inl x :: r => P pc r (aset1 i (.inl x) lv) S
  | _ => false
theorem ast1_ok {len i : Nat} (h : ast1 P (pc + len) st lv S i = true) (ok : aOk G W sc f0 ρ S f) (hP : aHP G W sc f0 d mi kc ks Q P S.1.length ρ) : zst1 (zR sc) d mi pc (st.map (aM ρ)) (aML ρ lv) kc ks zSH f Q len i := by
  unfold ast1 at h
  split at h
  next x r =>
    show zR sc d mi (pc + len) (r.map (aM ρ)) (zset1 i (aM ρ (.inl x)) (aML ρ lv)) kc ks zSH f Q
    rw [aset1_ok]
    exact aHP_i hP ok h
  next => cases h
def ast2 (P : aP) (pc : Nat) (st : List aV) (lv : aL) (S : aS) (i : Nat) : Bool := match st with
  | .inr (.inl x) :: r => P pc r (aset2 i (.inr (.inl x)) lv) S
  | _ => false
theorem ast2_ok {len i : Nat} (h : ast2 P (pc + len) st lv S i = true) (ok : aOk G W sc f0 ρ S f) (hP : aHP G W sc f0 d mi kc ks Q P S.1.length ρ) : zst2 (zR sc) d mi pc (st.map (aM ρ)) (aML ρ lv) kc ks zSH f Q len i := by
  unfold ast2 at h
  split at h
  next x r =>
    show zR sc d mi (pc + len) (r.map (aM ρ)) (zset2 i (aM ρ (.inr (.inl x))) (aML ρ lv)) kc ks zSH f Q
    rw [aset2_ok]
    exact aHP_i hP ok h
  next => cases h
def astA (P : aP) (pc : Nat) (st : List aV) (lv : aL) (S : aS) (i : Nat) : Bool := match st with
  | .inr (.inr (.inr (.inl x))) :: r => P pc r (aset1 i (.inr (.inr (.inr (.inl x)))) lv) S
  | _ => false
theorem astA_ok {len i : Nat} (h : astA P (pc + len) st lv S i = true) (ok : aOk G W sc f0 ρ S f) (hP : aHP G W sc f0 d mi kc ks Q P S.1.length ρ) : zstA (zR sc) d mi pc (st.map (aM ρ)) (aML ρ lv) kc ks zSH f Q len i := by
  unfold astA at h
  split at h
  next x r =>
    show zR sc d mi (pc + len) (r.map (aM ρ)) (zset1 i (aM ρ (.inr (.inr (.inr (.inl x))))) (aML ρ lv)) kc ks zSH f Q
    rw [aset1_ok]
    exact aHP_i hP ok h
  next => cases h
theorem zSH_lt {c : Nat} {s : zSh} (h : zSH[c]? = some s) : c < 1000 := by
  obtain ⟨h1, -⟩ := List.getElem?_eq_some_iff.1 h
  exact Nat.lt_of_lt_of_le h1 (by decide)
def agf (G : aG) (P : aP) (pc : Nat) (st : List aV) (lv : aL) (S : aS) (e : zE) : Bool := match e with
  | (0, ci, k, _, _, _) => match st with
    | .inr (.inr (.inr (.inl c))) :: r => match zSH[c]? with
      | some (.inl (ci', ks')) => bif Nat.beq ci' ci then (match ks'[k]? with
        | some (.inl c') => P (pc + 3) (.inr (.inr (.inr (.inl c'))) :: r) lv S
        | some (.inr 2) => false
        | some (.inr _) => aLd (G c) r lv S c (0, (k : Int)) k k (fun a S' => P (pc + 3) (.inl a :: r) lv S')
        | none => false) else false
      | _ => false
    | _ => false
  | _ => false
theorem agf_ok {e : zE} (h : agf G P pc st lv S e = true) (ok : aOk G W sc f0 ρ S f) (hP : aHP G W sc f0 d mi kc ks Q P S.1.length ρ) : zgetf (zR sc) d mi pc (st.map (aM ρ)) (aML ρ lv) kc ks zSH f Q e := by
  unfold agf at h
  unfold zgetf
  split at h
  next ci k a b c =>
    try dsimp only
    split at h
    next c r =>
      show (match zSH[c]? with
        | some (.inl (ci', ks')) => bif Nat.beq ci' ci then (match ks'[k]? with
          | some (.inl c') => zR sc d mi (pc + 3) (zP c' :: r.map (aM ρ)) (aML ρ lv) kc ks zSH f Q
          | some (.inr 2) => False
          | some (.inr _) => zR sc d mi (pc + 3) (zI (f c k) :: r.map (aM ρ)) (aML ρ lv) kc ks zSH f Q
          | none => False) else False
        | _ => False)
      split at h
      next ci' ks' hc =>
        try rw [hc]
        try dsimp only
        cases hb : Nat.beq ci' ci with
        | false => rw [hb] at h; cases h
        | true =>
          rw [hb, cond_true] at h
          rw [cond_true]
          split at h
          next c' hk => (try rw [hk]); exact aHP_i hP ok h
          next => cases h
          next n hn hk =>
            try rw [hk]
            have e1 : aev ρ (0, (k : Int)) = (k : Int) := aev_c ok.1 _
            have h2 := aLd_ok h ok (by rw [e1]; omega) (by rw [e1]; exact Int.le_refl _) (by rw [e1]; exact Int.le_refl _)
            have g : zR sc d mi (pc + 3) (zI (f c k) :: r.map (aM ρ)) (aML ρ lv) kc ks zSH f Q := by
              refine aPost_P h2 (fun a S' ρ' h1 h2 h3 h4 h5 h6 h7 => ?_)
              have := hP _ _ _ _ _ _ h1 h2 h4 h5
              rw [e1, Int.toNat_natCast, afx_lt (zSH_lt hc)] at h3
              rw [← h3, ← h6, ← h7]
              exact this
            exact g
          next => cases h
      next => cases h
    next => cases h
  next => cases h
def apf (G : aG) (W : List (Nat × Nat)) (P : aP) (pc : Nat) (st : List aV) (lv : aL) (S : aS) (e : zE) : Bool := match e with
  | (0, ci, k, 0, 0, _) => match st with
    | .inl z :: .inr (.inr (.inr (.inl c))) :: r => match zSH[c]? with
      | some (.inl (ci', ks')) => bif Nat.beq ci' ci && (ks'[k]? == some (.inr 0)) then (match aiv S.1 z with
        | some V => bif gFit (G c) k k V && wcv W c k k then P (pc + 3) r lv (aSf S c (0, (k : Int)) z) else false
        | none => false) else false
      | _ => false
    | _ => false
  | (0, ci, k, 1, 0, _) => match st with
    | .inl z :: .inr (.inr (.inr (.inl c))) :: r => match zSH[c]? with
      | some (.inl (ci', ks')) => bif Nat.beq ci' ci && (ks'[k]? == some (.inr 1)) then (match aiv S.1 z with
        | some V => bif (gFit (G c) k k V && wcv W c k k) && (ile 0 V.1 && ile V.2 1) then P (pc + 3) r lv (aSf S c (0, (k : Int)) z) else false
        | none => false) else false
      | _ => false
    | _ => false
  | _ => false
theorem apf_ok {e : zE} (h : apf G W P pc st lv S e = true) (ok : aOk G W sc f0 ρ S f) (hP : aHP G W sc f0 d mi kc ks Q P S.1.length ρ) : zputf (zR sc) d mi pc (st.map (aM ρ)) (aML ρ lv) kc ks zSH f Q e := by
  have key : ∀ {c k : Nat} {z : aA} {V : aI} {r : List aV} {s : zSh}, zSH[c]? = some s → aiv S.1 z = some V → gFit (G c) k k V = true → wcv W c k k = true → P (pc + 3) r lv (aSf S c (0, (k : Int)) z) = true → zR sc d mi (pc + 3) (r.map (aM ρ)) (aML ρ lv) kc ks zSH (zup f c k (aev ρ z)) Q := by
    intro c k z V r s hc hV hg hw h
    have e1 : aev ρ (0, (k : Int)) = (k : Int) := aev_c ok.1 _
    have h2 := aSf_ok (i := (0, (k : Int))) ok (aiv_ok ok.2.1 hV) hg hw (zSH_lt hc) (by rw [e1]; omega) (by rw [e1]; exact Int.le_refl _) (by rw [e1]; exact Int.le_refl _)
    rw [e1, Int.toNat_natCast] at h2
    exact hP _ _ _ _ _ _ h h2 (aExt_r _ _) (Nat.le_refl _)
  unfold apf at h
  unfold zputf
  split at h
  next ci k c0 =>
    try dsimp only
    split at h
    next z c r =>
      show (match zSH[c]? with
        | some (.inl (ci', ks')) => bif Nat.beq ci' ci && (ks'[k]? == some (.inr 0)) then zR sc d mi (pc + 3) (r.map (aM ρ)) (aML ρ lv) kc ks zSH (zup f c k (aev ρ z)) Q else False
        | _ => False)
      split at h
      next ci' ks' hc =>
        try rw [hc]
        try dsimp only
        cases hb : Nat.beq ci' ci && (ks'[k]? == some (.inr 0)) with
        | false => rw [hb] at h; cases h
        | true =>
          rw [hb, cond_true] at h
          rw [cond_true]
          split at h
          next V hV =>
            cases hd : gFit (G c) k k V && wcv W c k k with
            | false => rw [hd] at h; cases h
            | true =>
              rw [hd, cond_true] at h
              rw [Bool.and_eq_true] at hd
              exact key hc hV hd.1 hd.2 h
          next => cases h
      next => cases h
    next => cases h
  next ci k c0 =>
    try dsimp only
    split at h
    next z c r =>
      show (match zSH[c]? with
        | some (.inl (ci', ks')) => bif Nat.beq ci' ci && (ks'[k]? == some (.inr 1)) then zrB (aev ρ z) (zR sc d mi (pc + 3) (r.map (aM ρ)) (aML ρ lv) kc ks zSH (zup f c k (aev ρ z)) Q) else False
        | _ => False)
      split at h
      next ci' ks' hc =>
        try rw [hc]
        try dsimp only
        cases hb : Nat.beq ci' ci && (ks'[k]? == some (.inr 1)) with
        | false => rw [hb] at h; cases h
        | true =>
          rw [hb, cond_true] at h
          rw [cond_true]
          split at h
          next V hV =>
            cases hd : (gFit (G c) k k V && wcv W c k k) && (ile 0 V.1 && ile V.2 1) with
            | false => rw [hd] at h; cases h
            | true =>
              rw [hd, cond_true] at h
              simp only [Bool.and_eq_true, ile_iff] at hd
              have hz := aiv_ok ok.2.1 hV
              unfold aIn at hz
              exact zrB_p (by omega) (key hc hV hd.1.1 hd.1.2 h)
          next => cases h
      next => cases h
    next => cases h
  next => cases h
def aal (G : aG) (P : aP) (pc : Nat) (st : List aV) (lv : aL) (S : aS) (b : Bool) : Bool := match st with
  | .inl i :: .inr (.inr (.inr (.inl c))) :: r => (match zSH[c]? with
    | some (.inr (b', n)) => bif b == b' then (match aIx S.1 i n with
      | some (lo, hi) => aLd (G c) r lv S c i lo hi (fun a S' => P pc ((bif b then .inr (.inl a) else .inl a) :: r) lv S')
      | none => false) else false
    | _ => false)
  | .inl i :: .inr (.inr (.inr (.inr t))) :: r => bif b then false else (match aTab t with
    | some (l, I) => (match aIx S.1 i l.length with
      | some (lo, hi) => bif Nat.beq lo hi then P pc (.inl (0, l.getD lo 0) :: r) lv S else aNew r lv S I (fun a S' => P pc (.inl a :: r) lv S')
      | none => false)
    | none => bif Nat.beq t 5 then (match afind 1001 (0, 0) S.2.2.2 with
      | some v => (match aiv S.1 v with
        | some V => (match aIx S.1 i V.1.toNat with
          | some (lo, hi) => aLd (G 1000) r lv S 1000 i lo hi (fun a S' => P pc (.inl a :: r) lv S')
          | none => false)
        | none => false)
      | none => false) else false)
  | _ => false
theorem aal_ok {b : Bool} (h : aal G P (pc + 1) st lv S b = true) (ok : aOk G W sc f0 ρ S f) (hP : aHP G W sc f0 d mi kc ks Q P S.1.length ρ) : zaload sc (zR sc) d mi pc (st.map (aM ρ)) (aML ρ lv) kc ks zSH f Q b := by
  unfold aal at h
  split at h
  next i c r =>
    show (match zSH[c]? with
      | some (.inr (b', n)) => bif b == b' then zix (aev ρ i) n (zR sc d mi (pc + 1) ((bif b then zJ (f c (aev ρ i).toNat) else zI (f c (aev ρ i).toNat)) :: r.map (aM ρ)) (aML ρ lv) kc ks zSH f Q) else False
      | _ => False)
    split at h
    next b' n hc =>
      try rw [hc]
      try dsimp only
      cases hb : b == b' with
      | false => rw [hb] at h; cases h
      | true =>
        rw [hb, cond_true] at h
        rw [cond_true]
        split at h
        next lo hi hx =>
          obtain ⟨x1, x2, x3, x4⟩ := aIx_ok ok.2.1 hx
          refine zix_p ⟨x1, x4⟩ ?_
          refine aPost_P (aLd_ok h ok x1 x2 x3) (fun a S' ρ' h1 h2 h3 h4 h5 h6 h7 => ?_)
          have := hP _ _ _ _ _ _ h1 h2 h4 h5
          rw [afx_lt (zSH_lt hc)] at h3
          rw [← h3, ← h6, ← h7]
          cases b <;> exact this
        next => cases h
    next => cases h
  next i t r =>
    cases b with
    | true => cases h
    | false =>
      rw [cond_false] at h
      show zix (aev ρ i) (zTb sc t).1 (zR sc d mi (pc + 1) (zI ((zTb sc t).2 (aev ρ i).toNat) :: r.map (aM ρ)) (aML ρ lv) kc ks zSH f Q)
      split at h
      next l I ht =>
        obtain ⟨t1, t2⟩ := aTab_ok ht sc
        rw [t1]
        split at h
        next lo hi hx =>
          obtain ⟨x1, x2, x3, x4⟩ := aIx_ok ok.2.1 hx
          refine zix_p ⟨x1, x4⟩ ?_
          cases hi0 : Nat.beq lo hi with
          | true =>
            rw [hi0, cond_true] at h
            have e1 : (aev ρ i).toNat = lo := by
              have := Nat.eq_of_beq_eq_true hi0
              omega
            have h2 := aHP_i hP ok h
            have e2 : aM ρ (.inl (0, l.getD lo 0)) = zI (l.getD (aev ρ i).toNat 0) := by
              show zI (aev ρ (0, l.getD lo 0)) = _
              rw [aev_c ok.1, e1]
            rw [List.map_cons, e2] at h2
            exact h2
          | false =>
            rw [hi0, cond_false] at h
            refine aPost_P (aNew_ok h ok (t2 (aev ρ i).toNat (by omega))) (fun a S' ρ' h1 h2 h3 h4 h5 h6 h7 => ?_)
            have := hP _ _ _ _ _ _ h1 h2 h4 h5
            try dsimp only
            rw [← h3, ← h6, ← h7]
            exact this
        next => cases h
      next =>
        cases h5 : Nat.beq t 5 with
        | false => rw [h5] at h; cases h
        | true =>
          rw [h5, cond_true] at h
          have := Nat.eq_of_beq_eq_true h5
          subst this
          split at h
          next v hv =>
            split at h
            next V hV =>
              split at h
              next lo hi hx =>
                obtain ⟨x1, x2, x3, x4⟩ := aIx_ok ok.2.1 hx
                have y1 := (ok.2.2.2.2.1 _ (afind_ok hv)).2
                have y2 := aiv_ok ok.2.1 hV
                have y3 : afx sc f 1001 (aev ρ (0, 0)).toNat = (sc.1 : Int) := rfl
                have y4 : (sc.1 : Int) = aev ρ v := y3.symm.trans y1
                unfold aIn at y2
                refine zix_p ⟨x1, ?_⟩ ?_
                · show aev ρ i < (sc.1 : Int)
                  omega
                · refine aPost_P (aLd_ok h ok x1 x2 x3) (fun a S' ρ' h1 h2 h3 h4 h5 h6 h7 => ?_)
                  have := hP _ _ _ _ _ _ h1 h2 h4 h5
                  have h3 : aev ρ' a = (zTb sc 5).2 (aev ρ i).toNat := h3
                  rw [← h3, ← h6, ← h7]
                  exact this
              next => cases h
            next => cases h
          next => cases h
  next => cases h
def aasB (G : aG) (W : List (Nat × Nat)) (P : aP) (pc : Nat) (r : List aV) (lv : aL) (S : aS) (v i : aA) (c n : Nat) : Bool := match aIx S.1 i n, aiv S.1 v with
  | some (lo, hi), some V => bif gFit (G c) lo hi V && wcv W c lo hi then P pc r lv (aSf S c i v) else false
  | _, _ => false
theorem aasB_ok {r : List aV} {v i : aA} {c n : Nat} {s : zSh} (hc : zSH[c]? = some s) (h : aasB G W P pc r lv S v i c n = true) (ok : aOk G W sc f0 ρ S f) (hP : aHP G W sc f0 d mi kc ks Q P S.1.length ρ) : zix (aev ρ i) n (zR sc d mi pc (r.map (aM ρ)) (aML ρ lv) kc ks zSH (zup f c (aev ρ i).toNat (aev ρ v)) Q) := by
  unfold aasB at h
  split at h
  next lo hi V hx hV =>
    obtain ⟨x1, x2, x3, x4⟩ := aIx_ok ok.2.1 hx
    cases hd : gFit (G c) lo hi V && wcv W c lo hi with
    | false => rw [hd] at h; cases h
    | true =>
      rw [hd, cond_true] at h
      rw [Bool.and_eq_true] at hd
      refine zix_p ⟨x1, x4⟩ ?_
      exact hP _ _ _ _ _ _ h (aSf_ok ok (aiv_ok ok.2.1 hV) hd.1 hd.2 (zSH_lt hc) x1 x2 x3) (aExt_r _ _) (Nat.le_refl _)
  next => cases h
def aas (G : aG) (W : List (Nat × Nat)) (P : aP) (pc : Nat) (st : List aV) (lv : aL) (S : aS) (b : Bool) : Bool := match b with
  | false => match st with
    | .inl v :: .inl i :: .inr (.inr (.inr (.inl c))) :: r => match zSH[c]? with
      | some (.inr (false, n)) => aasB G W P pc r lv S v i c n
      | _ => false
    | _ => false
  | true => match st with
    | .inr (.inl v) :: .inl i :: .inr (.inr (.inr (.inl c))) :: r => match zSH[c]? with
      | some (.inr (true, n)) => aasB G W P pc r lv S v i c n
      | _ => false
    | _ => false
theorem aas_ok {b : Bool} (h : aas G W P (pc + 1) st lv S b = true) (ok : aOk G W sc f0 ρ S f) (hP : aHP G W sc f0 d mi kc ks Q P S.1.length ρ) : zastore (zR sc) d mi pc (st.map (aM ρ)) (aML ρ lv) kc ks zSH f Q b := by
  unfold aas at h
  split at h
  · split at h
    next v i c r =>
      show (match zSH[c]? with
        | some (.inr (false, n)) => zix (aev ρ i) n (zR sc d mi (pc + 1) (r.map (aM ρ)) (aML ρ lv) kc ks zSH (zup f c (aev ρ i).toNat (aev ρ v)) Q)
        | _ => False)
      split at h
      next n hc => try rw [hc]
                   exact aasB_ok hc h ok hP
      next => cases h
    next => cases h
  · split at h
    next v i c r =>
      show (match zSH[c]? with
        | some (.inr (true, n)) => zix (aev ρ i) n (zR sc d mi (pc + 1) (r.map (aM ρ)) (aML ρ lv) kc ks zSH (zup f c (aev ρ i).toNat (aev ρ v)) Q)
        | _ => False)
      split at h
      next n hc => try rw [hc]
                   exact aasB_ok hc h ok hP
      next => cases h
    next => cases h
end ASTEP
end
