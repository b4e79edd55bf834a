noncomputable section
/-! runs, what is known of methods, loops -/
def aFa (sc : zC) (ρ : Nat → Int) (f : zF) (L : List (aK × aA)) : Prop := ∀ q ∈ L, 0 ≤ aev ρ q.1.2 ∧ afx sc f q.1.1 (aev ρ q.1.2).toNat = aev ρ q.2
/-- the method, the depth; names, arguments, facts before; what is written; names, answer, facts behind -/
abbrev aSum : Type := Nat × (Nat × (List aI × (List aV × (List (aK × aA) × (List (Nat × Nat) × (List aI × (Option aV × (List (aK × aA) × List (aA × aA)))))))))
/-- the first of each pair is the second at least -/
def aGs (ρ : Nat → Int) (L : List (aA × aA)) : Prop := ∀ p ∈ L, aev ρ p.2 ≤ aev ρ p.1
/-- kept among the terms: the greater of the two is the first -/
def aGt (p : aA × aA) : aT := ((14, (p.1, p.2)), p.1)
theorem aGt_ok {ρ : Nat → Int} {p : aA × aA} (h : aev ρ p.2 ≤ aev ρ p.1) : aev ρ (aGt p).2 = zbin (aGt p).1.1 (aev ρ (aGt p).1.2.1) (aev ρ (aGt p).1.2.2) := by
  show aev ρ p.1 = (if aev ρ p.1 < aev ρ p.2 then aev ρ p.2 else aev ρ p.1)
  rw [if_neg (by omega)]
def aPQ (G : aG) (sc : zC) (N0 N1 : List aI) (ret : Option aV) (post : List (aK × aA) × List (aA × aA)) (W : List (Nat × Nat)) (ρ0 : Nat → Int) (f : zF) : zQ := fun r sh f' => sh = zSH ∧ ∃ ρ1, ρ1 0 = 0 ∧ aExt N0.length ρ0 ρ1 ∧ aNm ρ1 (N0 ++ N1) ∧ r = ret.map (aM ρ1) ∧ aFa sc ρ1 f' post.1 ∧ aGs ρ1 post.2 ∧ aGok G (afx sc f') ∧ aFr W f f'
def aSumOk (G : aG) (s : aSum) : Prop := ∀ sc f ρ0 d, s.2.1 ≤ d → ρ0 0 = 0 → aNm ρ0 s.2.2.1 → aFa sc ρ0 f s.2.2.2.2.1 → aGok G (afx sc f) → zR sc d s.1 0 [] (zargs 0 (s.2.2.2.1.map (aM ρ0))) 0 0 zSH f (aPQ G sc s.2.2.1 s.2.2.2.2.2.2.1 s.2.2.2.2.2.2.2.1 s.2.2.2.2.2.2.2.2 s.2.2.2.2.2.1 ρ0 f)
def aSb (σ : List aA) (p : aA) : aA := ((σ.getD p.1 (0, 0)).1, (σ.getD p.1 (0, 0)).2 + p.2)
def aSbV (σ : List aA) : aV → aV
  | .inl a => .inl (aSb σ a)
  | .inr (.inl a) => .inr (.inl (aSb σ a))
  | .inr (.inr (.inl (a, b))) => .inr (.inr (.inl (aSb σ a, aSb σ b)))
  | .inr (.inr (.inr c)) => .inr (.inr (.inr c))
def asm (ρ : Nat → Int) (σ : List aA) : Nat → Int := fun i => aev ρ (σ.getD i (0, 0))
def aMt (N : List aI) (x y : aA) : Bool := aeq x y || (match aiv N x, aiv N y with
  | some I, some J => (ieq I.1 I.2 && ieq J.1 J.2) && ieq I.1 J.1
  | _, _ => false)
def aMv (N : List aI) (σ : List aA) : aV → aV → Bool
  | .inl p, .inl a => aMt N (aSb σ p) a
  | .inr (.inl p), .inr (.inl a) => aMt N (aSb σ p) a
  | .inr (.inr (.inr (.inl c))), .inr (.inr (.inr (.inl c'))) => Nat.beq c c'
  | .inr (.inr (.inr (.inr c))), .inr (.inr (.inr (.inr c'))) => Nat.beq c c'
  | _, _ => false
def aMvs (N : List aI) (σ : List aA) : List aV → List aV → Bool
  | [], [] => true
  | p :: ps, a :: as => aMv N σ p a && aMvs N σ ps as
  | _, _ => false
def aNc2 (N : List aI) (σ : List aA) : Nat → List aI → Bool
  | _, [] => true
  | i, I :: L => (match aiv N (σ.getD i (0, 0)) with
    | some J => asub J I
    | none => false) && aNc2 N σ (i + 1) L
def aFc (N : List aI) (σ : List aA) (F L : List (aK × aA)) : Bool := L.all (fun q => match afind q.1.1 (aSb σ q.1.2) F with
  | some v => aMt N v (aSb σ q.2)
  | none => false)
def aBd1 (σ : List aA) (p a : aA) : List aA := bif Nat.beq p.1 σ.length && ieq p.2 0 then σ ++ [a] else σ
def aBdV (σ : List aA) : aV → aV → List aA
  | .inl p, .inl a => aBd1 σ p a
  | .inr (.inl p), .inr (.inl a) => aBd1 σ p a
  | _, _ => σ
def aBdVs (σ : List aA) : List aV → List aV → List aA
  | p :: ps, a :: as => aBdVs (aBdV σ p a) ps as
  | _, _ => σ
def aBdF (F : List (aK × aA)) : List aA → List (aK × aA) → List aA
  | σ, [] => σ
  | σ, q :: L => aBdF F (match afind q.1.1 (aSb σ q.1.2) F with
    | some v => aBd1 σ q.2 v
    | none => σ) L
def aFrs : Nat → Nat → List aA
  | _, 0 => []
  | n, k + 1 => (n, 0) :: aFrs (n + 1) k
section AMETH
variable {G : aG} {W : List (Nat × Nat)} {sc : zC} {f0 f : zF} {ρ : Nat → Int} {S : aS} {σ : List aA}
theorem aSb_ok {p : aA} : aev ρ (aSb σ p) = aev (asm ρ σ) p := by
  unfold aSb asm aev; dsimp only; omega
theorem aSbV_ok {v : aV} : aM ρ (aSbV σ v) = aM (asm ρ σ) v := by
  rcases v with a | a | ⟨a, b⟩ | c | c
  · exact congrArg zI aSb_ok
  · exact congrArg zJ aSb_ok
  · show zI (zlcmp _ _) = zI (zlcmp _ _)
    rw [aSb_ok, aSb_ok]
  · rfl
  · rfl
theorem aMt_ok {N : List aI} {x y : aA} (h : aMt N x y = true) (hN : aNm ρ N) : aev ρ x = aev ρ y := by
  unfold aMt at h
  rw [Bool.or_eq_true] at h
  rcases h with h | h
  · rw [aeq_ok h]
  · split at h
    next I J hI hJ =>
      have a := aiv_ok hN hI
      have b := aiv_ok hN hJ
      simp only [Bool.and_eq_true, ieq_iff] at h
      unfold aIn at a b
      omega
    next => cases h
theorem aMv_ok {N : List aI} {p a : aV} (h : aMv N σ p a = true) (hN : aNm ρ N) : aM (asm ρ σ) p = aM ρ a := by
  unfold aMv at h
  split at h
  · exact congrArg zI (aSb_ok.symm.trans (aMt_ok h hN))
  · exact congrArg zJ (aSb_ok.symm.trans (aMt_ok h hN))
  · exact congrArg zP (Nat.eq_of_beq_eq_true h)
  · exact congrArg zS (Nat.eq_of_beq_eq_true h)
  · cases h
theorem aMvs_ok {N : List aI} (hN : aNm ρ N) : ∀ {ps as : List aV}, aMvs N σ ps as = true → ps.map (aM (asm ρ σ)) = as.map (aM ρ)
  | [], [], _ => rfl
  | p :: ps, a :: as, h => by
    have h : (aMv N σ p a && aMvs N σ ps as) = true := h
    rw [Bool.and_eq_true] at h
    rw [List.map_cons, List.map_cons, aMv_ok h.1 hN, aMvs_ok hN h.2]
  | [], _ :: _, h => by cases h
  | _ :: _, [], h => by cases h
theorem aNc2_ok {N : List aI} (hN : aNm ρ N) : ∀ {L : List aI} {k : Nat}, aNc2 N σ k L = true → ∀ i I, L[i]? = some I → aIn I (asm ρ σ (k + i))
  | [], _, _, i, I, h => by simp at h
  | J :: L, k, h, i, I, hI => by
    have h : ((match aiv N (σ.getD k (0, 0)) with
      | some K => asub K J
      | none => false) && aNc2 N σ (k + 1) L) = true := h
    rw [Bool.and_eq_true] at h
    cases i with
    | zero =>
      simp only [List.getElem?_cons_zero, Option.some.injEq] at hI
      subst hI
      have h1 := h.1
      split at h1
      next K hK => exact asub_ok h1 (aiv_ok hN hK)
      next => cases h1
    | succ i =>
      simp only [List.getElem?_cons_succ] at hI
      have := aNc2_ok hN h.2 i I hI
      rw [show k + (i + 1) = k + 1 + i by omega]
      exact this
theorem aFc_ok {N : List aI} {F L : List (aK × aA)} (hN : aNm ρ N) (hF : aFa sc ρ f F) (h : aFc N σ F L = true) : aFa sc (asm ρ σ) f L := by
  intro q hq
  unfold aFc at h
  rw [List.all_eq_true] at h
  have h1 := h q hq
  split at h1
  next v hv =>
    obtain ⟨k1, k2⟩ := hF _ (afind_ok hv)
    have k2 : afx sc f q.1.1 (aev ρ (aSb σ q.1.2)).toNat = aev ρ v := k2
    have k1 : 0 ≤ aev ρ (aSb σ q.1.2) := k1
    rw [aSb_ok] at k1 k2
    rw [aMt_ok h1 hN, aSb_ok] at k2
    exact ⟨k1, k2⟩
  next => cases h1
theorem zret_all {rk : Nat} (h : Nat.ble rk 3 = true) {A B : zQ} (g : ∀ r f', A r zSH f' → B r zSH f') : zret rk false zSH A B := by
  rcases rk with _ | _ | _ | _ | rk
  · exact fun f h => g _ _ h
  · exact fun z f _ h => g _ _ h
  · exact fun z f _ h => g _ _ h
  · exact fun z f _ h => g _ _ h
  · cases h
/-- what is written by the one is written by the other -/
def wsub (V W : List (Nat × Nat)) : Bool := V.all (fun v => W.any (fun w => Nat.beq w.1 v.1 && (Nat.beq w.2 999 || Nat.beq w.2 v.2)))
theorem wsub_ok {V : List (Nat × Nat)} (h : wsub V W = true) {c j : Nat} (g : wcov V c j = true) : wcov W c j = true := by
  unfold wsub at h
  unfold wcov at g ⊢
  rw [List.all_eq_true] at h
  rw [List.any_eq_true] at g ⊢
  obtain ⟨v, hv, g⟩ := g
  have h1 := h v hv
  rw [List.any_eq_true] at h1
  obtain ⟨w, hw, h1⟩ := h1
  refine ⟨w, hw, ?_⟩
  simp only [Bool.and_eq_true, Bool.or_eq_true] at g h1 ⊢
  have e1 := Nat.eq_of_beq_eq_true h1.1
  rw [e1]
  refine ⟨g.1, ?_⟩
  rcases h1.2 with k | k
  · exact Or.inl k
  · rw [Nat.eq_of_beq_eq_true k]; exact g.2
def akeep (V : List (Nat × Nat)) (q : aK × aA) : Bool := V.all (fun v => !(Nat.beq v.1 q.1.1) || (!(Nat.beq v.2 999) && (Nat.beq q.1.2.1 0 && !(Nat.beq v.2 q.1.2.2.toNat))))
theorem akeep_ok {V : List (Nat × Nat)} {q : aK × aA} (h0 : ρ 0 = 0) (h : akeep V q = true) : wcov V q.1.1 (aev ρ q.1.2).toNat = false := by
  cases hw : wcov V q.1.1 (aev ρ q.1.2).toNat with
  | false => rfl
  | true =>
    unfold akeep at h
    unfold wcov at hw
    rw [List.all_eq_true] at h
    rw [List.any_eq_true] at hw
    obtain ⟨v, hv, g⟩ := hw
    have h1 := h v hv
    simp only [Bool.and_eq_true, Bool.or_eq_true, Bool.not_eq_true'] at g h1
    rcases h1 with h1 | ⟨h1, h2, h3⟩
    · rw [g.1] at h1; cases h1
    · rcases g.2 with k | k
      · rw [k] at h1; cases h1
      · have e : aev ρ q.1.2 = q.1.2.2 := by
          unfold aev
          rw [Nat.eq_of_beq_eq_true h2, h0]
          exact Int.zero_add _
        rw [e] at k
        rw [k] at h3; cases h3
def aBo (n : Nat) : Option aV → Bool
  | none => true
  | some v => aBV n v
def aSg (s : aSum) (as : List aV) (S : aS) : List aA := aBdF S.2.2.2 (aBdVs [(0, 0)] s.2.2.2.1 as) s.2.2.2.2.1
def aChk (W : List (Nat × Nat)) (d : Nat) (s : aSum) (as : List aV) (S : aS) (σ : List aA) : Bool :=
  ((Nat.ble s.2.1 d && Nat.beq σ.length s.2.2.1.length) && (aeq (σ.getD 0 (0, 0)) (0, 0) && aMvs S.1 σ s.2.2.2.1 as)) && (((aNc2 S.1 σ 0 s.2.2.1 && aFc S.1 σ S.2.2.2 s.2.2.2.2.1) && (wsub s.2.2.2.2.2.1 W && σ.all (aBA S.1.length))) && ((Nat.blt 0 S.1.length && aBS S.1.length S) && (aBo (s.2.2.1.length + s.2.2.2.2.2.2.1.length) s.2.2.2.2.2.2.2.1 && (s.2.2.2.2.2.2.2.2.1.all (aBF (s.2.2.1.length + s.2.2.2.2.2.2.1.length)) && s.2.2.2.2.2.2.2.2.2.all (fun p => aBA (s.2.2.1.length + s.2.2.2.2.2.2.1.length) p.1 && aBA (s.2.2.1.length + s.2.2.2.2.2.2.1.length) p.2)))))
/-- the bounds that follow from the pairs -/
def aGr : List (aA × aA) → aS → (aS → Bool) → Bool
  | [], S, K => K S
  | p :: L, S, K => aTh (aLe 0 p.2 p.1 S) (fun S' => aGr L S' K)
def aUseS (s : aSum) (S : aS) (τ : List aA) : aS := (S.1 ++ s.2.2.2.2.2.2.1, (S.2.1, ((s.2.2.2.2.2.2.2.2.2.map (fun p => aGt (aSb τ p.1, aSb τ p.2))) ++ S.2.2.1, s.2.2.2.2.2.2.2.2.1.map (fun q => ((q.1.1, aSb τ q.1.2), aSb τ q.2)) ++ S.2.2.2.filter (akeep s.2.2.2.2.2.1))))
def aUse (s : aSum) (S : aS) (σ : List aA) (K : aR) : Bool :=
  aGr (s.2.2.2.2.2.2.2.2.2.map (fun p => (aSb (σ ++ aFrs S.1.length s.2.2.2.2.2.2.1.length) p.1, aSb (σ ++ aFrs S.1.length s.2.2.2.2.2.2.1.length) p.2))) (aUseS s S (σ ++ aFrs S.1.length s.2.2.2.2.2.2.1.length)) (K (s.2.2.2.2.2.2.2.1.map (aSbV (σ ++ aFrs S.1.length s.2.2.2.2.2.2.1.length))))
theorem aGr_ok {T : Prop} {K : aS → Bool} {n : Nat} (g : ∀ S', K S' = true → aOk G W sc f0 ρ S' f → S'.1.length = n → T) : ∀ (L : List (aA × aA)) (S : aS), S.1.length = n → aGr L S K = true → aOk G W sc f0 ρ S f → aGs ρ L → T
  | [], S, hn, h, ok, _ => g S h ok hn
  | p :: L, S, hn, h, ok, hL => by
    have h : aTh (aLe 0 p.2 p.1 S) (fun S' => aGr L S' K) = true := h
    obtain ⟨S', h1, h2, h3⟩ := aTh_ok h (aLe_ok ok (by have := hL p List.mem_cons_self; omega))
    exact aGr_ok g L S' (h3.trans hn) h1 h2 (fun q hq => hL q (List.mem_cons_of_mem _ hq))
theorem aFrs_get : ∀ (k n i : Nat), i < k → (aFrs n k)[i]? = some (n + i, 0)
  | 0, _, _, h => by omega
  | k + 1, n, 0, _ => rfl
  | k + 1, n, i + 1, h => by
    show (aFrs (n + 1) k)[i]? = _
    rw [aFrs_get k (n + 1) i (by omega), show n + 1 + i = n + (i + 1) by omega]
theorem aUse_ok {s : aSum} {as : List aV} {d : Nat} {K : aR} {QK : zQ} (hs : aSumOk G s) (h : aChk W d s as S σ = true) (hu : aUse s S σ K = true) (ok : aOk G W sc f0 ρ S f) (hj : Nat.ble zNI s.1 = true) (hr : Nat.ble (zRk s.1) 3 = true) (hK : ∀ r S2 ρ2 f2, K r S2 = true → aOk G W sc f0 ρ2 S2 f2 → aExt S.1.length ρ ρ2 → S.1.length ≤ S2.1.length → QK (r.map (aM ρ2)) zSH f2) : zC0 (zR sc) d s.1 (zargs 0 (as.map (aM ρ))) zSH f QK := by
  obtain ⟨j, D, N0, args, pre, V, N1, ret, post, pg⟩ := s
  unfold aChk at h
  simp only [Bool.and_eq_true] at h
  obtain ⟨⟨⟨c1, c2⟩, c3, c4⟩, ⟨⟨c5, c6⟩, c7, c8⟩, ⟨c9, c10⟩, c11, c12, c13⟩ := h
  obtain ⟨o0, o1, o2, o3, o4, o5, o6⟩ := ok
  have c2 : σ.length = N0.length := Nat.eq_of_beq_eq_true c2
  have hz : asm ρ σ 0 = 0 := by
    unfold asm
    rw [aeq_ok c3, aev_c o0]
  have hcall := hs sc f (asm ρ σ) d (Nat.le_of_ble_eq_true c1) hz (fun i I hI => by have := aNc2_ok o1 c5 i I hI; rw [Nat.zero_add] at this; exact this) (aFc_ok o1 o4 c6) o5
  have hcall : zR sc d j 0 [] (zargs 0 (args.map (aM (asm ρ σ)))) 0 0 zSH f (aPQ G sc N0 N1 ret (post, pg) V (asm ρ σ) f) := hcall
  rw [aMvs_ok o1 c4] at hcall
  refine ⟨_, hcall, ?_⟩
  have hn : Nat.blt j zNI = false := by
    have h3 := Nat.le_of_ble_eq_true hj
    cases h4 : Nat.blt j zNI with
    | false => rfl
    | true =>
      have h5 : j + 1 ≤ zNI := Nat.le_of_ble_eq_true h4
      have h3 : zNI ≤ j := h3
      omega
  show zret (zRk j) (Nat.blt j zNI) zSH _ QK
  rw [hn]
  refine zret_all hr ?_
  rintro r f' ⟨-, ρ1, p0, p1, p2, rfl, p4, p4g, p5, p6⟩
  have n0 : 0 < S.1.length := Nat.le_of_ble_eq_true c9
  -- the new valuation
  have x : aExt S.1.length ρ (fun i => if i < S.1.length then ρ i else ρ1 (N0.length + (i - S.1.length))) := fun i hi => by
    show (if i < S.1.length then ρ i else _) = ρ i
    rw [if_pos hi]
  generalize hρ2 : (fun i => if i < S.1.length then ρ i else ρ1 (N0.length + (i - S.1.length))) = ρ2 at x
  have xn : ∀ t, ρ2 (S.1.length + t) = ρ1 (N0.length + t) := fun t => by
    rw [← hρ2]
    show (if S.1.length + t < S.1.length then _ else ρ1 (N0.length + (S.1.length + t - S.1.length))) = _
    rw [if_neg (by omega), Nat.add_sub_cancel_left]
  have ag : aExt (N0.length + N1.length) ρ1 (asm ρ2 (σ ++ aFrs S.1.length N1.length)) := by
    intro i hi
    unfold asm
    by_cases hi2 : i < N0.length
    · rw [p1 i hi2]
      have e : (σ ++ aFrs S.1.length N1.length).getD i (0, 0) = σ.getD i (0, 0) := by
        rw [List.getD_eq_getElem?_getD, List.getD_eq_getElem?_getD, List.getElem?_append, if_pos (by omega)]
      rw [e]
      unfold asm
      apply aev_x x
      rw [List.all_eq_true] at c8
      apply c8
      rw [List.getD_eq_getElem?_getD, List.getElem?_eq_getElem (by omega)]
      exact List.getElem_mem _
    · have e : (σ ++ aFrs S.1.length N1.length).getD i (0, 0) = (S.1.length + (i - N0.length), 0) := by
        rw [List.getD_eq_getElem?_getD, List.getElem?_append, if_neg (by omega), c2, aFrs_get _ _ _ (by omega)]
        rfl
      rw [e]
      unfold aev
      dsimp only
      rw [xn, Int.add_zero]
      congr 1
      omega
  have c10' := c10
  unfold aBS at c10'
  simp only [Bool.and_eq_true, List.all_eq_true] at c10'
  obtain ⟨k1, k2, k3⟩ := c10'
  have hge : aGs ρ2 (pg.map (fun p => (aSb (σ ++ aFrs S.1.length N1.length) p.1, aSb (σ ++ aFrs S.1.length N1.length) p.2))) := by
    intro p hp
    rw [List.mem_map] at hp
    obtain ⟨q, hq, rfl⟩ := hp
    rw [List.all_eq_true] at c13
    have cq := c13 q hq
    rw [Bool.and_eq_true] at cq
    show aev ρ2 (aSb _ q.2) ≤ aev ρ2 (aSb _ q.1)
    rw [aSb_ok, aSb_ok, aev_x ag cq.1, aev_x ag cq.2]
    exact p4g q hq
  refine aGr_ok (G := G) (W := W) (sc := sc) (f0 := f0) (f := f') (ρ := ρ2) (n := (S.1 ++ N1).length) (fun S2 hk ok2 hl => ?_) _ _ rfl hu ?_ hge
  · have hq := hK _ _ ρ2 f' hk ok2 x (by rw [hl, List.length_append]; omega)
    have e : (ret.map (aSbV (σ ++ aFrs S.1.length N1.length))).map (aM ρ2) = ret.map (aM ρ1) := by
      cases ret with
      | none => rfl
      | some v =>
        show some _ = some _
        congr 1
        rw [aSbV_ok]
        exact aM_x ag c11
    have hq : QK ((ret.map (aSbV (σ ++ aFrs S.1.length N1.length))).map (aM ρ2)) zSH f' := hq
    rw [e] at hq
    exact hq
  · refine ⟨(x 0 n0).trans o0, ?_, ?_, ?_, ?_, p5, ?_⟩
    · intro i I hI
      have hI : (S.1 ++ N1)[i]? = some I := hI
      rw [List.getElem?_append] at hI
      by_cases hi : i < S.1.length
      · rw [if_pos hi] at hI
        rw [x i hi]
        exact o1 i I hI
      · rw [if_neg hi] at hI
        obtain ⟨t, rfl⟩ : ∃ t, i = S.1.length + t := ⟨i - S.1.length, by omega⟩
        rw [xn]
        rw [Nat.add_sub_cancel_left] at hI
        apply p2
        rw [List.getElem?_append, if_neg (by omega), Nat.add_sub_cancel_left]
        exact hI
    · intro i hi
      rw [x i (Nat.le_of_ble_eq_true (k1 i hi))]
      exact o2 i hi
    · intro t ht
      have ht : t ∈ pg.map (fun p => aGt (aSb (σ ++ aFrs S.1.length N1.length) p.1, aSb (σ ++ aFrs S.1.length N1.length) p.2)) ++ S.2.2.1 := ht
      rw [List.mem_append] at ht
      rcases ht with ht | ht
      · rw [List.mem_map] at ht
        obtain ⟨q, hq, rfl⟩ := ht
        exact aGt_ok (hge _ (List.mem_map.2 ⟨q, hq, rfl⟩))
      have kt := k2 t ht
      unfold aBT at kt
      simp only [Bool.and_eq_true] at kt
      rw [aev_x x kt.1, aev_x x kt.2.1, aev_x x kt.2.2]
      exact o3 t ht
    · intro q hq
      have hq : q ∈ post.map (fun q => ((q.1.1, aSb (σ ++ aFrs S.1.length N1.length) q.1.2), aSb (σ ++ aFrs S.1.length N1.length) q.2)) ++ S.2.2.2.filter (akeep V) := hq
      rw [List.mem_append] at hq
      rcases hq with hq | hq
      · rw [List.mem_map] at hq
        obtain ⟨q0, hq0, rfl⟩ := hq
        dsimp only
        rw [aSb_ok, aSb_ok]
        rw [List.all_eq_true] at c12
        have cq := c12 q0 hq0
        unfold aBF at cq
        rw [Bool.and_eq_true] at cq
        have a1 : aev (asm ρ2 (σ ++ aFrs S.1.length N1.length)) q0.1.2 = aev ρ1 q0.1.2 := aev_x ag cq.1
        have a2 : aev (asm ρ2 (σ ++ aFrs S.1.length N1.length)) q0.2 = aev ρ1 q0.2 := aev_x ag cq.2
        rw [a1, a2]
        exact p4 q0 hq0
      · rw [List.mem_filter] at hq
        have kt := k3 q hq.1
        unfold aBF at kt
        simp only [Bool.and_eq_true] at kt
        rw [aev_x x kt.1, aev_x x kt.2]
        have h4 := o4 q hq.1
        refine ⟨h4.1, ?_⟩
        rw [← h4.2]
        have hw := p6 _ _ (akeep_ok o0 hq.2)
        unfold afx
        rw [hw]
    · intro c j hj
      have hv : wcov V c j = false := by
        cases hv : wcov V c j with
        | false => rfl
        | true => rw [wsub_ok c7 hv] at hj; cases hj
      rw [p6 c j hv]
      exact o6 c j hj
def aTryS (W : List (Nat × Nat)) (d j : Nat) (as : List aV) (S : aS) (K : aR) : List aSum → Bool
  | [] => false
  | s :: L => bif Nat.beq s.1 j && aChk W d s as S (aSg s as S) then aUse s S (aSg s as S) K else aTryS W d j as S K L
theorem aTryS_ok {d j : Nat} {as : List aV} {K : aR} : ∀ {L : List aSum}, aTryS W d j as S K L = true → ∃ s ∈ L, s.1 = j ∧ aChk W d s as S (aSg s as S) = true ∧ aUse s S (aSg s as S) K = true
  | [], h => by cases h
  | s :: L, h => by
    unfold aTryS at h
    cases hb : Nat.beq s.1 j && aChk W d s as S (aSg s as S) with
    | true =>
      rw [hb, cond_true] at h
      rw [Bool.and_eq_true] at hb
      exact ⟨s, List.mem_cons_self, Nat.eq_of_beq_eq_true hb.1, hb.2, h⟩
    | false =>
      rw [hb, cond_false] at h
      obtain ⟨s', h1, h2⟩ := aTryS_ok h
      exact ⟨s', List.mem_cons_of_mem _ h1, h2⟩
abbrev aU : Type := Nat → List aV → aL → aS → Option Bool
abbrev aX : Type := Nat → Nat → Option ((Nat ⊕ (Nat × Nat)) × List Int)
def aSplA (x : aA) : List Int → aS → (aS → Bool) → Bool
  | [], S, go => go S
  | c :: cs, S, go => aTh (aLe 0 x (0, c) S) go && aTh (aLe 1 (0, c) x S) (fun S' => aSplA x cs S' go)
def aSplit (spl : aX) (mi pc : Nat) (lv : aL) (S : aS) (go : aS → Bool) : Bool := match spl mi pc with
  | none => go S
  | some (.inl k, cs) => (match aget k lv with
    | some (.inl x) => aSplA x cs S go
    | _ => bif Nat.ble 1000 k then aSplA (k - 1000, 0) cs S go else go S)
  | some (.inr (c, j), cs) => (match afind c (0, (j : Int)) S.2.2.2 with
    | some x => aSplA x cs S go
    | none => go S)
theorem aSplA_ok {x : aA} {go : aS → Bool} {T : Prop} {n : Nat} (g : ∀ S', go S' = true → aOk G W sc f0 ρ S' f → S'.1.length = n → T) : ∀ (cs : List Int) (S : aS), S.1.length = n → aSplA x cs S go = true → aOk G W sc f0 ρ S f → T
  | [], S, hn, h, ok => g S h ok hn
  | c :: cs, S, hn, h, ok => by
    have h : (aTh (aLe 0 x (0, c) S) go && aTh (aLe 1 (0, c) x S) (fun S' => aSplA x cs S' go)) = true := h
    rw [Bool.and_eq_true] at h
    have e0 : aev ρ (0, c) = c := aev_c ok.1 c
    by_cases e : aev ρ x ≤ c
    · obtain ⟨S', h1, h2, h3⟩ := aTh_ok h.1 (aLe_ok ok (by omega))
      exact g S' h1 h2 (h3.trans hn)
    · obtain ⟨S', h1, h2, h3⟩ := aTh_ok h.2 (aLe_ok ok (by omega))
      exact aSplA_ok g cs S' (h3.trans hn) h1 h2
theorem aSplit_ok {spl : aX} {mi pc : Nat} {lv : aL} {go : aS → Bool} {T : Prop} (h : aSplit spl mi pc lv S go = true) (ok : aOk G W sc f0 ρ S f) (g : ∀ S', go S' = true → aOk G W sc f0 ρ S' f → S'.1.length = S.1.length → T) : T := by
  unfold aSplit at h
  split at h
  · exact g S h ok rfl
  · split at h
    · exact aSplA_ok g _ _ rfl h ok
    · rename_i k _ _ _ _
      cases hk : Nat.ble 1000 k with
      | true => rw [hk, cond_true] at h; exact aSplA_ok g _ _ rfl h ok
      | false => rw [hk, cond_false] at h; exact g S h ok rfl
  · split at h
    · exact aSplA_ok g _ _ rfl h ok
    · exact g S h ok rfl
def aRun (G : aG) (W : List (Nat × Nat)) (sums : List aSum) (inl : Nat → Bool) (spl : aX) : Nat → aU → Nat → Nat → Bool → Nat → List aV → aL → aS → aR → Bool
  | 0, _, _, _, _, _, _, _, _, _ => false
  | k + 1, cut, d, mi, fst, pc, st, lv, S, R => match (bif fst then none else cut pc st lv S) with
    | some b => b
    | none => aSplit spl mi pc lv S (fun S => aStep G W (fun pc' st' lv' S' => aRun G W sums inl spl k cut d mi false pc' st' lv' S' R) R (fun j as S' K => bif inl j then aRun G W sums inl spl k (fun _ _ _ _ => none) (d - 1) j true 0 [] (aargs 0 as) S' K else aTryS W (d - 1) j as S' K sums) d mi pc st lv S)
def aHU (G : aG) (W : List (Nat × Nat)) (sc : zC) (f0 : zF) (d mi kc ks : Nat) (Q : zQ) (cut : aU) (n : Nat) (ρ : Nat → Int) : Prop :=
  ∀ pc st lv S ρ' f, cut pc st lv S = some true → aOk G W sc f0 ρ' S f → aExt n ρ ρ' → n ≤ S.1.length → zR sc d mi pc (st.map (aM ρ')) (aML ρ' lv) kc ks zSH f Q
theorem aRun_ok {sums : List aSum} {inl : Nat → Bool} {spl : aX} (hsum : ∀ s ∈ sums, aSumOk G s) : ∀ (k : Nat) {cut : aU} {d mi : Nat} {fst : Bool} {pc : Nat} {st : List aV} {lv : aL} {S : aS} {R : aR} {Q : zQ} {ρ : Nat → Int} {f : zF} {kc ks : Nat}, aRun G W sums inl spl k cut d mi fst pc st lv S R = true → aOk G W sc f0 ρ S f → aHU G W sc f0 d mi kc ks Q cut S.1.length ρ → aHR G W sc f0 Q R S.1.length ρ → zR sc d mi pc (st.map (aM ρ)) (aML ρ lv) kc ks zSH f Q
  | 0, _, _, _, _, _, _, _, _, _, _, _, _, _, _, h, _, _, _ => by cases h
  | k + 1, cut, d, mi, fst, pc, st, lv, S, R, Q, ρ, f, kc, ks, h, ok, hU, hR => by
    unfold aRun at h
    split at h
    next b hb =>
      subst h
      cases fst with
      | true => cases hb
      | false => exact hU _ _ _ _ _ _ hb ok (aExt_r _ _) (Nat.le_refl _)
    next =>
      refine aSplit_ok h ok (fun S1 h1 ok1 hl => ?_)
      apply zR_fold
      refine aStep_ok h1 ok1 ?_ ?_ ?_
      · intro pc' st' lv' S' ρ' f' h2 ok2 x hle
        rw [hl] at x hle
        exact aRun_ok hsum k h2 ok2 (fun pc st lv S2 ρ2 f2 g1 g2 g3 g4 => hU _ _ _ _ _ _ g1 g2 (aExt_t hle x g3) (by omega)) (fun r S2 ρ2 f2 g1 g2 g3 g4 => hR _ _ _ _ g1 g2 (aExt_t hle x g3) (by omega))
      · intro r S2 ρ2 f2 g1 g2 g3 g4
        rw [hl] at g3 g4
        exact hR _ _ _ _ g1 g2 g3 g4
      · intro d' hd j as K QK h2 hj hr hK
        subst hd
        dsimp only at h2
        cases hi : inl j with
        | true =>
          rw [hi, cond_true] at h2
          refine ⟨QK, ?_, ?_⟩
          · have := aRun_ok hsum k (Q := QK) (kc := 0) (ks := 0) h2 ok1 (fun _ _ _ _ _ _ g => by cases g) hK
            rw [aargs_ok]
            exact this
          · have hn : Nat.blt j zNI = false := by
              have h3 := Nat.le_of_ble_eq_true hj
              cases h4 : Nat.blt j zNI with
              | false => rfl
              | true =>
                have h5 : j + 1 ≤ zNI := Nat.le_of_ble_eq_true h4
                omega
            rw [hn]
            exact zret_self hr zSH QK
        | false =>
          rw [hi, cond_false] at h2
          obtain ⟨s, hs1, hs2, hs3, hs4⟩ := aTryS_ok h2
          subst hs2
          exact aUse_ok (hsum s hs1) hs3 hs4 ok1 hj hr hK
end AMETH
end
