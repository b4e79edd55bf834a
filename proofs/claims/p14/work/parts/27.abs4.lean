noncomputable section
/-! calls, returns, the step -/
section ASTEP2
variable {G : aG} {W : List (Nat × Nat)} {sc : zC} {f0 f : zF} {ρ : Nat → Int} {S : aS} {st : List aV} {lv : aL} {d mi pc kc ks : Nat} {Q : zQ} {P : aP} {R : aR} {C : aC}
def aHC (G : aG) (W : List (Nat × Nat)) (sc : zC) (f0 : zF) (d : Nat) (C : aC) (S : aS) (ρ : Nat → Int) (f : zF) : Prop :=
  ∀ d', d = d' + 1 → ∀ j as K (QK : zQ), C j as S K = true → Nat.ble zNI j = true → Nat.ble (zRk j) 3 = true → (∀ r S2 ρ2 f2, K r S2 = true → aOk G W sc f0 ρ2 S2 f2 → aExt S.1.length ρ ρ2 → S.1.length ≤ S2.1.length → QK (r.map (aM ρ2)) zSH f2) → zC0 (zR sc) d' j (zargs 0 (as.map (aM ρ))) zSH f QK
def ago (P : aP) (C : aC) (d pc : Nat) (as rest : List aV) (lv : aL) (S : aS) (j ml : Nat) : Bool := match d with
  | 0 => false
  | _ + 1 => bif (Nat.ble (alen as) ml && Nat.ble (alen rest) 8) && ((Nat.ble zNI j && Nat.ble (zRk j) 3) && (aBs S.1.length rest && aBl S.1.length lv)) then C j as S (fun r S' => P (pc + 3) (r.toList ++ rest) lv S') else false
theorem ago_ok {as rest : List aV} {j ml : Nat} (h : ago P C d pc as rest lv S j ml = true) (ok : aOk G W sc f0 ρ S f) (hP : aHP G W sc f0 d mi kc ks Q P S.1.length ρ) (hC : aHC G W sc f0 d C S ρ f) : zgo (zC0 (zR sc)) (zR sc) d mi pc (as.map (aM ρ)) (rest.map (aM ρ)) (aML ρ lv) kc ks zSH f Q j ml := by
  unfold ago at h
  split at h
  next => cases h
  next d' =>
    cases hb : (Nat.ble (alen as) ml && Nat.ble (alen rest) 8) && ((Nat.ble zNI j && Nat.ble (zRk j) 3) && (aBs S.1.length rest && aBl S.1.length lv)) with
    | false => rw [hb] at h; cases h
    | true =>
      rw [hb, cond_true] at h
      simp only [Bool.and_eq_true] at hb
      obtain ⟨⟨b1, b2⟩, ⟨b3, b4⟩, b5, b6⟩ := hb
      have hj : Nat.blt j zNI = false := by
        have h3 := Nat.le_of_ble_eq_true b3
        cases h4 : Nat.blt j zNI with
        | false => rfl
        | true =>
          have h5 : j + 1 ≤ zNI := Nat.le_of_ble_eq_true h4
          omega
      show (bif Nat.ble (zlen (as.map (aM ρ))) ml && Nat.ble (zcats (rest.map (aM ρ))) 8 then
        (bif Nat.blt j zNI then
          (bif Nat.blt mi zNI && (Nat.ble (kc + zMc j) (zMc mi) && Nat.ble (ks + zMs j) (zMs mi)) then
            zC0 (zR sc) d' j (zargs 0 (as.map (aM ρ))) zSH f (fun r sh' f' => zR sc (d' + 1) mi (pc + 3) (r.toList ++ rest.map (aM ρ)) (aML ρ lv) (kc + zMc j) (ks + zMs j) sh' f' Q) else False)
        else zC0 (zR sc) d' j (zargs 0 (as.map (aM ρ))) zSH f (fun r sh' f' => zR sc (d' + 1) mi (pc + 3) (r.toList ++ rest.map (aM ρ)) (aML ρ lv) kc ks sh' f' Q)) else False)
      rw [alen_ok, acats_ok, b1, b2, hj, Bool.and_true, cond_true, cond_false]
      refine hC d' rfl j as _ _ h b3 b4 ?_
      intro r S2 ρ2 f2 k1 k2 k3 k4
      have := hP _ _ _ _ _ _ k1 k2 k3 k4
      rw [List.map_append, aMs_x k3 b5, aML_x k3 b6] at this
      cases r <;> exact this
def wall (W : List (Nat × Nat)) (c : Nat) : Bool := (!(zsq c) && !(Nat.beq c 50)) && W.any (fun q => Nat.beq q.1 c && Nat.beq q.2 999)
theorem wall_sp {c j : Nat} (h : wall W c = true) : zsp c j = false := by
  unfold wall at h
  simp only [Bool.and_eq_true, Bool.not_eq_true'] at h
  unfold zsp
  rw [h.1.1, h.1.2]; rfl
theorem wall_ok {c j : Nat} (h : wall W c = true) : wcov W c j = true := by
  unfold wall at h
  unfold wcov
  rw [Bool.and_eq_true] at h
  replace h := h.2
  rw [List.any_eq_true] at h ⊢
  obtain ⟨q, hq, h⟩ := h
  refine ⟨q, hq, ?_⟩
  rw [Bool.and_eq_true] at h
  rw [h.1, h.2]; rfl
def gEq : List (Nat × aI) → List (Nat × aI) → Bool
  | [], [] => true
  | (a, I) :: L, (b, J) :: M => (Nat.beq a b && (ieq I.1 J.1 && ieq I.2 J.2)) && gEq L M
  | _, _ => false
theorem gEq_ok : ∀ {L M : List (Nat × aI)}, gEq L M = true → L = M
  | [], [], _ => rfl
  | (a, I) :: L, (b, J) :: M, h => by
    have h : ((Nat.beq a b && (ieq I.1 J.1 && ieq I.2 J.2)) && gEq L M) = true := h
    simp only [Bool.and_eq_true, ieq_iff] at h
    rw [Nat.eq_of_beq_eq_true h.1.1, gEq_ok h.2, show I = J from Prod.ext h.1.2.1 h.1.2.2]
  | [], _ :: _, h => by cases h
  | _ :: _, [], h => by cases h
/-- what is copied fits -/
def acf (G : aG) (src dst : Nat) (N D T : aI) : Bool := ile N.2 0 || ((match gJ (G src) T.1.toNat (T.2 + N.2 - 1).toNat with
  | some J => gFit (G dst) D.1.toNat (D.2 + N.2 - 1).toNat J
  | none => false) || ((ieq D.1 T.1 && (ieq D.2 T.2 && ieq D.1 D.2)) && gEq (G src) (G dst)))
theorem acf_ok {src dst : Nat} {N D T : aI} {sp dp n : Int} {F : zF} (h : acf G src dst N D T = true) (hG : aGk G F) (hn : aIn N n) (hd : aIn D dp) (ht : aIn T sp) (h0 : 0 ≤ sp ∧ 0 ≤ dp ∧ 0 ≤ n) : aGk G (zcp F src dst sp.toNat dp.toNat n.toNat) := by
  intro c j I hI
  unfold zcp
  by_cases e : c = dst
  · rw [if_pos e]
    by_cases e2 : dp.toNat ≤ j ∧ j < dp.toNat + n.toNat
    · rw [if_pos e2]
      unfold acf at h
      simp only [Bool.or_eq_true, Bool.and_eq_true, ile_iff, ieq_iff] at h
      unfold aIn at hn hd ht
      rcases h with h | h | h
      · omega
      · split at h
        next J hJ =>
          obtain ⟨K, k1, k2⟩ := gJ_ok (j := sp.toNat + (j - dp.toNat)) (by omega) (by omega) hJ
          have := k2 _ (hG src _ K k1)
          rw [e] at hI
          exact asub_ok (gFit_ok (by omega) (by omega) h hI) this
        next => cases h
      · have e3 : sp.toNat + (j - dp.toNat) = j := by omega
        rw [e3]
        rw [e, ← gEq_ok h.2] at hI
        exact hG src j I hI
    · rw [if_neg e2]; exact hG c j I hI
  · rw [if_neg e]; exact hG c j I hI
theorem afx_cp {src dst sp dp n : Nat} (hs : src < 1000) (hd : dst < 1000) : afx sc (zcp f src dst sp dp n) = zcp (afx sc f) src dst sp dp n := by
  funext a b
  by_cases e : a = dst
  · rw [e, afx_lt hd]
    unfold zcp
    rw [if_pos rfl, if_pos rfl, afx_lt hs, afx_lt hd]
  · have h1 : zcp f src dst sp dp n a b = f a b := by unfold zcp; rw [if_neg e]
    have h2 : zcp (afx sc f) src dst sp dp n a b = afx sc f a b := by unfold zcp; rw [if_neg e]
    rw [h2]
    unfold afx
    rw [h1]
def acp (G : aG) (W : List (Nat × Nat)) (P : aP) (d pc : Nat) (st : List aV) (lv : aL) (S : aS) : Bool := match st with
  | .inl n :: .inl dp :: .inr (.inr (.inr (.inl dst))) :: .inl sp :: .inr (.inr (.inr (.inl src))) :: rest => (match zSH[src]? with
    | some (.inr (b0, n0)) => (match zSH[dst]? with
      | some (.inr (b1, n1)) => bif Nat.blt 0 d && ((b0 == b1) && Nat.ble (alen rest) 8) then (match aiv S.1 n, aiv S.1 dp, aiv S.1 sp with
        | some N, some D, some T => bif ((ile 0 N.1 && (ile 0 D.1 && ile 0 T.1)) && (ile (T.2 + N.2) (n0 : Int) && ile (D.2 + N.2) (n1 : Int))) && (wall W dst && acf G src dst N D T) then
            P (pc + 3) rest lv (S.1, (S.2.1, (S.2.2.1, S.2.2.2.filter (fun q => !(Nat.beq q.1.1 dst))))) else false
        | _, _, _ => false) else false
      | _ => false)
    | _ => false)
  | _ => false
theorem acp_ok (h : acp G W P d pc st lv S = true) (ok : aOk G W sc f0 ρ S f) (hP : aHP G W sc f0 d mi kc ks Q P S.1.length ρ) : match st.map (aM ρ) with
      | .inl n :: .inl dp :: .inr (.inr (.inl dst)) :: .inl sp :: .inr (.inr (.inl src)) :: rest => match zSH[src]? with
        | some (.inr (b0, n0)) => match zSH[dst]? with
          | some (.inr (b1, n1)) => bif Nat.blt 0 d && ((b0 == b1) && Nat.ble (zcats rest) 8) then
              (if 0 ≤ sp ∧ 0 ≤ dp ∧ 0 ≤ n ∧ sp + n ≤ (n0 : Int) ∧ dp + n ≤ (n1 : Int) then zR sc d mi (pc + 3) rest (aML ρ lv) kc ks zSH (zcp f src dst sp.toNat dp.toNat n.toNat) Q else False) else False
          | _ => False
        | _ => False
      | _ => False := by
  unfold acp at h
  split at h
  next n dp dst sp src rest =>
    show (match zSH[src]? with
        | some (.inr (b0, n0)) => match zSH[dst]? with
          | some (.inr (b1, n1)) => bif Nat.blt 0 d && ((b0 == b1) && Nat.ble (zcats (rest.map (aM ρ))) 8) then
              (if 0 ≤ aev ρ sp ∧ 0 ≤ aev ρ dp ∧ 0 ≤ aev ρ n ∧ aev ρ sp + aev ρ n ≤ (n0 : Int) ∧ aev ρ dp + aev ρ n ≤ (n1 : Int) then zR sc d mi (pc + 3) (rest.map (aM ρ)) (aML ρ lv) kc ks zSH (zcp f src dst (aev ρ sp).toNat (aev ρ dp).toNat (aev ρ n).toNat) Q else False) else False
          | _ => False
        | _ => False)
    split at h
    next b0 n0 hs =>
      try rw [hs]
      try dsimp only
      split at h
      next b1 n1 hd =>
        try rw [hd]
        try dsimp only
        rw [acats_ok]
        cases hb : Nat.blt 0 d && ((b0 == b1) && Nat.ble (alen rest) 8) with
        | false => rw [hb] at h; cases h
        | true =>
          rw [hb, cond_true] at h
          rw [cond_true]
          split at h
          next N D T hN hD hT =>
            cases hc : ((ile 0 N.1 && (ile 0 D.1 && ile 0 T.1)) && (ile (T.2 + N.2) (n0 : Int) && ile (D.2 + N.2) (n1 : Int))) && (wall W dst && acf G src dst N D T) with
            | false => rw [hc] at h; cases h
            | true =>
              rw [hc, cond_true] at h
              simp only [Bool.and_eq_true, ile_iff] at hc
              obtain ⟨⟨⟨c1, c2, c3⟩, c4, c5⟩, c6, c7⟩ := hc
              have vN := aiv_ok ok.2.1 hN
              have vD := aiv_ok ok.2.1 hD
              have vT := aiv_ok ok.2.1 hT
              have r : 0 ≤ aev ρ sp ∧ 0 ≤ aev ρ dp ∧ 0 ≤ aev ρ n := by unfold aIn at vN vD vT; omega
              rw [if_pos (by unfold aIn at vN vD vT; omega)]
              refine hP _ _ _ _ ρ _ h ?_ (aExt_r _ _) (Nat.le_refl _)
              obtain ⟨o0, o1, o2, o3, o4, o5, o6⟩ := ok
              refine ⟨o0, o1, o2, o3, ?_, ?_, ?_⟩
              · intro q hq
                rw [afx_cp (zSH_lt hs) (zSH_lt hd)]
                have hq : q ∈ List.filter _ _ := hq
                rw [List.mem_filter] at hq
                obtain ⟨h1, h2⟩ := hq
                have h3 := o4 q h1
                refine ⟨h3.1, ?_⟩
                rw [← h3.2]
                unfold zcp
                rw [if_neg]
                intro e
                rw [e, Nat.beq_refl] at h2
                cases h2
              · rw [afx_cp (zSH_lt hs) (zSH_lt hd)]
                refine ⟨acf_ok c7 o5.1 vN vD vT r, zRel_fr o5.2 (fun a b hab => ?_)⟩
                unfold zcp
                rw [if_neg]
                intro e
                rw [e, wall_sp c6] at hab
                cases hab
              · intro c j hj
                unfold zcp
                by_cases e : c = dst
                · have := wall_ok (j := j) c6
                  rw [← e, hj] at this
                  cases this
                · rw [if_neg e]; exact o6 c j hj
          next => cases h
      next => cases h
    next => cases h
  next => cases h
def amm (P : aP) (d pc : Nat) (st : List aV) (lv : aL) (S : aS) (op : Nat) : Bool := match st with
  | .inl y :: .inl x :: r => bif Nat.blt 0 d && Nat.ble (alen r) 8 then aBin op r lv S x y (fun a S' => P pc (.inl a :: r) lv S') else false
  | _ => false
theorem amm_ok {op : Nat} {g : Int → Int → Int} (hg : ∀ x y, g x y = zbin op x y) (h : amm P d (pc + 3) st lv S op = true) (ok : aOk G W sc f0 ρ S f) (hP : aHP G W sc f0 d mi kc ks Q P S.1.length ρ) : match st.map (aM ρ) with
      | .inl y :: .inl x :: rest => bif Nat.blt 0 d && Nat.ble (zcats rest) 8 then zR sc d mi (pc + 3) (zI (g x y) :: rest) (aML ρ lv) kc ks zSH f Q else False
      | _ => False := by
  unfold amm at h
  split at h
  next y x r =>
    show (bif Nat.blt 0 d && Nat.ble (zcats (r.map (aM ρ))) 8 then zR sc d mi (pc + 3) (zI (g (aev ρ x) (aev ρ y)) :: r.map (aM ρ)) (aML ρ lv) kc ks zSH f Q else False)
    rw [acats_ok]
    cases hb : Nat.blt 0 d && Nat.ble (alen r) 8 with
    | false => rw [hb] at h; cases h
    | true =>
      rw [hb, cond_true] at h
      rw [cond_true]
      refine aPost_P (aBin_ok h ok) (fun a S' ρ' h1 h2 h3 h4 h5 h6 h7 => ?_)
      have := hP _ _ _ _ _ _ h1 h2 h4 h5
      rw [hg, ← h3, ← h6, ← h7]
      exact this
  next => cases h
def ainv (G : aG) (W : List (Nat × Nat)) (P : aP) (C : aC) (d pc : Nat) (st : List aV) (lv : aL) (S : aS) (e : zE) (virt : Nat) : Bool := match e with
  | (2, j, n, _, ci, ml) => (match virt with
    | 0 => bif Nat.ble n st.length then ago P C d pc (st.take n).reverse (st.drop n) lv S j ml.toNat else false
    | 1 => (match st.drop n with
      | .inr (.inr (.inr (.inl c))) :: rest => (match zSH[c]? with
        | some (.inl (ci', _)) => bif Nat.beq ci' ci && Nat.ble zNI j then ago P C d pc (.inr (.inr (.inr (.inl c))) :: (st.take n).reverse) rest lv S j ml.toNat else false
        | _ => false)
      | _ => false)
    | _ => false)
  | (7, _) => (match virt with
    | 0 => acp G W P d pc st lv S
    | _ => false)
  | (8, _) => (match virt with
    | 0 => amm P d (pc + 3) st lv S 14
    | _ => false)
  | (9, _) => (match virt with
    | 0 => amm P d (pc + 3) st lv S 15
    | _ => false)
  | _ => false
theorem amap_drop {n : Nat} {c : Nat} {rest : List aV} (h : st.drop n = .inr (.inr (.inr (.inl c))) :: rest) : (st.map (aM ρ)).drop n = zP c :: rest.map (aM ρ) := by
  rw [← List.map_drop, h]; rfl
theorem ainv_ok {e : zE} {virt : Nat} (h : ainv G W P C d pc st lv S e virt = true) (ok : aOk G W sc f0 ρ S f) (hP : aHP G W sc f0 d mi kc ks Q P S.1.length ρ) (hC : aHC G W sc f0 d C S ρ f) : zinvoke (zC0 (zR sc)) (zR sc) d mi pc (st.map (aM ρ)) (aML ρ lv) kc ks zSH f Q e virt := by
  unfold ainv at h
  split at h
  next j n a ci ml =>
    split at h
    · cases hb : Nat.ble n st.length with
      | false => rw [hb] at h; cases h
      | true =>
        rw [hb, cond_true] at h
        show (bif Nat.ble n (st.map (aM ρ)).length then zgo (zC0 (zR sc)) (zR sc) d mi pc ((st.map (aM ρ)).take n).reverse ((st.map (aM ρ)).drop n) (aML ρ lv) kc ks zSH f Q j ml.toNat else False)
        rw [List.length_map, hb, cond_true, ← List.map_take, ← List.map_drop, ← List.map_reverse]
        exact ago_ok h ok hP hC
    · split at h
      next c rest hd =>
        split at h
        next ci' x hc =>
          cases hb : Nat.beq ci' ci && Nat.ble zNI j with
          | false => rw [hb] at h; cases h
          | true =>
            rw [hb, cond_true] at h
            show (match (st.map (aM ρ)).drop n with
              | .inr (.inr (.inl c)) :: rest => match zSH[c]? with
                | some (.inl (ci', _)) => bif Nat.beq ci' ci && Nat.ble zNI j then zgo (zC0 (zR sc)) (zR sc) d mi pc (zP c :: ((st.map (aM ρ)).take n).reverse) rest (aML ρ lv) kc ks zSH f Q j ml.toNat else False
                | _ => False
              | _ => False)
            rw [amap_drop hd]
            dsimp only
            rw [hc]
            dsimp only
            rw [hb, cond_true, ← List.map_take, ← List.map_reverse]
            exact ago_ok h ok hP hC
        next => cases h
      next => cases h
    · cases h
  next =>
    split at h
    · exact acp_ok h ok hP
    · cases h
  next =>
    split at h
    · exact amm_ok (op := 14) (g := fun x y => if x < y then y else x) (fun _ _ => rfl) h ok hP
    · cases h
  next =>
    split at h
    · exact amm_ok (op := 15) (g := fun x y => if y < x then y else x) (fun _ _ => rfl) h ok hP
    · cases h
  next => cases h
def alth (P : aP) (pc : Nat) (st : List aV) (lv : aL) (S : aS) : Bool := match st with
  | .inr (.inr (.inr (.inl c))) :: r => (match zSH[c]? with
    | some (.inr (_, n)) => P pc (.inl (0, (n : Int)) :: r) lv S
    | _ => false)
  | .inr (.inr (.inr (.inr t))) :: r => bif Nat.blt t 5 then P pc (.inl (0, (((zTb (0, fun _ => 0) t).1 : Nat) : Int)) :: r) lv S else bif Nat.beq t 5 then (match afind 1001 (0, 0) S.2.2.2 with
    | some v => P pc (.inl v :: r) lv S
    | none => false) else false
  | _ => false
theorem alth_ok (h : alth P (pc + 1) st lv S = true) (ok : aOk G W sc f0 ρ S f) (hP : aHP G W sc f0 d mi kc ks Q P S.1.length ρ) : zalen sc (zR sc) d mi pc (st.map (aM ρ)) (aML ρ lv) kc ks zSH f Q := by
  have key : ∀ {r : List aV} {v : aA} {z : Int}, aev ρ v = z → P (pc + 1) (.inl v :: r) lv S = true → zR sc d mi (pc + 1) (zI z :: r.map (aM ρ)) (aML ρ lv) kc ks zSH f Q := by
    intro r v z hz h
    have := aHP_i hP ok h
    rw [← hz]
    exact this
  unfold alth at h
  split at h
  next c r =>
    show (match zSH[c]? with
      | some (.inr (_, n)) => zR sc d mi (pc + 1) (zI (n : Int) :: r.map (aM ρ)) (aML ρ lv) kc ks zSH f Q
      | _ => False)
    split at h
    next b n hc =>
      try rw [hc]
      exact key (aev_c ok.1 _) h
    next => cases h
  next t r =>
    show (bif Nat.blt t 6 then zR sc d mi (pc + 1) (zI ((zTb sc t).1 : Int) :: r.map (aM ρ)) (aML ρ lv) kc ks zSH f Q else False)
    cases ht : Nat.blt t 5 with
    | true =>
      rw [ht, cond_true] at h
      have h5 : t + 1 ≤ 5 := Nat.le_of_ble_eq_true ht
      have h6 : Nat.blt t 6 = true := Nat.ble_eq_true_of_le (by omega)
      rw [h6, cond_true]
      refine key ?_ h
      rw [aev_c ok.1]
      rcases (show t = 0 ∨ t = 1 ∨ t = 2 ∨ t = 3 ∨ t = 4 by omega) with rfl | rfl | rfl | rfl | rfl <;> rfl
    | false =>
      rw [ht, cond_false] at h
      cases h5 : Nat.beq t 5 with
      | false => rw [h5] at h; cases h
      | true =>
        rw [h5, cond_true] at h
        have := Nat.eq_of_beq_eq_true h5
        subst this
        split at h
        next v hv =>
          have y1 := (ok.2.2.2.2.1 _ (afind_ok hv)).2
          exact key (y1.symm.trans rfl) h
        next => cases h
  next => cases h
def aret (R : aR) (mi : Nat) (st : List aV) (S : aS) : Bool := match zRk mi with
  | 1 => (match st with
    | [.inl z] => R (some (.inl z)) S
    | _ => false)
  | 3 => (match st with
    | [.inl z] => (match aiv S.1 z with
      | some I => bif ile 0 I.1 && ile I.2 1 then R (some (.inl z)) S else false
      | none => false)
    | _ => false)
  | _ => false
theorem aret_ok (h : aret R mi st S = true) (ok : aOk G W sc f0 ρ S f) (hR : aHR G W sc f0 Q R S.1.length ρ) : match zRk mi with
      | 1 => match st.map (aM ρ) with
        | [.inl z] => Q (some (zI z)) zSH f
        | _ => False
      | 3 => match st.map (aM ρ) with
        | [.inl z] => zrB z (Q (some (zI z)) zSH f)
        | _ => False
      | _ => False := by
  unfold aret at h
  split at h
  · split at h
    · exact hR _ _ _ _ h ok (aExt_r _ _) (Nat.le_refl _)
    · cases h
  · split at h
    next z =>
      split at h
      next I hI =>
        cases hb : ile 0 I.1 && ile I.2 1 with
        | false => rw [hb] at h; cases h
        | true =>
          rw [hb, cond_true] at h
          rw [Bool.and_eq_true, ile_iff, ile_iff] at hb
          have := aiv_ok ok.2.1 hI
          unfold aIn at this
          exact zrB_p (by omega) (hR _ _ _ _ h ok (aExt_r _ _) (Nat.le_refl _))
      next => cases h
    · cases h
  · cases h
def alret (R : aR) (mi : Nat) (st : List aV) (S : aS) : Bool := match zRk mi with
  | 2 => (match st with
    | [.inr (.inl z)] => R (some (.inr (.inl z))) S
    | _ => false)
  | _ => false
theorem alret_ok (h : alret R mi st S = true) (ok : aOk G W sc f0 ρ S f) (hR : aHR G W sc f0 Q R S.1.length ρ) : match zRk mi with
      | 2 => match st.map (aM ρ) with
        | [.inr (.inl z)] => Q (some (zJ z)) zSH f
        | _ => False
      | _ => False := by
  unfold alret at h
  split at h
  · split at h
    · exact hR _ _ _ _ h ok (aExt_r _ _) (Nat.le_refl _)
    · cases h
  · cases h
def avret (R : aR) (mi : Nat) (st : List aV) (S : aS) : Bool := match zRk mi with
  | 0 => (match st with
    | [] => R none S
    | _ => false)
  | _ => false
theorem avret_ok (h : avret R mi st S = true) (ok : aOk G W sc f0 ρ S f) (hR : aHR G W sc f0 Q R S.1.length ρ) : match zRk mi with
      | 0 => match st.map (aM ρ) with
        | [] => Q none zSH f
        | _ => False
      | _ => False := by
  unfold avret at h
  split at h
  · split at h
    · exact hR _ _ _ _ h ok (aExt_r _ _) (Nat.le_refl _)
    · cases h
  · cases h
def aifc (P : aP) (c : ClassFile.Cond) (a b : Nat) (st : List aV) (lv : aL) (S : aS) : Bool := match st with
  | .inl x :: r => aCd c x (0, 0) S (P a r lv) (P b r lv)
  | .inr (.inr (.inl (x, y))) :: r => aCd c x y S (P a r lv) (P b r lv)
  | _ => false
theorem aCdP {c : ClassFile.Cond} {x y : aA} {a b : Nat} {r : List aV} (h : aCd c x y S (P a r lv) (P b r lv) = true) (ok : aOk G W sc f0 ρ S f) (hP : aHP G W sc f0 d mi kc ks Q P S.1.length ρ) : zif c (aev ρ x) (aev ρ y) (zR sc d mi a (r.map (aM ρ)) (aML ρ lv) kc ks zSH f Q) (zR sc d mi b (r.map (aM ρ)) (aML ρ lv) kc ks zSH f Q) :=
  aCd_ok h ok (fun S' h1 h2 h3 => hP _ _ _ _ _ _ h1 h2 (aExt_r _ _) (by omega)) (fun S' h1 h2 h3 => hP _ _ _ _ _ _ h1 h2 (aExt_r _ _) (by omega))
theorem aifc_ok {c : ClassFile.Cond} {a b : Nat} (h : aifc P c a b st lv S = true) (ok : aOk G W sc f0 ρ S f) (hP : aHP G W sc f0 d mi kc ks Q P S.1.length ρ) : match st.map (aM ρ) with
      | .inl x :: r => zif c x 0 (zR sc d mi a r (aML ρ lv) kc ks zSH f Q) (zR sc d mi b r (aML ρ lv) kc ks zSH f Q)
      | _ => False := by
  unfold aifc at h
  split at h
  next x r =>
    have := aCdP h ok hP
    rw [aev_c ok.1] at this
    exact this
  next x y r => exact zif_cmp (aCdP h ok hP)
  next => cases h
def aicm (P : aP) (c : ClassFile.Cond) (a b : Nat) (st : List aV) (lv : aL) (S : aS) : Bool := match st with
  | .inl y :: .inl x :: r => aCd c x y S (P a r lv) (P b r lv)
  | _ => false
theorem aicm_ok {c : ClassFile.Cond} {a b : Nat} (h : aicm P c a b st lv S = true) (ok : aOk G W sc f0 ρ S f) (hP : aHP G W sc f0 d mi kc ks Q P S.1.length ρ) : match st.map (aM ρ) with
      | .inl y :: .inl x :: r => zif c x y (zR sc d mi a r (aML ρ lv) kc ks zSH f Q) (zR sc d mi b r (aML ρ lv) kc ks zSH f Q)
      | _ => False := by
  unfold aicm at h
  split at h
  · exact aCdP h ok hP
  · cases h
/-- one step -/
def aStep (G : aG) (W : List (Nat × Nat)) (P : aP) (R : aR) (C : aC) (d mi pc : Nat) (st : List aV) (lv : aL) (S : aS) : Bool := match zAg mi pc with
  | none => false
  | some (ins, _, e) => match ins with
    | .iconst n => P (pc + 1) (.inl (0, n) :: st) lv S
    | .bipush n => P (pc + 2) (.inl (0, n) :: st) lv S
    | .sipush n => P (pc + 3) (.inl (0, n) :: st) lv S
    | .ldc _ => P (pc + 2) (.inl (0, e.2.2.2.2.2) :: st) lv S
    | .ldc_w _ => P (pc + 3) (.inl (0, e.2.2.2.2.2) :: st) lv S
    | .ldc2_w _ => P (pc + 3) (.inr (.inl (0, e.2.2.2.2.2)) :: st) lv S
    | .lconst n => P (pc + 1) (.inr (.inl (0, ((n : Nat) : Int))) :: st) lv S
    | .iload_n k => aldv P (pc + 1) st lv S k 0
    | .iload k => aldv P (pc + 2) st lv S k 0
    | .lload_n k => aldv P (pc + 1) st lv S k 1
    | .lload k => aldv P (pc + 2) st lv S k 1
    | .aload_n k => aldv P (pc + 1) st lv S k 2
    | .aload k => aldv P (pc + 2) st lv S k 2
    | .istore_n k => ast1 P (pc + 1) st lv S k
    | .istore k => ast1 P (pc + 2) st lv S k
    | .lstore_n k => ast2 P (pc + 1) st lv S k
    | .lstore k => ast2 P (pc + 2) st lv S k
    | .astore_n k => astA P (pc + 1) st lv S k
    | .astore k => astA P (pc + 2) st lv S k
    | .iinc i n => (match aget i lv with
      | some (.inl x) => aBin 0 st lv S x (0, n) (fun a S' => P (pc + 3) st (aset1 i (.inl a) lv) S')
      | _ => false)
    | .iadd => a2 P (pc + 1) st lv S 0
    | .isub => a2 P (pc + 1) st lv S 1
    | .imul => a2 P (pc + 1) st lv S 2
    | .idiv => adv P (pc + 1) st lv S 3
    | .irem => adv P (pc + 1) st lv S 4
    | .ineg => a1 P (pc + 1) st lv S 11
    | .iand => a2 P (pc + 1) st lv S 5
    | .ior => a2 P (pc + 1) st lv S 6
    | .ixor => a2 P (pc + 1) st lv S 7
    | .ishl => a2 P (pc + 1) st lv S 8
    | .ishr => a2 P (pc + 1) st lv S 9
    | .iushr => a2 P (pc + 1) st lv S 10
    | .land => al2 P (pc + 1) st lv S
    | .lor => al2 P (pc + 1) st lv S
    | .lshl => (match st with
      | .inl _ :: .inr (.inl _) :: r => afr P (pc + 1) r lv S
      | _ => false)
    | .lcmp => (match st with
      | .inr (.inl y) :: .inr (.inl x) :: r => P (pc + 1) (.inr (.inr (.inl (x, y))) :: r) lv S
      | _ => false)
    | .i2l => (match st with
      | .inl x :: r => P (pc + 1) (.inr (.inl x) :: r) lv S
      | _ => false)
    | .l2i => (match st with
      | .inr (.inl x) :: r => (match aiv S.1 x with
        | some I => bif asub I aF32 then P (pc + 1) (.inl x :: r) lv S else aNew r lv S aF32 (fun a S' => P (pc + 1) (.inl a :: r) lv S')
        | none => false)
      | _ => false)
    | .i2b => a1 P (pc + 1) st lv S 12
    | .i2s => a1 P (pc + 1) st lv S 13
    | .pop => (match st with
      | v :: r => bif Nat.beq (acat v) 1 then P (pc + 1) r lv S else false
      | _ => false)
    | .dup => (match st with
      | v :: r => bif Nat.beq (acat v) 1 then P (pc + 1) (v :: v :: r) lv S else false
      | _ => false)
    | .dup2 => (match st with
      | v :: u :: r => bif Nat.beq (acat v) 1 && Nat.beq (acat u) 1 then P (pc + 1) (v :: u :: v :: u :: r) lv S else false
      | _ => false)
    | .goto off => P (ztg pc off) st lv S
    | .ifCond c off => aifc P c (ztg pc off) (pc + 3) st lv S
    | .if_icmp c off => aicm P c (ztg pc off) (pc + 3) st lv S
    | .tableswitch dflt lo _ offs => (match st with
      | .inl x :: r => aSw x (fun o S' => P (ztg pc o) r lv S') dflt lo offs.toList S
      | _ => false)
    | .lookupswitch dflt ps => (match st with
      | .inl x :: r => aLk x (fun o S' => P (ztg pc o) r lv S') dflt ps.toList S
      | _ => false)
    | .getfield _ => agf G P pc st lv S e
    | .putfield _ => apf G W P pc st lv S e
    | .getstatic _ => (match e with
      | (1, t, _) => P (pc + 3) (.inr (.inr (.inr (.inr t))) :: st) lv S
      | _ => false)
    | .invokestatic _ => ainv G W P C d pc st lv S e 0
    | .invokevirtual _ => ainv G W P C d pc st lv S e 1
    | .arraylength => alth P (pc + 1) st lv S
    | .iaload => aal G P (pc + 1) st lv S false
    | .laload => aal G P (pc + 1) st lv S true
    | .iastore => aas G W P (pc + 1) st lv S false
    | .lastore => aas G W P (pc + 1) st lv S true
    | .ireturn => aret R mi st S
    | .lreturn => alret R mi st S
    | .return_ => avret R mi st S
    | _ => false
theorem zin64_sh (x y : Int) : zIn64 (zlshl x y) := zin64_t _
theorem aStep_ok (h : aStep G W P R C d mi pc st lv S = true) (ok : aOk G W sc f0 ρ S f) (hP : aHP G W sc f0 d mi kc ks Q P S.1.length ρ) (hR : aHR G W sc f0 Q R S.1.length ρ) (hC : aHC G W sc f0 d C S ρ f) : zstep sc (zC0 (zR sc)) (zR sc) d mi pc (st.map (aM ρ)) (aML ρ lv) kc ks zSH f Q := by
  have cst : ∀ {c : Int} {n : Nat}, P n (.inl (0, c) :: st) lv S = true → zR sc d mi n (zI c :: st.map (aM ρ)) (aML ρ lv) kc ks zSH f Q := by
    intro c n h
    have := aHP_i hP ok h
    rw [List.map_cons, show aM ρ (.inl (0, c)) = zI c from congrArg zI (aev_c ok.1 c)] at this
    exact this
  have cstJ : ∀ {c : Int} {n : Nat}, P n (.inr (.inl (0, c)) :: st) lv S = true → zR sc d mi n (zJ c :: st.map (aM ρ)) (aML ρ lv) kc ks zSH f Q := by
    intro c n h
    have := aHP_i hP ok h
    rw [List.map_cons, show aM ρ (.inr (.inl (0, c))) = zJ c from congrArg zJ (aev_c ok.1 c)] at this
    exact this
  unfold aStep at h
  unfold zstep
  cases hz : zAg mi pc with
  | none => rw [hz] at h; cases h
  | some q =>
    obtain ⟨ins, len, e⟩ := q
    rw [hz] at h
    dsimp only at h ⊢
    split at h
    · exact cst h
    · exact cst h
    · exact cst h
    · exact cst h
    · exact cst h
    · exact cstJ h
    · exact cstJ h
    · exact aldv_ok (by decide) h ok hP
    · exact aldv_ok (by decide) h ok hP
    · exact aldv_ok (by decide) h ok hP
    · exact aldv_ok (by decide) h ok hP
    · exact aldv_ok (by decide) h ok hP
    · exact aldv_ok (by decide) h ok hP
    · exact ast1_ok h ok hP
    · exact ast1_ok h ok hP
    · exact ast2_ok h ok hP
    · exact ast2_ok h ok hP
    · exact astA_ok h ok hP
    · exact astA_ok h ok hP
    · rename_i i n
      split at h
      next x hx =>
        have hx' : zget i (aML ρ lv) = some (aM ρ (.inl x)) := by rw [aget_ok, hx]; rfl
        show (match zget i (aML ρ lv) with
          | some (.inl x) => zR sc d mi (pc + 3) (st.map (aM ρ)) (zset1 i (zI (w32 (x + n))) (aML ρ lv)) kc ks zSH f Q
          | _ => False)
        rw [hx']
        refine aPost_P (aBin_ok h ok) (fun a S' ρ' h1 h2 h3 h4 h5 h6 h7 => ?_)
        have := hP _ _ _ _ _ _ h1 h2 h4 h5
        rw [aev_c ok.1] at h3
        have h3 : aM ρ' (.inl a) = zI (w32 (aev ρ x + n)) := congrArg zI h3
        show zR sc d mi (pc + 3) (st.map (aM ρ)) (zset1 i (zI (w32 (aev ρ x + n))) (aML ρ lv)) kc ks zSH f Q
        rw [← h3, ← h6, ← h7, aset1_ok]
        exact this
      next => cases h
    · exact a2_ok (fun _ _ => rfl) h ok hP
    · exact a2_ok (fun _ _ => rfl) h ok hP
    · exact a2_ok (fun _ _ => rfl) h ok hP
    · obtain ⟨y, x, r, e1, e2, e3⟩ := adv_ok (g := fun x y => w32 (x.tdiv y)) (fun _ _ => rfl) h ok hP
      show (match st.map (aM ρ) with
        | .inl y :: .inl x :: r => if y = 0 then False else zR sc d mi (pc + 1) (zI (w32 (x.tdiv y)) :: r) (aML ρ lv) kc ks zSH f Q
        | _ => False)
      rw [e1]
      dsimp only
      rw [if_neg e2]
      exact e3
    · obtain ⟨y, x, r, e1, e2, e3⟩ := adv_ok (g := fun x y => x.tmod y) (fun _ _ => rfl) h ok hP
      show (match st.map (aM ρ) with
        | .inl y :: .inl x :: r => if y = 0 then False else zR sc d mi (pc + 1) (zI (x.tmod y) :: r) (aML ρ lv) kc ks zSH f Q
        | _ => False)
      rw [e1]
      dsimp only
      rw [if_neg e2]
      exact e3
    · exact a1_ok (fun _ => rfl) h ok hP
    · exact a2_ok (fun _ _ => rfl) h ok hP
    · exact a2_ok (fun _ _ => rfl) h ok hP
    · exact a2_ok (fun _ _ => rfl) h ok hP
    · exact a2_ok (fun _ _ => rfl) h ok hP
    · exact a2_ok (fun _ _ => rfl) h ok hP
    · exact a2_ok (fun _ _ => rfl) h ok hP
    · exact al2_ok (fun _ _ => zin64_t _) h ok hP
    · exact al2_ok (fun _ _ => zin64_t _) h ok hP
    · split at h
      · exact afr_ok (zin64_sh _ _) h ok hP
      · cases h
    · split at h
      · exact aHP_i hP ok h
      · cases h
    · split at h
      · exact aHP_i hP ok h
      · cases h
    · split at h
      next x r =>
        split at h
        next I hI =>
          show zR sc d mi (pc + 1) (zI (w32 (aev ρ x)) :: r.map (aM ρ)) (aML ρ lv) kc ks zSH f Q
          cases hb : asub I aF32 with
          | true =>
            rw [hb, cond_true] at h
            have r1 : zIn (aev ρ x) := aF32_ok.1 (asub_ok hb (aiv_ok ok.2.1 hI))
            have r2 : w32 (aev ρ x) = aev ρ x := w32_in r1
            rw [r2]
            exact aHP_i hP ok h
          | false =>
            rw [hb, cond_false] at h
            refine aPost_P (aNew_ok (v := w32 (aev ρ x)) h ok (aF32_ok.2 (zin_w _))) (fun a S' ρ' h1 h2 h3 h4 h5 h6 h7 => ?_)
            have := hP _ _ _ _ _ _ h1 h2 h4 h5
            rw [← h3, ← h6, ← h7]
            exact this
        next => cases h
      next => cases h
    · exact a1_ok (fun _ => rfl) h ok hP
    · exact a1_ok (fun _ => rfl) h ok hP
    · split at h
      next v r =>
        cases hb : Nat.beq (acat v) 1 with
        | false => rw [hb] at h; cases h
        | true =>
          rw [hb, cond_true] at h
          show (bif Nat.beq (zcat (aM ρ v)) 1 then zR sc d mi (pc + 1) (r.map (aM ρ)) (aML ρ lv) kc ks zSH f Q else False)
          rw [acat_ok, hb, cond_true]
          exact aHP_i hP ok h
      next => cases h
    · split at h
      next v r =>
        cases hb : Nat.beq (acat v) 1 with
        | false => rw [hb] at h; cases h
        | true =>
          rw [hb, cond_true] at h
          show (bif Nat.beq (zcat (aM ρ v)) 1 then zR sc d mi (pc + 1) (aM ρ v :: aM ρ v :: r.map (aM ρ)) (aML ρ lv) kc ks zSH f Q else False)
          rw [acat_ok, hb, cond_true]
          exact aHP_i hP ok h
      next => cases h
    · split at h
      next v u r =>
        cases hb : Nat.beq (acat v) 1 && Nat.beq (acat u) 1 with
        | false => rw [hb] at h; cases h
        | true =>
          rw [hb, cond_true] at h
          show (bif Nat.beq (zcat (aM ρ v)) 1 && Nat.beq (zcat (aM ρ u)) 1 then zR sc d mi (pc + 1) (aM ρ v :: aM ρ u :: aM ρ v :: aM ρ u :: r.map (aM ρ)) (aML ρ lv) kc ks zSH f Q else False)
          rw [acat_ok, acat_ok, hb, cond_true]
          exact aHP_i hP ok h
      next => cases h
    · exact aHP_i hP ok h
    · exact aifc_ok h ok hP
    · exact aicm_ok h ok hP
    · split at h
      next x r => exact aSw_ok (n := S.1.length) (fun o S' h1 h2 h3 => hP _ _ _ _ _ _ h1 h2 (aExt_r _ _) (by omega)) _ _ _ rfl h ok
      next => cases h
    · split at h
      next x r => exact aLk_ok (n := S.1.length) (fun o S' h1 h2 h3 => hP _ _ _ _ _ _ h1 h2 (aExt_r _ _) (by omega)) _ _ rfl h ok
      next => cases h
    · exact agf_ok h ok hP
    · exact apf_ok h ok hP
    · split at h
      · exact aHP_i hP ok h
      · cases h
    · exact ainv_ok h ok hP hC
    · exact ainv_ok h ok hP hC
    · exact alth_ok h ok hP
    · exact aal_ok h ok hP
    · exact aal_ok h ok hP
    · exact aas_ok h ok hP
    · exact aas_ok h ok hP
    · exact aret_ok h ok hR
    · exact alret_ok h ok hR
    · exact avret_ok h ok hR
    · cases h
end ASTEP2
end
