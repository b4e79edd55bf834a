noncomputable section
/-! one step, further: fields written, cells made, ends -/
def zisO : FieldType → Bool
  | .int => true
  | .boolean => true
  | .object _ => true
  | .array _ => true
  | _ => false
theorem ztyok : ∀ (ci : Nat) (q : vw_C), zCl[ci]? = some q → ∀ k, k < q.2.2 → zisO (zTy ci k) = true := by
  have h : ((List.range 12).all fun ci => match zCl[ci]? with | some q => (List.range q.2.2).all (fun k => zisO (zTy ci k)) | none => true) = true := by decide +kernel
  intro ci q hq k hk
  have hc : ci < 12 := (List.getElem?_eq_some_iff.mp hq).1
  have h1 := List.all_eq_true.mp h ci (List.mem_range.mpr hc)
  rw [hq] at h1
  exact List.all_eq_true.mp h1 k (List.mem_range.mpr hk)
theorem zfit_ref {ty : FieldType} (h : zisO ty = true) (h2 : zkd ty = .inr 2) (a : Nat) : narrow ty (.ref a) = .ref a ∧ fits ty (.ref a) = true := by
  cases ty <;> first | exact ⟨rfl, rfl⟩ | exact absurd h (by decide) | exact absurd h2 (by decide)
theorem zbeq {o : Option (Nat ⊕ Nat)} {n : Nat} (h : (o == some (.inr n)) = true) : o = some (.inr n) := by
  rcases o with _ | (a | b)
  · cases h
  · cases h
  · have h : (b == n) = true := h
    rw [eq_of_beq h]
theorem zrk_up {ads : List Nat} {f : zF} {c k : Nat} {z : Int} {ks' : List (Nat ⊕ Nat)} {fs : List Value} {n : Nat} (hn : ¬ n = 2) (hl : fs.length = ks'.length) (hk : ks'[k]? = some (.inr n)) (hz : zIn z) (h : ∀ j kd, ks'[j]? = some kd → ∃ w, fs[j]? = some w ∧ zrk ads (f c) j kd w) :
    ∀ j kd, ks'[j]? = some kd → ∃ w, (fs.set k (.int (Int32.ofInt z)))[j]? = some w ∧ zrk ads (zup f c k z c) j kd w := by
  intro j kd hj
  by_cases hjk : j = k
  · subst hjk
    cases hk.symm.trans hj
    refine ⟨.int (Int32.ofInt z), ?_, ?_⟩
    · rw [List.getElem?_set_self (by rw [hl]; exact (List.getElem?_eq_some_iff.mp hk).1)]
    · show if n = 2 then _ else _
      rw [if_neg hn]
      simp [zup]
      exact hz
  · obtain ⟨w, h1, h2⟩ := h j kd hj
    refine ⟨w, by rw [List.getElem?_set_ne (Ne.symm hjk)]; exact h1, ?_⟩
    rcases kd with c' | n'
    · exact h2
    · have e : zup f c k z c j = f c j := by simp [zup, hjk]
      show if n' = 2 then _ else _
      rw [e]
      exact h2
section STEP3
variable {p : Program} {l : Launch} {e : Env} {R : Room} {s : State} {m : MethodId} {args : Array Value} {below : List Frame} {meth : Method} {c : Code} {A : Nat → Prop} {D : va_G} {sa : Nat → Nat} {sc : zC} {d mi pc kc ks : Nat} {st : List zV} {lv : zL} {sh : zH} {f : zF} {Q : zQ} {H : Heap} {locs : List Loc} {ads : List Nat} {tys : List (ClassId × FieldType)} {ws : va_W} {ls : Array Slot} {stv : List Value} {lvv : List (Nat × Value)} {Qm : State → Prop}
theorem zEn_more {la : List Nat} {sh' : zH} (hini : zNI ≤ mi → sh' = sh) (hE : zEn p l e R s m args below meth c A D mi sh ads Q Qm) : zEn p l e R s m args below meth c A D mi sh' (ads ++ la) Q Qm := by
  intro r sh2 f' la' tys' ws' H' locs' kc' ks' pc' ls' vr h1 h2 h3 h4 h5
  exact hE r sh2 f' (la ++ la') tys' ws' H' locs' kc' ks' pc' ls' vr h1 (fun q => (h2 q).trans (hini q)) h3 h4 (by rw [← List.append_assoc]; exact h5)
theorem zs_putf {ix : Nat} {en : zE} (hC : zCx p R s m args meth c A sa sc d mi) (hR : zRl s A D sa mi st lv kc ks sh f H locs ads tys ws ls stv lvv) (hE : zEn p l e R s m args below meth c A D mi sh ads Q Qm)
    (hdg : decode (zby mi) pc = .ok (.putfield ix, 3)) (hok : (zokF mi ix en && zokFF mi en) = true) (h : zputf (zSd sc) d mi pc st lv kc ks sh f Q en) :
    W p l e R s m args below meth c H locs kc ks Qm (F0 m pc ls stv) := by
  obtain ⟨hkc, hks, hw, hP, hK, hD, hS, hst, hlv, hls⟩ := hR
  unfold zputf at h
  split at h
  next ci k c5 =>
    rcases st with _ | ⟨z | x | k2 | t, _ | ⟨x | x | c0 | t, r⟩⟩ <;> try exact h.elim
    rcases stv with _ | ⟨vz, _ | ⟨vx, rv⟩⟩ <;> try exact hst.elim
    · exact hst.2.elim
    obtain ⟨⟨rfl, hz⟩, ⟨a, ha, rfl⟩, hr⟩ := hst
    try dsimp only at h
    cases hs : sh[c0]? with
    | none => rw [hs] at h; exact h.elim
    | some sx =>
      rw [hs] at h
      rcases sx with ⟨ci', ks'⟩ | sx
      · replace h : bif Nat.beq ci' ci && (ks'[k]? == some (.inr 0)) then zSd sc d mi (pc + 3) r lv kc ks sh (zup f c0 k z) Q else False := h
        replace h := zbif_t h
        obtain ⟨hb, h⟩ := h
        obtain ⟨hb, hkd⟩ := zand_t hb
        replace hb := Nat.eq_of_beq_eq_true hb
        subst hb
        have hkd : ks'[k]? = some (.inr 0) := zbeq hkd
        obtain ⟨q, hq, hk, g2, g3, g4⟩ := zokF_ok (zand_t hok).1
        have g3 : zTy ci' k = .int := of_decide_eq_true g3
        have g4 : (q.2.1 k).2.2.2 = false := eq_of_beq g4
        obtain ⟨x, hx1, fs, rfl, hx3, hx4⟩ := zrw_at hw hs ha
        have zq := zclok ci' q hq
        refine va_put (C := q.1) (T := q.2.1) (N := q.2.2) (ty := .int) hC.1 hC.2.1 hC.2.2.2.2.1 zq.1 (zTy ci') zq.2.1 zq.2.2.1 hC.2.2.2.1 hK hP hD hS c0 hx1 hq k hk (hC.2.2.2.2.1 _ (g2)) (fun _ h => h) g4 (by rw [zq.2.1 k hk, g3]) rfl rfl (by rw [hx3]; exact (List.getElem?_eq_some_iff.mp hkd).1) hdg (fun H1 locs1 hP1 hD1 hS1 => ?_)
        exact h p l e R s m args below meth c A D sa H1 locs1 ads tys _ ls _ lvv Qm hC ⟨hkc, hks, zrw_put (f' := zup f c0 k z) hw hs ha (fun c' hc => by funext j; simp [zup, hc]) ⟨_, rfl, by rw [List.length_set]; exact hx3, zrk_up (by decide) hx3 hkd hz hx4⟩, hP1, hK, hD1, hS1, hr, hlv, hls⟩ hE
      · exact h.elim
  next ci k c5 =>
    rcases st with _ | ⟨z | x | k2 | t, _ | ⟨x | x | c0 | t, r⟩⟩ <;> try exact h.elim
    rcases stv with _ | ⟨vz, _ | ⟨vx, rv⟩⟩ <;> try exact hst.elim
    · exact hst.2.elim
    obtain ⟨⟨rfl, hz⟩, ⟨a, ha, rfl⟩, hr⟩ := hst
    try dsimp only at h
    cases hs : sh[c0]? with
    | none => rw [hs] at h; exact h.elim
    | some sx =>
      rw [hs] at h
      rcases sx with ⟨ci', ks'⟩ | sx
      · replace h : bif Nat.beq ci' ci && (ks'[k]? == some (.inr 1)) then zrB z (zSd sc d mi (pc + 3) r lv kc ks sh (zup f c0 k z) Q) else False := h
        replace h := zbif_t h
        obtain ⟨hb, h⟩ := h
        obtain ⟨hb, hkd⟩ := zand_t hb
        replace hb := Nat.eq_of_beq_eq_true hb
        subst hb
        have hkd : ks'[k]? = some (.inr 1) := zbeq hkd
        replace h := zrB_ok h
        obtain ⟨hz01, h⟩ := h
        obtain ⟨q, hq, hk, g2, g3, g4⟩ := zokF_ok (zand_t hok).1
        have g3 : zTy ci' k = .boolean := of_decide_eq_true g3
        have g4 : (q.2.1 k).2.2.2 = false := eq_of_beq g4
        obtain ⟨x, hx1, fs, rfl, hx3, hx4⟩ := zrw_at hw hs ha
        have zq := zclok ci' q hq
        refine va_put (C := q.1) (T := q.2.1) (N := q.2.2) (ty := .boolean) hC.1 hC.2.1 hC.2.2.2.2.1 zq.1 (zTy ci') zq.2.1 zq.2.2.1 hC.2.2.2.1 hK hP hD hS c0 hx1 hq k hk (hC.2.2.2.2.1 _ (g2)) (fun _ h => h) g4 (by rw [zq.2.1 k hk, g3]) (by rcases hz01 with rfl | rfl <;> rfl) (by rcases hz01 with rfl | rfl <;> rfl) (by rw [hx3]; exact (List.getElem?_eq_some_iff.mp hkd).1) hdg (fun H1 locs1 hP1 hD1 hS1 => ?_)
        exact h p l e R s m args below meth c A D sa H1 locs1 ads tys _ ls _ lvv Qm hC ⟨hkc, hks, zrw_put (f' := zup f c0 k z) hw hs ha (fun c' hc => by funext j; simp [zup, hc]) ⟨_, rfl, by rw [List.length_set]; exact hx3, zrk_up (by decide) hx3 hkd hz hx4⟩, hP1, hK, hD1, hS1, hr, hlv, hls⟩ hE
      · exact h.elim
  next ci k c5 =>
    rcases st with _ | ⟨z | x | v | t, _ | ⟨x | x | c0 | t, r⟩⟩ <;> try exact h.elim
    rcases stv with _ | ⟨vz, _ | ⟨vx, rv⟩⟩ <;> try exact hst.elim
    · exact hst.2.elim
    obtain ⟨⟨b, hb0, rfl⟩, ⟨a, ha, rfl⟩, hr⟩ := hst
    try dsimp only at h
    cases hs : sh[c0]? with
    | none => rw [hs] at h; exact h.elim
    | some sx =>
      rw [hs] at h
      rcases sx with ⟨ci', ks'⟩ | sx
      · replace h : bif Nat.beq ci' ci && (Nat.blt k ks'.length && (Nat.blt 0 mi && Nat.blt mi zNI)) then zSd sc d mi (pc + 3) r lv kc ks (sh.set c0 (.inl (ci, ks'.set k (.inl v)))) f Q else False := h
        replace h := zbif_t h
        obtain ⟨hb, h⟩ := h
        obtain ⟨hb, hkd⟩ := zand_t hb
        obtain ⟨hkd, hm⟩ := zand_t hkd
        obtain ⟨hm0, hm⟩ := zand_t hm
        have hm0 : 0 < mi := Nat.le_of_ble_eq_true hm0
        have hm : mi < zNI := Nat.le_of_ble_eq_true hm
        have hkl : k < ks'.length := Nat.le_of_ble_eq_true hkd
        have hb := Nat.eq_of_beq_eq_true hb
        subst hb
        obtain ⟨q, hq, hk, g2, g3, g4⟩ := zokF_ok (zand_t hok).1
        have hof := zokFF_ok (zand_t hok).2 hq
        have g3 : zkd (zTy ci' k) = .inr 2 := of_decide_eq_true g3
        have g4 : (q.2.1 k).2.2.2 = true := eq_of_beq g4
        obtain ⟨x, hx1, fs, rfl, hx3, hx4⟩ := zrw_at hw hs ha
        have zq := zclok ci' q hq
        have hfit := zfit_ref (ztyok ci' q hq k hk) g3 b
        refine va_putF (C := q.1) (T := q.2.1) (N := q.2.2) (ty := zTy ci' k) (v := .ref b) hC.1 hC.2.1 hC.2.2.2.2.1 zq.1 (zTy ci') zq.2.1 zq.2.2.1 hC.2.2.2.1 hK hP hD hS c0 hx1 hq k hk (hC.2.2.2.2.1 _ (g2)) (fun _ h => h) g4 (hC.2.2.2.2.2.2.2.2.2.2.2.1 hm0 hm) hof (zq.2.1 k hk) hfit.1 hfit.2 (by rw [hx3]; exact hkl) hdg (fun H1 locs1 hP1 hD1 hS1 => ?_)
        have hE2 := zEn_more (la := []) (sh' := sh.set c0 (.inl (ci', ks'.set k (.inl v)))) (fun q => by omega) hE
        rw [List.append_nil] at hE2
        refine h p l e R s m args below meth c A D sa H1 locs1 ads tys _ ls _ lvv Qm hC ⟨hkc, hks, zrw_set (f' := f) hw hs ha (fun _ _ => rfl) ⟨_, rfl, by rw [List.length_set, List.length_set]; exact hx3, fun j kd hj => ?_⟩, hP1, hK, hD1, hS1, hr, hlv, hls⟩ hE2
        by_cases hjk : j = k
        · subst hjk
          rw [List.getElem?_set_self hkl] at hj
          cases hj
          exact ⟨.ref b, by rw [List.getElem?_set_self (by rw [hx3]; exact hkl)], b, hb0, rfl⟩
        · rw [List.getElem?_set_ne (Ne.symm hjk)] at hj
          obtain ⟨w, h1, h2⟩ := hx4 j kd hj
          exact ⟨w, by rw [List.getElem?_set_ne (Ne.symm hjk)]; exact h1, h2⟩
      · exact h.elim
  · exact h.elim
theorem zs_new {ix : Nat} {en : zE} (hC : zCx p R s m args meth c A sa sc d mi) (hR : zRl s A D sa mi st lv kc ks sh f H locs ads tys ws ls stv lvv) (hE : zEn p l e R s m args below meth c A D mi sh ads Q Qm)
    (hdg : decode (zby mi) pc = .ok (.new ix, 3)) (hok : zokN mi ix en = true) (h : znew (zSd sc) d mi pc st lv kc ks sh f Q en) :
    W p l e R s m args below meth c H locs kc ks Qm (F0 m pc ls stv) := by
  obtain ⟨hkc, hks, hw, hP, hK, hD, hS, hst, hlv, hls⟩ := hR
  unfold znew at h
  split at h
  next ci en' =>
    replace h := zbif_t h
    obtain ⟨hb, h⟩ := h
    obtain ⟨hm, hb⟩ := zand_t hb
    obtain ⟨hb1, hb2⟩ := zand_t hb
    have hm : mi < zNI := Nat.le_of_ble_eq_true hm
    have hb1 := Nat.le_of_ble_eq_true hb1
    have hb2 := Nat.le_of_ble_eq_true hb2
    obtain ⟨q, hq, hok⟩ := zokN_ok hok
    · skip
      have zq := zclok ci q hq
      have hlen : (zDk ci).length = q.2.2 := by
        unfold zDk
        rw [hq]
        simp
      rw [hlen] at h hb2
      have hcx := hC
      obtain ⟨hx, hbc, hml, hown, hts, hns, hfr, hlo, hrc, hrs, hA, hin, hzt, hsc⟩ := hC
      refine va_new (C := q.1) (T := q.2.1) (N := q.2.2) (fs := (List.range q.2.2).map (fun k => defaultValue (zTy ci k))) hx hbc hts zq.1 (zTy ci) zq.2.1 hown (hts _ hok) (hts _ zq.2.2.2.1) (hts _ zq.2.2.2.2) hK hP hD hS hA hq (fun j hj => ?_) (by rw [hrc]; exact hb1) (by rw [hrs]; exact hb2) hdg (fun qa H1 hP1 hD1 hS1 => ?_)
      · simp [vp_V, List.getD_eq_getElem?_getD, hj]
      · refine h p l e R s m args below meth c A D sa H1 locs (ads ++ [qa]) (tys ++ []) _ ls _ lvv Qm hcx ⟨hb1, hb2, zrw_push (q := qa) (f' := zclr f sh.length) hw (fun c' hc => by funext j; simp [zclr, hc]) ⟨_, rfl, by simp [hlen], fun j kd hj => ?_⟩, hP1, by rw [List.append_nil]; exact hK, hD1, hS1, ⟨⟨qa, by rw [← hw.1, List.getElem?_append_right (Nat.le_refl _), Nat.sub_self]; rfl, rfl⟩, zrs_more hst⟩, zrl_more hlv, hls⟩ (zEn_more (la := [qa]) (fun q => by omega) hE)
        unfold zDk at hj
        rw [hq] at hj
        try dsimp only at hj
        have hjl : j < q.2.2 := by
          have := (List.getElem?_eq_some_iff.mp hj).1
          simpa using this
        simp [hjl] at hj
        refine ⟨defaultValue (zTy ci j), by simp [hjl], ?_⟩
        have ho := ztyok ci q hq j hjl
        subst hj
        cases hty : zTy ci j <;> rw [hty] at ho <;> first
          | (cases ho; done)
          | exact ⟨by simp [zclr, defaultValue] <;> rfl, by simp [zclr]; exact zin_0⟩
          | rfl
  · exact h.elim
theorem zs_newa {b : Bool} (hC : zCx p R s m args meth c A sa sc d mi) (hR : zRl s A D sa mi st lv kc ks sh f H locs ads tys ws ls stv lvv) (hE : zEn p l e R s m args below meth c A D mi sh ads Q Qm)
    (hdg : decode (zby mi) pc = .ok (.newarray (bif b then .long else .int), 2)) (h : znewa (zSd sc) d mi pc st lv kc ks sh f Q b) :
    W p l e R s m args below meth c H locs kc ks Qm (F0 m pc ls stv) := by
  obtain ⟨hkc, hks, hw, hP, hK, hD, hS, hst, hlv, hls⟩ := hR
  unfold znewa at h
  rcases st with _ | ⟨n | x | k | t, r⟩ <;> try exact h.elim
  rcases stv with _ | ⟨vx, rv⟩ <;> try exact hst.elim
  obtain ⟨⟨rfl, hn⟩, hr⟩ := hst
  replace h := zbif_t h
  obtain ⟨hb, h⟩ := h
  obtain ⟨hb0, hb⟩ := zand_t hb
  obtain ⟨hm, hb⟩ := zand_t hb
  obtain ⟨hb1, hb2⟩ := zand_t hb
  have hb0 : 0 ≤ n ∧ n ≤ 100000 := of_decide_eq_true hb0
  have hm : mi < zNI := Nat.le_of_ble_eq_true hm
  have hb1 := Nat.le_of_ble_eq_true hb1
  have hb2 := Nat.le_of_ble_eq_true hb2
  have hcx := hC
  obtain ⟨hx, hbc, hml, hown, hts, hns, hfr, hlo, hrc, hrs, hA, hin, hzt, hsc⟩ := hC
  cases b with
  | false =>
    refine va_newa (atype := .int) (N' := n.toNat) (a0 := (n.toNat, .inl (fun _ => 0))) hx hbc (hts _ zg11) rfl hK hP hD hS hA (fun cA => rfl) (zo_nn hn hb0.1) (zo_cl hn) (by show n.toNat * 4 ≤ _; omega) (by rw [hrc]; exact hb1) (by rw [hrs]; exact hb2) hdg (fun qa cA H1 hK1 hP1 hD1 hS1 => ?_)
    refine h p l e R s m args below meth c A D sa H1 locs (ads ++ [qa]) (tys ++ [(cA, .int)]) _ ls _ lvv Qm hcx ⟨hb1, hb2, zrw_push (q := qa) (f' := zclr f sh.length) hw (fun c' hc => by funext j; simp [zclr, hc]) ⟨cA, tys.length, fun _ => 0, by simp, rfl, by omega, fun j => by rw [show zclr f sh.length sh.length j = 0 by simp [zclr]]; exact ⟨rfl, zin_0⟩⟩, hP1, hK1, hD1, hS1, ⟨⟨qa, by rw [← hw.1, List.getElem?_append_right (Nat.le_refl _), Nat.sub_self]; rfl, rfl⟩, zrs_more hr⟩, zrl_more hlv, hls⟩ (zEn_more (la := [qa]) (fun q => by omega) hE)
  | true =>
    refine va_newa (atype := .long) (N' := n.toNat) (a0 := (n.toNat, .inr (.inl (fun _ => 0)))) hx hbc (hts _ zg12) rfl hK hP hD hS hA (fun cA => rfl) (zo_nn hn hb0.1) (zo_cl hn) (by show n.toNat * 8 ≤ _; omega) (by rw [hrc]; exact hb1) (by rw [hrs]; exact hb2) hdg (fun qa cA H1 hK1 hP1 hD1 hS1 => ?_)
    refine h p l e R s m args below meth c A D sa H1 locs (ads ++ [qa]) (tys ++ [(cA, .long)]) _ ls _ lvv Qm hcx ⟨hb1, hb2, zrw_push (q := qa) (f' := zclr f sh.length) hw (fun c' hc => by funext j; simp [zclr, hc]) ⟨cA, tys.length, fun _ => 0, by simp, rfl, by omega, fun j => by rw [show zclr f sh.length sh.length j = 0 by simp [zclr]]; exact ⟨rfl, by unfold zIn64; omega⟩⟩, hP1, hK1, hD1, hS1, ⟨⟨qa, by rw [← hw.1, List.getElem?_append_right (Nat.le_refl _), Nat.sub_self]; rfl, rfl⟩, zrs_more hr⟩, zrl_more hlv, hls⟩ (zEn_more (la := [qa]) (fun q => by omega) hE)
theorem zs_end {r : Option zV} {vr : Option Value} (hR : zRl s A D sa mi st lv kc ks sh f H locs ads tys ws ls stv lvv) (hE : zEn p l e R s m args below meth c A D mi sh ads Q Qm)
    (hdg : decode (zby mi) pc = .ok (zRi (zRk mi), 1)) (h : Q r sh f) (hk : zKd (zRk mi) r vr) (hst : stv = vr.toList) :
    W p l e R s m args below meth c H locs kc ks Qm (F0 m pc ls stv) := by
  obtain ⟨hkc, hks, hw, hP, hK, hD, hS, -, hlv, hls⟩ := hR
  subst hst
  exact hE r sh f [] tys ws H locs kc ks pc ls vr h (fun _ => rfl) hkc hks (by rw [List.append_nil]; exact hw) hP hK hD hS hk hdg
theorem zs_ireturn (hR : zRl s A D sa mi st lv kc ks sh f H locs ads tys ws ls stv lvv) (hE : zEn p l e R s m args below meth c A D mi sh ads Q Qm)
    (hdg : decode (zby mi) pc = .ok (.ireturn, 1))
    (h : match (generalizing := false) zRk mi with | 1 => (match (generalizing := false) st with | [.inl z] => Q (some (zI z)) sh f | _ => False) | 3 => (match (generalizing := false) st with | [.inl z] => zrB z (Q (some (zI z)) sh f) | _ => False) | _ => False) :
    W p l e R s m args below meth c H locs kc ks Qm (F0 m pc ls stv) := by
  have hst := hR.2.2.2.2.2.2.2.1
  split at h
  next hk =>
    rcases st with _ | ⟨z | x | k | t, _ | ⟨v, r⟩⟩ <;> try exact h.elim
    rcases stv with _ | ⟨vx, _ | ⟨vy, rv⟩⟩ <;> try exact hst.elim
    · obtain ⟨⟨rfl, hz⟩, -⟩ := hst
      exact zs_end (r := some (zI z)) (vr := some (.int (Int32.ofInt z))) hR hE (by rw [hk]; exact hdg) h (by rw [hk]; exact ⟨z, rfl, rfl, hz⟩) rfl
    · exact hst.2.elim
  next hk =>
    rcases st with _ | ⟨z | x | k | t, _ | ⟨v, r⟩⟩ <;> try exact h.elim
    rcases stv with _ | ⟨vx, _ | ⟨vy, rv⟩⟩ <;> try exact hst.elim
    · obtain ⟨⟨rfl, hz⟩, -⟩ := hst
      replace h := zrB_ok h
      obtain ⟨h01, h⟩ := h
      exact zs_end (r := some (zI z)) (vr := some (.int (Int32.ofInt z))) hR hE (by rw [hk]; exact hdg) h (by rw [hk]; exact ⟨z, rfl, rfl, h01⟩) rfl
    · exact hst.2.elim
  · exact h.elim
theorem zs_lreturn (hR : zRl s A D sa mi st lv kc ks sh f H locs ads tys ws ls stv lvv) (hE : zEn p l e R s m args below meth c A D mi sh ads Q Qm)
    (hdg : decode (zby mi) pc = .ok (.lreturn, 1))
    (h : match (generalizing := false) zRk mi with | 2 => (match (generalizing := false) st with | [.inr (.inl z)] => Q (some (zJ z)) sh f | _ => False) | _ => False) :
    W p l e R s m args below meth c H locs kc ks Qm (F0 m pc ls stv) := by
  have hst := hR.2.2.2.2.2.2.2.1
  split at h
  next hk =>
    rcases st with _ | ⟨z | z | k | t, _ | ⟨v, r⟩⟩ <;> try exact h.elim
    rcases stv with _ | ⟨vx, _ | ⟨vy, rv⟩⟩ <;> try exact hst.elim
    · obtain ⟨⟨rfl, hz⟩, -⟩ := hst
      exact zs_end (r := some (zJ z)) (vr := some (.long (Int64.ofInt z))) hR hE (by rw [hk]; exact hdg) h (by rw [hk]; exact ⟨z, rfl, rfl, hz⟩) rfl
    · exact hst.2.elim
  · exact h.elim
theorem zs_return (hR : zRl s A D sa mi st lv kc ks sh f H locs ads tys ws ls stv lvv) (hE : zEn p l e R s m args below meth c A D mi sh ads Q Qm)
    (hdg : decode (zby mi) pc = .ok (.return_, 1))
    (h : match (generalizing := false) zRk mi with | 0 => (match (generalizing := false) st with | [] => Q none sh f | _ => False) | _ => False) :
    W p l e R s m args below meth c H locs kc ks Qm (F0 m pc ls stv) := by
  have hst := hR.2.2.2.2.2.2.2.1
  split at h
  next hk =>
    rcases st with _ | ⟨v, r⟩ <;> try exact h.elim
    rcases stv with _ | ⟨vx, rv⟩ <;> try exact hst.elim
    exact zs_end (r := none) (vr := none) hR hE (by rw [hk]; exact hdg) h (by rw [hk]; exact ⟨rfl, rfl⟩) rfl
  · exact h.elim
end STEP3
end
