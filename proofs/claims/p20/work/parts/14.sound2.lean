noncomputable section
/-! one step, further: branches, fields, arrays, making, ends -/
/-! what the checks say, row by row -/
theorem zokF_ok {mi ix ci k c3 c4 : Nat} {z : Int} (h : zokF mi ix (0, ci, k, c3, c4, z) = true) : ∃ q, zCl[ci]? = some q ∧ k < q.2.2 ∧ Cond.fieldLink (zown mi) ix (q.2.1 k).1 (q.2.1 k).2.1 (q.2.1 k).2.2.1 ∈ zWs ∧ (match (generalizing := false) c3 with | 0 => decide (zTy ci k = .int) | 1 => decide (zTy ci k = .boolean) | _ => decide (zkd (zTy ci k) = .inr 2)) = true ∧ ((q.2.1 k).2.2.2 == Nat.beq c4 1) = true := by
  have h : (match zCl[ci]? with
    | some q => Nat.blt k q.2.2 && (zinT (.fieldLink (zown mi) ix (q.2.1 k).1 (q.2.1 k).2.1 (q.2.1 k).2.2.1) (zLpo (zOw mi) ix) &&
        ((match (generalizing := false) c3 with | 0 => decide (zTy ci k = .int) | 1 => decide (zTy ci k = .boolean) | _ => decide (zkd (zTy ci k) = .inr 2)) && ((q.2.1 k).2.2.2 == Nat.beq c4 1)))
    | none => false) = true := h
  cases hq : zCl[ci]? with
  | none => rw [hq] at h; cases h
  | some q =>
    rw [hq] at h
    obtain ⟨g1, g2⟩ := zand_t h
    obtain ⟨g2, g3⟩ := zand_t g2
    obtain ⟨g3, g4⟩ := zand_t g3
    exact ⟨q, rfl, Nat.le_of_ble_eq_true g1, zinT_mem g2, g3, g4⟩
theorem zokFF_ok {mi ci k c3 : Nat} {z : Int} {q : vw_C} (h : zokFF mi (0, ci, k, c3, 1, z) = true) (hq : zCl[ci]? = some q) : (q.2.1 k).1 = zown mi := by
  have h : (match zCl[ci]? with
    | some q => decide ((q.2.1 k).1 = zown mi)
    | none => false) = true := h
  rw [hq] at h
  exact of_decide_eq_true h
theorem zokN_ok {mi ix ci : Nat} {e : Nat × Nat × Nat × Int} (h : zokN mi ix (3, ci, e) = true) : ∃ q, zCl[ci]? = some q ∧ Cond.classLink (zown mi) ix q.1 ∈ zWs := by
  have h : (match zCl[ci]? with
    | some q => zinT (.classLink (zown mi) ix q.1) (zLpo (zOw mi) ix)
    | none => false) = true := h
  cases hq : zCl[ci]? with
  | none => rw [hq] at h; cases h
  | some q => rw [hq] at h; exact ⟨q, rfl, zinT_mem h⟩
theorem zokV_2 {mi ix j n c3 ci virt : Nat} {ml : Int} (h : zokV mi ix (2, j, n, c3, ci, ml) virt = true) : 0 < j ∧ j < zNM ∧ n = znp j ∧ ml = (zml j : Int) ∧ Cond.methodLink (zown mi) ix (zy j) ∈ zWs ∧
    (match (generalizing := false) virt with | 0 => zst j && Nat.ble zNI j | 1 => !zst j && (Nat.ble zNI j && (match zCl[ci]? with | some q => decide (q.1 = (zy j).cls) | none => false)) | _ => !zst j && Nat.blt j zNI) = true := by
  have h : (Nat.blt 0 j && (Nat.blt j zNM && (Nat.beq n (znp j) && (decide (ml = (zml j : Int)) && (zinT (.methodLink (zown mi) ix (zy j)) (zLpo (zOw mi) ix) &&
      (match (generalizing := false) virt with
        | 0 => zst j && Nat.ble zNI j
        | 1 => !zst j && (Nat.ble zNI j && (match zCl[ci]? with | some q => decide (q.1 = (zy j).cls) | none => false))
        | _ => !zst j && Nat.blt j zNI)))))) = true := h
  obtain ⟨k0, h⟩ := zand_t h
  obtain ⟨k1, h⟩ := zand_t h
  obtain ⟨k2, h⟩ := zand_t h
  obtain ⟨k3, h⟩ := zand_t h
  obtain ⟨k4, h⟩ := zand_t h
  exact ⟨Nat.le_of_ble_eq_true k0, Nat.le_of_ble_eq_true k1, Nat.eq_of_beq_eq_true k2, of_decide_eq_true k3, zinT_mem k4, h⟩
theorem zokV_10 {mi ix j n c3 c4 virt : Nat} {ml : Int} (h : zokV mi ix (10, j, n, c3, c4, ml) virt = true) : 0 < j ∧ j < zNM ∧ n = znp j ∧ ml = (zml j : Int) ∧ (∃ q ∈ zNl, q.1 = zown mi ∧ q.2.1 = ix ∧ q.2.2.1 = zy j) ∧ virt = 2 ∧ zst j = false ∧ j < zNI := by
  have h : (Nat.blt 0 j && (Nat.blt j zNM && (Nat.beq n (znp j) && (decide (ml = (zml j : Int)) && (zNl.any (fun q => decide (q.1 = zown mi) && (decide (q.2.1 = ix) && decide (q.2.2.1 = zy j))) && (Nat.beq virt 2 && (!zst j && Nat.blt j zNI))))))) = true := h
  obtain ⟨k0, h⟩ := zand_t h
  obtain ⟨k1, h⟩ := zand_t h
  obtain ⟨k2, h⟩ := zand_t h
  obtain ⟨k3, h⟩ := zand_t h
  obtain ⟨k4, h⟩ := zand_t h
  obtain ⟨k5, h⟩ := zand_t h
  obtain ⟨g1, g2⟩ := zand_t h
  obtain ⟨q, hq, hqe⟩ := List.any_eq_true.mp k4
  obtain ⟨q1, hqe⟩ := zand_t hqe
  obtain ⟨q2, q3⟩ := zand_t hqe
  exact ⟨Nat.le_of_ble_eq_true k0, Nat.le_of_ble_eq_true k1, Nat.eq_of_beq_eq_true k2, of_decide_eq_true k3, ⟨q, hq, of_decide_eq_true q1, of_decide_eq_true q2, of_decide_eq_true q3⟩, Nat.eq_of_beq_eq_true k5, by simpa using g1, Nat.le_of_ble_eq_true g2⟩
theorem zokV_6 {mi ix virt : Nat} {e : Nat × Nat × Nat × Nat × Int} (h : zokV mi ix (6, e) virt = true) : virt = 2 ∧ Cond.methodLink (zown mi) ix objectInit ∈ zWs := by
  have h : (Nat.beq virt 2 && zinT (.methodLink (zown mi) ix objectInit) (zLpo (zOw mi) ix)) = true := h
  obtain ⟨k5, k4⟩ := zand_t h
  exact ⟨Nat.eq_of_beq_eq_true k5, zinT_mem k4⟩
theorem zokV_7 {mi ix virt : Nat} {e : Nat × Nat × Nat × Nat × Int} (h : zokV mi ix (7, e) virt = true) : virt = 0 ∧ Cond.methodLink (zown mi) ix arraycopyName ∈ zWs := by
  have h : (Nat.beq virt 0 && zinT (.methodLink (zown mi) ix arraycopyName) (zLpo (zOw mi) ix)) = true := h
  obtain ⟨k5, k4⟩ := zand_t h
  exact ⟨Nat.eq_of_beq_eq_true k5, zinT_mem k4⟩
theorem zokV_8 {mi ix virt : Nat} {e : Nat × Nat × Nat × Nat × Int} (h : zokV mi ix (8, e) virt = true) : virt = 0 ∧ Cond.methodLink (zown mi) ix Lib.Math.max.name ∈ zWs := by
  have h : (Nat.beq virt 0 && zinT (.methodLink (zown mi) ix Lib.Math.max.name) (zLpo (zOw mi) ix)) = true := h
  obtain ⟨k5, k4⟩ := zand_t h
  exact ⟨Nat.eq_of_beq_eq_true k5, zinT_mem k4⟩
theorem zokV_9 {mi ix virt : Nat} {e : Nat × Nat × Nat × Nat × Int} (h : zokV mi ix (9, e) virt = true) : virt = 0 ∧ Cond.methodLink (zown mi) ix Lib.Math.min.name ∈ zWs := by
  have h : (Nat.beq virt 0 && zinT (.methodLink (zown mi) ix Lib.Math.min.name) (zLpo (zOw mi) ix)) = true := h
  obtain ⟨k5, k4⟩ := zand_t h
  exact ⟨Nat.eq_of_beq_eq_true k5, zinT_mem k4⟩
theorem zokG_ok {mi ix t : Nat} {e : Nat × Nat × Nat × Int} (h : zokG mi ix (1, t, e) = true) : t < 5 ∧ Cond.fieldLink (zown mi) ix (zSt t).1 (zSt t).2 "[I" ∈ zWs := by
  have h : (Nat.blt t 5 && zinT (.fieldLink (zown mi) ix (zSt t).1 (zSt t).2 "[I") (zLpo (zOw mi) ix)) = true := h
  obtain ⟨k1, k2⟩ := zand_t h
  exact ⟨Nat.le_of_ble_eq_true k1, zinT_mem k2⟩
theorem zokC_ok {mi ix a b c d : Nat} {z : Int} (h : zokC mi ix (4, a, b, c, d, z) = true) : zIn z ∧ Cond.constant (zown mi) ix (Int32.ofInt z) ∈ zWs := by
  have h : (zinB z && zinT (.constant (zown mi) ix (Int32.ofInt z)) (zLpo (zOw mi) ix)) = true := h
  obtain ⟨k1, k2⟩ := zand_t h
  exact ⟨zinB_ok k1, zinT_mem k2⟩
theorem zokC2_ok {mi ix a b c d : Nat} {z : Int} (h : zokC2 mi ix (5, a, b, c, d, z) = true) : zIn64 z ∧ Cond.constantLong (zown mi) ix (Int64.ofInt z) ∈ zWs := by
  have h : (zin64B z && zinT (.constantLong (zown mi) ix (Int64.ofInt z)) (zLpo (zOw mi) ix)) = true := h
  obtain ⟨k1, k2⟩ := zand_t h
  exact ⟨zin64B_ok k1, zinT_mem k2⟩
theorem zsw_sel {x : Int} {K : Int → Prop} {d : Int} : ∀ (os : List Int) (k : Int), zsw x K d k os → (∃ (j : Nat) (o : Int), x = k + j ∧ os[j]? = some o ∧ K o) ∨ ((x < k ∨ k + os.length ≤ x) ∧ K d)
  | [], k, h => Or.inr ⟨by simp; omega, h⟩
  | o :: os, k, h => by
    replace h : if x = k then K o else zsw x K d (k + 1) os := h
    by_cases hx : x = k
    · rw [if_pos hx] at h
      exact Or.inl ⟨0, o, by simpa using hx, rfl, h⟩
    · rw [if_neg hx] at h
      rcases zsw_sel os (k + 1) h with ⟨j, o', h1, h2, h3⟩ | ⟨h1, h2⟩
      · exact Or.inl ⟨j + 1, o', by omega, h2, h3⟩
      · refine Or.inr ⟨?_, h2⟩
        rw [List.length_cons]
        omega
theorem zlk_sel {x : Int} {K : Int → Prop} {d : Int} : ∀ (os : List (Int × Int)), zlk x K d os → ∃ o, Op.lookupswitch.offset os d x = o ∧ (o = d ∨ ∃ q ∈ os, q.2 = o) ∧ K o
  | [], h => ⟨d, rfl, Or.inl rfl, h⟩
  | (a, o) :: os, h => by
    replace h : if x = a then K o else zlk x K d os := h
    by_cases hx : x = a
    · rw [if_pos hx] at h
      exact ⟨o, by rw [Op.lookupswitch.offset_cons, if_pos hx.symm], Or.inr ⟨_, List.mem_cons_self, rfl⟩, h⟩
    · rw [if_neg hx] at h
      obtain ⟨o', h1, h2, h3⟩ := zlk_sel os h
      refine ⟨o', by rw [Op.lookupswitch.offset_cons, if_neg (fun q => hx q.symm)]; exact h1, ?_, h3⟩
      rcases h2 with h2 | ⟨q, hq, h2⟩
      · exact Or.inl h2
      · exact Or.inr ⟨q, List.mem_cons_of_mem _ hq, h2⟩
theorem zrB_ok {z : Int} {P : Prop} (h : zrB z P) : (z = 0 ∨ z = 1) ∧ P := by
  unfold zrB at h
  split at h
  next hz => exact ⟨Or.inl hz, h⟩
  · split at h
    next hz => exact ⟨Or.inr hz, h⟩
    · exact h.elim
theorem zix_ok {i : Int} {n : Nat} {P : Prop} (h : zix i n P) : (0 ≤ i ∧ i < (n : Int)) ∧ P := by
  unfold zix at h
  split at h
  next hi => exact ⟨hi, h⟩
  · exact h.elim
section STEP2
variable {p : Program} {l : Launch} {e : Env} {R : Room} {s : State} {m : MethodId} {args : Array Value} {below : List Frame} {meth : Method} {c : Code} {A : Nat → Prop} {D : va_G} {sa : Nat → Nat} {sc : zC} {d mi pc kc ks : Nat} {st : List zV} {lv : zL} {sh : zH} {f : zF} {Q : zQ} {H : Heap} {locs : List Loc} {ads : List Nat} {tys : List (ClassId × FieldType)} {ws : va_W} {ls : Array Slot} {stv : List Value} {lvv : List (Nat × Value)} {Qm : State → Prop}
theorem zs_iinc {i : Nat} {n : Int} (hC : zCx p R s m args meth c A sa sc d mi) (hR : zRl s A D sa mi st lv kc ks sh f H locs ads tys ws ls stv lvv) (hE : zEn p l e R s m args below meth c A D mi sh ads Q Qm)
    (hdg : decode (zby mi) pc = .ok (.iinc i n, 3)) (hi : i < zml mi)
    (h : match (generalizing := false) zget i lv with | some (.inl x) => zSd sc d mi (pc + 3) st (zset1 i (zI (w32 (x + n))) lv) kc ks sh f Q | _ => False) :
    W p l e R s m args below meth c H locs kc ks Qm (F0 m pc ls stv) := by
  obtain ⟨hkc, hks, hw, hP, hK, hD, hS, hst, hlv, hls⟩ := hR
  cases hg : zget i lv with
  | none => rw [hg] at h; exact h.elim
  | some v =>
    rw [hg] at h
    rcases v with x | x | k | t <;> try exact h.elim
    obtain ⟨k, w, h1, rfl, hx⟩ := zrl_get hlv hg
    exact lv_iinc (v := Int32.ofInt (w32 (x + n))) hC.1 hC.2.1 hdg hls h1 (zo_add x n).symm hi rfl (fun ls' hl' => h p l e R s m args below meth c A D sa H locs ads tys ws ls' _ _ Qm hC ⟨hkc, hks, hw, hP, hK, hD, hS, hst, zrl_set1 (v := zI (w32 (x + n))) hlv ⟨rfl, zin_w _⟩, hl'⟩ hE)
theorem zs_if {cd : ClassFile.Cond} {off : Int} (hC : zCx p R s m args meth c A sa sc d mi) (hR : zRl s A D sa mi st lv kc ks sh f H locs ads tys ws ls stv lvv) (hE : zEn p l e R s m args below meth c A D mi sh ads Q Qm)
    (hdg : decode (zby mi) pc = .ok (.ifCond cd off, 3)) (ho : zofs pc off = true)
    (h : match (generalizing := false) st with | .inl x :: r => zif cd x 0 (zSd sc d mi (ztg pc off) r lv kc ks sh f Q) (zSd sc d mi (pc + 3) r lv kc ks sh f Q) | _ => False) :
    W p l e R s m args below meth c H locs kc ks Qm (F0 m pc ls stv) := by
  have hR0 := hR
  obtain ⟨hkc, hks, hw, hP, hK, hD, hS, hst, hlv, hls⟩ := hR
  rcases st with _ | ⟨x | x | k | t, r⟩ <;> try exact h.elim
  rcases stv with _ | ⟨vx, rv⟩ <;> try exact hst.elim
  obtain ⟨⟨rfl, hx⟩, hr⟩ := hst
  have e0 : Int32.ofInt x = 0 ↔ x = 0 := zo_eq hx zin_0
  have e1 : Int32.ofInt x < 0 ↔ x < 0 := zo_lt hx zin_0
  have e2 : 0 < Int32.ofInt x ↔ 0 < x := zo_lt zin_0 hx
  have e3 : 0 ≤ Int32.ofInt x ↔ 0 ≤ x := zo_le zin_0 hx
  have e4 : Int32.ofInt x ≤ 0 ↔ x ≤ 0 := zo_le hx zin_0
  have go : ∀ {n : Nat}, zSd sc d mi n r lv kc ks sh f Q → W p l e R s m args below meth c H locs kc ks Qm (F0 m n ls rv) := fun h => zs_same hC hR0 hE h hr
  have ht := zofs_ok ho
  cases cd
  · replace h : if x = 0 then _ else _ := h
    exact lv_if_eq hC.1 hC.2.1 hdg ht (fun q => by rw [if_pos (e0.mp q)] at h; exact go h) (fun q => by rw [if_neg (fun z => q (e0.mpr z))] at h; exact go h)
  · replace h : if x = 0 then _ else _ := h
    exact lv_if_ne hC.1 hC.2.1 hdg ht (fun q => by rw [if_neg (fun z => q (e0.mpr z))] at h; exact go h) (fun q => by rw [if_pos (e0.mp q)] at h; exact go h)
  · replace h : if x < 0 then _ else _ := h
    exact lv_if_lt hC.1 hC.2.1 hdg ht (fun q => by rw [if_pos (e1.mp q)] at h; exact go h) (fun q => by rw [if_neg (fun z => q (e1.mpr z))] at h; exact go h)
  · replace h : if x < 0 then _ else _ := h
    exact lv_if_ge hC.1 hC.2.1 hdg ht (fun q => by rw [if_neg (by have := e3.mp q; omega)] at h; exact go h) (fun q => by rw [if_pos (Int.not_le.mp (fun z => q (e3.mpr z)))] at h; exact go h)
  · replace h : if 0 < x then _ else _ := h
    exact lv_if_gt hC.1 hC.2.1 hdg ht (fun q => by rw [if_pos (e2.mp q)] at h; exact go h) (fun q => by rw [if_neg (fun z => q (e2.mpr z))] at h; exact go h)
  · replace h : if 0 < x then _ else _ := h
    exact lv_if_le hC.1 hC.2.1 hdg ht (fun q => by rw [if_neg (by have := e4.mp q; omega)] at h; exact go h) (fun q => by rw [if_pos (Int.not_le.mp (fun z => q (e4.mpr z)))] at h; exact go h)
theorem zs_icmp {cd : ClassFile.Cond} {off : Int} (hC : zCx p R s m args meth c A sa sc d mi) (hR : zRl s A D sa mi st lv kc ks sh f H locs ads tys ws ls stv lvv) (hE : zEn p l e R s m args below meth c A D mi sh ads Q Qm)
    (hdg : decode (zby mi) pc = .ok (.if_icmp cd off, 3)) (ho : zofs pc off = true)
    (h : match (generalizing := false) st with | .inl y :: .inl x :: r => zif cd x y (zSd sc d mi (ztg pc off) r lv kc ks sh f Q) (zSd sc d mi (pc + 3) r lv kc ks sh f Q) | _ => False) :
    W p l e R s m args below meth c H locs kc ks Qm (F0 m pc ls stv) := by
  have hR0 := hR
  obtain ⟨hkc, hks, hw, hP, hK, hD, hS, hst, hlv, hls⟩ := hR
  rcases st with _ | ⟨y | y | k | t, _ | ⟨x | x | k2 | t2, r⟩⟩ <;> try exact h.elim
  rcases stv with _ | ⟨vy, _ | ⟨vx, rv⟩⟩ <;> try exact hst.elim
  · exact hst.2.elim
  obtain ⟨⟨rfl, hy⟩, ⟨rfl, hx⟩, hr⟩ := hst
  have e0 : Int32.ofInt x = Int32.ofInt y ↔ x = y := zo_eq hx hy
  have e1 : Int32.ofInt x < Int32.ofInt y ↔ x < y := zo_lt hx hy
  have e2 : Int32.ofInt y < Int32.ofInt x ↔ y < x := zo_lt hy hx
  have e3 : Int32.ofInt y ≤ Int32.ofInt x ↔ y ≤ x := zo_le hy hx
  have e4 : Int32.ofInt x ≤ Int32.ofInt y ↔ x ≤ y := zo_le hx hy
  have go : ∀ {n : Nat}, zSd sc d mi n r lv kc ks sh f Q → W p l e R s m args below meth c H locs kc ks Qm (F0 m n ls rv) := fun h => zs_same hC hR0 hE h hr
  have ht := zofs_ok ho
  cases cd
  · replace h : if x = y then _ else _ := h
    exact lv_icmp_eq hC.1 hC.2.1 hdg ht (fun q => by rw [if_pos (e0.mp q)] at h; exact go h) (fun q => by rw [if_neg (fun z => q (e0.mpr z))] at h; exact go h)
  · replace h : if x = y then _ else _ := h
    exact lv_icmp_ne hC.1 hC.2.1 hdg ht (fun q => by rw [if_neg (fun z => q (e0.mpr z))] at h; exact go h) (fun q => by rw [if_pos (e0.mp q)] at h; exact go h)
  · replace h : if x < y then _ else _ := h
    exact lv_icmp_lt hC.1 hC.2.1 hdg ht (fun q => by rw [if_pos (e1.mp q)] at h; exact go h) (fun q => by rw [if_neg (fun z => q (e1.mpr z))] at h; exact go h)
  · replace h : if x < y then _ else _ := h
    exact lv_icmp_ge hC.1 hC.2.1 hdg ht (fun q => by rw [if_neg (by have := e3.mp q; omega)] at h; exact go h) (fun q => by rw [if_pos (Int.not_le.mp (fun z => q (e3.mpr z)))] at h; exact go h)
  · replace h : if y < x then _ else _ := h
    exact lv_icmp_gt hC.1 hC.2.1 hdg ht (fun q => by rw [if_pos (e2.mp q)] at h; exact go h) (fun q => by rw [if_neg (fun z => q (e2.mpr z))] at h; exact go h)
  · replace h : if y < x then _ else _ := h
    exact lv_icmp_le hC.1 hC.2.1 hdg ht (fun q => by rw [if_neg (by have := e4.mp q; omega)] at h; exact go h) (fun q => by rw [if_pos (Int.not_le.mp (fun z => q (e4.mpr z)))] at h; exact go h)
theorem zs_table {dflt lo hi : Int} {offs : Array Int} {len : Nat} (hC : zCx p R s m args meth c A sa sc d mi) (hR : zRl s A D sa mi st lv kc ks sh f H locs ads tys ws ls stv lvv) (hE : zEn p l e R s m args below meth c A D mi sh ads Q Qm)
    (hdg : decode (zby mi) pc = .ok (.tableswitch dflt lo hi offs, len)) (hok : (zofs pc dflt && (offs.toList.all (zofs pc) && (decide (hi - lo + 1 = (offs.size : Int)) && (zinB lo && zinB hi)))) = true)
    (h : match (generalizing := false) st with | .inl x :: r => zsw x (fun o => zSd sc d mi (ztg pc o) r lv kc ks sh f Q) dflt lo offs.toList | _ => False) :
    W p l e R s m args below meth c H locs kc ks Qm (F0 m pc ls stv) := by
  have hR0 := hR
  obtain ⟨hkc, hks, hw, hP, hK, hD, hS, hst, hlv, hls⟩ := hR
  rcases st with _ | ⟨x | x | k | t, r⟩ <;> try exact h.elim
  rcases stv with _ | ⟨vx, rv⟩ <;> try exact hst.elim
  obtain ⟨⟨rfl, hx⟩, hr⟩ := hst
  have go : ∀ {n : Nat}, zSd sc d mi n r lv kc ks sh f Q → W p l e R s m args below meth c H locs kc ks Qm (F0 m n ls rv) := fun h => zs_same hC hR0 hE h hr
  simp only [Bool.and_eq_true, decide_eq_true_eq] at hok
  obtain ⟨h1, h2, h3, -⟩ := hok
  have hxt := zo_t hx
  rcases zsw_sel _ _ h with ⟨j, o, g1, g2, g3⟩ | ⟨g1, g2⟩
  · have hjl : j < offs.size := by
      have := (List.getElem?_eq_some_iff.mp g2).1
      rw [Array.length_toList] at this
      exact this
    have ho := List.all_eq_true.mp h2 o (List.mem_of_getElem? g2)
    refine lv_tableIn (off := o) hC.1 hC.2.1 hdg (by rw [hxt]; omega) (by rw [hxt]; omega) ?_ (zofs_ok ho) (go g3)
    rw [hxt, show (x - lo).toNat = j by omega, ← Array.getElem?_toList]
    exact g2
  · refine lv_tableOut hC.1 hC.2.1 hdg ?_ (zofs_ok h1) (go g2)
    rw [hxt]
    rw [Array.length_toList] at g1
    omega
theorem zs_lookup {dflt : Int} {ps : Array (Int × Int)} {len : Nat} (hC : zCx p R s m args meth c A sa sc d mi) (hR : zRl s A D sa mi st lv kc ks sh f H locs ads tys ws ls stv lvv) (hE : zEn p l e R s m args below meth c A D mi sh ads Q Qm)
    (hdg : decode (zby mi) pc = .ok (.lookupswitch dflt ps, len)) (hok : (zofs pc dflt && (ps.toList.all (fun q => zofs pc q.2) && (ps.toList.zip (ps.toList.drop 1)).all (fun (a, next) => a.1 < next.1))) = true)
    (h : match (generalizing := false) st with | .inl x :: r => zlk x (fun o => zSd sc d mi (ztg pc o) r lv kc ks sh f Q) dflt ps.toList | _ => False) :
    W p l e R s m args below meth c H locs kc ks Qm (F0 m pc ls stv) := by
  have hR0 := hR
  obtain ⟨hkc, hks, hw, hP, hK, hD, hS, hst, hlv, hls⟩ := hR
  rcases st with _ | ⟨x | x | k | t, r⟩ <;> try exact h.elim
  rcases stv with _ | ⟨vx, rv⟩ <;> try exact hst.elim
  obtain ⟨⟨rfl, hx⟩, hr⟩ := hst
  have go : ∀ {n : Nat}, zSd sc d mi n r lv kc ks sh f Q → W p l e R s m args below meth c H locs kc ks Qm (F0 m n ls rv) := fun h => zs_same hC hR0 hE h hr
  obtain ⟨h1, h2⟩ := zand_t hok
  obtain ⟨h2, h3⟩ := zand_t h2
  obtain ⟨o, g1, g2, g3⟩ := zlk_sel _ h
  refine lv_lookup (off := o) hC.1 hC.2.1 hdg h3 (by rw [zo_t hx]; exact g1) ?_ (go g3)
  rcases g2 with rfl | ⟨q, hq, rfl⟩
  · exact zofs_ok h1
  · exact zofs_ok (List.all_eq_true.mp h2 q hq)
theorem zs_getf {ix : Nat} {en : zE} (hC : zCx p R s m args meth c A sa sc d mi) (hR : zRl s A D sa mi st lv kc ks sh f H locs ads tys ws ls stv lvv) (hE : zEn p l e R s m args below meth c A D mi sh ads Q Qm)
    (hdg : decode (zby mi) pc = .ok (.getfield ix, 3)) (hok : zokF mi ix en = true) (h : zgetf (zSd sc) d mi pc st lv kc ks sh f Q en) :
    W p l e R s m args below meth c H locs kc ks Qm (F0 m pc ls stv) := by
  have hR0 := hR
  obtain ⟨hkc, hks, hw, hP, hK, hD, hS, hst, hlv, hls⟩ := hR
  unfold zgetf at h
  split at h
  next ci k c3 c4 c5 =>
    rcases st with _ | ⟨x | x | c0 | t, r⟩ <;> try exact h.elim
    rcases stv with _ | ⟨vx, rv⟩ <;> try exact hst.elim
    obtain ⟨⟨a, ha, rfl⟩, hr⟩ := hst
    try dsimp only at h
    cases hs : sh[c0]? with
    | none => rw [hs] at h; exact h.elim
    | some sx =>
      rw [hs] at h
      rcases sx with ⟨ci', ks'⟩ | sx
      · replace h : bif Nat.beq ci' ci then (match ks'[k]? with
          | some (.inl c') => zSd sc d mi (pc + 3) (zP c' :: r) lv kc ks sh f Q
          | some (.inr 2) => False
          | some (.inr _) => zSd sc d mi (pc + 3) (zI (f c0 k) :: r) lv kc ks sh f Q
          | none => False) else False := h
        replace h := zbif_t h
        obtain ⟨hb, h⟩ := h
        have hb := Nat.eq_of_beq_eq_true hb
        subst hb
        obtain ⟨q, hq, hk, g2, -, -⟩ := zokF_ok hok
        obtain ⟨x, hx1, fs, rfl, hx3, hx4⟩ := zrw_at hw hs ha
        have row : ∀ v : Value, fs[k]? = some v → W p l e R s m args below meth c H locs kc ks Qm (F0 m (pc + 3) ls (v :: rv)) → W p l e R s m args below meth c H locs kc ks Qm (F0 m pc ls (.ref a :: rv)) := fun v hv kk =>
          va_get (C := q.1) (T := q.2.1) (N := q.2.2) hC.1 hC.2.1 hC.2.2.2.2.1 (zclok ci' q hq).1 hC.2.2.2.1 hK hP c0 hx1 hq k hk (hC.2.2.2.2.1 _ g2) (fun _ h => h) hv hdg kk
        cases hkd : ks'[k]? with
        | none => rw [hkd] at h; exact h.elim
        | some kd =>
          rw [hkd] at h
          obtain ⟨v, hv1, hv2⟩ := hx4 k kd hkd
          rcases kd with c' | n
          · obtain ⟨a', ha', rfl⟩ := hv2
            exact row _ hv1 (zs_same hC hR0 hE h ⟨⟨a', ha', rfl⟩, hr⟩)
          · have hv2 : if n = 2 then v = .null else v = .int (Int32.ofInt (f c0 k)) ∧ zIn (f c0 k) := hv2
            by_cases hn : n = 2
            · subst hn; exact h.elim
            · rw [if_neg hn] at hv2
              obtain ⟨rfl, hin⟩ := hv2
              refine row _ hv1 (zs_same (st' := zI (f c0 k) :: r) hC hR0 hE ?_ ⟨⟨rfl, hin⟩, hr⟩)
              rcases n with _ | _ | _ | n
              · exact h
              · exact h
              · exact absurd rfl hn
              · exact h
      · exact h.elim
  · exact h.elim
theorem zs_alen (hC : zCx p R s m args meth c A sa sc d mi) (hR : zRl s A D sa mi st lv kc ks sh f H locs ads tys ws ls stv lvv) (hE : zEn p l e R s m args below meth c A D mi sh ads Q Qm)
    (hdg : decode (zby mi) pc = .ok (.arraylength, 1)) (h : zalen sc (zSd sc) d mi pc st lv kc ks sh f Q) :
    W p l e R s m args below meth c H locs kc ks Qm (F0 m pc ls stv) := by
  have hR0 := hR
  obtain ⟨hkc, hks, hw, hP, hK, hD, hS, hst, hlv, hls⟩ := hR
  unfold zalen at h
  rcases st with _ | ⟨x | x | c0 | t, r⟩ <;> try exact h.elim
  · rcases stv with _ | ⟨vx, rv⟩ <;> try exact hst.elim
    obtain ⟨⟨a, ha, rfl⟩, hr⟩ := hst
    try dsimp only at h
    cases hs : sh[c0]? with
    | none => rw [hs] at h; exact h.elim
    | some sx =>
      rw [hs] at h
      rcases sx with sx | ⟨b, n⟩
      · exact h.elim
      · obtain ⟨x, hx1, hx2⟩ := zrw_at hw hs ha
        cases b with
        | false =>
          obtain ⟨cA, t0, g, h1, rfl, hn, h3⟩ := hx2
          refine va_alen hC.1 hC.2.1 hK hP c0 t0 hx1 h1 (v := Int32.ofInt (n : Int)) ?_ hdg (zs_same hC hR0 hE h ⟨⟨rfl, ?_⟩, hr⟩)
          · exact Int32.ofInt_eq_ofNat.symm
          · unfold zIn; omega
        | true =>
          obtain ⟨cA, t0, g, h1, rfl, hn, h3⟩ := hx2
          refine va_alen hC.1 hC.2.1 hK hP c0 t0 hx1 h1 (v := Int32.ofInt (n : Int)) ?_ hdg (zs_same hC hR0 hE h ⟨⟨rfl, ?_⟩, hr⟩)
          · exact Int32.ofInt_eq_ofNat.symm
          · unfold zIn; omega
  · rcases stv with _ | ⟨vx, rv⟩ <;> try exact hst.elim
    obtain ⟨hv, hr⟩ := hst
    have hv : vx = .ref (sa t) := hv
    subst hv
    replace h := zbif_t h
    obtain ⟨ht, h⟩ := h
    have ht : t < 6 := Nat.le_of_ble_eq_true ht
    have hsc := hC.2.2.2.2.2.2.2.2.2.2.2.2
    refine va_tlen hC.1 hC.2.1 (hsc.1.2 t ht) hS (v := Int32.ofInt ((zTb sc t).1 : Int)) Int32.ofInt_eq_ofNat.symm hdg (zs_same hC hR0 hE h ⟨⟨rfl, ?_⟩, hr⟩)
    have := (zTb_in hsc.2 t).1
    unfold zIn; omega
theorem zs_aload {b : Bool} (hC : zCx p R s m args meth c A sa sc d mi) (hR : zRl s A D sa mi st lv kc ks sh f H locs ads tys ws ls stv lvv) (hE : zEn p l e R s m args below meth c A D mi sh ads Q Qm)
    (hdg : decode (zby mi) pc = .ok ((bif b then .laload else .iaload), 1)) (h : zaload sc (zSd sc) d mi pc st lv kc ks sh f Q b) :
    W p l e R s m args below meth c H locs kc ks Qm (F0 m pc ls stv) := by
  have hR0 := hR
  obtain ⟨hkc, hks, hw, hP, hK, hD, hS, hst, hlv, hls⟩ := hR
  unfold zaload at h
  rcases st with _ | ⟨i | x | k | t, _ | ⟨x | x | c0 | t, r⟩⟩ <;> try exact h.elim
  · rcases stv with _ | ⟨vi, _ | ⟨vx, rv⟩⟩ <;> try exact hst.elim
    · exact hst.2.elim
    obtain ⟨⟨rfl, hi⟩, ⟨a, ha, rfl⟩, hr⟩ := hst
    try dsimp only at h
    cases hs : sh[c0]? with
    | none => rw [hs] at h; exact h.elim
    | some sx =>
      rw [hs] at h
      rcases sx with sx | ⟨b', n⟩
      · exact h.elim
      · replace h : bif b == b' then zix i n (zSd sc d mi (pc + 1) ((bif b then zJ (f c0 i.toNat) else zI (f c0 i.toNat)) :: r) lv kc ks sh f Q) else False := h
        replace h := zbif_t h
        obtain ⟨hb, h⟩ := h
        have hb : b = b' := by simpa using hb
        subst hb
        replace h := zix_ok h
        obtain ⟨hix, h⟩ := h
        obtain ⟨x, hx1, hx2⟩ := zrw_at hw hs ha
        cases b with
        | false =>
          obtain ⟨cA, t0, g, h1, rfl, hn, h3⟩ := hx2
          refine va_iald hC.1 hC.2.1 hK hP c0 t0 hx1 h1 (zo_in hi hix) hdg ?_
          rw [zo_cl hi, (h3 _).1]
          exact zs_same hC hR0 hE h ⟨⟨rfl, (h3 _).2⟩, hr⟩
        | true =>
          obtain ⟨cA, t0, g, h1, rfl, hn, h3⟩ := hx2
          refine va_lald hC.1 hC.2.1 hK hP c0 t0 hx1 h1 (zo_in hi hix) hdg ?_
          rw [zo_cl hi, (h3 _).1]
          exact zs_same hC hR0 hE h ⟨⟨rfl, (h3 _).2⟩, hr⟩
  · rcases stv with _ | ⟨vi, _ | ⟨vx, rv⟩⟩ <;> try exact hst.elim
    · exact hst.2.elim
    obtain ⟨⟨rfl, hi⟩, hv, hr⟩ := hst
    have hv : vx = .ref (sa t) := hv
    subst hv
    cases b with
    | true => exact h.elim
    | false =>
      replace h := zix_ok (show zix i (zTb sc t).1 _ from h)
      obtain ⟨hix, h⟩ := h
      have hsc := hC.2.2.2.2.2.2.2.2.2.2.2.2
      have ht : t < 6 := by
        rcases Nat.lt_or_ge t 6 with q | q
        · exact q
        · obtain ⟨t', rfl⟩ : ∃ t', t = t' + 6 := ⟨t - 6, by omega⟩
          have h0 : (zTb sc (t' + 6)).1 = 0 := rfl
          rw [h0] at hix
          omega
      refine va_ti hC.1 hC.2.1 (hsc.1.2 t ht) hS (zo_in hi hix) rfl hdg ?_
      rw [zo_cl hi]
      exact zs_same hC hR0 hE h ⟨⟨rfl, (zTb_in hsc.2 t).2 _⟩, hr⟩
theorem zs_astore {b : Bool} (hC : zCx p R s m args meth c A sa sc d mi) (hR : zRl s A D sa mi st lv kc ks sh f H locs ads tys ws ls stv lvv) (hE : zEn p l e R s m args below meth c A D mi sh ads Q Qm)
    (hdg : decode (zby mi) pc = .ok ((bif b then .lastore else .iastore), 1)) (h : zastore (zSd sc) d mi pc st lv kc ks sh f Q b) :
    W p l e R s m args below meth c H locs kc ks Qm (F0 m pc ls stv) := by
  obtain ⟨hkc, hks, hw, hP, hK, hD, hS, hst, hlv, hls⟩ := hR
  unfold zastore at h
  cases b with
  | false =>
    rcases st with _ | ⟨v | x | k | t, _ | ⟨i | x | k | t, _ | ⟨x | x | c0 | t, r⟩⟩⟩ <;> try exact h.elim
    rcases stv with _ | ⟨vv, _ | ⟨vi, _ | ⟨vx, rv⟩⟩⟩ <;> try exact hst.elim
    · exact hst.2.elim
    · exact hst.2.2.elim
    obtain ⟨⟨rfl, hv⟩, ⟨rfl, hi⟩, ⟨a, ha, rfl⟩, hr⟩ := hst
    try dsimp only at h
    cases hs : sh[c0]? with
    | none => rw [hs] at h; exact h.elim
    | some sx =>
      rw [hs] at h
      rcases sx with sx | ⟨_ | _, n⟩
      · exact h.elim
      · replace h := zix_ok h
        obtain ⟨hix, h⟩ := h
        obtain ⟨x, hx1, cA, t0, g, h1, rfl, hn, h3⟩ := zrw_at hw hs ha
        refine va_iast hC.1 hC.2.1 hK hP hD hS c0 t0 hx1 h1 (zo_in hi hix) hdg (fun H1 locs1 hP1 hD1 hS1 => ?_)
        refine h p l e R s m args below meth c A D sa H1 locs1 ads tys _ ls _ lvv Qm hC ⟨hkc, hks, zrw_put (f' := zup f c0 i.toNat v) hw hs ha (fun c' hc => by funext j; simp [zup, hc]) ⟨cA, t0, _, h1, rfl, hn, fun j => ?_⟩, hP1, hK, hD1, hS1, hr, hlv, hls⟩ hE
        rw [zo_cl hi]
        by_cases hj : j = i.toNat
        · subst hj; simp [upd, zup]; exact hv
        · simp [upd, zup, hj]; exact h3 j
      · exact h.elim
  | true =>
    rcases st with _ | ⟨x | v | k | t, _ | ⟨i | x | k | t, _ | ⟨x | x | c0 | t, r⟩⟩⟩ <;> try exact h.elim
    rcases stv with _ | ⟨vv, _ | ⟨vi, _ | ⟨vx, rv⟩⟩⟩ <;> try exact hst.elim
    · exact hst.2.elim
    · exact hst.2.2.elim
    obtain ⟨⟨rfl, hv⟩, ⟨rfl, hi⟩, ⟨a, ha, rfl⟩, hr⟩ := hst
    try dsimp only at h
    cases hs : sh[c0]? with
    | none => rw [hs] at h; exact h.elim
    | some sx =>
      rw [hs] at h
      rcases sx with sx | ⟨_ | _, n⟩
      · exact h.elim
      · exact h.elim
      · replace h := zix_ok h
        obtain ⟨hix, h⟩ := h
        obtain ⟨x, hx1, cA, t0, g, h1, rfl, hn, h3⟩ := zrw_at hw hs ha
        refine va_last hC.1 hC.2.1 hK hP hD hS c0 t0 hx1 h1 (zo_in hi hix) hdg (fun H1 locs1 hP1 hD1 hS1 => ?_)
        refine h p l e R s m args below meth c A D sa H1 locs1 ads tys _ ls _ lvv Qm hC ⟨hkc, hks, zrw_put (f' := zup f c0 i.toNat v) hw hs ha (fun c' hc => by funext j; simp [zup, hc]) ⟨cA, t0, _, h1, rfl, hn, fun j => ?_⟩, hP1, hK, hD1, hS1, hr, hlv, hls⟩ hE
        rw [zo_cl hi]
        by_cases hj : j = i.toNat
        · subst hj; simp [vp_updL, zup]; exact hv
        · simp [vp_updL, zup, hj]; exact h3 j
end STEP2
end
