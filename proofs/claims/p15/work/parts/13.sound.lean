noncomputable section
/-! THE PURE MACHINE IS THE MACHINE'S: one step -/
def zNs (U : State) : Prop := ∀ q ∈ zNl, va_Nw (.methodLinkNest q.1 q.2.1 q.2.2.1 q.2.2.2) U
def zSc (sc : zC) : Prop := sc.1 < 2147483648 ∧ ∀ j, zIn (sc.2 j)
def zZT (A : Nat → Prop) (sa : Nat → Nat) (sc : zC) (U : State) (H : Heap) : Prop :=
  (∀ t, t < 5 → va_Z (zSt t).1 (zSt t).2 "[I" (.ref (sa t)) A U H) ∧ ∀ t, t < 6 → va_T .int (sa t) (zTb sc t).1 (fun j => .int (Int32.ofInt ((zTb sc t).2 j))) A U H
def zCx (p : Program) (R : Room) (s : State) (m : MethodId) (args : Array Value) (meth : Method) (c : Code) (A : Nat → Prop) (sa : Nat → Nat) (sc : zC) (d mi : Nat) : Prop :=
  p.tables.exec = Jvm.exec ∧ c.code = zby mi ∧ c.maxLocals = zml mi ∧ s.vm.findClass (zown mi) = some m.cls ∧ (∀ w ∈ zWs, w.before args s = true) ∧ zNs s ∧ d ≤ R.frames ∧ 60 * d ≤ R.locals ∧ R.cells = zMc mi ∧ R.slots = zMs mi ∧ (∀ q, s.heap.size ≤ q → A q) ∧ (0 < mi → mi < zNI → meth.name = "<init>") ∧ zZT A sa sc s s.heap ∧ zSc sc
def zRl (s : State) (A : Nat → Prop) (D : va_G) (sa : Nat → Nat) (mi : Nat) (st : List zV) (lv : zL) (kc ks : Nat) (sh : zH) (f : zF) (H : Heap) (locs : List Loc) (ads : List Nat) (tys : List (ClassId × FieldType)) (ws : va_W) (ls : Array Slot) (stv : List Value) (lvv : List (Nat × Value)) : Prop :=
  kc ≤ zMc mi ∧ ks ≤ zMs mi ∧ zrw ads tys sh f ws ∧ va_P D zCl ws H ∧ va_K D zCl tys s ∧ va_D A ws ∧ va_S A s.heap H locs ∧ zrs ads sa st stv ∧ zrl ads sa lv lvv ∧ lv_has ls (zml mi) lvv
def zKd (rk : Nat) (r : Option zV) (vr : Option Value) : Prop := match rk with
  | 0 => r = none ∧ vr = none
  | 1 => ∃ z, r = some (zI z) ∧ vr = some (.int (Int32.ofInt z)) ∧ zIn z
  | 2 => ∃ z, r = some (zJ z) ∧ vr = some (.long (Int64.ofInt z)) ∧ zIn64 z
  | _ => ∃ z, r = some (zI z) ∧ vr = some (.int (Int32.ofInt z)) ∧ (z = 0 ∨ z = 1)
def zRi (rk : Nat) : Instr := match rk with
  | 0 => .return_
  | 2 => .lreturn
  | _ => .ireturn
def zEn (p : Program) (l : Launch) (e : Env) (R : Room) (s : State) (m : MethodId) (args : Array Value) (below : List Frame) (meth : Method) (c : Code) (A : Nat → Prop) (D : va_G) (mi : Nat) (sh : zH) (ads : List Nat) (Q : zQ) (Qm : State → Prop) : Prop :=
  ∀ (r : Option zV) (sh' : zH) (f' : zF) (la : List Nat) (tys' : List (ClassId × FieldType)) (ws' : va_W) (H' : Heap) (locs' : List Loc) (kc' ks' pc' : Nat) (ls' : Array Slot) (vr : Option Value), Q r sh' f' → (zNI ≤ mi → sh' = sh) → kc' ≤ zMc mi → ks' ≤ zMs mi → zrw (ads ++ la) tys' sh' f' ws' → va_P D zCl ws' H' → va_K D zCl tys' s → va_D A ws' → va_S A s.heap H' locs' → zKd (zRk mi) r vr → decode (zby mi) pc' = .ok (zRi (zRk mi), 1) →
    W p l e R s m args below meth c H' locs' kc' ks' Qm (F0 m pc' ls' vr.toList)
def zSd (sc : zC) : zPr := fun d mi pc st lv kc ks sh f Q => ∀ (p : Program) (l : Launch) (e : Env) (R : Room) (s : State) (m : MethodId) (args : Array Value) (below : List Frame) (meth : Method) (c : Code) (A : Nat → Prop) (D : va_G) (sa : Nat → Nat) (H : Heap) (locs : List Loc) (ads : List Nat) (tys : List (ClassId × FieldType)) (ws : va_W) (ls : Array Slot) (stv : List Value) (lvv : List (Nat × Value)) (Qm : State → Prop),
  zCx p R s m args meth c A sa sc d mi → zRl s A D sa mi st lv kc ks sh f H locs ads tys ws ls stv lvv → zEn p l e R s m args below meth c A D mi sh ads Q Qm → W p l e R s m args below meth c H locs kc ks Qm (F0 m pc ls stv)
theorem zgetD_in {l : List Int} (h : ∀ x ∈ l, zIn x) (j : Nat) : zIn (l.getD j 0) := by
  rw [List.getD_eq_getElem?_getD]
  cases hj : l[j]? with
  | none => exact zin_0
  | some x => exact h x (List.mem_of_getElem? hj)
theorem zTb_in {sc : zC} (h : zSc sc) (t : Nat) : (zTb sc t).1 < 2147483648 ∧ ∀ j, zIn ((zTb sc t).2 j) := by
  rcases t with _ | _ | _ | _ | _ | _ | t
  · exact ⟨(by decide : 8 < 2147483648), zgetD_in (by unfold zIn zl_START; decide)⟩
  · exact ⟨(by decide : 8 < 2147483648), zgetD_in (by unfold zIn zl_LEAST; decide)⟩
  · exact ⟨(by decide : 8 < 2147483648), zgetD_in (by unfold zIn zl_GREATEST; decide)⟩
  · exact ⟨(by decide : 8 < 2147483648), zgetD_in (by unfold zIn zl_ABOVE; decide)⟩
  · exact ⟨(by decide : 32 < 2147483648), zgetD_in (by unfold zIn zl_BODIES; decide)⟩
  · exact h
  · exact ⟨by show 0 < 2147483648; decide, fun _ => zin_0⟩
theorem zAg_ok {mi pc : Nat} {r : zRow} (h : zAg mi pc = some r) : mi < zNM ∧ decode (zby mi) pc = .ok (r.1, r.2.1) ∧ zokI mi pc r.1 r.2.1 r.2.2 = true := by
  unfold zAg at h
  cases hb : Nat.blt mi 265 && Nat.blt pc (zLen mi) with
  | false => rw [hb] at h; cases h
  | true =>
    rw [hb] at h
    simp only [Bool.and_eq_true] at hb
    have h1 : mi < zNM := Nat.le_of_ble_eq_true hb.1
    exact ⟨h1, zk_all mi h1 pc r (Nat.le_of_ble_eq_true hb.2) h⟩
theorem zinB_ok {z : Int} (h : zinB z = true) : zIn z := by
  unfold zinB at h
  simp only [Bool.and_eq_true, decide_eq_true_eq] at h
  exact h
theorem zin64B_ok {z : Int} (h : zin64B z = true) : zIn64 z := by
  unfold zin64B at h
  simp only [Bool.and_eq_true, decide_eq_true_eq] at h
  exact h
theorem zofs_ok {pc : Nat} {o : Int} (h : zofs pc o = true) : (pc : Int) + o = ((ztg pc o : Nat) : Int) := by
  have h := of_decide_eq_true h
  unfold ztg
  omega
theorem zand_t {a b : Bool} (h : (a && b) = true) : a = true ∧ b = true := by
  rw [Bool.and_eq_true] at h
  exact h
theorem zbif_t {b : Bool} {A : Prop} (h : bif b then A else False) : b = true ∧ A := by
  cases b with
  | true => exact ⟨rfl, h⟩
  | false => exact h.elim
section STEP
variable {p : Program} {l : Launch} {e : Env} {R : Room} {s : State} {m : MethodId} {args : Array Value} {below : List Frame} {meth : Method} {c : Code} {A : Nat → Prop} {D : va_G} {sa : Nat → Nat} {sc : zC} {d mi pc kc ks : Nat} {st : List zV} {lv : zL} {sh : zH} {f : zF} {Q : zQ} {H : Heap} {locs : List Loc} {ads : List Nat} {tys : List (ClassId × FieldType)} {ws : va_W} {ls : Array Slot} {stv : List Value} {lvv : List (Nat × Value)} {Qm : State → Prop}
theorem zs_push {n : Nat} {v : zV} {w : Value} (hC : zCx p R s m args meth c A sa sc d mi) (hR : zRl s A D sa mi st lv kc ks sh f H locs ads tys ws ls stv lvv) (hE : zEn p l e R s m args below meth c A D mi sh ads Q Qm)
    (h : zSd sc d mi n (v :: st) lv kc ks sh f Q) (hv : zrv ads sa v w) : W p l e R s m args below meth c H locs kc ks Qm (F0 m n ls (w :: stv)) := by
  obtain ⟨hkc, hks, hw, hP, hK, hD, hS, hst, hlv, hls⟩ := hR
  exact h p l e R s m args below meth c A D sa H locs ads tys ws ls _ lvv Qm hC ⟨hkc, hks, hw, hP, hK, hD, hS, ⟨hv, hst⟩, hlv, hls⟩ hE
theorem zs_same {n : Nat} {st' : List zV} {stv' : List Value} (hC : zCx p R s m args meth c A sa sc d mi) (hR : zRl s A D sa mi st lv kc ks sh f H locs ads tys ws ls stv lvv) (hE : zEn p l e R s m args below meth c A D mi sh ads Q Qm)
    (h : zSd sc d mi n st' lv kc ks sh f Q) (hv : zrs ads sa st' stv') : W p l e R s m args below meth c H locs kc ks Qm (F0 m n ls stv') := by
  obtain ⟨hkc, hks, hw, hP, hK, hD, hS, hst, hlv, hls⟩ := hR
  exact h p l e R s m args below meth c A D sa H locs ads tys ws ls _ lvv Qm hC ⟨hkc, hks, hw, hP, hK, hD, hS, hv, hlv, hls⟩ hE
theorem zs_op2 {g : Int → Int → Int} (hC : zCx p R s m args meth c A sa sc d mi) (hR : zRl s A D sa mi st lv kc ks sh f H locs ads tys ws ls stv lvv) (hE : zEn p l e R s m args below meth c A D mi sh ads Q Qm)
    (h : zop2 (zSd sc) d mi pc st lv kc ks sh f Q g) (hg : ∀ x y, zIn x → zIn y → zIn (g x y))
    (row : ∀ (x y : Int) (rest : List Value), zIn x → zIn y → W p l e R s m args below meth c H locs kc ks Qm (F0 m (pc + 1) ls (.int (Int32.ofInt (g x y)) :: rest)) → W p l e R s m args below meth c H locs kc ks Qm (F0 m pc ls (.int (Int32.ofInt y) :: .int (Int32.ofInt x) :: rest))) :
    W p l e R s m args below meth c H locs kc ks Qm (F0 m pc ls stv) := by
  obtain ⟨hkc, hks, hw, hP, hK, hD, hS, hst, hlv, hls⟩ := hR
  rcases st with _ | ⟨y | y | k | t, _ | ⟨x | x | k2 | t2, r⟩⟩ <;> try exact h.elim
  rcases stv with _ | ⟨vy, _ | ⟨vx, rv⟩⟩ <;> try exact hst.elim
  · exact hst.2.elim
  obtain ⟨⟨rfl, hy⟩, ⟨rfl, hx⟩, hr⟩ := hst
  exact row x y rv hx hy (h p l e R s m args below meth c A D sa H locs ads tys ws ls _ lvv Qm hC ⟨hkc, hks, hw, hP, hK, hD, hS, ⟨⟨rfl, hg x y hx hy⟩, hr⟩, hlv, hls⟩ hE)
theorem zs_lop2 {g : Int → Int → Int} (hC : zCx p R s m args meth c A sa sc d mi) (hR : zRl s A D sa mi st lv kc ks sh f H locs ads tys ws ls stv lvv) (hE : zEn p l e R s m args below meth c A D mi sh ads Q Qm)
    (h : zlop2 (zSd sc) d mi pc st lv kc ks sh f Q g) (hg : ∀ x y, zIn64 x → zIn64 y → zIn64 (g x y))
    (row : ∀ (x y : Int) (rest : List Value), zIn64 x → zIn64 y → W p l e R s m args below meth c H locs kc ks Qm (F0 m (pc + 1) ls (.long (Int64.ofInt (g x y)) :: rest)) → W p l e R s m args below meth c H locs kc ks Qm (F0 m pc ls (.long (Int64.ofInt y) :: .long (Int64.ofInt x) :: rest))) :
    W p l e R s m args below meth c H locs kc ks Qm (F0 m pc ls stv) := by
  obtain ⟨hkc, hks, hw, hP, hK, hD, hS, hst, hlv, hls⟩ := hR
  rcases st with _ | ⟨y | y | k | t, _ | ⟨x | x | k2 | t2, r⟩⟩ <;> try exact h.elim
  rcases stv with _ | ⟨vy, _ | ⟨vx, rv⟩⟩ <;> try exact hst.elim
  · exact hst.2.elim
  obtain ⟨⟨rfl, hy⟩, ⟨rfl, hx⟩, hr⟩ := hst
  exact row x y rv hx hy (h p l e R s m args below meth c A D sa H locs ads tys ws ls _ lvv Qm hC ⟨hkc, hks, hw, hP, hK, hD, hS, ⟨⟨rfl, hg x y hx hy⟩, hr⟩, hlv, hls⟩ hE)
theorem zs_op1 {g : Int → zV} {gw : Int → Value} (hC : zCx p R s m args meth c A sa sc d mi) (hR : zRl s A D sa mi st lv kc ks sh f H locs ads tys ws ls stv lvv) (hE : zEn p l e R s m args below meth c A D mi sh ads Q Qm)
    (h : zop1 (zSd sc) d mi pc st lv kc ks sh f Q g) (hg : ∀ x, zIn x → zrv ads sa (g x) (gw x))
    (row : ∀ (x : Int) (rest : List Value), zIn x → W p l e R s m args below meth c H locs kc ks Qm (F0 m (pc + 1) ls (gw x :: rest)) → W p l e R s m args below meth c H locs kc ks Qm (F0 m pc ls (.int (Int32.ofInt x) :: rest))) :
    W p l e R s m args below meth c H locs kc ks Qm (F0 m pc ls stv) := by
  obtain ⟨hkc, hks, hw, hP, hK, hD, hS, hst, hlv, hls⟩ := hR
  rcases st with _ | ⟨x | x | k | t, r⟩ <;> try exact h.elim
  rcases stv with _ | ⟨vx, rv⟩ <;> try exact hst.elim
  obtain ⟨⟨rfl, hx⟩, hr⟩ := hst
  exact row x rv hx (h p l e R s m args below meth c A D sa H locs ads tys ws ls _ lvv Qm hC ⟨hkc, hks, hw, hP, hK, hD, hS, ⟨hg x hx, hr⟩, hlv, hls⟩ hE)
theorem zs_ld {len i tk : Nat} (hC : zCx p R s m args meth c A sa sc d mi) (hR : zRl s A D sa mi st lv kc ks sh f H locs ads tys ws ls stv lvv) (hE : zEn p l e R s m args below meth c A D mi sh ads Q Qm)
    (h : zld (zSd sc) d mi pc st lv kc ks sh f Q len i tk)
    (row : ∀ (v : zV) (w : Value), zty v = tk → zrv ads sa v w → ls[i]? = some (.val w) → W p l e R s m args below meth c H locs kc ks Qm (F0 m (pc + len) ls (w :: stv)) → W p l e R s m args below meth c H locs kc ks Qm (F0 m pc ls stv)) :
    W p l e R s m args below meth c H locs kc ks Qm (F0 m pc ls stv) := by
  have hR0 := hR
  obtain ⟨hkc, hks, hw, hP, hK, hD, hS, hst, hlv, hls⟩ := hR
  unfold zld at h
  cases hg : zget i lv with
  | none => rw [hg] at h; exact h.elim
  | some v =>
    rw [hg] at h
    obtain ⟨ht, h⟩ := zbif_t h
    obtain ⟨k, w, h1, h2⟩ := zrl_get hlv hg
    exact row v w (Nat.eq_of_beq_eq_true ht) h2 (lv_at hls k h1) (zs_push hC hR0 hE h h2)
theorem zs_st1 {len i : Nat} (hC : zCx p R s m args meth c A sa sc d mi) (hR : zRl s A D sa mi st lv kc ks sh f H locs ads tys ws ls stv lvv) (hE : zEn p l e R s m args below meth c A D mi sh ads Q Qm)
    (h : zst1 (zSd sc) d mi pc st lv kc ks sh f Q len i)
    (row : ∀ (x : Int32) (rest : List Value), (∀ ls' : Array Slot, lv_has ls' (zml mi) ((i, Value.int x) :: lvv.filter (fun q => !(q.1 == i) && !(q.1 + 1 == i && q.2.category == 2))) → W p l e R s m args below meth c H locs kc ks Qm (F0 m (pc + len) ls' rest)) → W p l e R s m args below meth c H locs kc ks Qm (F0 m pc ls (.int x :: rest))) :
    W p l e R s m args below meth c H locs kc ks Qm (F0 m pc ls stv) := by
  obtain ⟨hkc, hks, hw, hP, hK, hD, hS, hst, hlv, hls⟩ := hR
  rcases st with _ | ⟨x | x | k | t, r⟩ <;> try exact h.elim
  rcases stv with _ | ⟨vx, rv⟩ <;> try exact hst.elim
  obtain ⟨⟨rfl, hx⟩, hr⟩ := hst
  exact row _ rv (fun ls' hl' => h p l e R s m args below meth c A D sa H locs ads tys ws ls' _ _ Qm hC ⟨hkc, hks, hw, hP, hK, hD, hS, hr, zrl_set1 (v := zI x) hlv ⟨rfl, hx⟩, hl'⟩ hE)
theorem zs_stA {len i : Nat} (hC : zCx p R s m args meth c A sa sc d mi) (hR : zRl s A D sa mi st lv kc ks sh f H locs ads tys ws ls stv lvv) (hE : zEn p l e R s m args below meth c A D mi sh ads Q Qm)
    (h : zstA (zSd sc) d mi pc st lv kc ks sh f Q len i)
    (row : ∀ (x : Nat) (rest : List Value), (∀ ls' : Array Slot, lv_has ls' (zml mi) ((i, Value.ref x) :: lvv.filter (fun q => !(q.1 == i) && !(q.1 + 1 == i && q.2.category == 2))) → W p l e R s m args below meth c H locs kc ks Qm (F0 m (pc + len) ls' rest)) → W p l e R s m args below meth c H locs kc ks Qm (F0 m pc ls (.ref x :: rest))) :
    W p l e R s m args below meth c H locs kc ks Qm (F0 m pc ls stv) := by
  obtain ⟨hkc, hks, hw, hP, hK, hD, hS, hst, hlv, hls⟩ := hR
  rcases st with _ | ⟨x | x | k | t, r⟩ <;> try exact h.elim
  rcases stv with _ | ⟨vx, rv⟩ <;> try exact hst.elim
  obtain ⟨⟨a, ha, rfl⟩, hr⟩ := hst
  exact row _ rv (fun ls' hl' => h p l e R s m args below meth c A D sa H locs ads tys ws ls' _ _ Qm hC ⟨hkc, hks, hw, hP, hK, hD, hS, hr, zrl_set1 (v := zP k) hlv ⟨a, ha, rfl⟩, hl'⟩ hE)
theorem zs_st2 {len i : Nat} (hC : zCx p R s m args meth c A sa sc d mi) (hR : zRl s A D sa mi st lv kc ks sh f H locs ads tys ws ls stv lvv) (hE : zEn p l e R s m args below meth c A D mi sh ads Q Qm)
    (h : zst2 (zSd sc) d mi pc st lv kc ks sh f Q len i)
    (row : ∀ (x : Int64) (rest : List Value), (∀ ls' : Array Slot, lv_has ls' (zml mi) ((i, Value.long x) :: lvv.filter (fun q => !(q.1 == i) && (!(q.1 == i + 1) && !(q.1 + 1 == i && q.2.category == 2)))) → W p l e R s m args below meth c H locs kc ks Qm (F0 m (pc + len) ls' rest)) → W p l e R s m args below meth c H locs kc ks Qm (F0 m pc ls (.long x :: rest))) :
    W p l e R s m args below meth c H locs kc ks Qm (F0 m pc ls stv) := by
  obtain ⟨hkc, hks, hw, hP, hK, hD, hS, hst, hlv, hls⟩ := hR
  rcases st with _ | ⟨x | x | k | t, r⟩ <;> try exact h.elim
  rcases stv with _ | ⟨vx, rv⟩ <;> try exact hst.elim
  obtain ⟨⟨rfl, hx⟩, hr⟩ := hst
  exact row _ rv (fun ls' hl' => h p l e R s m args below meth c A D sa H locs ads tys ws ls' _ _ Qm hC ⟨hkc, hks, hw, hP, hK, hD, hS, hr, zrl_set2 (v := zJ x) hlv ⟨rfl, hx⟩, hl'⟩ hE)
end STEP
end
