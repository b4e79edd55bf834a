noncomputable section
/-! one step, the last: calls -/
abbrev zU : Type := Option zV × zH × zF × List Nat × List (ClassId × FieldType) × va_W
section CALLG
variable {p : Program} {l : Launch} {e : Env} {R : Room} {s : State} {m : MethodId} {args : Array Value} {below : List Frame} {meth : Method} {c : Code} {H : Heap} {locs : List Loc} {cells slots : Nat} {Q : State → Prop}
variable {pc : Nat} {ls : Array Slot} {rest st0 : List Value} {A0 A1 : Nat → Prop} {H0 : Heap} {mc ms : Nat} {free : Addr → Prop}
theorem zcallG {S : Type} {post : Option Value → S → Prop} {B : S → State → Prop} (hr : va_Run p l e R s m args below meth c H locs cells slots mc ms (F0 m pc ls st0) rest (fun st oc t => (∃ (v : Option Value) (u : S), oc = .returned v ∧ post v u ∧ B u t) ∧ va_F A1 st t) free) (hS : va_S A0 H0 H locs) (hA : ∀ q, q < H.size → A1 q → A0 q) (hf : ∀ q, free q → A0 q)
    (kk : ∀ (v : Option Value) (u : S) (t : State) (H1 : Heap) (locs1 : List Loc), t.heap = H1 → s.vm.Alike t.vm → post v u → B u t → H.size ≤ H1.size → (∀ q : Nat, q < H.size → ¬ A1 q → H1[q]? = H[q]?) → va_S A0 H0 H1 locs1 → W p l e R s m args below meth c H1 locs1 (cells + mc) (slots + ms) Q (F0 m (pc + 3) ls (v.toList ++ rest))) : W p l e R s m args below meth c H locs cells slots Q (F0 m pc ls st0) := by
  intro T hT X
  obtain ⟨v, st₀, t, T', L, h0, X', hL, e1, e2, ⟨⟨v', u, hv, hp, hb⟩, hz, hk⟩, st⟩ := hr T hT X
  cases hv
  rw [h0] at hz hk
  obtain ⟨t2, a1, b1⟩ := kk v u t T'.heap (locs ++ L) e1.symm (by rw [← e2]; exact X'.warmed.alike) hp hb (by rw [e1]; exact hz) (fun q h1 h2 => by rw [e1]; exact hk q h1 h2)
    ⟨Nat.le_trans hS.1 (by rw [e1]; exact hz), fun q h1 h2 => by rw [e1, hk q (Nat.lt_of_lt_of_le h1 hS.1) (fun z => h2 (hA q (Nat.lt_of_lt_of_le h1 hS.1) z))]; exact hS.2.1 q h1 h2, fun q hq => by
      rcases List.mem_append.mp hq with h | h
      · exact hS.2.2 q h
      · exact hf _ (hL q h)⟩ T' rfl X'
  exact ⟨t2, st t2 a1, b1⟩
end CALLG
theorem zNs_same {u U : State} (h : u.vm = U.vm) (hn : zNs u) : zNs U := fun q hq => va_Nw.same rfl h (hn q hq)
theorem zNs_warm {s U : State} (hW : s.WarmedH U.vm) (hn : zNs s) : zNs U := fun q hq => va_Nw.warmM hW (hn q hq)
theorem zZT_moved {A : Nat → Prop} {sa : Nat → Nat} {sc : zC} {u U : State} {H : Heap} (hvm : u.vm.Alike U.vm) (h : zZT A sa sc u H) : zZT A sa sc U H :=
  ⟨fun t ht => va_Z.moved hvm (h.1 t ht), fun t ht => va_T.moved hvm (h.2 t ht)⟩
theorem zZT_kept {A : Nat → Prop} {sa : Nat → Nat} {sc : zC} {U : State} {H H1 : Heap} (h : zZT A sa sc U H) (hq : ∀ a : Nat, a < H.size → ¬ A a → H1[a]? = H[a]?) : zZT A sa sc U H1 :=
  ⟨fun t ht => (h.1 t ht).kept hq, fun t ht => (h.2 t ht).kept hq⟩
theorem zZT_narrow {A B : Nat → Prop} {sa : Nat → Nat} {sc : zC} {U : State} {H : Heap} (h : zZT A sa sc U H) (hAB : ∀ q, B q → A q) : zZT B sa sc U H :=
  ⟨fun t ht => (h.1 t ht).narrow hAB, fun t ht => (h.2 t ht).narrow hAB⟩
/-- what is asked at a callee's start, and what it gives -/
def zB0 (D : va_G) (sa : Nat → Nat) (sc : zC) (ws : va_W) (tys : List (ClassId × FieldType)) (sz : Nat) : State → Prop := fun U =>
  U.heap.size = sz ∧ va_P D zCl ws U.heap ∧ va_K D zCl tys U ∧ va_D (fun _ => True) ws ∧ zZT (va_A ws sz) sa sc U U.heap ∧ zNs U
def zPo (j : Nat) (ads : List Nat) (sh : zH) (Q0 : zQ) : Option Value → zU → Prop := fun v u =>
  Q0 u.1 u.2.1 u.2.2.1 ∧ (zNI ≤ j → u.2.1 = sh) ∧ zKd (zRk j) u.1 v ∧ (∃ la, u.2.2.2.1 = ads ++ la) ∧ zrw u.2.2.2.1 u.2.2.2.2.1 u.2.1 u.2.2.1 u.2.2.2.2.2
def zB1 (D : va_G) (ws : va_W) (sz : Nat) : zU → State → Prop := fun u t =>
  va_P D zCl u.2.2.2.2.2 t.heap ∧ va_K D zCl u.2.2.2.2.1 t ∧ va_D (va_A ws sz) u.2.2.2.2.2
def zwsj (j : Nat) : List Cond := Cond.code (zy j) (zby j) (zml j) (zrt j) :: zWs
def zrm (d j : Nat) : Room := { frames := d, cells := zMc j, slots := zMs j, locals := 60 * d }
theorem zgood {w : Cond} (h : w ∈ zWs) : (w.onTables && w.keeps) = true ∨ ∃ ty, w = .arrayClass ty := good_of_word (zws_good h)
theorem zcode_in {j : Nat} (h0 : 0 < j) (hj : j < zNM) : Cond.code (zy j) (zby j) (zml j) (zrt j) ∈ zWs := by
  obtain ⟨i, hi⟩ := zmc_all j h0 hj
  exact List.mem_filter.mpr ⟨List.mem_of_getElem? hi, rfl⟩
theorem zwsj_in {j : Nat} (h0 : 0 < j) (hj : j < zNM) : GoodIn zWs (zwsj j) := by
  intro w hw
  rcases List.mem_cons.mp hw with rfl | hw
  · exact ⟨zcode_in h0 hj, zgood (zcode_in h0 hj)⟩
  · exact ⟨hw, zgood hw⟩
/-- what zokM says -/
theorem zm_ok {j : Nat} (h0 : 0 < j) (hj : j < zNM) : (zst j = true → Cond.static (zy j) ∈ zWs) ∧ (zst j = false → Cond.instanceMethod (zy j) ∈ zWs ∧ (zNI ≤ j → Cond.selects (zy j).cls (zy j) (zy j) ∈ zWs)) ∧ Cond.initialized (zy j).cls ∈ zWs ∧ (zy j).cls ≠ "java/lang/invoke/MethodHandle" ∧ (zy j).cls ≠ "java/lang/invoke/VarHandle" ∧ (parseMethodDescriptor (zy j).desc).map (fun d => d.parameters.length) = some (znp j) ∧ plainName (zy j).cls = true ∧ (zy j).cls = zown j ∧ zrt j = zrkT (zRk j) ∧ zRk j ≤ 3 ∧ (j < zNI → (zy j).name = "<init>") ∧ zml j ≤ 30 := by
  have h := zm_all j h0 hj
  unfold zokM at h
  obtain ⟨h1, h⟩ := zand_t h
  obtain ⟨h2, h⟩ := zand_t h
  obtain ⟨h3, h⟩ := zand_t h
  obtain ⟨h4, h⟩ := zand_t h
  obtain ⟨h5, h⟩ := zand_t h
  obtain ⟨h6, h⟩ := zand_t h
  obtain ⟨h7, h⟩ := zand_t h
  obtain ⟨h8, h⟩ := zand_t h
  obtain ⟨h9, h⟩ := zand_t h
  obtain ⟨h10, h⟩ := zand_t h
  obtain ⟨h11, -⟩ := zand_t h
  refine ⟨fun q => ?_, fun q => ?_, zinT_mem h2, of_decide_eq_true h3, of_decide_eq_true h4, of_decide_eq_true h5, h6, of_decide_eq_true h7, of_decide_eq_true h8, Nat.le_of_ble_eq_true h9, fun q => ?_, Nat.le_of_ble_eq_true h11⟩
  · rw [q] at h1; exact zinT_mem h1
  · rw [q] at h1
    obtain ⟨g1, g2⟩ := zand_t h1
    refine ⟨zinT_mem g1, fun r => ?_⟩
    rw [Bool.or_eq_true] at g2
    rcases g2 with g2 | g2
    · have : j < zNI := Nat.le_of_ble_eq_true g2
      omega
    · exact zinT_mem g2
  · have hb : Nat.blt j zNI = true := Nat.ble_eq_true_of_le q
    rw [hb] at h10
    exact of_decide_eq_true (eq_of_beq h10).symm
/-- a method's contract, out of what its walk says -/
theorem zmet {sc : zC} {d j : Nat} {as : List zV} {sh : zH} {f : zF} {Q0 : zQ} (h : zSd sc d j 0 [] (zargs 0 as) 0 0 sh f Q0) (h0 : 0 < j) (hj : j < zNM) (hsc : zSc sc)
    (l : Launch) (D : va_G) (sa : Nat → Nat) (ads : List Nat) (tys : List (ClassId × FieldType)) (ws : va_W) (sz : Nat) (As : List Value) (hw : zrw ads tys sh f ws) (has : zrs ads sa as As) (hlen : zlen as ≤ zml j) :
    Met l (zy j) (zwsj j) (zrm d j) (va_Pc As (zB0 D sa sc ws tys sz)) (fun _ st oc t => (∃ (v : Option Value) (u : zU), oc = .returned v ∧ zPo j ads sh Q0 v u ∧ zB1 D ws sz u t) ∧ va_F (va_A ws sz) st t) (zMc j) (zMs j) (va_A ws sz) := by
  obtain ⟨-, -, -, -, -, -, hplain, hown0, hrt, hrk3, hinit, -⟩ := zm_ok h0 hj
  refine Met.ofW (cc := zby j) (maxL := zml j) (ret := zrt j) hplain rfl ?_
  intro p e s m args below meth c s₁ B hml hv
  obtain ⟨rfl, hsz, hP, hK, hD0, hZ, hN⟩ := hv
  have hts0 := atoms_spec (ws := zwsj j) B.pre
  have hts : ∀ w ∈ zWs, w.before As.toArray s = true := fun w hw => hts0 w (List.mem_cons_of_mem _ hw)
  have hown : s.vm.findClass (zown j) = some m.cls := hown0 ▸ findClass_of_methodNamed B.named
  have hlocks := B.notSynchronized
  subst hsz
  have hS : va_S (va_A ws s.heap.size) s.heap s.heap [] := va_S.rf
  have hl := lv_entry As (n := zml j) (by rw [zrs_slots has]; exact hlen)
  rw [lg_entry_eq]
  generalize (lg_sl As ++ List.replicate (zml j - (lg_sl As).length) Slot.unset).toArray = ls at hl ⊢
  refine h p l e _ s m _ below meth c (va_A ws s.heap.size) D sa s.heap [] ads tys ws ls [] (lv_args 0 As) _ ⟨B.exec, B.bytes, hml, hown, hts, hN, Nat.le_refl _, Nat.le_refl _, rfl, rfl, fun q h => Or.inr h, fun h1 h2 => ?_, hZ, hsc⟩ ⟨Nat.zero_le _, Nat.zero_le _, hw, hP, hK, hD0.self, hS, trivial, zrl_args 0 has, hl⟩ ?_
  · rw [← hinit h2]
    exact (name_of_methodNamed B.named B.method).1
  · intro r sh' f' la tys' ws' H' locs' kc' ks' pc' ls' vr hQ hsh hkc hks hw' hP' hK' hD' hS' hkd hdg
    refine W.widen (k := zMc j) (n := zMs j) hkc hks ?_
    have post : ∀ (t : State), t.heap = H' → s.WarmedH t.vm → (∃ (v : Option Value) (u : zU), Outcome.returned vr = .returned v ∧ zPo j ads sh Q0 v u ∧ zB1 D ws s.heap.size u t) ∧ va_F (va_A ws s.heap.size) s t := fun t ht hW =>
      ⟨⟨vr, (r, sh', f', ads ++ la, tys', ws'), rfl, ⟨hQ, hsh, hkd, ⟨la, rfl⟩, hw'⟩, by rw [show zB1 D ws s.heap.size (r, sh', f', ads ++ la, tys', ws') t = (va_P D zCl ws' t.heap ∧ va_K D zCl tys' t ∧ va_D (va_A ws s.heap.size) ws') from rfl, ht]; exact ⟨hP', va_K.moved hW.alike hK', hD'⟩⟩, hS'.F ht⟩
    have hret := B.returns
    rw [hrt] at hret
    have hrk : zRk j = 0 ∨ zRk j = 1 ∨ zRk j = 2 ∨ zRk j = 3 := by omega
    rcases hrk with hrk | hrk | hrk | hrk
    · rw [hrk] at hkd hret hdg
      obtain ⟨-, rfl⟩ := hkd
      exact W.vret B.exec B.bytes hret post hS'.2.2 hdg
    · rw [hrk] at hkd hret hdg
      obtain ⟨z, -, rfl, -⟩ := hkd
      exact W.iret B.exec B.bytes hret post hS'.2.2 hdg
    · rw [hrk] at hkd hret hdg
      obtain ⟨z, -, rfl, -⟩ := hkd
      exact W.lret B.exec B.bytes hret post hS'.2.2 hdg
    · rw [hrk] at hkd hret hdg
      obtain ⟨z, -, rfl, hz⟩ := hkd
      exact W.zret B.exec B.bytes hret (by rcases hz with rfl | rfl <;> rfl) post hS'.2.2 hdg
theorem zini_void {j : Nat} (h0 : 0 < j) (hj : j < zNM) (hi : j < zNI) : zRk j = 0 := by
  have h : ((List.range' 1 12).all fun j => Nat.beq (zRk j) 0) = true := by decide +kernel
  have hi : j < 13 := hi
  exact Nat.eq_of_beq_eq_true (List.all_eq_true.mp h j (by rw [List.mem_range'_1]; omega))
theorem zMc_0 {j : Nat} (hj : zNI ≤ j) : zMc j = 0 ∧ zMs j = 0 := by
  have hj : 13 ≤ j := hj
  have h1 : ∀ n, n ≤ 13 → Nat.blt j n = false := fun n hn => by
    cases h : Nat.blt j n with
    | false => rfl
    | true =>
      have : j + 1 ≤ n := Nat.le_of_ble_eq_true h
      omega
  have h2 : ∀ n, n < 13 → Nat.beq j n = false := fun n hn => by
    cases h : Nat.beq j n with
    | false => rfl
    | true =>
      have := Nat.eq_of_beq_eq_true h
      omega
  constructor
  · unfold zMc; simp [h1, h2]
  · unfold zMs; simp [h1, h2]
section STEP4
variable {p : Program} {l : Launch} {e : Env} {R : Room} {s : State} {m : MethodId} {args : Array Value} {below : List Frame} {meth : Method} {c : Code} {A : Nat → Prop} {D : va_G} {sa : Nat → Nat} {sc : zC} {d mi pc kc ks : Nat} {st : List zV} {lv : zL} {sh : zH} {f : zF} {Q : zQ} {H : Heap} {locs : List Loc} {ads : List Nat} {tys : List (ClassId × FieldType)} {ws : va_W} {ls : Array Slot} {stv : List Value} {lvv : List (Nat × Value)} {Qm : State → Prop}
theorem zblind {As : List Value} {sz : Nat} : FrameBlind (va_Pc As (zB0 D sa sc ws tys sz)) := by
  intro a U g mk ⟨h1, h2, h3, h4, h5, h6, h7⟩
  exact ⟨h1, h2, h3, va_K.moved (u := U) (U := U.calling g mk a) (Vm.Alike.refl U.vm) h4, h5, zZT_moved (Vm.Alike.refl U.vm) h6, zNs_same rfl h7⟩
/-- a call: from its run to what follows -/
theorem zs_go {d' j ml : Nat} {as rest : List zV} {As restv : List Value} (hC : zCx p R s m args meth c A sa sc (d' + 1) mi) (hR : zRl s A D sa mi st lv kc ks sh f H locs ads tys ws ls stv lvv) (hE : zEn p l e R s m args below meth c A D mi sh ads Q Qm)
    (h0 : 0 < j) (hj : j < zNM) (hml : ml = zml j) (h : zgo (zC0 (zSd sc)) (zSd sc) (d' + 1) mi pc as rest lv kc ks sh f Q j ml) (has : zrs ads sa as As) (hrest : zrs ads sa rest restv)
    (run : ∀ (Q0 : zQ), Met l (zy j) (zwsj j) (zrm d' j) (va_Pc As (zB0 D sa sc ws tys H.size)) (fun _ st oc t => (∃ (v : Option Value) (u : zU), oc = .returned v ∧ zPo j ads sh Q0 v u ∧ zB1 D ws H.size u t) ∧ va_F (va_A ws H.size) st t) (zMc j) (zMs j) (va_A ws H.size) →
      (∀ U : State, U.heap = H → s.WarmedH U.vm → va_Pc As (zB0 D sa sc ws tys H.size) As.toArray U) → (restv.map fun v => v.category).sum ≤ 8 → kc + zMc j ≤ zMc mi ∧ ks + zMs j ≤ zMs mi → ls.size = zml mi → (zrm d' j).frames + 1 ≤ R.frames ∧ 8 + (zml j + 11) + (zrm d' j).locals ≤ R.locals →
      va_Run p l e R s m args below meth c H locs kc ks (zMc j) (zMs j) (F0 m pc ls stv) restv (fun st oc t => (∃ (v : Option Value) (u : zU), oc = .returned v ∧ zPo j ads sh Q0 v u ∧ zB1 D ws H.size u t) ∧ va_F (va_A ws H.size) st t) (va_A ws H.size)) :
    W p l e R s m args below meth c H locs kc ks Qm (F0 m pc ls stv) := by
  have hcx := hC
  obtain ⟨hx, hbc, hmlx, hown, hts, hns, hfr, hlo, hrc, hrs, hA, hin, hzt, hsc⟩ := hC
  obtain ⟨hkc, hks, hw, hP, hK, hD, hS, hst, hlv, hls⟩ := hR
  replace h := zbif_t h
  obtain ⟨hb, h⟩ := h
  obtain ⟨hb1, hb2⟩ := zand_t hb
  have hb1 := Nat.le_of_ble_eq_true hb1
  have hb2 := Nat.le_of_ble_eq_true hb2
  subst hml
  have hml30 := (zm_ok h0 hj).2.2.2.2.2.2.2.2.2.2.2
  have hfree : ∀ q, va_A ws H.size q → A q := va_free hD hS hA (List.range ws.length) (by
    apply List.ext_getElem?
    intro i
    by_cases hi : i < ws.length
    · simp [hi]
    · simp [hi])
  have pre : ∀ U : State, U.heap = H → s.WarmedH U.vm → va_Pc As (zB0 D sa sc ws tys H.size) As.toArray U := fun U hU hW =>
    ⟨rfl, by rw [hU], by rw [hU]; exact hP, va_K.moved hW.alike hK, hD.weaken (fun _ _ _ _ => trivial), by rw [hU]; exact zZT_moved hW.alike (zZT_narrow (zZT_kept hzt (fun a h1 h2 => hS.2.1 a h1 h2)) hfree), zNs_warm hW hns⟩
  have hcat : (restv.map fun v => v.category).sum ≤ 8 := by rw [zrs_cats hrest]; exact hb2
  have hroom : (zrm d' j).frames + 1 ≤ R.frames ∧ 8 + (zml j + 11) + (zrm d' j).locals ≤ R.locals := by
    constructor
    · exact hfr
    · show 8 + (zml j + 11) + 60 * d' ≤ R.locals
      omega
  -- both ways of going on
  have go : ∀ (Q0 : zQ) (mcj msj : Nat), zSd sc d' j 0 [] (zargs 0 as) 0 0 sh f Q0 → kc + zMc j ≤ zMc mi ∧ ks + zMs j ≤ zMs mi → (zNI ≤ mi → zNI ≤ j) →
      (∀ (r : Option zV) (sh' : zH) (f' : zF) (vr : Option Value), Q0 r sh' f' → (zNI ≤ j → sh' = sh) → zKd (zRk j) r vr → zSd sc (d' + 1) mi (pc + 3) (r.toList ++ rest) lv (kc + zMc j) (ks + zMs j) sh' f' Q) →
      W p l e R s m args below meth c H locs kc ks Qm (F0 m pc ls stv) := by
    intro Q0 mcj msj hq hroom2 hini next
    refine zcallG (run Q0 (zmet hq h0 hj hsc l D sa ads tys ws H.size As hw has hb1) pre hcat hroom2 hls.1 hroom) hS (fun q _ h => hfree q h) hfree ?_
    rintro v ⟨r, sh', f', ads', tys', ws'⟩ t H1 locs1 ht hvm ⟨g1, g2, g3, ⟨la, g4⟩, g5⟩ ⟨b1, b2, b3⟩ hz1 hk1 hS1
    dsimp only at g1 g2 g3 g4 g5 b1 b2 b3
    subst g4
    rw [ht] at b1
    have hcont := next r sh' f' v g1 g2 g3
    have hst2 : zrs (ads ++ la) sa (r.toList ++ rest) (v.toList ++ restv) := by
      refine zrs_app ?_ (zrs_more hrest)
      have hrk3 := (zm_ok h0 hj).2.2.2.2.2.2.2.2.2.1
      have hrk : zRk j = 0 ∨ zRk j = 1 ∨ zRk j = 2 ∨ zRk j = 3 := by omega
      rcases hrk with hrk | hrk | hrk | hrk
      · rw [hrk] at g3
        obtain ⟨rfl, rfl⟩ := g3
        exact trivial
      · rw [hrk] at g3
        obtain ⟨z, rfl, rfl, hz⟩ := g3
        exact ⟨⟨rfl, hz⟩, trivial⟩
      · rw [hrk] at g3
        obtain ⟨z, rfl, rfl, hz⟩ := g3
        exact ⟨⟨rfl, hz⟩, trivial⟩
      · rw [hrk] at g3
        obtain ⟨z, rfl, rfl, hz⟩ := g3
        exact ⟨⟨rfl, zin_bool hz⟩, trivial⟩
    exact hcont p l e R s m args below meth c A D sa H1 locs1 (ads ++ la) tys' ws' ls _ lvv Qm hcx ⟨hroom2.1, hroom2.2, g5, b1, va_K.moved hvm.symm b2, b3.weaken (fun _ _ _ h => hfree _ h), hS1, hst2, zrl_more hlv, hls⟩ (zEn_more (fun q => g2 (hini q)) hE)
  have key : ∀ {Q0 K : zQ} {r : Option zV} {sh' : zH} {f' : zF} {vr : Option Value} (a : Bool), (a = false → sh' = sh) → zret (zRk j) a sh Q0 K → Q0 r sh' f' → zKd (zRk j) r vr → K r sh' f' := by
    intro Q0 K r sh' f' vr a ha hret hq hkd
    have hrk3 := (zm_ok h0 hj).2.2.2.2.2.2.2.2.2.1
    have hrk : zRk j = 0 ∨ zRk j = 1 ∨ zRk j = 2 ∨ zRk j = 3 := by omega
    rcases hrk with hrk | hrk | hrk | hrk
    · rw [hrk] at hkd hret
      obtain ⟨rfl, -⟩ := hkd
      cases a with
      | true => exact hret sh' f' hq
      | false => have e := ha rfl; subst e; exact hret f' hq
    · rw [hrk] at hkd hret
      obtain ⟨z, rfl, -, hz⟩ := hkd
      cases a with
      | true => exact hret.elim
      | false => have e := ha rfl; subst e; exact hret z f' hz hq
    · rw [hrk] at hkd hret
      obtain ⟨z, rfl, -, hz⟩ := hkd
      cases a with
      | true => exact hret.elim
      | false => have e := ha rfl; subst e; exact hret z f' hz hq
    · rw [hrk] at hkd hret
      obtain ⟨z, rfl, -, hz⟩ := hkd
      cases a with
      | true => exact hret.elim
      | false => have e := ha rfl; subst e; exact hret z f' hz hq
  cases hji : Nat.blt j zNI with
  | true =>
    rw [hji] at h
    replace h := zbif_t h
    obtain ⟨hbm, h⟩ := h
    obtain ⟨g1, g2⟩ := zand_t hbm
    obtain ⟨g2, g3⟩ := zand_t g2
    have g1 : mi < zNI := Nat.le_of_ble_eq_true g1
    have hj2 : j < zNI := Nat.le_of_ble_eq_true hji
    obtain ⟨Q0, hq, hret⟩ := h
    refine go Q0 0 0 hq ⟨Nat.le_of_ble_eq_true g2, Nat.le_of_ble_eq_true g3⟩ (fun q => by omega) (fun r sh' f' vr q1 q2 q3 => ?_)
    exact key (K := fun r sh' f' => zSd sc (d' + 1) mi (pc + 3) (r.toList ++ rest) lv (kc + zMc j) (ks + zMs j) sh' f' Q) (Nat.blt j zNI) (fun hf => by rw [hji] at hf; cases hf) hret q1 q3
  | false =>
    rw [hji] at h
    have hj2 : zNI ≤ j := by
      rcases Nat.lt_or_ge j zNI with q | q
      · have : Nat.blt j zNI = true := Nat.ble_eq_true_of_le q
        rw [this] at hji; cases hji
      · exact q
    have hz : zMc j = 0 ∧ zMs j = 0 := zMc_0 hj2
    obtain ⟨Q0, hq, hret⟩ := h
    refine go Q0 0 0 hq ⟨by rw [hz.1]; exact hkc, by rw [hz.2]; exact hks⟩ (fun q => hj2) (fun r sh' f' vr q1 q2 q3 => ?_)
    rw [hz.1, hz.2]
    exact key (K := fun r sh' f' => zSd sc (d' + 1) mi (pc + 3) (r.toList ++ rest) lv (kc + 0) (ks + 0) sh' f' Q) (Nat.blt j zNI) (fun _ => q2 hj2) hret q1 q3
theorem zs_invoke {en : zE} {virt ix : Nat} {ins : Instr} (hv : (virt = 0 ∧ ins = .invokestatic ix) ∨ (virt = 1 ∧ ins = .invokevirtual ix) ∨ (virt = 2 ∧ ins = .invokespecial ix)) (hC : zCx p R s m args meth c A sa sc d mi) (hR : zRl s A D sa mi st lv kc ks sh f H locs ads tys ws ls stv lvv) (hE : zEn p l e R s m args below meth c A D mi sh ads Q Qm)
    (hdg : decode (zby mi) pc = .ok (ins, 3)) (hok : zokV mi ix en virt = true) (h : zinvoke (zC0 (zSd sc)) (zSd sc) d mi pc st lv kc ks sh f Q en virt) :
    W p l e R s m args below meth c H locs kc ks Qm (F0 m pc ls stv) := by
  have hcx := hC
  have hR0 := hR
  obtain ⟨hx, hbc, hmlx, hown, hts, hns, hfr, hlo, hrc, hrs, hA, hin, hzt, hsc⟩ := hC
  obtain ⟨hkc, hks, hw, hP, hK, hD, hS, hst, hlv, hls⟩ := hR
  have hfix : CallFix p m c (zby mi) (zml mi) s args zWs (zown mi) := ⟨hx, hbc, hmlx, hown, hts⟩
  unfold zinvoke at h
  split at h
  next j n c3 ci ml =>
    obtain ⟨k0, k1, k2, k3, k4, hok⟩ := zokV_2 hok
    have hml : ml.toNat = zml j := by rw [k3]; rfl
    obtain ⟨m1, m2, m3, m4, m5, m6, m7, m8, m9, m10, m11, m12⟩ := zm_ok k0 k1
    rcases hv with ⟨rfl, rfl⟩ | ⟨rfl, rfl⟩ | ⟨rfl, rfl⟩
    · try dsimp only at h hok
      obtain ⟨g1, g2⟩ := zand_t hok
      replace h := zbif_t h
      obtain ⟨hn, h⟩ := h
      have hn := Nat.le_of_ble_eq_true hn
      cases d with
      | zero => exact h.elim
      | succ d' =>
        have has := zrs_rev (zrs_take n hst)
        have hlen := zrs_len hst
        refine zs_go hcx hR0 hE k0 k1 hml h has (zrs_drop n hst) (fun Q0 hM pre hcat hroom2 hsz hroom => ?_)
        exact va_runS hfix hM (va_cwS (ws' := zWs) n hts (fun w hw => by
          rcases List.mem_append.mp hw with hw | hw
          · simp only [List.mem_cons, List.not_mem_nil, or_false] at hw
            rcases hw with rfl | rfl | rfl
            · exact ⟨k4, zgood k4⟩
            · exact ⟨m1 g1, zgood (m1 g1)⟩
            · exact ⟨m3, zgood m3⟩
          · exact zwsj_in k0 k1 w hw) rfl rfl rfl ⟨m4, m5, by rw [k2]; exact m6⟩ hroom) ⟨zblind, pre⟩ rfl (by rw [List.length_reverse, List.length_take, hlen]; omega) hsz (by rw [List.reverse_reverse, List.take_append_drop]) (by show 2 * 0 + _ ≤ 8; omega) hdg (by rw [hrc, hrs]; exact hroom2)
    · try dsimp only at h hok
      obtain ⟨g1, g2⟩ := zand_t hok
      obtain ⟨g2a, g3⟩ := zand_t g2
      clear g2
      have g1 : zst j = false := by simpa using g1
      have g2b : zNI ≤ j := Nat.le_of_ble_eq_true g2a
      cases hd : st.drop n with
      | nil => rw [hd] at h; exact h.elim
      | cons v rest =>
        rw [hd] at h
        rcases v with x | x | c0 | t <;> try exact h.elim
        try dsimp only at h
        cases hs : sh[c0]? with
        | none => rw [hs] at h; exact h.elim
        | some sx =>
          rw [hs] at h
          rcases sx with ⟨ci', ks'⟩ | sx
          · replace h := zbif_t h
            obtain ⟨hb, h⟩ := h
            obtain ⟨hb, -⟩ := zand_t hb
            have hb := Nat.eq_of_beq_eq_true hb
            subst hb
            cases hq : zCl[ci']? with
            | none => rw [hq] at g3; cases g3
            | some q =>
              rw [hq] at g3
              have g3 : q.1 = (zy j).cls := of_decide_eq_true g3
              cases d with
              | zero => exact h.elim
              | succ d' =>
                have hdr := zrs_drop n hst
                rw [hd] at hdr
                cases hdv : stv.drop n with
                | nil => rw [hdv] at hdr; exact hdr.elim
                | cons vr restv =>
                  rw [hdv] at hdr
                  obtain ⟨⟨a, ha, rfl⟩, hrest⟩ := hdr
                  have has : zrs ads sa (zP c0 :: (st.take n).reverse) (.ref a :: (stv.take n).reverse) := ⟨⟨a, ha, rfl⟩, zrs_rev (zrs_take n hst)⟩
                  have hlen := zrs_len hst
                  have hdl : n < stv.length := by
                    have := congrArg List.length hdv
                    rw [List.length_drop, List.length_cons] at this
                    omega
                  obtain ⟨x, hx1, fs, rfl, -, -⟩ := zrw_at hw hs ha
                  have hrecv := va_recv hK hP hq hx1
                  rw [g3] at hrecv
                  refine zs_go hcx hR0 hE k0 k1 hml h has hrest (fun Q0 hM pre hcat hroom2 hsz hroom => ?_)
                  exact va_runV hfix hM (cwV (C := (zy j).cls) (ws' := zWs) n hts (fun w hw => by
                    rcases List.mem_append.mp hw with hw | hw
                    · simp only [List.mem_cons, List.not_mem_nil, or_false] at hw
                      rcases hw with rfl | rfl | rfl | rfl
                      · exact ⟨k4, zgood k4⟩
                      · exact ⟨(m2 g1).1, zgood (m2 g1).1⟩
                      · exact ⟨(m2 g1).2 g2b, zgood ((m2 g1).2 g2b)⟩
                      · exact ⟨m3, zgood m3⟩
                    · exact zwsj_in k0 k1 w hw) rfl rfl rfl ⟨rfl, m4, m5, by rw [k2]; exact m6⟩ hroom) ⟨zblind, hrecv, pre⟩ rfl (by rw [List.length_reverse, List.length_take]; omega) hsz (by rw [List.reverse_reverse, ← hdv, List.take_append_drop]) (by show 2 * 0 + _ ≤ 8; omega) hdg (by rw [hrc, hrs]; exact hroom2)
          · exact h.elim
    · try dsimp only at h hok
      obtain ⟨g1, g2⟩ := zand_t hok
      have g1 : zst j = false := by simpa using g1
      have g2 : j < zNI := Nat.le_of_ble_eq_true g2
      cases hd : st.drop n with
      | nil => rw [hd] at h; exact h.elim
      | cons v rest =>
        rw [hd] at h
        rcases v with x | x | c0 | t <;> try exact h.elim
        replace h := zbif_t h
        obtain ⟨-, h⟩ := h
        cases d with
        | zero => exact h.elim
        | succ d' =>
          have hdr := zrs_drop n hst
          rw [hd] at hdr
          cases hdv : stv.drop n with
          | nil => rw [hdv] at hdr; exact hdr.elim
          | cons vr restv =>
            rw [hdv] at hdr
            obtain ⟨⟨a, ha, rfl⟩, hrest⟩ := hdr
            have has : zrs ads sa (zP c0 :: (st.take n).reverse) (.ref a :: (stv.take n).reverse) := ⟨⟨a, ha, rfl⟩, zrs_rev (zrs_take n hst)⟩
            have hdl : n < stv.length := by
              have := congrArg List.length hdv
              rw [List.length_drop, List.length_cons] at this
              omega
            have hr0 : zrt j = none := by rw [m9, zini_void k0 k1 g2]; rfl
            refine zs_go hcx hR0 hE k0 k1 hml h has hrest (fun Q0 hM pre hcat hroom2 hsz hroom => ?_)
            exact va_runI hfix hM (cwI (bytes := zby j) (maxL := zml j) (ws' := zWs) n hts (zwsj_in k0 k1) (by unfold zwsj; rw [hr0]) rfl rfl (hts _ m3) (hts _ k4) (hts _ (m2 g1).1) (m11 g2) ⟨m4, m5, by rw [k2]; exact m6⟩ hroom) ⟨zblind, pre⟩ rfl (by rw [List.length_reverse, List.length_take]; omega) hsz (by rw [List.reverse_reverse, ← hdv, List.take_append_drop]) (by show 2 * 0 + _ ≤ 8; omega) hdg (by rw [hrc, hrs]; exact hroom2)
  next j n c3 c4 ml =>
    obtain ⟨k0, k1, k2, k3, ⟨q, hq, q1, q2, q3⟩, k5, g1, g2⟩ := zokV_10 hok
    have hml : ml.toNat = zml j := by rw [k3]; rfl
    obtain ⟨m1, m2, m3, m4, m5, m6, m7, m8, m9, m10, m11, m12⟩ := zm_ok k0 k1
    have hnest := hns q hq
    rw [q1, q2, q3] at hnest
    rcases hv with ⟨rfl, rfl⟩ | ⟨rfl, rfl⟩ | ⟨rfl, rfl⟩
    · cases k5
    · cases k5
    · try dsimp only at h
      cases hd : st.drop n with
      | nil => rw [hd] at h; exact h.elim
      | cons v rest =>
        rw [hd] at h
        rcases v with x | x | c0 | t <;> try exact h.elim
        replace h := zbif_t h
        obtain ⟨-, h⟩ := h
        cases d with
        | zero => exact h.elim
        | succ d' =>
          have hdr := zrs_drop n hst
          rw [hd] at hdr
          cases hdv : stv.drop n with
          | nil => rw [hdv] at hdr; exact hdr.elim
          | cons vr restv =>
            rw [hdv] at hdr
            obtain ⟨⟨a, ha, rfl⟩, hrest⟩ := hdr
            have has : zrs ads sa (zP c0 :: (st.take n).reverse) (.ref a :: (stv.take n).reverse) := ⟨⟨a, ha, rfl⟩, zrs_rev (zrs_take n hst)⟩
            have hdl : n < stv.length := by
              have := congrArg List.length hdv
              rw [List.length_drop, List.length_cons] at this
              omega
            have hr0 : zrt j = none := by rw [m9, zini_void k0 k1 g2]; rfl
            refine zs_go hcx hR0 hE k0 k1 hml h has hrest (fun Q0 hM pre hcat hroom2 hsz hroom => ?_)
            have cb : va_CN R s args (zown mi) ix (zy j) q.2.2.2 (zby j) (zml j) none (zwsj j) (zrm d' j) (zMc j) (zMs j) n := va_cnB (ws' := zWs) n hts (zwsj_in k0 k1) (by unfold zwsj; rw [hr0]) rfl rfl hnest (hts _ m3) ⟨m4, m5, by rw [k2]; exact m6⟩ hroom
            exact va_runIN hfix hM ⟨cb, m11 g2, hts _ (m2 g1).1⟩ ⟨zblind, pre⟩ rfl (by rw [List.length_reverse, List.length_take]; omega) hsz (by rw [List.reverse_reverse, ← hdv, List.take_append_drop]) (by show 2 * 0 + _ ≤ 8; omega) hdg (by rw [hrc, hrs]; exact hroom2)
  next en' =>
    obtain ⟨k5, k4⟩ := zokV_6 hok
    rcases hv with ⟨rfl, rfl⟩ | ⟨rfl, rfl⟩ | ⟨rfl, rfl⟩
    · cases k5
    · cases k5
    · try dsimp only at h
      rcases st with _ | ⟨x | x | c0 | t, r⟩ <;> try exact h.elim
      rcases stv with _ | ⟨vx, rv⟩ <;> try exact hst.elim
      obtain ⟨⟨a, ha, rfl⟩, hr⟩ := hst
      replace h := zbif_t h
      obtain ⟨hb, h⟩ := h
      obtain ⟨hb1, hb2⟩ := zand_t hb
      have hb1 : 0 < d := Nat.le_of_ble_eq_true hb1
      have hb2 := Nat.le_of_ble_eq_true hb2
      rw [← zrs_cats hr] at hb2
      refine W.objInit hx hbc hown (hts _ k4) (hts _ zg1) (hts _ zg2) rfl (by rw [hmlx]; exact hls.1) rfl hdg (by omega) (by show 2 * 0 + _ + 12 ≤ _; omega) ?_
      refine W.eq (g2 := F0 m (pc + 3) ls rv) rfl ?_
      exact zs_same hcx hR0 hE h hr
  next en' =>
    obtain ⟨k5, k4⟩ := zokV_7 hok
    rcases hv with ⟨rfl, rfl⟩ | ⟨rfl, rfl⟩ | ⟨rfl, rfl⟩
    · try dsimp only at h
      rcases st with _ | ⟨n | x | k | t, _ | ⟨dp | x | k | t, _ | ⟨x | x | dst | t, _ | ⟨sp | x | k | t, _ | ⟨x | x | src | t, r⟩⟩⟩⟩⟩ <;> try exact h.elim
      rcases stv with _ | ⟨vn, _ | ⟨vdp, _ | ⟨vdst, _ | ⟨vsp, _ | ⟨vsrc, rv⟩⟩⟩⟩⟩ <;> try exact hst.elim
      · exact hst.2.elim
      · exact hst.2.2.elim
      · exact hst.2.2.2.elim
      · exact hst.2.2.2.2.elim
      obtain ⟨⟨rfl, hn⟩, ⟨rfl, hdp⟩, ⟨a, ha, rfl⟩, ⟨rfl, hsp⟩, ⟨a0, ha0, rfl⟩, hr⟩ := hst
      try dsimp only at h
      cases hs0 : sh[src]? with
      | none => rw [hs0] at h; exact h.elim
      | some sx =>
        rw [hs0] at h
        rcases sx with sx | ⟨b0, n0⟩
        · exact h.elim
        · try dsimp only at h
          cases hs1 : sh[dst]? with
          | none => rw [hs1] at h; exact h.elim
          | some sy =>
            rw [hs1] at h
            rcases sy with sy | ⟨b1, n1⟩
            · exact h.elim
            · replace h := zbif_t h
              obtain ⟨hb, h⟩ := h
              obtain ⟨hb1, hb⟩ := zand_t hb
              obtain ⟨hb2, hb3⟩ := zand_t hb
              have hb1 : 0 < d := Nat.le_of_ble_eq_true hb1
              have hb2 : b0 = b1 := by simpa using hb2
              have hb3 := Nat.le_of_ble_eq_true hb3
              subst hb2
              rw [← zrs_cats hr] at hb3
              by_cases hcond : 0 ≤ sp ∧ 0 ≤ dp ∧ 0 ≤ n ∧ sp + n ≤ (n0 : Int) ∧ dp + n ≤ (n1 : Int)
              · rw [if_pos hcond] at h
                obtain ⟨c1, c2, c3, c4, c5⟩ := hcond
                have hnw : nativeFrameWords "java/lang/System" "arraycopy" 5 ≤ 30 := by decide +kernel
                obtain ⟨x, hx1, hx2⟩ := zrw_at hw hs0 ha0
                obtain ⟨y, hy1, hy2⟩ := zrw_at hw hs1 ha
                cases b0 with
                | false =>
                  obtain ⟨cA, t0, g, e1, rfl, e2, e3⟩ := hx2
                  obtain ⟨cB, t1, g', f1, rfl, f2, f3⟩ := hy2
                  refine va_copyi hx hbc (hmlx.trans hls.1.symm) hown (hts _ k4) (hts _ zg3) (hts _ zg4) (hts _ zg5) hK hP hD hS src dst t0 t1 hx1 hy1 e1 f1 rfl (zo_nn hsp c1) (zo_nn hdp c2) (zo_nn hn c3) (by rw [zo_cl hsp, zo_cl hn]; omega) (by rw [zo_cl hdp, zo_cl hn]; omega) (fun _ _ => rfl) (by omega) (by omega) hdg (fun H1 locs1 hP1 hD1 hS1 => ?_)
                  refine h p l e R s m args below meth c A D sa H1 locs1 ads tys _ ls _ lvv Qm hcx ⟨hkc, hks, zrw_put (f' := zcp f src dst sp.toNat dp.toNat n.toNat) hw hs1 ha (fun c' hc => by funext j; simp [zcp, hc]) ⟨cB, t1, _, f1, rfl, f2, fun j => ?_⟩, hP1, hK, hD1, hS1, hr, hlv, hls⟩ hE
                  rw [zo_cl hsp, zo_cl hdp, zo_cl hn]
                  by_cases hj : dp.toNat ≤ j ∧ j < dp.toNat + n.toNat
                  · simp only [va_cpy, zcp, if_pos hj, if_true]; exact e3 _
                  · simp only [va_cpy, zcp, if_neg hj, if_true]; exact f3 _
                | true =>
                  obtain ⟨cA, t0, g, e1, rfl, e2, e3⟩ := hx2
                  obtain ⟨cB, t1, g', f1, rfl, f2, f3⟩ := hy2
                  refine va_copyl hx hbc (hmlx.trans hls.1.symm) hown (hts _ k4) (hts _ zg3) (hts _ zg4) (hts _ zg5) hK hP hD hS src dst t0 t1 hx1 hy1 e1 f1 rfl (zo_nn hsp c1) (zo_nn hdp c2) (zo_nn hn c3) (by rw [zo_cl hsp, zo_cl hn]; omega) (by rw [zo_cl hdp, zo_cl hn]; omega) (fun _ _ => rfl) (by omega) (by omega) hdg (fun H1 locs1 hP1 hD1 hS1 => ?_)
                  refine h p l e R s m args below meth c A D sa H1 locs1 ads tys _ ls _ lvv Qm hcx ⟨hkc, hks, zrw_put (f' := zcp f src dst sp.toNat dp.toNat n.toNat) hw hs1 ha (fun c' hc => by funext j; simp [zcp, hc]) ⟨cB, t1, _, f1, rfl, f2, fun j => ?_⟩, hP1, hK, hD1, hS1, hr, hlv, hls⟩ hE
                  rw [zo_cl hsp, zo_cl hdp, zo_cl hn]
                  by_cases hj : dp.toNat ≤ j ∧ j < dp.toNat + n.toNat
                  · simp only [va_cpy, zcp, if_pos hj, if_true]; exact e3 _
                  · simp only [va_cpy, zcp, if_neg hj, if_true]; exact f3 _
              · rw [if_neg hcond] at h; exact h.elim
    · cases k5
    · cases k5
  next en' =>
    obtain ⟨k5, k4⟩ := zokV_8 hok
    rcases hv with ⟨rfl, rfl⟩ | ⟨rfl, rfl⟩ | ⟨rfl, rfl⟩
    · try dsimp only at h
      rcases st with _ | ⟨y | x | k | t, _ | ⟨x | x | k2 | t2, r⟩⟩ <;> try exact h.elim
      rcases stv with _ | ⟨vy, _ | ⟨vx, rv⟩⟩ <;> try exact hst.elim
      · exact hst.2.elim
      obtain ⟨⟨rfl, hy⟩, ⟨rfl, hxx⟩, hr⟩ := hst
      replace h := zbif_t h
      obtain ⟨hb, h⟩ := h
      obtain ⟨hb1, hb3⟩ := zand_t hb
      have hb1 : 0 < d := Nat.le_of_ble_eq_true hb1
      have hb3 := Nat.le_of_ble_eq_true hb3
      rw [← zrs_cats hr] at hb3
      refine va_mmax hx hbc (hmlx.trans hls.1.symm) hown (hts _ k4) (hts _ zg6) (hts _ zg10) (hts _ zg7) (by omega) (by omega) (by rw [hrc]; exact hkc) (by rw [hrs]; exact hks) hdg ?_
      have e0 : (if Int32.ofInt x < Int32.ofInt y then Int32.ofInt y else Int32.ofInt x) = Int32.ofInt (if x < y then y else x) := by
        by_cases hxy : x < y
        · rw [if_pos hxy, if_pos ((zo_lt hxx hy).mpr hxy)]
        · rw [if_neg hxy, if_neg (fun z => hxy ((zo_lt hxx hy).mp z))]
      rw [e0]
      exact zs_same hcx hR0 hE h ⟨⟨rfl, zin_ite hy hxx _⟩, hr⟩
    · cases k5
    · cases k5
  next en' =>
    obtain ⟨k5, k4⟩ := zokV_9 hok
    rcases hv with ⟨rfl, rfl⟩ | ⟨rfl, rfl⟩ | ⟨rfl, rfl⟩
    · try dsimp only at h
      rcases st with _ | ⟨y | x | k | t, _ | ⟨x | x | k2 | t2, r⟩⟩ <;> try exact h.elim
      rcases stv with _ | ⟨vy, _ | ⟨vx, rv⟩⟩ <;> try exact hst.elim
      · exact hst.2.elim
      obtain ⟨⟨rfl, hy⟩, ⟨rfl, hxx⟩, hr⟩ := hst
      replace h := zbif_t h
      obtain ⟨hb, h⟩ := h
      obtain ⟨hb1, hb3⟩ := zand_t hb
      have hb1 : 0 < d := Nat.le_of_ble_eq_true hb1
      have hb3 := Nat.le_of_ble_eq_true hb3
      rw [← zrs_cats hr] at hb3
      refine va_mmin hx hbc (hmlx.trans hls.1.symm) hown (hts _ k4) (hts _ zg8) (hts _ zg10) (hts _ zg9) (by omega) (by omega) (by rw [hrc]; exact hkc) (by rw [hrs]; exact hks) hdg ?_
      have e0 : (if Int32.ofInt y < Int32.ofInt x then Int32.ofInt y else Int32.ofInt x) = Int32.ofInt (if y < x then y else x) := by
        by_cases hxy : y < x
        · rw [if_pos hxy, if_pos ((zo_lt hy hxx).mpr hxy)]
        · rw [if_neg hxy, if_neg (fun z => hxy ((zo_lt hy hxx).mp z))]
      rw [e0]
      exact zs_same hcx hR0 hE h ⟨⟨rfl, zin_ite hy hxx _⟩, hr⟩
    · cases k5
    · cases k5
  · exact h.elim
end STEP4
end
