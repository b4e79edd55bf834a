noncomputable section
/-! every step: the judgement is sound -/
theorem zsound {sc : zC} : ∀ (d mi pc : Nat) (st : List zV) (lv : zL) (kc ks : Nat) (sh : zH) (f : zF) (Q : zQ), zstep sc (zC0 (zSd sc)) (zSd sc) d mi pc st lv kc ks sh f Q → zSd sc d mi pc st lv kc ks sh f Q := by
  intro d mi pc st lv kc ks sh f Q h p l e R s m args below meth c A D sa H locs ads tys ws ls stv lvv Qm hC hR hE
  unfold zstep at h
  cases hz : zAg mi pc with
  | none => rw [hz] at h; exact h.elim
  | some r =>
    rw [hz] at h
    obtain ⟨ins, len, en⟩ := r
    obtain ⟨hm, hdec, hok⟩ := zAg_ok hz
    dsimp only at hdec hok h
    have hx := hC.1
    have hb := hC.2.1
    have hown := hC.2.2.2.1
    have hts := hC.2.2.2.2.1
    have hlen : ∀ {n : Nat} {a : Bool}, (Nat.beq len n && a) = true → len = n ∧ a = true := fun h => ⟨Nat.eq_of_beq_eq_true (zand_t h).1, (zand_t h).2⟩
    cases ins with
    | iconst n =>
      obtain ⟨rfl, hn⟩ := hlen hok
      exact lv_iconst hx hb hdec rfl (zs_push hC hR hE h ⟨rfl, zinB_ok hn⟩)
    | bipush n =>
      obtain ⟨rfl, hn⟩ := hlen hok
      exact lv_bipush hx hb hdec (of_decide_eq_true (zand_t hn).2) (zs_push hC hR hE h ⟨rfl, zinB_ok (zand_t hn).1⟩)
    | sipush n =>
      obtain ⟨rfl, hn⟩ := hlen hok
      exact lv_sipush hx hb hdec (of_decide_eq_true (zand_t hn).2) (zs_push hC hR hE h ⟨rfl, zinB_ok (zand_t hn).1⟩)
    | ldc ix =>
      obtain ⟨rfl, hn⟩ := hlen hok
      obtain ⟨e0, e1, e2, e3, e4, z⟩ := en
      have hk : ∃ z', zIn z ∧ Cond.constant (zown mi) ix (Int32.ofInt z) ∈ zWs ∧ z' = z := by
        unfold zokC at hn
        split at hn
        next h4 => cases h4; exact ⟨_, zinB_ok (zand_t hn).1, zinT_mem (zand_t hn).2, rfl⟩
        · cases hn
      obtain ⟨-, h1, h2, -⟩ := hk
      exact lv_ldc hx hb hown (hts _ h2) hdec (zs_push hC hR hE h ⟨rfl, h1⟩)
    | ldc_w ix =>
      obtain ⟨rfl, hn⟩ := hlen hok
      obtain ⟨e0, e1, e2, e3, e4, z⟩ := en
      have hk : ∃ z', zIn z ∧ Cond.constant (zown mi) ix (Int32.ofInt z) ∈ zWs ∧ z' = z := by
        unfold zokC at hn
        split at hn
        next h4 => cases h4; exact ⟨_, zinB_ok (zand_t hn).1, zinT_mem (zand_t hn).2, rfl⟩
        · cases hn
      obtain ⟨-, h1, h2, -⟩ := hk
      exact lv_ldcw hx hb hown (hts _ h2) hdec (zs_push hC hR hE h ⟨rfl, h1⟩)
    | ldc2_w ix =>
      obtain ⟨rfl, hn⟩ := hlen hok
      obtain ⟨e0, e1, e2, e3, e4, z⟩ := en
      have hk : ∃ z', zIn64 z ∧ Cond.constantLong (zown mi) ix (Int64.ofInt z) ∈ zWs ∧ z' = z := by
        unfold zokC2 at hn
        split at hn
        next h4 => cases h4; exact ⟨_, zin64B_ok (zand_t hn).1, zinT_mem (zand_t hn).2, rfl⟩
        · cases hn
      obtain ⟨-, h1, h2, -⟩ := hk
      exact lv_ldc2 hx hb hown (hts _ h2) hdec (zs_push hC hR hE h ⟨rfl, h1⟩)
    | lconst n =>
      have hl : len = 1 := Nat.eq_of_beq_eq_true hok
      subst hl
      refine lv_lconst hx hb hdec (v := Int64.ofInt ((n : Nat) : Int)) (Int64.ofInt_eq_ofNat).symm (zs_push hC hR hE h ⟨rfl, ?_⟩)
      have := n.isLt
      unfold zIn64; omega
    | iload_n k =>
      have hl : len = 1 := Nat.eq_of_beq_eq_true hok
      subst hl
      exact zs_ld hC hR hE h (fun v w ht hv hg kk => by
        rcases v with x | x | x | x <;> first | (cases ht; done) | skip
        obtain ⟨rfl, -⟩ := hv
        exact lv_iload_n hx hb hdec rfl hg kk)
    | iload k =>
      have hl : len = 2 := Nat.eq_of_beq_eq_true hok
      subst hl
      exact zs_ld hC hR hE h (fun v w ht hv hg kk => by
        rcases v with x | x | x | x <;> first | (cases ht; done) | skip
        obtain ⟨rfl, -⟩ := hv
        exact lv_iload hx hb hdec hg kk)
    | lload_n k =>
      have hl : len = 1 := Nat.eq_of_beq_eq_true hok
      subst hl
      exact zs_ld hC hR hE h (fun v w ht hv hg kk => by
        rcases v with x | x | x | x <;> first | (cases ht; done) | skip
        obtain ⟨rfl, -⟩ := hv
        exact lv_lload_n hx hb hdec rfl hg kk)
    | lload k =>
      have hl : len = 2 := Nat.eq_of_beq_eq_true hok
      subst hl
      exact zs_ld hC hR hE h (fun v w ht hv hg kk => by
        rcases v with x | x | x | x <;> first | (cases ht; done) | skip
        obtain ⟨rfl, -⟩ := hv
        exact lv_lload hx hb hdec hg kk)
    | aload_n k =>
      have hl : len = 1 := Nat.eq_of_beq_eq_true hok
      subst hl
      exact zs_ld hC hR hE h (fun v w ht hv hg kk => by
        rcases v with x | x | x | x <;> first | (cases ht; done) | skip
        · obtain ⟨a, -, rfl⟩ := hv
          exact lv_aload_n hx hb hdec rfl hg kk
        · have hv : w = .ref (sa x) := hv
          subst hv
          exact lv_aload_n hx hb hdec rfl hg kk)
    | aload k =>
      have hl : len = 2 := Nat.eq_of_beq_eq_true hok
      subst hl
      exact zs_ld hC hR hE h (fun v w ht hv hg kk => by
        rcases v with x | x | x | x <;> first | (cases ht; done) | skip
        · obtain ⟨a, -, rfl⟩ := hv
          exact lv_aload hx hb hdec hg kk
        · have hv : w = .ref (sa x) := hv
          subst hv
          exact lv_aload hx hb hdec hg kk)
    | istore_n k =>
      obtain ⟨rfl, hn⟩ := hlen hok
      exact zs_st1 hC hR hE h (fun x rest kk => lv_istore_n hx hb hdec rfl hR.2.2.2.2.2.2.2.2.2 (Nat.le_of_ble_eq_true hn) rfl kk)
    | istore k =>
      obtain ⟨rfl, hn⟩ := hlen hok
      exact zs_st1 hC hR hE h (fun x rest kk => lv_istore hx hb hdec hR.2.2.2.2.2.2.2.2.2 (Nat.le_of_ble_eq_true hn) rfl kk)
    | lstore_n k =>
      obtain ⟨rfl, hn⟩ := hlen hok
      exact zs_st2 hC hR hE h (fun x rest kk => lv_lstore_n hx hb hdec rfl hR.2.2.2.2.2.2.2.2.2 (Nat.le_of_ble_eq_true hn) rfl kk)
    | lstore k =>
      obtain ⟨rfl, hn⟩ := hlen hok
      exact zs_st2 hC hR hE h (fun x rest kk => lv_lstore hx hb hdec hR.2.2.2.2.2.2.2.2.2 (Nat.le_of_ble_eq_true hn) rfl kk)
    | astore_n k =>
      obtain ⟨rfl, hn⟩ := hlen hok
      exact zs_stA hC hR hE h (fun x rest kk => lv_astore_n hx hb hdec rfl hR.2.2.2.2.2.2.2.2.2 (Nat.le_of_ble_eq_true hn) rfl kk)
    | astore k =>
      obtain ⟨rfl, hn⟩ := hlen hok
      exact zs_stA hC hR hE h (fun x rest kk => lv_astore hx hb hdec hR.2.2.2.2.2.2.2.2.2 (Nat.le_of_ble_eq_true hn) rfl kk)
    | iinc i n =>
      obtain ⟨rfl, hn⟩ := hlen hok
      exact zs_iinc hC hR hE hdec (Nat.le_of_ble_eq_true hn) h
    | iadd =>
      have hl : len = 1 := Nat.eq_of_beq_eq_true hok
      subst hl
      exact zs_op2 hC hR hE h (fun x y _ _ => zin_w _) (fun x y rest _ _ kk => lv_iadd hx hb hdec (by rw [← zo_add]; exact kk))
    | isub =>
      have hl : len = 1 := Nat.eq_of_beq_eq_true hok
      subst hl
      exact zs_op2 hC hR hE h (fun x y _ _ => zin_w _) (fun x y rest _ _ kk => lv_isub hx hb hdec (by rw [← zo_sub]; exact kk))
    | imul =>
      have hl : len = 1 := Nat.eq_of_beq_eq_true hok
      subst hl
      exact zs_op2 hC hR hE h (fun x y _ _ => zin_w _) (fun x y rest _ _ kk => lv_imul hx hb hdec (by rw [← zo_mul]; exact kk))
    | iand =>
      have hl : len = 1 := Nat.eq_of_beq_eq_true hok
      subst hl
      exact zs_op2 hC hR hE h (fun x y _ _ => zin_t _) (fun x y rest _ _ kk => lv_iand hx hb hdec (by rw [zand, zo_tt] at kk; exact kk))
    | ior =>
      have hl : len = 1 := Nat.eq_of_beq_eq_true hok
      subst hl
      exact zs_op2 hC hR hE h (fun x y _ _ => zin_t _) (fun x y rest _ _ kk => lv_ior hx hb hdec (by rw [zor, zo_tt] at kk; exact kk))
    | ixor =>
      have hl : len = 1 := Nat.eq_of_beq_eq_true hok
      subst hl
      exact zs_op2 hC hR hE h (fun x y _ _ => zin_t _) (fun x y rest _ _ kk => lv_ixor hx hb hdec (by rw [zxor, zo_tt] at kk; exact kk))
    | ishl =>
      have hl : len = 1 := Nat.eq_of_beq_eq_true hok
      subst hl
      exact zs_op2 hC hR hE h (fun x y _ _ => zin_t _) (fun x y rest _ _ kk => lv_ishl hx hb hdec (by rw [zshl, zo_tt] at kk; exact kk))
    | ishr =>
      have hl : len = 1 := Nat.eq_of_beq_eq_true hok
      subst hl
      exact zs_op2 hC hR hE h (fun x y _ _ => zin_t _) (fun x y rest _ _ kk => lv_ishr hx hb hdec (by rw [zshr, zo_tt] at kk; exact kk))
    | iushr =>
      have hl : len = 1 := Nat.eq_of_beq_eq_true hok
      subst hl
      exact zs_op2 hC hR hE h (fun x y _ _ => zin_t _) (fun x y rest _ _ kk => lv_iushr hx hb hdec rfl (by rw [zushr, zo_tt] at kk; exact kk))
    | land =>
      have hl : len = 1 := Nat.eq_of_beq_eq_true hok
      subst hl
      exact zs_lop2 hC hR hE h (fun x y _ _ => zin64_t _) (fun x y rest _ _ kk => lv_land hx hb hdec (by rw [zland, Int64.ofInt_toInt] at kk; exact kk))
    | lor =>
      have hl : len = 1 := Nat.eq_of_beq_eq_true hok
      subst hl
      exact zs_lop2 hC hR hE h (fun x y _ _ => zin64_t _) (fun x y rest _ _ kk => lv_lor hx hb hdec (by rw [zlor, Int64.ofInt_toInt] at kk; exact kk))
    | ineg =>
      have hl : len = 1 := Nat.eq_of_beq_eq_true hok
      subst hl
      exact zs_op1 hC hR hE h (gw := fun x => .int (Int32.ofInt (w32 (-x)))) (fun x _ => ⟨rfl, zin_w _⟩) (fun x rest _ kk => lv_ineg hx hb hdec (by rw [zo_neg] at kk; exact kk))
    | i2l =>
      have hl : len = 1 := Nat.eq_of_beq_eq_true hok
      subst hl
      exact zs_op1 hC hR hE h (gw := fun x => .long (Int64.ofInt x)) (fun x hx => ⟨rfl, zin64_of hx⟩) (fun x rest hin kk => lv_i2l hx hb hdec (zo_i2l hin) kk)
    | i2b =>
      have hl : len = 1 := Nat.eq_of_beq_eq_true hok
      subst hl
      exact zs_op1 hC hR hE h (gw := fun x => .int (Int32.ofInt (zi2b x))) (fun x _ => ⟨rfl, zin_t _⟩) (fun x rest _ kk => lv_i2b hx hb hdec (by rw [zi2b, zo_tt]) kk)
    | i2s =>
      have hl : len = 1 := Nat.eq_of_beq_eq_true hok
      subst hl
      exact zs_op1 hC hR hE h (gw := fun x => .int (Int32.ofInt (zi2s x))) (fun x _ => ⟨rfl, zin_t _⟩) (fun x rest _ kk => lv_i2s hx hb hdec (by rw [zi2s, zo_tt]) kk)
    | idiv =>
      have hl : len = 1 := Nat.eq_of_beq_eq_true hok
      subst hl
      have hst := hR.2.2.2.2.2.2.2.1
      rcases st with _ | ⟨y | y | k | t, _ | ⟨x | x | k2 | t2, r⟩⟩ <;> try exact h.elim
      rcases stv with _ | ⟨vy, _ | ⟨vx, rv⟩⟩ <;> try exact hst.elim
      · exact hst.2.elim
      obtain ⟨⟨rfl, hy⟩, ⟨rfl, hxx⟩, hr⟩ := hst
      have h : if y = 0 then False else zSd sc d mi (pc + 1) (zI (w32 (x.tdiv y)) :: r) lv kc ks sh f Q := h
      by_cases hy0 : y = 0
      · rw [if_pos hy0] at h; exact h.elim
      · rw [if_neg hy0] at h
        refine lv_idiv hx hb hdec (zo_ne hy hy0) ?_
        rw [← zo_div hxx hy]
        exact zs_same hC hR hE h ⟨⟨rfl, zin_w _⟩, hr⟩
    | irem =>
      have hl : len = 1 := Nat.eq_of_beq_eq_true hok
      subst hl
      have hst := hR.2.2.2.2.2.2.2.1
      rcases st with _ | ⟨y | y | k | t, _ | ⟨x | x | k2 | t2, r⟩⟩ <;> try exact h.elim
      rcases stv with _ | ⟨vy, _ | ⟨vx, rv⟩⟩ <;> try exact hst.elim
      · exact hst.2.elim
      obtain ⟨⟨rfl, hy⟩, ⟨rfl, hxx⟩, hr⟩ := hst
      have h : if y = 0 then False else zSd sc d mi (pc + 1) (zI (x.tmod y) :: r) lv kc ks sh f Q := h
      by_cases hy0 : y = 0
      · rw [if_pos hy0] at h; exact h.elim
      · rw [if_neg hy0] at h
        refine lv_irem hx hb hdec (zo_ne hy hy0) ?_
        rw [← zo_rem hxx hy]
        exact zs_same hC hR hE h ⟨⟨rfl, zin_rem hxx⟩, hr⟩
    | lshl =>
      have hl : len = 1 := Nat.eq_of_beq_eq_true hok
      subst hl
      have hst := hR.2.2.2.2.2.2.2.1
      rcases st with _ | ⟨y | y | k | t, _ | ⟨x | x | k2 | t2, r⟩⟩ <;> try exact h.elim
      rcases stv with _ | ⟨vy, _ | ⟨vx, rv⟩⟩ <;> try exact hst.elim
      · exact hst.2.elim
      obtain ⟨⟨rfl, hy⟩, ⟨rfl, hxx⟩, hr⟩ := hst
      exact lv_lshl hx hb hdec (v := Int64.ofInt (zlshl x y)) (by rw [zlshl, Int64.ofInt_toInt]) (zs_same hC hR hE h ⟨⟨rfl, zin64_t _⟩, hr⟩)
    | lcmp =>
      have hl : len = 1 := Nat.eq_of_beq_eq_true hok
      subst hl
      have hst := hR.2.2.2.2.2.2.2.1
      rcases st with _ | ⟨y | y | k | t, _ | ⟨x | x | k2 | t2, r⟩⟩ <;> try exact h.elim
      rcases stv with _ | ⟨vy, _ | ⟨vx, rv⟩⟩ <;> try exact hst.elim
      · exact hst.2.elim
      obtain ⟨⟨rfl, hy⟩, ⟨rfl, hxx⟩, hr⟩ := hst
      refine W.lcmp hx hb hdec ?_
      rw [zo_lcmp hxx hy]
      exact zs_same hC hR hE h ⟨⟨rfl, zin_lcmp _ _⟩, hr⟩
    | l2i =>
      have hl : len = 1 := Nat.eq_of_beq_eq_true hok
      subst hl
      have hst := hR.2.2.2.2.2.2.2.1
      rcases st with _ | ⟨x | x | k | t, r⟩ <;> try exact h.elim
      rcases stv with _ | ⟨vx, rv⟩ <;> try exact hst.elim
      obtain ⟨⟨rfl, hxx⟩, hr⟩ := hst
      exact lv_l2i hx hb hdec (zo_l2i hxx) (zs_same hC hR hE h ⟨⟨rfl, zin_w _⟩, hr⟩)
    | pop =>
      have hl : len = 1 := Nat.eq_of_beq_eq_true hok
      subst hl
      have hst := hR.2.2.2.2.2.2.2.1
      rcases st with _ | ⟨v, r⟩ <;> try exact h.elim
      rcases stv with _ | ⟨vx, rv⟩ <;> try exact hst.elim
      obtain ⟨hc, h⟩ := zbif_t h
      exact lv_pop hx hb hdec (by rw [zrv_cat hst.1]; exact Nat.eq_of_beq_eq_true hc) (zs_same hC hR hE h hst.2)
    | pop2 =>
      have hl : len = 1 := Nat.eq_of_beq_eq_true hok
      subst hl
      have hst := hR.2.2.2.2.2.2.2.1
      rcases st with _ | ⟨v, r⟩ <;> try exact h.elim
      rcases stv with _ | ⟨vx, rv⟩ <;> try exact hst.elim
      obtain ⟨hc, h⟩ := zbif_t h
      exact lv_pop2_2 hx hb hdec (by rw [zrv_cat hst.1]; exact Nat.eq_of_beq_eq_true hc) (zs_same hC hR hE h hst.2)
    | dup =>
      have hl : len = 1 := Nat.eq_of_beq_eq_true hok
      subst hl
      have hst := hR.2.2.2.2.2.2.2.1
      rcases st with _ | ⟨v, r⟩ <;> try exact h.elim
      rcases stv with _ | ⟨vx, rv⟩ <;> try exact hst.elim
      obtain ⟨hc, h⟩ := zbif_t h
      exact lv_dup hx hb hdec (by rw [zrv_cat hst.1]; exact Nat.eq_of_beq_eq_true hc) (zs_same hC hR hE h ⟨hst.1, hst.1, hst.2⟩)
    | dup2 =>
      have hl : len = 1 := Nat.eq_of_beq_eq_true hok
      subst hl
      have hst := hR.2.2.2.2.2.2.2.1
      rcases st with _ | ⟨v, _ | ⟨u, r⟩⟩ <;> try exact h.elim
      rcases stv with _ | ⟨vx, _ | ⟨vu, rv⟩⟩ <;> try exact hst.elim
      · exact hst.2.elim
      obtain ⟨hc, h⟩ := zbif_t h
      obtain ⟨hc1, hc2⟩ := zand_t hc
      exact lv_dup2_11 hx hb hdec (by rw [zrv_cat hst.1]; exact Nat.eq_of_beq_eq_true hc1) (by rw [zrv_cat hst.2.1]; exact Nat.eq_of_beq_eq_true hc2) (zs_same hC hR hE h ⟨hst.1, hst.2.1, hst.1, hst.2.1, hst.2.2⟩)
    | goto off =>
      obtain ⟨rfl, ho⟩ := hlen hok
      exact lv_goto hx hb hdec (zofs_ok ho) (zs_same hC hR hE h hR.2.2.2.2.2.2.2.1)
    | ifCond cd off =>
      obtain ⟨rfl, ho⟩ := hlen hok
      exact zs_if hC hR hE hdec ho h
    | if_icmp cd off =>
      obtain ⟨rfl, ho⟩ := hlen hok
      exact zs_icmp hC hR hE hdec ho h
    | tableswitch dflt lo hi offs => exact zs_table hC hR hE hdec hok h
    | lookupswitch dflt ps => exact zs_lookup hC hR hE hdec hok h
    | getfield ix =>
      obtain ⟨rfl, hn⟩ := hlen hok
      exact zs_getf hC hR hE hdec hn h
    | putfield ix =>
      obtain ⟨rfl, hn⟩ := hlen hok
      exact zs_putf hC hR hE hdec hn h
    | getstatic ix =>
      obtain ⟨rfl, hn⟩ := hlen hok
      have hzt := hC.2.2.2.2.2.2.2.2.2.2.2.2
      replace h : match (generalizing := false) en with
        | (1, t, _) => zSd sc d mi (pc + 3) (zS t :: st) lv kc ks sh f Q
        | _ => False := h
      split at h
      next t en' =>
        obtain ⟨ht, hw⟩ := zokG_ok hn
        exact va_gets hx hb (hzt.1.1 t ht) hR.2.2.2.2.2.2.1 hown (hts _ hw) (fun _ h => h) hdec (zs_push (v := zS t) hC hR hE h rfl)
      · exact h.elim
    | invokestatic ix =>
      obtain ⟨rfl, hn⟩ := hlen hok
      exact zs_invoke (Or.inl ⟨rfl, rfl⟩) hC hR hE hdec hn h
    | invokevirtual ix =>
      obtain ⟨rfl, hn⟩ := hlen hok
      exact zs_invoke (Or.inr (Or.inl ⟨rfl, rfl⟩)) hC hR hE hdec hn h
    | invokespecial ix =>
      obtain ⟨rfl, hn⟩ := hlen hok
      exact zs_invoke (Or.inr (Or.inr ⟨rfl, rfl⟩)) hC hR hE hdec hn h
    | new ix =>
      obtain ⟨rfl, hn⟩ := hlen hok
      exact zs_new hC hR hE hdec hn h
    | newarray a =>
      cases a <;> try exact h.elim
      · have hl : len = 2 := Nat.eq_of_beq_eq_true hok
        subst hl
        exact zs_newa (b := false) hC hR hE hdec h
      · have hl : len = 2 := Nat.eq_of_beq_eq_true hok
        subst hl
        exact zs_newa (b := true) hC hR hE hdec h
    | arraylength =>
      have hl : len = 1 := Nat.eq_of_beq_eq_true hok
      subst hl
      exact zs_alen hC hR hE hdec h
    | iaload =>
      have hl : len = 1 := Nat.eq_of_beq_eq_true hok
      subst hl
      exact zs_aload (b := false) hC hR hE hdec h
    | laload =>
      have hl : len = 1 := Nat.eq_of_beq_eq_true hok
      subst hl
      exact zs_aload (b := true) hC hR hE hdec h
    | iastore =>
      have hl : len = 1 := Nat.eq_of_beq_eq_true hok
      subst hl
      exact zs_astore (b := false) hC hR hE hdec h
    | lastore =>
      have hl : len = 1 := Nat.eq_of_beq_eq_true hok
      subst hl
      exact zs_astore (b := true) hC hR hE hdec h
    | ireturn =>
      have hl : len = 1 := Nat.eq_of_beq_eq_true hok
      subst hl
      exact zs_ireturn hR hE hdec h
    | lreturn =>
      have hl : len = 1 := Nat.eq_of_beq_eq_true hok
      subst hl
      exact zs_lreturn hR hE hdec h
    | return_ =>
      have hl : len = 1 := Nat.eq_of_beq_eq_true hok
      subst hl
      exact zs_return hR hE hdec h
    | _ => exact h.elim
theorem zR_sound {sc : zC} {d mi pc : Nat} {st : List zV} {lv : zL} {kc ks : Nat} {sh : zH} {f : zF} {Q : zQ} (h : zR sc d mi pc st lv kc ks sh f Q) : zSd sc d mi pc st lv kc ks sh f Q := h _ zsound
end
