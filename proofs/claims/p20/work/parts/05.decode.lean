/-! decode, by a list of the bytes that follow -/
def zb (b : ByteArray) (p : Nat) : Option Nat := if h : p < b.size then some (b[p].toNat) else none
theorem zu1 {b : ByteArray} {p n : Nat} (h : zb b p = some n) : (Reader.u1 : Decoder Nat) b p = .ok (n, p + 1) := by
  unfold zb at h
  split at h
  next hp =>
    cases h
    show (if h : p < b.size then _ else _ : Reader DecodeError Nat) b p = _
    simp only [dif_pos hp]
    rfl
  · cases h
theorem zu2 {b : ByteArray} {p n m : Nat} (h : zb b p = some n) (h2 : zb b (p + 1) = some m) : (Reader.u2 : Decoder Nat) b p = .ok (n * 256 + m, p + 2) := by
  show ((Reader.u1 : Decoder Nat) b p >>= fun r => ((Reader.u1 : Decoder Nat) b r.2 >>= fun q => Except.ok (r.1 * 256 + q.1, q.2))) = _
  rw [zu1 h]
  show ((Reader.u1 : Decoder Nat) b (p + 1) >>= fun q => Except.ok (n * 256 + q.1, q.2)) = _
  rw [zu1 h2]
  rfl
theorem zd_op {b : ByteArray} {pc n : Nat} {i : Instr} {F : Nat → Decoder Instr} (hF : Decoder.instr pc = Reader.u1 >>= F) (h : zb b pc = some n) {k q : Nat} (hr : F n b (pc + 1) = .ok (i, q)) (hq : q = pc + k) : decode b pc = .ok (i, k) := by
  have e : decode b pc = (Decoder.instr pc b pc >>= fun r => Except.ok (r.1, r.2 - pc)) := rfl
  rw [e, hF]
  have e2 : (Reader.u1 >>= F : Decoder Instr) b pc = ((Reader.u1 : Decoder Nat) b pc >>= fun r => F r.1 b r.2) := rfl
  rw [e2, zu1 h]
  show (F n b (pc + 1) >>= fun r => Except.ok (r.1, r.2 - pc)) = _
  rw [hr, hq]
  show Except.ok (i, pc + k - pc) = _
  rw [Nat.add_sub_cancel_left]
theorem zr_u1 {b : ByteArray} {p n : Nat} (h : zb b p = some n) (I : Nat → Instr) : (Reader.u1 >>= fun x => pure (I x) : Decoder Instr) b p = .ok (I n, p + 1) := by
  show ((Reader.u1 : Decoder Nat) b p >>= fun r => Except.ok (I r.1, r.2)) = _
  rw [zu1 h]; rfl
theorem zs1 {b : ByteArray} {p n : Nat} (h : zb b p = some n) : (Reader.s1 : Decoder Int) b p = .ok (Reader.signed 8 n, p + 1) := by
  have e : (Reader.s1 : Decoder Int) = (Reader.u1 >>= fun x => pure (Reader.signed 8 x)) := map_eq_pure_bind _ _
  rw [e]
  show ((Reader.u1 : Decoder Nat) b p >>= fun r => Except.ok (Reader.signed 8 r.1, r.2)) = _
  rw [zu1 h]; rfl
theorem zs2 {b : ByteArray} {p n m : Nat} (h : zb b p = some n) (h2 : zb b (p + 1) = some m) : (Reader.s2 : Decoder Int) b p = .ok (Reader.signed 16 (n * 256 + m), p + 2) := by
  have e : (Reader.s2 : Decoder Int) = (Reader.u2 >>= fun x => pure (Reader.signed 16 x)) := map_eq_pure_bind _ _
  rw [e]
  show ((Reader.u2 : Decoder Nat) b p >>= fun r => Except.ok (Reader.signed 16 r.1, r.2)) = _
  rw [zu2 h h2]; rfl
theorem zr_s1 {b : ByteArray} {p n : Nat} (h : zb b p = some n) (I : Int → Instr) : (Reader.s1 >>= fun x => pure (I x) : Decoder Instr) b p = .ok (I (Reader.signed 8 n), p + 1) := by
  show ((Reader.s1 : Decoder Int) b p >>= fun r => Except.ok (I r.1, r.2)) = _
  rw [zs1 h]; rfl
theorem zr_u2 {b : ByteArray} {p n m : Nat} (h : zb b p = some n) (h2 : zb b (p + 1) = some m) (I : Nat → Instr) : (Reader.u2 >>= fun x => pure (I x) : Decoder Instr) b p = .ok (I (n * 256 + m), p + 2) := by
  show ((Reader.u2 : Decoder Nat) b p >>= fun r => Except.ok (I r.1, r.2)) = _
  rw [zu2 h h2]; rfl
theorem zr_s2 {b : ByteArray} {p n m : Nat} (h : zb b p = some n) (h2 : zb b (p + 1) = some m) (I : Int → Instr) : (Reader.s2 >>= fun x => pure (I x) : Decoder Instr) b p = .ok (I (Reader.signed 16 (n * 256 + m)), p + 2) := by
  show ((Reader.s2 : Decoder Int) b p >>= fun r => Except.ok (I r.1, r.2)) = _
  rw [zs2 h h2]; rfl
theorem zr_u1s1 {b : ByteArray} {p n m : Nat} (h : zb b p = some n) (h2 : zb b (p + 1) = some m) (I : Nat → Int → Instr) : (Reader.u1 >>= fun x => Reader.s1 >>= fun y => pure (I x y) : Decoder Instr) b p = .ok (I n (Reader.signed 8 m), p + 2) := by
  show ((Reader.u1 : Decoder Nat) b p >>= fun r => ((Reader.s1 : Decoder Int) b r.2 >>= fun q => Except.ok (I r.1 q.1, q.2))) = _
  rw [zu1 h]
  show ((Reader.s1 : Decoder Int) b (p + 1) >>= fun q => Except.ok (I n q.1, q.2)) = _
  rw [zs1 h2]; rfl
theorem zr_na {b : ByteArray} {p n : Nat} {i : Instr} {G : Nat → Decoder Instr} (h : zb b p = some n) (hG : ∀ q, G n b q = .ok (i, q)) : (Reader.u1 >>= G : Decoder Instr) b p = .ok (i, p + 1) := by
  show ((Reader.u1 : Decoder Nat) b p >>= fun r => G r.1 b r.2) = _
  rw [zu1 h]
  exact hG _

theorem zd_2 {b : ByteArray} {pc : Nat} (h : zb b pc = some 2) : decode b pc = .ok ((.iconst (-1)), 1) := zd_op (q := pc + 1) rfl h rfl rfl
theorem zd_3 {b : ByteArray} {pc : Nat} (h : zb b pc = some 3) : decode b pc = .ok ((.iconst 0), 1) := zd_op (q := pc + 1) rfl h rfl rfl
theorem zd_4 {b : ByteArray} {pc : Nat} (h : zb b pc = some 4) : decode b pc = .ok ((.iconst 1), 1) := zd_op (q := pc + 1) rfl h rfl rfl
theorem zd_5 {b : ByteArray} {pc : Nat} (h : zb b pc = some 5) : decode b pc = .ok ((.iconst 2), 1) := zd_op (q := pc + 1) rfl h rfl rfl
theorem zd_6 {b : ByteArray} {pc : Nat} (h : zb b pc = some 6) : decode b pc = .ok ((.iconst 3), 1) := zd_op (q := pc + 1) rfl h rfl rfl
theorem zd_7 {b : ByteArray} {pc : Nat} (h : zb b pc = some 7) : decode b pc = .ok ((.iconst 4), 1) := zd_op (q := pc + 1) rfl h rfl rfl
theorem zd_8 {b : ByteArray} {pc : Nat} (h : zb b pc = some 8) : decode b pc = .ok ((.iconst 5), 1) := zd_op (q := pc + 1) rfl h rfl rfl
theorem zd_9 {b : ByteArray} {pc : Nat} (h : zb b pc = some 9) : decode b pc = .ok ((.lconst 0), 1) := zd_op (q := pc + 1) rfl h rfl rfl
theorem zd_10 {b : ByteArray} {pc : Nat} (h : zb b pc = some 10) : decode b pc = .ok ((.lconst 1), 1) := zd_op (q := pc + 1) rfl h rfl rfl
theorem zd_16 {b : ByteArray} {pc : Nat} (h : zb b pc = some 16) {x : Nat} (h1 : zb b (pc + 1) = some x) : decode b pc = .ok ((.bipush (Reader.signed 8 x)), 2) := zd_op (q := pc + 2) rfl h (zr_s1 h1 (fun x => (.bipush x))) rfl
theorem zd_17 {b : ByteArray} {pc : Nat} (h : zb b pc = some 17) {x y : Nat} (h1 : zb b (pc + 1) = some x) (h2 : zb b (pc + 2) = some y) : decode b pc = .ok ((.sipush (Reader.signed 16 (x * 256 + y))), 3) := zd_op (q := pc + 3) rfl h (zr_s2 h1 h2 (fun x => (.sipush x))) rfl
theorem zd_18 {b : ByteArray} {pc : Nat} (h : zb b pc = some 18) {x : Nat} (h1 : zb b (pc + 1) = some x) : decode b pc = .ok ((.ldc x), 2) := zd_op (q := pc + 2) rfl h (zr_u1 h1 (fun x => (.ldc x))) rfl
theorem zd_19 {b : ByteArray} {pc : Nat} (h : zb b pc = some 19) {x y : Nat} (h1 : zb b (pc + 1) = some x) (h2 : zb b (pc + 2) = some y) : decode b pc = .ok ((.ldc_w (x * 256 + y)), 3) := zd_op (q := pc + 3) rfl h (zr_u2 h1 h2 (fun x => (.ldc_w x))) rfl
theorem zd_20 {b : ByteArray} {pc : Nat} (h : zb b pc = some 20) {x y : Nat} (h1 : zb b (pc + 1) = some x) (h2 : zb b (pc + 2) = some y) : decode b pc = .ok ((.ldc2_w (x * 256 + y)), 3) := zd_op (q := pc + 3) rfl h (zr_u2 h1 h2 (fun x => (.ldc2_w x))) rfl
theorem zd_21 {b : ByteArray} {pc : Nat} (h : zb b pc = some 21) {x : Nat} (h1 : zb b (pc + 1) = some x) : decode b pc = .ok ((.iload x), 2) := zd_op (q := pc + 2) rfl h (zr_u1 h1 (fun x => (.iload x))) rfl
theorem zd_22 {b : ByteArray} {pc : Nat} (h : zb b pc = some 22) {x : Nat} (h1 : zb b (pc + 1) = some x) : decode b pc = .ok ((.lload x), 2) := zd_op (q := pc + 2) rfl h (zr_u1 h1 (fun x => (.lload x))) rfl
theorem zd_25 {b : ByteArray} {pc : Nat} (h : zb b pc = some 25) {x : Nat} (h1 : zb b (pc + 1) = some x) : decode b pc = .ok ((.aload x), 2) := zd_op (q := pc + 2) rfl h (zr_u1 h1 (fun x => (.aload x))) rfl
theorem zd_26 {b : ByteArray} {pc : Nat} (h : zb b pc = some 26) : decode b pc = .ok ((.iload_n 0), 1) := zd_op (q := pc + 1) rfl h rfl rfl
theorem zd_27 {b : ByteArray} {pc : Nat} (h : zb b pc = some 27) : decode b pc = .ok ((.iload_n 1), 1) := zd_op (q := pc + 1) rfl h rfl rfl
theorem zd_28 {b : ByteArray} {pc : Nat} (h : zb b pc = some 28) : decode b pc = .ok ((.iload_n 2), 1) := zd_op (q := pc + 1) rfl h rfl rfl
theorem zd_29 {b : ByteArray} {pc : Nat} (h : zb b pc = some 29) : decode b pc = .ok ((.iload_n 3), 1) := zd_op (q := pc + 1) rfl h rfl rfl
theorem zd_30 {b : ByteArray} {pc : Nat} (h : zb b pc = some 30) : decode b pc = .ok ((.lload_n 0), 1) := zd_op (q := pc + 1) rfl h rfl rfl
theorem zd_31 {b : ByteArray} {pc : Nat} (h : zb b pc = some 31) : decode b pc = .ok ((.lload_n 1), 1) := zd_op (q := pc + 1) rfl h rfl rfl
theorem zd_32 {b : ByteArray} {pc : Nat} (h : zb b pc = some 32) : decode b pc = .ok ((.lload_n 2), 1) := zd_op (q := pc + 1) rfl h rfl rfl
theorem zd_33 {b : ByteArray} {pc : Nat} (h : zb b pc = some 33) : decode b pc = .ok ((.lload_n 3), 1) := zd_op (q := pc + 1) rfl h rfl rfl
theorem zd_42 {b : ByteArray} {pc : Nat} (h : zb b pc = some 42) : decode b pc = .ok ((.aload_n 0), 1) := zd_op (q := pc + 1) rfl h rfl rfl
theorem zd_43 {b : ByteArray} {pc : Nat} (h : zb b pc = some 43) : decode b pc = .ok ((.aload_n 1), 1) := zd_op (q := pc + 1) rfl h rfl rfl
theorem zd_44 {b : ByteArray} {pc : Nat} (h : zb b pc = some 44) : decode b pc = .ok ((.aload_n 2), 1) := zd_op (q := pc + 1) rfl h rfl rfl
theorem zd_45 {b : ByteArray} {pc : Nat} (h : zb b pc = some 45) : decode b pc = .ok ((.aload_n 3), 1) := zd_op (q := pc + 1) rfl h rfl rfl
theorem zd_46 {b : ByteArray} {pc : Nat} (h : zb b pc = some 46) : decode b pc = .ok (.iaload, 1) := zd_op (q := pc + 1) rfl h rfl rfl
theorem zd_47 {b : ByteArray} {pc : Nat} (h : zb b pc = some 47) : decode b pc = .ok (.laload, 1) := zd_op (q := pc + 1) rfl h rfl rfl
theorem zd_54 {b : ByteArray} {pc : Nat} (h : zb b pc = some 54) {x : Nat} (h1 : zb b (pc + 1) = some x) : decode b pc = .ok ((.istore x), 2) := zd_op (q := pc + 2) rfl h (zr_u1 h1 (fun x => (.istore x))) rfl
theorem zd_55 {b : ByteArray} {pc : Nat} (h : zb b pc = some 55) {x : Nat} (h1 : zb b (pc + 1) = some x) : decode b pc = .ok ((.lstore x), 2) := zd_op (q := pc + 2) rfl h (zr_u1 h1 (fun x => (.lstore x))) rfl
theorem zd_58 {b : ByteArray} {pc : Nat} (h : zb b pc = some 58) {x : Nat} (h1 : zb b (pc + 1) = some x) : decode b pc = .ok ((.astore x), 2) := zd_op (q := pc + 2) rfl h (zr_u1 h1 (fun x => (.astore x))) rfl
theorem zd_59 {b : ByteArray} {pc : Nat} (h : zb b pc = some 59) : decode b pc = .ok ((.istore_n 0), 1) := zd_op (q := pc + 1) rfl h rfl rfl
theorem zd_60 {b : ByteArray} {pc : Nat} (h : zb b pc = some 60) : decode b pc = .ok ((.istore_n 1), 1) := zd_op (q := pc + 1) rfl h rfl rfl
theorem zd_61 {b : ByteArray} {pc : Nat} (h : zb b pc = some 61) : decode b pc = .ok ((.istore_n 2), 1) := zd_op (q := pc + 1) rfl h rfl rfl
theorem zd_62 {b : ByteArray} {pc : Nat} (h : zb b pc = some 62) : decode b pc = .ok ((.istore_n 3), 1) := zd_op (q := pc + 1) rfl h rfl rfl
theorem zd_63 {b : ByteArray} {pc : Nat} (h : zb b pc = some 63) : decode b pc = .ok ((.lstore_n 0), 1) := zd_op (q := pc + 1) rfl h rfl rfl
theorem zd_64 {b : ByteArray} {pc : Nat} (h : zb b pc = some 64) : decode b pc = .ok ((.lstore_n 1), 1) := zd_op (q := pc + 1) rfl h rfl rfl
theorem zd_65 {b : ByteArray} {pc : Nat} (h : zb b pc = some 65) : decode b pc = .ok ((.lstore_n 2), 1) := zd_op (q := pc + 1) rfl h rfl rfl
theorem zd_66 {b : ByteArray} {pc : Nat} (h : zb b pc = some 66) : decode b pc = .ok ((.lstore_n 3), 1) := zd_op (q := pc + 1) rfl h rfl rfl
theorem zd_75 {b : ByteArray} {pc : Nat} (h : zb b pc = some 75) : decode b pc = .ok ((.astore_n 0), 1) := zd_op (q := pc + 1) rfl h rfl rfl
theorem zd_76 {b : ByteArray} {pc : Nat} (h : zb b pc = some 76) : decode b pc = .ok ((.astore_n 1), 1) := zd_op (q := pc + 1) rfl h rfl rfl
theorem zd_77 {b : ByteArray} {pc : Nat} (h : zb b pc = some 77) : decode b pc = .ok ((.astore_n 2), 1) := zd_op (q := pc + 1) rfl h rfl rfl
theorem zd_78 {b : ByteArray} {pc : Nat} (h : zb b pc = some 78) : decode b pc = .ok ((.astore_n 3), 1) := zd_op (q := pc + 1) rfl h rfl rfl
theorem zd_79 {b : ByteArray} {pc : Nat} (h : zb b pc = some 79) : decode b pc = .ok (.iastore, 1) := zd_op (q := pc + 1) rfl h rfl rfl
theorem zd_80 {b : ByteArray} {pc : Nat} (h : zb b pc = some 80) : decode b pc = .ok (.lastore, 1) := zd_op (q := pc + 1) rfl h rfl rfl
theorem zd_87 {b : ByteArray} {pc : Nat} (h : zb b pc = some 87) : decode b pc = .ok (.pop, 1) := zd_op (q := pc + 1) rfl h rfl rfl
theorem zd_88 {b : ByteArray} {pc : Nat} (h : zb b pc = some 88) : decode b pc = .ok (.pop2, 1) := zd_op (q := pc + 1) rfl h rfl rfl
theorem zd_89 {b : ByteArray} {pc : Nat} (h : zb b pc = some 89) : decode b pc = .ok (.dup, 1) := zd_op (q := pc + 1) rfl h rfl rfl
theorem zd_92 {b : ByteArray} {pc : Nat} (h : zb b pc = some 92) : decode b pc = .ok (.dup2, 1) := zd_op (q := pc + 1) rfl h rfl rfl
theorem zd_96 {b : ByteArray} {pc : Nat} (h : zb b pc = some 96) : decode b pc = .ok (.iadd, 1) := zd_op (q := pc + 1) rfl h rfl rfl
theorem zd_100 {b : ByteArray} {pc : Nat} (h : zb b pc = some 100) : decode b pc = .ok (.isub, 1) := zd_op (q := pc + 1) rfl h rfl rfl
theorem zd_104 {b : ByteArray} {pc : Nat} (h : zb b pc = some 104) : decode b pc = .ok (.imul, 1) := zd_op (q := pc + 1) rfl h rfl rfl
theorem zd_108 {b : ByteArray} {pc : Nat} (h : zb b pc = some 108) : decode b pc = .ok (.idiv, 1) := zd_op (q := pc + 1) rfl h rfl rfl
theorem zd_112 {b : ByteArray} {pc : Nat} (h : zb b pc = some 112) : decode b pc = .ok (.irem, 1) := zd_op (q := pc + 1) rfl h rfl rfl
theorem zd_116 {b : ByteArray} {pc : Nat} (h : zb b pc = some 116) : decode b pc = .ok (.ineg, 1) := zd_op (q := pc + 1) rfl h rfl rfl
theorem zd_120 {b : ByteArray} {pc : Nat} (h : zb b pc = some 120) : decode b pc = .ok (.ishl, 1) := zd_op (q := pc + 1) rfl h rfl rfl
theorem zd_121 {b : ByteArray} {pc : Nat} (h : zb b pc = some 121) : decode b pc = .ok (.lshl, 1) := zd_op (q := pc + 1) rfl h rfl rfl
theorem zd_122 {b : ByteArray} {pc : Nat} (h : zb b pc = some 122) : decode b pc = .ok (.ishr, 1) := zd_op (q := pc + 1) rfl h rfl rfl
theorem zd_124 {b : ByteArray} {pc : Nat} (h : zb b pc = some 124) : decode b pc = .ok (.iushr, 1) := zd_op (q := pc + 1) rfl h rfl rfl
theorem zd_126 {b : ByteArray} {pc : Nat} (h : zb b pc = some 126) : decode b pc = .ok (.iand, 1) := zd_op (q := pc + 1) rfl h rfl rfl
theorem zd_127 {b : ByteArray} {pc : Nat} (h : zb b pc = some 127) : decode b pc = .ok (.land, 1) := zd_op (q := pc + 1) rfl h rfl rfl
theorem zd_128 {b : ByteArray} {pc : Nat} (h : zb b pc = some 128) : decode b pc = .ok (.ior, 1) := zd_op (q := pc + 1) rfl h rfl rfl
theorem zd_129 {b : ByteArray} {pc : Nat} (h : zb b pc = some 129) : decode b pc = .ok (.lor, 1) := zd_op (q := pc + 1) rfl h rfl rfl
theorem zd_130 {b : ByteArray} {pc : Nat} (h : zb b pc = some 130) : decode b pc = .ok (.ixor, 1) := zd_op (q := pc + 1) rfl h rfl rfl
theorem zd_132 {b : ByteArray} {pc : Nat} (h : zb b pc = some 132) {x y : Nat} (h1 : zb b (pc + 1) = some x) (h2 : zb b (pc + 2) = some y) : decode b pc = .ok ((.iinc x (Reader.signed 8 y)), 3) := zd_op (q := pc + 3) rfl h (zr_u1s1 h1 h2 (fun x y => (.iinc x y))) rfl
theorem zd_133 {b : ByteArray} {pc : Nat} (h : zb b pc = some 133) : decode b pc = .ok (.i2l, 1) := zd_op (q := pc + 1) rfl h rfl rfl
theorem zd_136 {b : ByteArray} {pc : Nat} (h : zb b pc = some 136) : decode b pc = .ok (.l2i, 1) := zd_op (q := pc + 1) rfl h rfl rfl
theorem zd_145 {b : ByteArray} {pc : Nat} (h : zb b pc = some 145) : decode b pc = .ok (.i2b, 1) := zd_op (q := pc + 1) rfl h rfl rfl
theorem zd_147 {b : ByteArray} {pc : Nat} (h : zb b pc = some 147) : decode b pc = .ok (.i2s, 1) := zd_op (q := pc + 1) rfl h rfl rfl
theorem zd_148 {b : ByteArray} {pc : Nat} (h : zb b pc = some 148) : decode b pc = .ok (.lcmp, 1) := zd_op (q := pc + 1) rfl h rfl rfl
theorem zd_153 {b : ByteArray} {pc : Nat} (h : zb b pc = some 153) {x y : Nat} (h1 : zb b (pc + 1) = some x) (h2 : zb b (pc + 2) = some y) : decode b pc = .ok ((.ifCond .eq (Reader.signed 16 (x * 256 + y))), 3) := zd_op (q := pc + 3) rfl h (zr_s2 h1 h2 (fun x => (.ifCond .eq x))) rfl
theorem zd_154 {b : ByteArray} {pc : Nat} (h : zb b pc = some 154) {x y : Nat} (h1 : zb b (pc + 1) = some x) (h2 : zb b (pc + 2) = some y) : decode b pc = .ok ((.ifCond .ne (Reader.signed 16 (x * 256 + y))), 3) := zd_op (q := pc + 3) rfl h (zr_s2 h1 h2 (fun x => (.ifCond .ne x))) rfl
theorem zd_155 {b : ByteArray} {pc : Nat} (h : zb b pc = some 155) {x y : Nat} (h1 : zb b (pc + 1) = some x) (h2 : zb b (pc + 2) = some y) : decode b pc = .ok ((.ifCond .lt (Reader.signed 16 (x * 256 + y))), 3) := zd_op (q := pc + 3) rfl h (zr_s2 h1 h2 (fun x => (.ifCond .lt x))) rfl
theorem zd_156 {b : ByteArray} {pc : Nat} (h : zb b pc = some 156) {x y : Nat} (h1 : zb b (pc + 1) = some x) (h2 : zb b (pc + 2) = some y) : decode b pc = .ok ((.ifCond .ge (Reader.signed 16 (x * 256 + y))), 3) := zd_op (q := pc + 3) rfl h (zr_s2 h1 h2 (fun x => (.ifCond .ge x))) rfl
theorem zd_157 {b : ByteArray} {pc : Nat} (h : zb b pc = some 157) {x y : Nat} (h1 : zb b (pc + 1) = some x) (h2 : zb b (pc + 2) = some y) : decode b pc = .ok ((.ifCond .gt (Reader.signed 16 (x * 256 + y))), 3) := zd_op (q := pc + 3) rfl h (zr_s2 h1 h2 (fun x => (.ifCond .gt x))) rfl
theorem zd_158 {b : ByteArray} {pc : Nat} (h : zb b pc = some 158) {x y : Nat} (h1 : zb b (pc + 1) = some x) (h2 : zb b (pc + 2) = some y) : decode b pc = .ok ((.ifCond .le (Reader.signed 16 (x * 256 + y))), 3) := zd_op (q := pc + 3) rfl h (zr_s2 h1 h2 (fun x => (.ifCond .le x))) rfl
theorem zd_159 {b : ByteArray} {pc : Nat} (h : zb b pc = some 159) {x y : Nat} (h1 : zb b (pc + 1) = some x) (h2 : zb b (pc + 2) = some y) : decode b pc = .ok ((.if_icmp .eq (Reader.signed 16 (x * 256 + y))), 3) := zd_op (q := pc + 3) rfl h (zr_s2 h1 h2 (fun x => (.if_icmp .eq x))) rfl
theorem zd_160 {b : ByteArray} {pc : Nat} (h : zb b pc = some 160) {x y : Nat} (h1 : zb b (pc + 1) = some x) (h2 : zb b (pc + 2) = some y) : decode b pc = .ok ((.if_icmp .ne (Reader.signed 16 (x * 256 + y))), 3) := zd_op (q := pc + 3) rfl h (zr_s2 h1 h2 (fun x => (.if_icmp .ne x))) rfl
theorem zd_161 {b : ByteArray} {pc : Nat} (h : zb b pc = some 161) {x y : Nat} (h1 : zb b (pc + 1) = some x) (h2 : zb b (pc + 2) = some y) : decode b pc = .ok ((.if_icmp .lt (Reader.signed 16 (x * 256 + y))), 3) := zd_op (q := pc + 3) rfl h (zr_s2 h1 h2 (fun x => (.if_icmp .lt x))) rfl
theorem zd_162 {b : ByteArray} {pc : Nat} (h : zb b pc = some 162) {x y : Nat} (h1 : zb b (pc + 1) = some x) (h2 : zb b (pc + 2) = some y) : decode b pc = .ok ((.if_icmp .ge (Reader.signed 16 (x * 256 + y))), 3) := zd_op (q := pc + 3) rfl h (zr_s2 h1 h2 (fun x => (.if_icmp .ge x))) rfl
theorem zd_163 {b : ByteArray} {pc : Nat} (h : zb b pc = some 163) {x y : Nat} (h1 : zb b (pc + 1) = some x) (h2 : zb b (pc + 2) = some y) : decode b pc = .ok ((.if_icmp .gt (Reader.signed 16 (x * 256 + y))), 3) := zd_op (q := pc + 3) rfl h (zr_s2 h1 h2 (fun x => (.if_icmp .gt x))) rfl
theorem zd_164 {b : ByteArray} {pc : Nat} (h : zb b pc = some 164) {x y : Nat} (h1 : zb b (pc + 1) = some x) (h2 : zb b (pc + 2) = some y) : decode b pc = .ok ((.if_icmp .le (Reader.signed 16 (x * 256 + y))), 3) := zd_op (q := pc + 3) rfl h (zr_s2 h1 h2 (fun x => (.if_icmp .le x))) rfl
theorem zd_167 {b : ByteArray} {pc : Nat} (h : zb b pc = some 167) {x y : Nat} (h1 : zb b (pc + 1) = some x) (h2 : zb b (pc + 2) = some y) : decode b pc = .ok ((.goto (Reader.signed 16 (x * 256 + y))), 3) := zd_op (q := pc + 3) rfl h (zr_s2 h1 h2 (fun x => (.goto x))) rfl
theorem zd_172 {b : ByteArray} {pc : Nat} (h : zb b pc = some 172) : decode b pc = .ok (.ireturn, 1) := zd_op (q := pc + 1) rfl h rfl rfl
theorem zd_173 {b : ByteArray} {pc : Nat} (h : zb b pc = some 173) : decode b pc = .ok (.lreturn, 1) := zd_op (q := pc + 1) rfl h rfl rfl
theorem zd_177 {b : ByteArray} {pc : Nat} (h : zb b pc = some 177) : decode b pc = .ok (.return_, 1) := zd_op (q := pc + 1) rfl h rfl rfl
theorem zd_178 {b : ByteArray} {pc : Nat} (h : zb b pc = some 178) {x y : Nat} (h1 : zb b (pc + 1) = some x) (h2 : zb b (pc + 2) = some y) : decode b pc = .ok ((.getstatic (x * 256 + y)), 3) := zd_op (q := pc + 3) rfl h (zr_u2 h1 h2 (fun x => (.getstatic x))) rfl
theorem zd_180 {b : ByteArray} {pc : Nat} (h : zb b pc = some 180) {x y : Nat} (h1 : zb b (pc + 1) = some x) (h2 : zb b (pc + 2) = some y) : decode b pc = .ok ((.getfield (x * 256 + y)), 3) := zd_op (q := pc + 3) rfl h (zr_u2 h1 h2 (fun x => (.getfield x))) rfl
theorem zd_181 {b : ByteArray} {pc : Nat} (h : zb b pc = some 181) {x y : Nat} (h1 : zb b (pc + 1) = some x) (h2 : zb b (pc + 2) = some y) : decode b pc = .ok ((.putfield (x * 256 + y)), 3) := zd_op (q := pc + 3) rfl h (zr_u2 h1 h2 (fun x => (.putfield x))) rfl
theorem zd_182 {b : ByteArray} {pc : Nat} (h : zb b pc = some 182) {x y : Nat} (h1 : zb b (pc + 1) = some x) (h2 : zb b (pc + 2) = some y) : decode b pc = .ok ((.invokevirtual (x * 256 + y)), 3) := zd_op (q := pc + 3) rfl h (zr_u2 h1 h2 (fun x => (.invokevirtual x))) rfl
theorem zd_183 {b : ByteArray} {pc : Nat} (h : zb b pc = some 183) {x y : Nat} (h1 : zb b (pc + 1) = some x) (h2 : zb b (pc + 2) = some y) : decode b pc = .ok ((.invokespecial (x * 256 + y)), 3) := zd_op (q := pc + 3) rfl h (zr_u2 h1 h2 (fun x => (.invokespecial x))) rfl
theorem zd_184 {b : ByteArray} {pc : Nat} (h : zb b pc = some 184) {x y : Nat} (h1 : zb b (pc + 1) = some x) (h2 : zb b (pc + 2) = some y) : decode b pc = .ok ((.invokestatic (x * 256 + y)), 3) := zd_op (q := pc + 3) rfl h (zr_u2 h1 h2 (fun x => (.invokestatic x))) rfl
theorem zd_187 {b : ByteArray} {pc : Nat} (h : zb b pc = some 187) {x y : Nat} (h1 : zb b (pc + 1) = some x) (h2 : zb b (pc + 2) = some y) : decode b pc = .ok ((.new (x * 256 + y)), 3) := zd_op (q := pc + 3) rfl h (zr_u2 h1 h2 (fun x => (.new x))) rfl
theorem zd_190 {b : ByteArray} {pc : Nat} (h : zb b pc = some 190) : decode b pc = .ok (.arraylength, 1) := zd_op (q := pc + 1) rfl h rfl rfl
theorem zd_188_10 {b : ByteArray} {pc : Nat} (h : zb b pc = some 188) (h1 : zb b (pc + 1) = some 10) : decode b pc = .ok (.newarray .int, 2) := zd_op (q := pc + 2) rfl h (zr_na h1 (fun _ => rfl)) rfl
theorem zd_188_11 {b : ByteArray} {pc : Nat} (h : zb b pc = some 188) (h1 : zb b (pc + 1) = some 11) : decode b pc = .ok (.newarray .long, 2) := zd_op (q := pc + 2) rfl h (zr_na h1 (fun _ => rfl)) rfl
/-- the instruction that stands at the head of a list of bytes, for the opcodes in use -/
def zh_2 (r : List Nat) : Option (Instr × Nat) := some ((.iconst (-1)), 1)
def zh_3 (r : List Nat) : Option (Instr × Nat) := some ((.iconst 0), 1)
def zh_4 (r : List Nat) : Option (Instr × Nat) := some ((.iconst 1), 1)
def zh_5 (r : List Nat) : Option (Instr × Nat) := some ((.iconst 2), 1)
def zh_6 (r : List Nat) : Option (Instr × Nat) := some ((.iconst 3), 1)
def zh_7 (r : List Nat) : Option (Instr × Nat) := some ((.iconst 4), 1)
def zh_8 (r : List Nat) : Option (Instr × Nat) := some ((.iconst 5), 1)
def zh_9 (r : List Nat) : Option (Instr × Nat) := some ((.lconst 0), 1)
def zh_10 (r : List Nat) : Option (Instr × Nat) := some ((.lconst 1), 1)
def zh_16 (r : List Nat) : Option (Instr × Nat) := match r with | x :: _ => some ((.bipush (Reader.signed 8 x)), 2) | _ => none
def zh_17 (r : List Nat) : Option (Instr × Nat) := match r with | x :: y :: _ => some ((.sipush (Reader.signed 16 (x * 256 + y))), 3) | _ => none
def zh_18 (r : List Nat) : Option (Instr × Nat) := match r with | x :: _ => some ((.ldc x), 2) | _ => none
def zh_19 (r : List Nat) : Option (Instr × Nat) := match r with | x :: y :: _ => some ((.ldc_w (x * 256 + y)), 3) | _ => none
def zh_20 (r : List Nat) : Option (Instr × Nat) := match r with | x :: y :: _ => some ((.ldc2_w (x * 256 + y)), 3) | _ => none
def zh_21 (r : List Nat) : Option (Instr × Nat) := match r with | x :: _ => some ((.iload x), 2) | _ => none
def zh_22 (r : List Nat) : Option (Instr × Nat) := match r with | x :: _ => some ((.lload x), 2) | _ => none
def zh_25 (r : List Nat) : Option (Instr × Nat) := match r with | x :: _ => some ((.aload x), 2) | _ => none
def zh_26 (r : List Nat) : Option (Instr × Nat) := some ((.iload_n 0), 1)
def zh_27 (r : List Nat) : Option (Instr × Nat) := some ((.iload_n 1), 1)
def zh_28 (r : List Nat) : Option (Instr × Nat) := some ((.iload_n 2), 1)
def zh_29 (r : List Nat) : Option (Instr × Nat) := some ((.iload_n 3), 1)
def zh_30 (r : List Nat) : Option (Instr × Nat) := some ((.lload_n 0), 1)
def zh_31 (r : List Nat) : Option (Instr × Nat) := some ((.lload_n 1), 1)
def zh_32 (r : List Nat) : Option (Instr × Nat) := some ((.lload_n 2), 1)
def zh_33 (r : List Nat) : Option (Instr × Nat) := some ((.lload_n 3), 1)
def zh_42 (r : List Nat) : Option (Instr × Nat) := some ((.aload_n 0), 1)
def zh_43 (r : List Nat) : Option (Instr × Nat) := some ((.aload_n 1), 1)
def zh_44 (r : List Nat) : Option (Instr × Nat) := some ((.aload_n 2), 1)
def zh_45 (r : List Nat) : Option (Instr × Nat) := some ((.aload_n 3), 1)
def zh_46 (r : List Nat) : Option (Instr × Nat) := some (.iaload, 1)
def zh_47 (r : List Nat) : Option (Instr × Nat) := some (.laload, 1)
def zh_54 (r : List Nat) : Option (Instr × Nat) := match r with | x :: _ => some ((.istore x), 2) | _ => none
def zh_55 (r : List Nat) : Option (Instr × Nat) := match r with | x :: _ => some ((.lstore x), 2) | _ => none
def zh_58 (r : List Nat) : Option (Instr × Nat) := match r with | x :: _ => some ((.astore x), 2) | _ => none
def zh_59 (r : List Nat) : Option (Instr × Nat) := some ((.istore_n 0), 1)
def zh_60 (r : List Nat) : Option (Instr × Nat) := some ((.istore_n 1), 1)
def zh_61 (r : List Nat) : Option (Instr × Nat) := some ((.istore_n 2), 1)
def zh_62 (r : List Nat) : Option (Instr × Nat) := some ((.istore_n 3), 1)
def zh_63 (r : List Nat) : Option (Instr × Nat) := some ((.lstore_n 0), 1)
def zh_64 (r : List Nat) : Option (Instr × Nat) := some ((.lstore_n 1), 1)
def zh_65 (r : List Nat) : Option (Instr × Nat) := some ((.lstore_n 2), 1)
def zh_66 (r : List Nat) : Option (Instr × Nat) := some ((.lstore_n 3), 1)
def zh_75 (r : List Nat) : Option (Instr × Nat) := some ((.astore_n 0), 1)
def zh_76 (r : List Nat) : Option (Instr × Nat) := some ((.astore_n 1), 1)
def zh_77 (r : List Nat) : Option (Instr × Nat) := some ((.astore_n 2), 1)
def zh_78 (r : List Nat) : Option (Instr × Nat) := some ((.astore_n 3), 1)
def zh_79 (r : List Nat) : Option (Instr × Nat) := some (.iastore, 1)
def zh_80 (r : List Nat) : Option (Instr × Nat) := some (.lastore, 1)
def zh_87 (r : List Nat) : Option (Instr × Nat) := some (.pop, 1)
def zh_88 (r : List Nat) : Option (Instr × Nat) := some (.pop2, 1)
def zh_89 (r : List Nat) : Option (Instr × Nat) := some (.dup, 1)
def zh_92 (r : List Nat) : Option (Instr × Nat) := some (.dup2, 1)
def zh_96 (r : List Nat) : Option (Instr × Nat) := some (.iadd, 1)
def zh_100 (r : List Nat) : Option (Instr × Nat) := some (.isub, 1)
def zh_104 (r : List Nat) : Option (Instr × Nat) := some (.imul, 1)
def zh_108 (r : List Nat) : Option (Instr × Nat) := some (.idiv, 1)
def zh_112 (r : List Nat) : Option (Instr × Nat) := some (.irem, 1)
def zh_116 (r : List Nat) : Option (Instr × Nat) := some (.ineg, 1)
def zh_120 (r : List Nat) : Option (Instr × Nat) := some (.ishl, 1)
def zh_121 (r : List Nat) : Option (Instr × Nat) := some (.lshl, 1)
def zh_122 (r : List Nat) : Option (Instr × Nat) := some (.ishr, 1)
def zh_124 (r : List Nat) : Option (Instr × Nat) := some (.iushr, 1)
def zh_126 (r : List Nat) : Option (Instr × Nat) := some (.iand, 1)
def zh_127 (r : List Nat) : Option (Instr × Nat) := some (.land, 1)
def zh_128 (r : List Nat) : Option (Instr × Nat) := some (.ior, 1)
def zh_129 (r : List Nat) : Option (Instr × Nat) := some (.lor, 1)
def zh_130 (r : List Nat) : Option (Instr × Nat) := some (.ixor, 1)
def zh_132 (r : List Nat) : Option (Instr × Nat) := match r with | x :: y :: _ => some ((.iinc x (Reader.signed 8 y)), 3) | _ => none
def zh_133 (r : List Nat) : Option (Instr × Nat) := some (.i2l, 1)
def zh_136 (r : List Nat) : Option (Instr × Nat) := some (.l2i, 1)
def zh_145 (r : List Nat) : Option (Instr × Nat) := some (.i2b, 1)
def zh_147 (r : List Nat) : Option (Instr × Nat) := some (.i2s, 1)
def zh_148 (r : List Nat) : Option (Instr × Nat) := some (.lcmp, 1)
def zh_153 (r : List Nat) : Option (Instr × Nat) := match r with | x :: y :: _ => some ((.ifCond .eq (Reader.signed 16 (x * 256 + y))), 3) | _ => none
def zh_154 (r : List Nat) : Option (Instr × Nat) := match r with | x :: y :: _ => some ((.ifCond .ne (Reader.signed 16 (x * 256 + y))), 3) | _ => none
def zh_155 (r : List Nat) : Option (Instr × Nat) := match r with | x :: y :: _ => some ((.ifCond .lt (Reader.signed 16 (x * 256 + y))), 3) | _ => none
def zh_156 (r : List Nat) : Option (Instr × Nat) := match r with | x :: y :: _ => some ((.ifCond .ge (Reader.signed 16 (x * 256 + y))), 3) | _ => none
def zh_157 (r : List Nat) : Option (Instr × Nat) := match r with | x :: y :: _ => some ((.ifCond .gt (Reader.signed 16 (x * 256 + y))), 3) | _ => none
def zh_158 (r : List Nat) : Option (Instr × Nat) := match r with | x :: y :: _ => some ((.ifCond .le (Reader.signed 16 (x * 256 + y))), 3) | _ => none
def zh_159 (r : List Nat) : Option (Instr × Nat) := match r with | x :: y :: _ => some ((.if_icmp .eq (Reader.signed 16 (x * 256 + y))), 3) | _ => none
def zh_160 (r : List Nat) : Option (Instr × Nat) := match r with | x :: y :: _ => some ((.if_icmp .ne (Reader.signed 16 (x * 256 + y))), 3) | _ => none
def zh_161 (r : List Nat) : Option (Instr × Nat) := match r with | x :: y :: _ => some ((.if_icmp .lt (Reader.signed 16 (x * 256 + y))), 3) | _ => none
def zh_162 (r : List Nat) : Option (Instr × Nat) := match r with | x :: y :: _ => some ((.if_icmp .ge (Reader.signed 16 (x * 256 + y))), 3) | _ => none
def zh_163 (r : List Nat) : Option (Instr × Nat) := match r with | x :: y :: _ => some ((.if_icmp .gt (Reader.signed 16 (x * 256 + y))), 3) | _ => none
def zh_164 (r : List Nat) : Option (Instr × Nat) := match r with | x :: y :: _ => some ((.if_icmp .le (Reader.signed 16 (x * 256 + y))), 3) | _ => none
def zh_167 (r : List Nat) : Option (Instr × Nat) := match r with | x :: y :: _ => some ((.goto (Reader.signed 16 (x * 256 + y))), 3) | _ => none
def zh_172 (r : List Nat) : Option (Instr × Nat) := some (.ireturn, 1)
def zh_173 (r : List Nat) : Option (Instr × Nat) := some (.lreturn, 1)
def zh_177 (r : List Nat) : Option (Instr × Nat) := some (.return_, 1)
def zh_178 (r : List Nat) : Option (Instr × Nat) := match r with | x :: y :: _ => some ((.getstatic (x * 256 + y)), 3) | _ => none
def zh_180 (r : List Nat) : Option (Instr × Nat) := match r with | x :: y :: _ => some ((.getfield (x * 256 + y)), 3) | _ => none
def zh_181 (r : List Nat) : Option (Instr × Nat) := match r with | x :: y :: _ => some ((.putfield (x * 256 + y)), 3) | _ => none
def zh_182 (r : List Nat) : Option (Instr × Nat) := match r with | x :: y :: _ => some ((.invokevirtual (x * 256 + y)), 3) | _ => none
def zh_183 (r : List Nat) : Option (Instr × Nat) := match r with | x :: y :: _ => some ((.invokespecial (x * 256 + y)), 3) | _ => none
def zh_184 (r : List Nat) : Option (Instr × Nat) := match r with | x :: y :: _ => some ((.invokestatic (x * 256 + y)), 3) | _ => none
def zh_187 (r : List Nat) : Option (Instr × Nat) := match r with | x :: y :: _ => some ((.new (x * 256 + y)), 3) | _ => none
def zh_188 (r : List Nat) : Option (Instr × Nat) := match r with | x :: _ => (bif Nat.beq x 10 then some (.newarray .int, 2) else bif Nat.beq x 11 then some (.newarray .long, 2) else none) | _ => none
def zh_190 (r : List Nat) : Option (Instr × Nat) := some (.arraylength, 1)
def zdec1 (n : Nat) (r : List Nat) : Option (Instr × Nat) := bif Nat.blt n 88 then (bif Nat.blt n 33 then (bif Nat.blt n 19 then (bif Nat.blt n 8 then (bif Nat.blt n 5 then (bif Nat.blt n 3 then (bif Nat.beq n 2 then (zh_2 r) else none) else (bif Nat.blt n 4 then (bif Nat.beq n 3 then (zh_3 r) else none) else (bif Nat.beq n 4 then (zh_4 r) else none))) else (bif Nat.blt n 6 then (bif Nat.beq n 5 then (zh_5 r) else none) else (bif Nat.blt n 7 then (bif Nat.beq n 6 then (zh_6 r) else none) else (bif Nat.beq n 7 then (zh_7 r) else none)))) else (bif Nat.blt n 16 then (bif Nat.blt n 9 then (bif Nat.beq n 8 then (zh_8 r) else none) else (bif Nat.blt n 10 then (bif Nat.beq n 9 then (zh_9 r) else none) else (bif Nat.beq n 10 then (zh_10 r) else none))) else (bif Nat.blt n 17 then (bif Nat.beq n 16 then (zh_16 r) else none) else (bif Nat.blt n 18 then (bif Nat.beq n 17 then (zh_17 r) else none) else (bif Nat.beq n 18 then (zh_18 r) else none))))) else (bif Nat.blt n 27 then (bif Nat.blt n 22 then (bif Nat.blt n 20 then (bif Nat.beq n 19 then (zh_19 r) else none) else (bif Nat.blt n 21 then (bif Nat.beq n 20 then (zh_20 r) else none) else (bif Nat.beq n 21 then (zh_21 r) else none))) else (bif Nat.blt n 25 then (bif Nat.beq n 22 then (zh_22 r) else none) else (bif Nat.blt n 26 then (bif Nat.beq n 25 then (zh_25 r) else none) else (bif Nat.beq n 26 then (zh_26 r) else none)))) else (bif Nat.blt n 30 then (bif Nat.blt n 28 then (bif Nat.beq n 27 then (zh_27 r) else none) else (bif Nat.blt n 29 then (bif Nat.beq n 28 then (zh_28 r) else none) else (bif Nat.beq n 29 then (zh_29 r) else none))) else (bif Nat.blt n 31 then (bif Nat.beq n 30 then (zh_30 r) else none) else (bif Nat.blt n 32 then (bif Nat.beq n 31 then (zh_31 r) else none) else (bif Nat.beq n 32 then (zh_32 r) else none)))))) else (bif Nat.blt n 61 then (bif Nat.blt n 47 then (bif Nat.blt n 44 then (bif Nat.blt n 42 then (bif Nat.beq n 33 then (zh_33 r) else none) else (bif Nat.blt n 43 then (bif Nat.beq n 42 then (zh_42 r) else none) else (bif Nat.beq n 43 then (zh_43 r) else none))) else (bif Nat.blt n 45 then (bif Nat.beq n 44 then (zh_44 r) else none) else (bif Nat.blt n 46 then (bif Nat.beq n 45 then (zh_45 r) else none) else (bif Nat.beq n 46 then (zh_46 r) else none)))) else (bif Nat.blt n 58 then (bif Nat.blt n 54 then (bif Nat.beq n 47 then (zh_47 r) else none) else (bif Nat.blt n 55 then (bif Nat.beq n 54 then (zh_54 r) else none) else (bif Nat.beq n 55 then (zh_55 r) else none))) else (bif Nat.blt n 59 then (bif Nat.beq n 58 then (zh_58 r) else none) else (bif Nat.blt n 60 then (bif Nat.beq n 59 then (zh_59 r) else none) else (bif Nat.beq n 60 then (zh_60 r) else none))))) else (bif Nat.blt n 75 then (bif Nat.blt n 64 then (bif Nat.blt n 62 then (bif Nat.beq n 61 then (zh_61 r) else none) else (bif Nat.blt n 63 then (bif Nat.beq n 62 then (zh_62 r) else none) else (bif Nat.beq n 63 then (zh_63 r) else none))) else (bif Nat.blt n 65 then (bif Nat.beq n 64 then (zh_64 r) else none) else (bif Nat.blt n 66 then (bif Nat.beq n 65 then (zh_65 r) else none) else (bif Nat.beq n 66 then (zh_66 r) else none)))) else (bif Nat.blt n 78 then (bif Nat.blt n 76 then (bif Nat.beq n 75 then (zh_75 r) else none) else (bif Nat.blt n 77 then (bif Nat.beq n 76 then (zh_76 r) else none) else (bif Nat.beq n 77 then (zh_77 r) else none))) else (bif Nat.blt n 80 then (bif Nat.blt n 79 then (bif Nat.beq n 78 then (zh_78 r) else none) else (bif Nat.beq n 79 then (zh_79 r) else none)) else (bif Nat.blt n 87 then (bif Nat.beq n 80 then (zh_80 r) else none) else (bif Nat.beq n 87 then (zh_87 r) else none))))))) else (bif Nat.blt n 153 then (bif Nat.blt n 124 then (bif Nat.blt n 108 then (bif Nat.blt n 96 then (bif Nat.blt n 89 then (bif Nat.beq n 88 then (zh_88 r) else none) else (bif Nat.blt n 92 then (bif Nat.beq n 89 then (zh_89 r) else none) else (bif Nat.beq n 92 then (zh_92 r) else none))) else (bif Nat.blt n 100 then (bif Nat.beq n 96 then (zh_96 r) else none) else (bif Nat.blt n 104 then (bif Nat.beq n 100 then (zh_100 r) else none) else (bif Nat.beq n 104 then (zh_104 r) else none)))) else (bif Nat.blt n 120 then (bif Nat.blt n 112 then (bif Nat.beq n 108 then (zh_108 r) else none) else (bif Nat.blt n 116 then (bif Nat.beq n 112 then (zh_112 r) else none) else (bif Nat.beq n 116 then (zh_116 r) else none))) else (bif Nat.blt n 121 then (bif Nat.beq n 120 then (zh_120 r) else none) else (bif Nat.blt n 122 then (bif Nat.beq n 121 then (zh_121 r) else none) else (bif Nat.beq n 122 then (zh_122 r) else none))))) else (bif Nat.blt n 132 then (bif Nat.blt n 128 then (bif Nat.blt n 126 then (bif Nat.beq n 124 then (zh_124 r) else none) else (bif Nat.blt n 127 then (bif Nat.beq n 126 then (zh_126 r) else none) else (bif Nat.beq n 127 then (zh_127 r) else none))) else (bif Nat.blt n 129 then (bif Nat.beq n 128 then (zh_128 r) else none) else (bif Nat.blt n 130 then (bif Nat.beq n 129 then (zh_129 r) else none) else (bif Nat.beq n 130 then (zh_130 r) else none)))) else (bif Nat.blt n 145 then (bif Nat.blt n 133 then (bif Nat.beq n 132 then (zh_132 r) else none) else (bif Nat.blt n 136 then (bif Nat.beq n 133 then (zh_133 r) else none) else (bif Nat.beq n 136 then (zh_136 r) else none))) else (bif Nat.blt n 147 then (bif Nat.beq n 145 then (zh_145 r) else none) else (bif Nat.blt n 148 then (bif Nat.beq n 147 then (zh_147 r) else none) else (bif Nat.beq n 148 then (zh_148 r) else none)))))) else (bif Nat.blt n 167 then (bif Nat.blt n 159 then (bif Nat.blt n 156 then (bif Nat.blt n 154 then (bif Nat.beq n 153 then (zh_153 r) else none) else (bif Nat.blt n 155 then (bif Nat.beq n 154 then (zh_154 r) else none) else (bif Nat.beq n 155 then (zh_155 r) else none))) else (bif Nat.blt n 157 then (bif Nat.beq n 156 then (zh_156 r) else none) else (bif Nat.blt n 158 then (bif Nat.beq n 157 then (zh_157 r) else none) else (bif Nat.beq n 158 then (zh_158 r) else none)))) else (bif Nat.blt n 162 then (bif Nat.blt n 160 then (bif Nat.beq n 159 then (zh_159 r) else none) else (bif Nat.blt n 161 then (bif Nat.beq n 160 then (zh_160 r) else none) else (bif Nat.beq n 161 then (zh_161 r) else none))) else (bif Nat.blt n 163 then (bif Nat.beq n 162 then (zh_162 r) else none) else (bif Nat.blt n 164 then (bif Nat.beq n 163 then (zh_163 r) else none) else (bif Nat.beq n 164 then (zh_164 r) else none))))) else (bif Nat.blt n 181 then (bif Nat.blt n 177 then (bif Nat.blt n 172 then (bif Nat.beq n 167 then (zh_167 r) else none) else (bif Nat.blt n 173 then (bif Nat.beq n 172 then (zh_172 r) else none) else (bif Nat.beq n 173 then (zh_173 r) else none))) else (bif Nat.blt n 178 then (bif Nat.beq n 177 then (zh_177 r) else none) else (bif Nat.blt n 180 then (bif Nat.beq n 178 then (zh_178 r) else none) else (bif Nat.beq n 180 then (zh_180 r) else none)))) else (bif Nat.blt n 184 then (bif Nat.blt n 182 then (bif Nat.beq n 181 then (zh_181 r) else none) else (bif Nat.blt n 183 then (bif Nat.beq n 182 then (zh_182 r) else none) else (bif Nat.beq n 183 then (zh_183 r) else none))) else (bif Nat.blt n 188 then (bif Nat.blt n 187 then (bif Nat.beq n 184 then (zh_184 r) else none) else (bif Nat.beq n 187 then (zh_187 r) else none)) else (bif Nat.blt n 190 then (bif Nat.beq n 188 then (zh_188 r) else none) else (bif Nat.beq n 190 then (zh_190 r) else none)))))))
def zdec (L : List Nat) : Option (Instr × Nat) := match L with
  | [] => none
  | x :: r => zdec1 x r
theorem zbif {α : Type} {n k : Nat} {x : Option α} {i : α} {P : Prop} (h : (bif Nat.beq n k then x else none) = some i) (g : n = k → x = some i → P) : P := by
  cases hb : Nat.beq n k with
  | true => rw [hb] at h; exact g (Nat.eq_of_beq_eq_true hb) h
  | false => rw [hb] at h; cases h
theorem zbif2' {α : Type} {n k : Nat} {x y : Option α} {i : α} {P : Prop} (h : (bif Nat.beq n k then x else y) = some i) (g : n = k → x = some i → P) (g2 : y = some i → P) : P := by
  cases hb : Nat.beq n k with
  | true => rw [hb] at h; exact g (Nat.eq_of_beq_eq_true hb) h
  | false => rw [hb] at h; exact g2 h
theorem zbif2 {α : Type} {c : Bool} {x y : Option α} {i : α} {P : Prop} (h : (bif c then x else y) = some i) (g : x = some i → P) (g2 : y = some i → P) : P := by
  cases c with
  | true => exact g h
  | false => exact g2 h
def zbs (b : ByteArray) (p : Nat) (r : List Nat) : Prop := ∀ k x, r[k]? = some x → zb b (p + k) = some x
theorem zh_ok_2 {b : ByteArray} {pc : Nat} {r : List Nat} {i : Instr × Nat} (h0 : zb b pc = some 2) (_ : zbs b (pc + 1) r) (h : zh_2 r = some i) : decode b pc = .ok i := by cases h; exact zd_2 h0
theorem zh_ok_3 {b : ByteArray} {pc : Nat} {r : List Nat} {i : Instr × Nat} (h0 : zb b pc = some 3) (_ : zbs b (pc + 1) r) (h : zh_3 r = some i) : decode b pc = .ok i := by cases h; exact zd_3 h0
theorem zh_ok_4 {b : ByteArray} {pc : Nat} {r : List Nat} {i : Instr × Nat} (h0 : zb b pc = some 4) (_ : zbs b (pc + 1) r) (h : zh_4 r = some i) : decode b pc = .ok i := by cases h; exact zd_4 h0
theorem zh_ok_5 {b : ByteArray} {pc : Nat} {r : List Nat} {i : Instr × Nat} (h0 : zb b pc = some 5) (_ : zbs b (pc + 1) r) (h : zh_5 r = some i) : decode b pc = .ok i := by cases h; exact zd_5 h0
theorem zh_ok_6 {b : ByteArray} {pc : Nat} {r : List Nat} {i : Instr × Nat} (h0 : zb b pc = some 6) (_ : zbs b (pc + 1) r) (h : zh_6 r = some i) : decode b pc = .ok i := by cases h; exact zd_6 h0
theorem zh_ok_7 {b : ByteArray} {pc : Nat} {r : List Nat} {i : Instr × Nat} (h0 : zb b pc = some 7) (_ : zbs b (pc + 1) r) (h : zh_7 r = some i) : decode b pc = .ok i := by cases h; exact zd_7 h0
theorem zh_ok_8 {b : ByteArray} {pc : Nat} {r : List Nat} {i : Instr × Nat} (h0 : zb b pc = some 8) (_ : zbs b (pc + 1) r) (h : zh_8 r = some i) : decode b pc = .ok i := by cases h; exact zd_8 h0
theorem zh_ok_9 {b : ByteArray} {pc : Nat} {r : List Nat} {i : Instr × Nat} (h0 : zb b pc = some 9) (_ : zbs b (pc + 1) r) (h : zh_9 r = some i) : decode b pc = .ok i := by cases h; exact zd_9 h0
theorem zh_ok_10 {b : ByteArray} {pc : Nat} {r : List Nat} {i : Instr × Nat} (h0 : zb b pc = some 10) (_ : zbs b (pc + 1) r) (h : zh_10 r = some i) : decode b pc = .ok i := by cases h; exact zd_10 h0
theorem zh_ok_16 {b : ByteArray} {pc : Nat} {r : List Nat} {i : Instr × Nat} (h0 : zb b pc = some 16) (hr : zbs b (pc + 1) r) (h : zh_16 r = some i) : decode b pc = .ok i := by
  unfold zh_16 at h
  split at h
  · cases h; exact zd_16 h0 (hr 0 _ rfl)
  · cases h
theorem zh_ok_17 {b : ByteArray} {pc : Nat} {r : List Nat} {i : Instr × Nat} (h0 : zb b pc = some 17) (hr : zbs b (pc + 1) r) (h : zh_17 r = some i) : decode b pc = .ok i := by
  unfold zh_17 at h
  split at h
  · cases h; exact zd_17 h0 (hr 0 _ rfl) (hr 1 _ rfl)
  · cases h
theorem zh_ok_18 {b : ByteArray} {pc : Nat} {r : List Nat} {i : Instr × Nat} (h0 : zb b pc = some 18) (hr : zbs b (pc + 1) r) (h : zh_18 r = some i) : decode b pc = .ok i := by
  unfold zh_18 at h
  split at h
  · cases h; exact zd_18 h0 (hr 0 _ rfl)
  · cases h
theorem zh_ok_19 {b : ByteArray} {pc : Nat} {r : List Nat} {i : Instr × Nat} (h0 : zb b pc = some 19) (hr : zbs b (pc + 1) r) (h : zh_19 r = some i) : decode b pc = .ok i := by
  unfold zh_19 at h
  split at h
  · cases h; exact zd_19 h0 (hr 0 _ rfl) (hr 1 _ rfl)
  · cases h
theorem zh_ok_20 {b : ByteArray} {pc : Nat} {r : List Nat} {i : Instr × Nat} (h0 : zb b pc = some 20) (hr : zbs b (pc + 1) r) (h : zh_20 r = some i) : decode b pc = .ok i := by
  unfold zh_20 at h
  split at h
  · cases h; exact zd_20 h0 (hr 0 _ rfl) (hr 1 _ rfl)
  · cases h
theorem zh_ok_21 {b : ByteArray} {pc : Nat} {r : List Nat} {i : Instr × Nat} (h0 : zb b pc = some 21) (hr : zbs b (pc + 1) r) (h : zh_21 r = some i) : decode b pc = .ok i := by
  unfold zh_21 at h
  split at h
  · cases h; exact zd_21 h0 (hr 0 _ rfl)
  · cases h
theorem zh_ok_22 {b : ByteArray} {pc : Nat} {r : List Nat} {i : Instr × Nat} (h0 : zb b pc = some 22) (hr : zbs b (pc + 1) r) (h : zh_22 r = some i) : decode b pc = .ok i := by
  unfold zh_22 at h
  split at h
  · cases h; exact zd_22 h0 (hr 0 _ rfl)
  · cases h
theorem zh_ok_25 {b : ByteArray} {pc : Nat} {r : List Nat} {i : Instr × Nat} (h0 : zb b pc = some 25) (hr : zbs b (pc + 1) r) (h : zh_25 r = some i) : decode b pc = .ok i := by
  unfold zh_25 at h
  split at h
  · cases h; exact zd_25 h0 (hr 0 _ rfl)
  · cases h
theorem zh_ok_26 {b : ByteArray} {pc : Nat} {r : List Nat} {i : Instr × Nat} (h0 : zb b pc = some 26) (_ : zbs b (pc + 1) r) (h : zh_26 r = some i) : decode b pc = .ok i := by cases h; exact zd_26 h0
theorem zh_ok_27 {b : ByteArray} {pc : Nat} {r : List Nat} {i : Instr × Nat} (h0 : zb b pc = some 27) (_ : zbs b (pc + 1) r) (h : zh_27 r = some i) : decode b pc = .ok i := by cases h; exact zd_27 h0
theorem zh_ok_28 {b : ByteArray} {pc : Nat} {r : List Nat} {i : Instr × Nat} (h0 : zb b pc = some 28) (_ : zbs b (pc + 1) r) (h : zh_28 r = some i) : decode b pc = .ok i := by cases h; exact zd_28 h0
theorem zh_ok_29 {b : ByteArray} {pc : Nat} {r : List Nat} {i : Instr × Nat} (h0 : zb b pc = some 29) (_ : zbs b (pc + 1) r) (h : zh_29 r = some i) : decode b pc = .ok i := by cases h; exact zd_29 h0
theorem zh_ok_30 {b : ByteArray} {pc : Nat} {r : List Nat} {i : Instr × Nat} (h0 : zb b pc = some 30) (_ : zbs b (pc + 1) r) (h : zh_30 r = some i) : decode b pc = .ok i := by cases h; exact zd_30 h0
theorem zh_ok_31 {b : ByteArray} {pc : Nat} {r : List Nat} {i : Instr × Nat} (h0 : zb b pc = some 31) (_ : zbs b (pc + 1) r) (h : zh_31 r = some i) : decode b pc = .ok i := by cases h; exact zd_31 h0
theorem zh_ok_32 {b : ByteArray} {pc : Nat} {r : List Nat} {i : Instr × Nat} (h0 : zb b pc = some 32) (_ : zbs b (pc + 1) r) (h : zh_32 r = some i) : decode b pc = .ok i := by cases h; exact zd_32 h0
theorem zh_ok_33 {b : ByteArray} {pc : Nat} {r : List Nat} {i : Instr × Nat} (h0 : zb b pc = some 33) (_ : zbs b (pc + 1) r) (h : zh_33 r = some i) : decode b pc = .ok i := by cases h; exact zd_33 h0
theorem zh_ok_42 {b : ByteArray} {pc : Nat} {r : List Nat} {i : Instr × Nat} (h0 : zb b pc = some 42) (_ : zbs b (pc + 1) r) (h : zh_42 r = some i) : decode b pc = .ok i := by cases h; exact zd_42 h0
theorem zh_ok_43 {b : ByteArray} {pc : Nat} {r : List Nat} {i : Instr × Nat} (h0 : zb b pc = some 43) (_ : zbs b (pc + 1) r) (h : zh_43 r = some i) : decode b pc = .ok i := by cases h; exact zd_43 h0
theorem zh_ok_44 {b : ByteArray} {pc : Nat} {r : List Nat} {i : Instr × Nat} (h0 : zb b pc = some 44) (_ : zbs b (pc + 1) r) (h : zh_44 r = some i) : decode b pc = .ok i := by cases h; exact zd_44 h0
theorem zh_ok_45 {b : ByteArray} {pc : Nat} {r : List Nat} {i : Instr × Nat} (h0 : zb b pc = some 45) (_ : zbs b (pc + 1) r) (h : zh_45 r = some i) : decode b pc = .ok i := by cases h; exact zd_45 h0
theorem zh_ok_46 {b : ByteArray} {pc : Nat} {r : List Nat} {i : Instr × Nat} (h0 : zb b pc = some 46) (_ : zbs b (pc + 1) r) (h : zh_46 r = some i) : decode b pc = .ok i := by cases h; exact zd_46 h0
theorem zh_ok_47 {b : ByteArray} {pc : Nat} {r : List Nat} {i : Instr × Nat} (h0 : zb b pc = some 47) (_ : zbs b (pc + 1) r) (h : zh_47 r = some i) : decode b pc = .ok i := by cases h; exact zd_47 h0
theorem zh_ok_54 {b : ByteArray} {pc : Nat} {r : List Nat} {i : Instr × Nat} (h0 : zb b pc = some 54) (hr : zbs b (pc + 1) r) (h : zh_54 r = some i) : decode b pc = .ok i := by
  unfold zh_54 at h
  split at h
  · cases h; exact zd_54 h0 (hr 0 _ rfl)
  · cases h
theorem zh_ok_55 {b : ByteArray} {pc : Nat} {r : List Nat} {i : Instr × Nat} (h0 : zb b pc = some 55) (hr : zbs b (pc + 1) r) (h : zh_55 r = some i) : decode b pc = .ok i := by
  unfold zh_55 at h
  split at h
  · cases h; exact zd_55 h0 (hr 0 _ rfl)
  · cases h
theorem zh_ok_58 {b : ByteArray} {pc : Nat} {r : List Nat} {i : Instr × Nat} (h0 : zb b pc = some 58) (hr : zbs b (pc + 1) r) (h : zh_58 r = some i) : decode b pc = .ok i := by
  unfold zh_58 at h
  split at h
  · cases h; exact zd_58 h0 (hr 0 _ rfl)
  · cases h
theorem zh_ok_59 {b : ByteArray} {pc : Nat} {r : List Nat} {i : Instr × Nat} (h0 : zb b pc = some 59) (_ : zbs b (pc + 1) r) (h : zh_59 r = some i) : decode b pc = .ok i := by cases h; exact zd_59 h0
theorem zh_ok_60 {b : ByteArray} {pc : Nat} {r : List Nat} {i : Instr × Nat} (h0 : zb b pc = some 60) (_ : zbs b (pc + 1) r) (h : zh_60 r = some i) : decode b pc = .ok i := by cases h; exact zd_60 h0
theorem zh_ok_61 {b : ByteArray} {pc : Nat} {r : List Nat} {i : Instr × Nat} (h0 : zb b pc = some 61) (_ : zbs b (pc + 1) r) (h : zh_61 r = some i) : decode b pc = .ok i := by cases h; exact zd_61 h0
theorem zh_ok_62 {b : ByteArray} {pc : Nat} {r : List Nat} {i : Instr × Nat} (h0 : zb b pc = some 62) (_ : zbs b (pc + 1) r) (h : zh_62 r = some i) : decode b pc = .ok i := by cases h; exact zd_62 h0
theorem zh_ok_63 {b : ByteArray} {pc : Nat} {r : List Nat} {i : Instr × Nat} (h0 : zb b pc = some 63) (_ : zbs b (pc + 1) r) (h : zh_63 r = some i) : decode b pc = .ok i := by cases h; exact zd_63 h0
theorem zh_ok_64 {b : ByteArray} {pc : Nat} {r : List Nat} {i : Instr × Nat} (h0 : zb b pc = some 64) (_ : zbs b (pc + 1) r) (h : zh_64 r = some i) : decode b pc = .ok i := by cases h; exact zd_64 h0
theorem zh_ok_65 {b : ByteArray} {pc : Nat} {r : List Nat} {i : Instr × Nat} (h0 : zb b pc = some 65) (_ : zbs b (pc + 1) r) (h : zh_65 r = some i) : decode b pc = .ok i := by cases h; exact zd_65 h0
theorem zh_ok_66 {b : ByteArray} {pc : Nat} {r : List Nat} {i : Instr × Nat} (h0 : zb b pc = some 66) (_ : zbs b (pc + 1) r) (h : zh_66 r = some i) : decode b pc = .ok i := by cases h; exact zd_66 h0
theorem zh_ok_75 {b : ByteArray} {pc : Nat} {r : List Nat} {i : Instr × Nat} (h0 : zb b pc = some 75) (_ : zbs b (pc + 1) r) (h : zh_75 r = some i) : decode b pc = .ok i := by cases h; exact zd_75 h0
theorem zh_ok_76 {b : ByteArray} {pc : Nat} {r : List Nat} {i : Instr × Nat} (h0 : zb b pc = some 76) (_ : zbs b (pc + 1) r) (h : zh_76 r = some i) : decode b pc = .ok i := by cases h; exact zd_76 h0
theorem zh_ok_77 {b : ByteArray} {pc : Nat} {r : List Nat} {i : Instr × Nat} (h0 : zb b pc = some 77) (_ : zbs b (pc + 1) r) (h : zh_77 r = some i) : decode b pc = .ok i := by cases h; exact zd_77 h0
theorem zh_ok_78 {b : ByteArray} {pc : Nat} {r : List Nat} {i : Instr × Nat} (h0 : zb b pc = some 78) (_ : zbs b (pc + 1) r) (h : zh_78 r = some i) : decode b pc = .ok i := by cases h; exact zd_78 h0
theorem zh_ok_79 {b : ByteArray} {pc : Nat} {r : List Nat} {i : Instr × Nat} (h0 : zb b pc = some 79) (_ : zbs b (pc + 1) r) (h : zh_79 r = some i) : decode b pc = .ok i := by cases h; exact zd_79 h0
theorem zh_ok_80 {b : ByteArray} {pc : Nat} {r : List Nat} {i : Instr × Nat} (h0 : zb b pc = some 80) (_ : zbs b (pc + 1) r) (h : zh_80 r = some i) : decode b pc = .ok i := by cases h; exact zd_80 h0
theorem zh_ok_87 {b : ByteArray} {pc : Nat} {r : List Nat} {i : Instr × Nat} (h0 : zb b pc = some 87) (_ : zbs b (pc + 1) r) (h : zh_87 r = some i) : decode b pc = .ok i := by cases h; exact zd_87 h0
theorem zh_ok_88 {b : ByteArray} {pc : Nat} {r : List Nat} {i : Instr × Nat} (h0 : zb b pc = some 88) (_ : zbs b (pc + 1) r) (h : zh_88 r = some i) : decode b pc = .ok i := by cases h; exact zd_88 h0
theorem zh_ok_89 {b : ByteArray} {pc : Nat} {r : List Nat} {i : Instr × Nat} (h0 : zb b pc = some 89) (_ : zbs b (pc + 1) r) (h : zh_89 r = some i) : decode b pc = .ok i := by cases h; exact zd_89 h0
theorem zh_ok_92 {b : ByteArray} {pc : Nat} {r : List Nat} {i : Instr × Nat} (h0 : zb b pc = some 92) (_ : zbs b (pc + 1) r) (h : zh_92 r = some i) : decode b pc = .ok i := by cases h; exact zd_92 h0
theorem zh_ok_96 {b : ByteArray} {pc : Nat} {r : List Nat} {i : Instr × Nat} (h0 : zb b pc = some 96) (_ : zbs b (pc + 1) r) (h : zh_96 r = some i) : decode b pc = .ok i := by cases h; exact zd_96 h0
theorem zh_ok_100 {b : ByteArray} {pc : Nat} {r : List Nat} {i : Instr × Nat} (h0 : zb b pc = some 100) (_ : zbs b (pc + 1) r) (h : zh_100 r = some i) : decode b pc = .ok i := by cases h; exact zd_100 h0
theorem zh_ok_104 {b : ByteArray} {pc : Nat} {r : List Nat} {i : Instr × Nat} (h0 : zb b pc = some 104) (_ : zbs b (pc + 1) r) (h : zh_104 r = some i) : decode b pc = .ok i := by cases h; exact zd_104 h0
theorem zh_ok_108 {b : ByteArray} {pc : Nat} {r : List Nat} {i : Instr × Nat} (h0 : zb b pc = some 108) (_ : zbs b (pc + 1) r) (h : zh_108 r = some i) : decode b pc = .ok i := by cases h; exact zd_108 h0
theorem zh_ok_112 {b : ByteArray} {pc : Nat} {r : List Nat} {i : Instr × Nat} (h0 : zb b pc = some 112) (_ : zbs b (pc + 1) r) (h : zh_112 r = some i) : decode b pc = .ok i := by cases h; exact zd_112 h0
theorem zh_ok_116 {b : ByteArray} {pc : Nat} {r : List Nat} {i : Instr × Nat} (h0 : zb b pc = some 116) (_ : zbs b (pc + 1) r) (h : zh_116 r = some i) : decode b pc = .ok i := by cases h; exact zd_116 h0
theorem zh_ok_120 {b : ByteArray} {pc : Nat} {r : List Nat} {i : Instr × Nat} (h0 : zb b pc = some 120) (_ : zbs b (pc + 1) r) (h : zh_120 r = some i) : decode b pc = .ok i := by cases h; exact zd_120 h0
theorem zh_ok_121 {b : ByteArray} {pc : Nat} {r : List Nat} {i : Instr × Nat} (h0 : zb b pc = some 121) (_ : zbs b (pc + 1) r) (h : zh_121 r = some i) : decode b pc = .ok i := by cases h; exact zd_121 h0
theorem zh_ok_122 {b : ByteArray} {pc : Nat} {r : List Nat} {i : Instr × Nat} (h0 : zb b pc = some 122) (_ : zbs b (pc + 1) r) (h : zh_122 r = some i) : decode b pc = .ok i := by cases h; exact zd_122 h0
theorem zh_ok_124 {b : ByteArray} {pc : Nat} {r : List Nat} {i : Instr × Nat} (h0 : zb b pc = some 124) (_ : zbs b (pc + 1) r) (h : zh_124 r = some i) : decode b pc = .ok i := by cases h; exact zd_124 h0
theorem zh_ok_126 {b : ByteArray} {pc : Nat} {r : List Nat} {i : Instr × Nat} (h0 : zb b pc = some 126) (_ : zbs b (pc + 1) r) (h : zh_126 r = some i) : decode b pc = .ok i := by cases h; exact zd_126 h0
theorem zh_ok_127 {b : ByteArray} {pc : Nat} {r : List Nat} {i : Instr × Nat} (h0 : zb b pc = some 127) (_ : zbs b (pc + 1) r) (h : zh_127 r = some i) : decode b pc = .ok i := by cases h; exact zd_127 h0
theorem zh_ok_128 {b : ByteArray} {pc : Nat} {r : List Nat} {i : Instr × Nat} (h0 : zb b pc = some 128) (_ : zbs b (pc + 1) r) (h : zh_128 r = some i) : decode b pc = .ok i := by cases h; exact zd_128 h0
theorem zh_ok_129 {b : ByteArray} {pc : Nat} {r : List Nat} {i : Instr × Nat} (h0 : zb b pc = some 129) (_ : zbs b (pc + 1) r) (h : zh_129 r = some i) : decode b pc = .ok i := by cases h; exact zd_129 h0
theorem zh_ok_130 {b : ByteArray} {pc : Nat} {r : List Nat} {i : Instr × Nat} (h0 : zb b pc = some 130) (_ : zbs b (pc + 1) r) (h : zh_130 r = some i) : decode b pc = .ok i := by cases h; exact zd_130 h0
theorem zh_ok_132 {b : ByteArray} {pc : Nat} {r : List Nat} {i : Instr × Nat} (h0 : zb b pc = some 132) (hr : zbs b (pc + 1) r) (h : zh_132 r = some i) : decode b pc = .ok i := by
  unfold zh_132 at h
  split at h
  · cases h; exact zd_132 h0 (hr 0 _ rfl) (hr 1 _ rfl)
  · cases h
theorem zh_ok_133 {b : ByteArray} {pc : Nat} {r : List Nat} {i : Instr × Nat} (h0 : zb b pc = some 133) (_ : zbs b (pc + 1) r) (h : zh_133 r = some i) : decode b pc = .ok i := by cases h; exact zd_133 h0
theorem zh_ok_136 {b : ByteArray} {pc : Nat} {r : List Nat} {i : Instr × Nat} (h0 : zb b pc = some 136) (_ : zbs b (pc + 1) r) (h : zh_136 r = some i) : decode b pc = .ok i := by cases h; exact zd_136 h0
theorem zh_ok_145 {b : ByteArray} {pc : Nat} {r : List Nat} {i : Instr × Nat} (h0 : zb b pc = some 145) (_ : zbs b (pc + 1) r) (h : zh_145 r = some i) : decode b pc = .ok i := by cases h; exact zd_145 h0
theorem zh_ok_147 {b : ByteArray} {pc : Nat} {r : List Nat} {i : Instr × Nat} (h0 : zb b pc = some 147) (_ : zbs b (pc + 1) r) (h : zh_147 r = some i) : decode b pc = .ok i := by cases h; exact zd_147 h0
theorem zh_ok_148 {b : ByteArray} {pc : Nat} {r : List Nat} {i : Instr × Nat} (h0 : zb b pc = some 148) (_ : zbs b (pc + 1) r) (h : zh_148 r = some i) : decode b pc = .ok i := by cases h; exact zd_148 h0
theorem zh_ok_153 {b : ByteArray} {pc : Nat} {r : List Nat} {i : Instr × Nat} (h0 : zb b pc = some 153) (hr : zbs b (pc + 1) r) (h : zh_153 r = some i) : decode b pc = .ok i := by
  unfold zh_153 at h
  split at h
  · cases h; exact zd_153 h0 (hr 0 _ rfl) (hr 1 _ rfl)
  · cases h
theorem zh_ok_154 {b : ByteArray} {pc : Nat} {r : List Nat} {i : Instr × Nat} (h0 : zb b pc = some 154) (hr : zbs b (pc + 1) r) (h : zh_154 r = some i) : decode b pc = .ok i := by
  unfold zh_154 at h
  split at h
  · cases h; exact zd_154 h0 (hr 0 _ rfl) (hr 1 _ rfl)
  · cases h
theorem zh_ok_155 {b : ByteArray} {pc : Nat} {r : List Nat} {i : Instr × Nat} (h0 : zb b pc = some 155) (hr : zbs b (pc + 1) r) (h : zh_155 r = some i) : decode b pc = .ok i := by
  unfold zh_155 at h
  split at h
  · cases h; exact zd_155 h0 (hr 0 _ rfl) (hr 1 _ rfl)
  · cases h
theorem zh_ok_156 {b : ByteArray} {pc : Nat} {r : List Nat} {i : Instr × Nat} (h0 : zb b pc = some 156) (hr : zbs b (pc + 1) r) (h : zh_156 r = some i) : decode b pc = .ok i := by
  unfold zh_156 at h
  split at h
  · cases h; exact zd_156 h0 (hr 0 _ rfl) (hr 1 _ rfl)
  · cases h
theorem zh_ok_157 {b : ByteArray} {pc : Nat} {r : List Nat} {i : Instr × Nat} (h0 : zb b pc = some 157) (hr : zbs b (pc + 1) r) (h : zh_157 r = some i) : decode b pc = .ok i := by
  unfold zh_157 at h
  split at h
  · cases h; exact zd_157 h0 (hr 0 _ rfl) (hr 1 _ rfl)
  · cases h
theorem zh_ok_158 {b : ByteArray} {pc : Nat} {r : List Nat} {i : Instr × Nat} (h0 : zb b pc = some 158) (hr : zbs b (pc + 1) r) (h : zh_158 r = some i) : decode b pc = .ok i := by
  unfold zh_158 at h
  split at h
  · cases h; exact zd_158 h0 (hr 0 _ rfl) (hr 1 _ rfl)
  · cases h
theorem zh_ok_159 {b : ByteArray} {pc : Nat} {r : List Nat} {i : Instr × Nat} (h0 : zb b pc = some 159) (hr : zbs b (pc + 1) r) (h : zh_159 r = some i) : decode b pc = .ok i := by
  unfold zh_159 at h
  split at h
  · cases h; exact zd_159 h0 (hr 0 _ rfl) (hr 1 _ rfl)
  · cases h
theorem zh_ok_160 {b : ByteArray} {pc : Nat} {r : List Nat} {i : Instr × Nat} (h0 : zb b pc = some 160) (hr : zbs b (pc + 1) r) (h : zh_160 r = some i) : decode b pc = .ok i := by
  unfold zh_160 at h
  split at h
  · cases h; exact zd_160 h0 (hr 0 _ rfl) (hr 1 _ rfl)
  · cases h
theorem zh_ok_161 {b : ByteArray} {pc : Nat} {r : List Nat} {i : Instr × Nat} (h0 : zb b pc = some 161) (hr : zbs b (pc + 1) r) (h : zh_161 r = some i) : decode b pc = .ok i := by
  unfold zh_161 at h
  split at h
  · cases h; exact zd_161 h0 (hr 0 _ rfl) (hr 1 _ rfl)
  · cases h
theorem zh_ok_162 {b : ByteArray} {pc : Nat} {r : List Nat} {i : Instr × Nat} (h0 : zb b pc = some 162) (hr : zbs b (pc + 1) r) (h : zh_162 r = some i) : decode b pc = .ok i := by
  unfold zh_162 at h
  split at h
  · cases h; exact zd_162 h0 (hr 0 _ rfl) (hr 1 _ rfl)
  · cases h
theorem zh_ok_163 {b : ByteArray} {pc : Nat} {r : List Nat} {i : Instr × Nat} (h0 : zb b pc = some 163) (hr : zbs b (pc + 1) r) (h : zh_163 r = some i) : decode b pc = .ok i := by
  unfold zh_163 at h
  split at h
  · cases h; exact zd_163 h0 (hr 0 _ rfl) (hr 1 _ rfl)
  · cases h
theorem zh_ok_164 {b : ByteArray} {pc : Nat} {r : List Nat} {i : Instr × Nat} (h0 : zb b pc = some 164) (hr : zbs b (pc + 1) r) (h : zh_164 r = some i) : decode b pc = .ok i := by
  unfold zh_164 at h
  split at h
  · cases h; exact zd_164 h0 (hr 0 _ rfl) (hr 1 _ rfl)
  · cases h
theorem zh_ok_167 {b : ByteArray} {pc : Nat} {r : List Nat} {i : Instr × Nat} (h0 : zb b pc = some 167) (hr : zbs b (pc + 1) r) (h : zh_167 r = some i) : decode b pc = .ok i := by
  unfold zh_167 at h
  split at h
  · cases h; exact zd_167 h0 (hr 0 _ rfl) (hr 1 _ rfl)
  · cases h
theorem zh_ok_172 {b : ByteArray} {pc : Nat} {r : List Nat} {i : Instr × Nat} (h0 : zb b pc = some 172) (_ : zbs b (pc + 1) r) (h : zh_172 r = some i) : decode b pc = .ok i := by cases h; exact zd_172 h0
theorem zh_ok_173 {b : ByteArray} {pc : Nat} {r : List Nat} {i : Instr × Nat} (h0 : zb b pc = some 173) (_ : zbs b (pc + 1) r) (h : zh_173 r = some i) : decode b pc = .ok i := by cases h; exact zd_173 h0
theorem zh_ok_177 {b : ByteArray} {pc : Nat} {r : List Nat} {i : Instr × Nat} (h0 : zb b pc = some 177) (_ : zbs b (pc + 1) r) (h : zh_177 r = some i) : decode b pc = .ok i := by cases h; exact zd_177 h0
theorem zh_ok_178 {b : ByteArray} {pc : Nat} {r : List Nat} {i : Instr × Nat} (h0 : zb b pc = some 178) (hr : zbs b (pc + 1) r) (h : zh_178 r = some i) : decode b pc = .ok i := by
  unfold zh_178 at h
  split at h
  · cases h; exact zd_178 h0 (hr 0 _ rfl) (hr 1 _ rfl)
  · cases h
theorem zh_ok_180 {b : ByteArray} {pc : Nat} {r : List Nat} {i : Instr × Nat} (h0 : zb b pc = some 180) (hr : zbs b (pc + 1) r) (h : zh_180 r = some i) : decode b pc = .ok i := by
  unfold zh_180 at h
  split at h
  · cases h; exact zd_180 h0 (hr 0 _ rfl) (hr 1 _ rfl)
  · cases h
theorem zh_ok_181 {b : ByteArray} {pc : Nat} {r : List Nat} {i : Instr × Nat} (h0 : zb b pc = some 181) (hr : zbs b (pc + 1) r) (h : zh_181 r = some i) : decode b pc = .ok i := by
  unfold zh_181 at h
  split at h
  · cases h; exact zd_181 h0 (hr 0 _ rfl) (hr 1 _ rfl)
  · cases h
theorem zh_ok_182 {b : ByteArray} {pc : Nat} {r : List Nat} {i : Instr × Nat} (h0 : zb b pc = some 182) (hr : zbs b (pc + 1) r) (h : zh_182 r = some i) : decode b pc = .ok i := by
  unfold zh_182 at h
  split at h
  · cases h; exact zd_182 h0 (hr 0 _ rfl) (hr 1 _ rfl)
  · cases h
theorem zh_ok_183 {b : ByteArray} {pc : Nat} {r : List Nat} {i : Instr × Nat} (h0 : zb b pc = some 183) (hr : zbs b (pc + 1) r) (h : zh_183 r = some i) : decode b pc = .ok i := by
  unfold zh_183 at h
  split at h
  · cases h; exact zd_183 h0 (hr 0 _ rfl) (hr 1 _ rfl)
  · cases h
theorem zh_ok_184 {b : ByteArray} {pc : Nat} {r : List Nat} {i : Instr × Nat} (h0 : zb b pc = some 184) (hr : zbs b (pc + 1) r) (h : zh_184 r = some i) : decode b pc = .ok i := by
  unfold zh_184 at h
  split at h
  · cases h; exact zd_184 h0 (hr 0 _ rfl) (hr 1 _ rfl)
  · cases h
theorem zh_ok_187 {b : ByteArray} {pc : Nat} {r : List Nat} {i : Instr × Nat} (h0 : zb b pc = some 187) (hr : zbs b (pc + 1) r) (h : zh_187 r = some i) : decode b pc = .ok i := by
  unfold zh_187 at h
  split at h
  · cases h; exact zd_187 h0 (hr 0 _ rfl) (hr 1 _ rfl)
  · cases h
theorem zh_ok_188 {b : ByteArray} {pc : Nat} {r : List Nat} {i : Instr × Nat} (h0 : zb b pc = some 188) (hr : zbs b (pc + 1) r) (h : zh_188 r = some i) : decode b pc = .ok i := by
  unfold zh_188 at h
  split at h
  · next x q =>
    exact zbif2' h (fun e h => by subst e; cases h; exact zd_188_10 h0 (hr 0 _ rfl)) (fun h => zbif h (fun e h => by subst e; cases h; exact zd_188_11 h0 (hr 0 _ rfl)))
  · cases h
theorem zh_ok_190 {b : ByteArray} {pc : Nat} {r : List Nat} {i : Instr × Nat} (h0 : zb b pc = some 190) (_ : zbs b (pc + 1) r) (h : zh_190 r = some i) : decode b pc = .ok i := by cases h; exact zd_190 h0
theorem zdec1_ok {b : ByteArray} {pc n : Nat} {r : List Nat} {i : Instr × Nat} (h0 : zb b pc = some n) (hr : zbs b (pc + 1) r) (h : zdec1 n r = some i) : decode b pc = .ok i := by
  unfold zdec1 at h
  exact zbif2 h (fun h => zbif2 h (fun h => zbif2 h (fun h => zbif2 h (fun h => zbif2 h (fun h => zbif2 h (fun h => zbif h (fun e h => zh_ok_2 (by rw [← e]; exact h0) hr h)) (fun h => zbif2 h (fun h => zbif h (fun e h => zh_ok_3 (by rw [← e]; exact h0) hr h)) (fun h => zbif h (fun e h => zh_ok_4 (by rw [← e]; exact h0) hr h)))) (fun h => zbif2 h (fun h => zbif h (fun e h => zh_ok_5 (by rw [← e]; exact h0) hr h)) (fun h => zbif2 h (fun h => zbif h (fun e h => zh_ok_6 (by rw [← e]; exact h0) hr h)) (fun h => zbif h (fun e h => zh_ok_7 (by rw [← e]; exact h0) hr h))))) (fun h => zbif2 h (fun h => zbif2 h (fun h => zbif h (fun e h => zh_ok_8 (by rw [← e]; exact h0) hr h)) (fun h => zbif2 h (fun h => zbif h (fun e h => zh_ok_9 (by rw [← e]; exact h0) hr h)) (fun h => zbif h (fun e h => zh_ok_10 (by rw [← e]; exact h0) hr h)))) (fun h => zbif2 h (fun h => zbif h (fun e h => zh_ok_16 (by rw [← e]; exact h0) hr h)) (fun h => zbif2 h (fun h => zbif h (fun e h => zh_ok_17 (by rw [← e]; exact h0) hr h)) (fun h => zbif h (fun e h => zh_ok_18 (by rw [← e]; exact h0) hr h)))))) (fun h => zbif2 h (fun h => zbif2 h (fun h => zbif2 h (fun h => zbif h (fun e h => zh_ok_19 (by rw [← e]; exact h0) hr h)) (fun h => zbif2 h (fun h => zbif h (fun e h => zh_ok_20 (by rw [← e]; exact h0) hr h)) (fun h => zbif h (fun e h => zh_ok_21 (by rw [← e]; exact h0) hr h)))) (fun h => zbif2 h (fun h => zbif h (fun e h => zh_ok_22 (by rw [← e]; exact h0) hr h)) (fun h => zbif2 h (fun h => zbif h (fun e h => zh_ok_25 (by rw [← e]; exact h0) hr h)) (fun h => zbif h (fun e h => zh_ok_26 (by rw [← e]; exact h0) hr h))))) (fun h => zbif2 h (fun h => zbif2 h (fun h => zbif h (fun e h => zh_ok_27 (by rw [← e]; exact h0) hr h)) (fun h => zbif2 h (fun h => zbif h (fun e h => zh_ok_28 (by rw [← e]; exact h0) hr h)) (fun h => zbif h (fun e h => zh_ok_29 (by rw [← e]; exact h0) hr h)))) (fun h => zbif2 h (fun h => zbif h (fun e h => zh_ok_30 (by rw [← e]; exact h0) hr h)) (fun h => zbif2 h (fun h => zbif h (fun e h => zh_ok_31 (by rw [← e]; exact h0) hr h)) (fun h => zbif h (fun e h => zh_ok_32 (by rw [← e]; exact h0) hr h))))))) (fun h => zbif2 h (fun h => zbif2 h (fun h => zbif2 h (fun h => zbif2 h (fun h => zbif h (fun e h => zh_ok_33 (by rw [← e]; exact h0) hr h)) (fun h => zbif2 h (fun h => zbif h (fun e h => zh_ok_42 (by rw [← e]; exact h0) hr h)) (fun h => zbif h (fun e h => zh_ok_43 (by rw [← e]; exact h0) hr h)))) (fun h => zbif2 h (fun h => zbif h (fun e h => zh_ok_44 (by rw [← e]; exact h0) hr h)) (fun h => zbif2 h (fun h => zbif h (fun e h => zh_ok_45 (by rw [← e]; exact h0) hr h)) (fun h => zbif h (fun e h => zh_ok_46 (by rw [← e]; exact h0) hr h))))) (fun h => zbif2 h (fun h => zbif2 h (fun h => zbif h (fun e h => zh_ok_47 (by rw [← e]; exact h0) hr h)) (fun h => zbif2 h (fun h => zbif h (fun e h => zh_ok_54 (by rw [← e]; exact h0) hr h)) (fun h => zbif h (fun e h => zh_ok_55 (by rw [← e]; exact h0) hr h)))) (fun h => zbif2 h (fun h => zbif h (fun e h => zh_ok_58 (by rw [← e]; exact h0) hr h)) (fun h => zbif2 h (fun h => zbif h (fun e h => zh_ok_59 (by rw [← e]; exact h0) hr h)) (fun h => zbif h (fun e h => zh_ok_60 (by rw [← e]; exact h0) hr h)))))) (fun h => zbif2 h (fun h => zbif2 h (fun h => zbif2 h (fun h => zbif h (fun e h => zh_ok_61 (by rw [← e]; exact h0) hr h)) (fun h => zbif2 h (fun h => zbif h (fun e h => zh_ok_62 (by rw [← e]; exact h0) hr h)) (fun h => zbif h (fun e h => zh_ok_63 (by rw [← e]; exact h0) hr h)))) (fun h => zbif2 h (fun h => zbif h (fun e h => zh_ok_64 (by rw [← e]; exact h0) hr h)) (fun h => zbif2 h (fun h => zbif h (fun e h => zh_ok_65 (by rw [← e]; exact h0) hr h)) (fun h => zbif h (fun e h => zh_ok_66 (by rw [← e]; exact h0) hr h))))) (fun h => zbif2 h (fun h => zbif2 h (fun h => zbif h (fun e h => zh_ok_75 (by rw [← e]; exact h0) hr h)) (fun h => zbif2 h (fun h => zbif h (fun e h => zh_ok_76 (by rw [← e]; exact h0) hr h)) (fun h => zbif h (fun e h => zh_ok_77 (by rw [← e]; exact h0) hr h)))) (fun h => zbif2 h (fun h => zbif2 h (fun h => zbif h (fun e h => zh_ok_78 (by rw [← e]; exact h0) hr h)) (fun h => zbif h (fun e h => zh_ok_79 (by rw [← e]; exact h0) hr h))) (fun h => zbif2 h (fun h => zbif h (fun e h => zh_ok_80 (by rw [← e]; exact h0) hr h)) (fun h => zbif h (fun e h => zh_ok_87 (by rw [← e]; exact h0) hr h)))))))) (fun h => zbif2 h (fun h => zbif2 h (fun h => zbif2 h (fun h => zbif2 h (fun h => zbif2 h (fun h => zbif h (fun e h => zh_ok_88 (by rw [← e]; exact h0) hr h)) (fun h => zbif2 h (fun h => zbif h (fun e h => zh_ok_89 (by rw [← e]; exact h0) hr h)) (fun h => zbif h (fun e h => zh_ok_92 (by rw [← e]; exact h0) hr h)))) (fun h => zbif2 h (fun h => zbif h (fun e h => zh_ok_96 (by rw [← e]; exact h0) hr h)) (fun h => zbif2 h (fun h => zbif h (fun e h => zh_ok_100 (by rw [← e]; exact h0) hr h)) (fun h => zbif h (fun e h => zh_ok_104 (by rw [← e]; exact h0) hr h))))) (fun h => zbif2 h (fun h => zbif2 h (fun h => zbif h (fun e h => zh_ok_108 (by rw [← e]; exact h0) hr h)) (fun h => zbif2 h (fun h => zbif h (fun e h => zh_ok_112 (by rw [← e]; exact h0) hr h)) (fun h => zbif h (fun e h => zh_ok_116 (by rw [← e]; exact h0) hr h)))) (fun h => zbif2 h (fun h => zbif h (fun e h => zh_ok_120 (by rw [← e]; exact h0) hr h)) (fun h => zbif2 h (fun h => zbif h (fun e h => zh_ok_121 (by rw [← e]; exact h0) hr h)) (fun h => zbif h (fun e h => zh_ok_122 (by rw [← e]; exact h0) hr h)))))) (fun h => zbif2 h (fun h => zbif2 h (fun h => zbif2 h (fun h => zbif h (fun e h => zh_ok_124 (by rw [← e]; exact h0) hr h)) (fun h => zbif2 h (fun h => zbif h (fun e h => zh_ok_126 (by rw [← e]; exact h0) hr h)) (fun h => zbif h (fun e h => zh_ok_127 (by rw [← e]; exact h0) hr h)))) (fun h => zbif2 h (fun h => zbif h (fun e h => zh_ok_128 (by rw [← e]; exact h0) hr h)) (fun h => zbif2 h (fun h => zbif h (fun e h => zh_ok_129 (by rw [← e]; exact h0) hr h)) (fun h => zbif h (fun e h => zh_ok_130 (by rw [← e]; exact h0) hr h))))) (fun h => zbif2 h (fun h => zbif2 h (fun h => zbif h (fun e h => zh_ok_132 (by rw [← e]; exact h0) hr h)) (fun h => zbif2 h (fun h => zbif h (fun e h => zh_ok_133 (by rw [← e]; exact h0) hr h)) (fun h => zbif h (fun e h => zh_ok_136 (by rw [← e]; exact h0) hr h)))) (fun h => zbif2 h (fun h => zbif h (fun e h => zh_ok_145 (by rw [← e]; exact h0) hr h)) (fun h => zbif2 h (fun h => zbif h (fun e h => zh_ok_147 (by rw [← e]; exact h0) hr h)) (fun h => zbif h (fun e h => zh_ok_148 (by rw [← e]; exact h0) hr h))))))) (fun h => zbif2 h (fun h => zbif2 h (fun h => zbif2 h (fun h => zbif2 h (fun h => zbif h (fun e h => zh_ok_153 (by rw [← e]; exact h0) hr h)) (fun h => zbif2 h (fun h => zbif h (fun e h => zh_ok_154 (by rw [← e]; exact h0) hr h)) (fun h => zbif h (fun e h => zh_ok_155 (by rw [← e]; exact h0) hr h)))) (fun h => zbif2 h (fun h => zbif h (fun e h => zh_ok_156 (by rw [← e]; exact h0) hr h)) (fun h => zbif2 h (fun h => zbif h (fun e h => zh_ok_157 (by rw [← e]; exact h0) hr h)) (fun h => zbif h (fun e h => zh_ok_158 (by rw [← e]; exact h0) hr h))))) (fun h => zbif2 h (fun h => zbif2 h (fun h => zbif h (fun e h => zh_ok_159 (by rw [← e]; exact h0) hr h)) (fun h => zbif2 h (fun h => zbif h (fun e h => zh_ok_160 (by rw [← e]; exact h0) hr h)) (fun h => zbif h (fun e h => zh_ok_161 (by rw [← e]; exact h0) hr h)))) (fun h => zbif2 h (fun h => zbif h (fun e h => zh_ok_162 (by rw [← e]; exact h0) hr h)) (fun h => zbif2 h (fun h => zbif h (fun e h => zh_ok_163 (by rw [← e]; exact h0) hr h)) (fun h => zbif h (fun e h => zh_ok_164 (by rw [← e]; exact h0) hr h)))))) (fun h => zbif2 h (fun h => zbif2 h (fun h => zbif2 h (fun h => zbif h (fun e h => zh_ok_167 (by rw [← e]; exact h0) hr h)) (fun h => zbif2 h (fun h => zbif h (fun e h => zh_ok_172 (by rw [← e]; exact h0) hr h)) (fun h => zbif h (fun e h => zh_ok_173 (by rw [← e]; exact h0) hr h)))) (fun h => zbif2 h (fun h => zbif h (fun e h => zh_ok_177 (by rw [← e]; exact h0) hr h)) (fun h => zbif2 h (fun h => zbif h (fun e h => zh_ok_178 (by rw [← e]; exact h0) hr h)) (fun h => zbif h (fun e h => zh_ok_180 (by rw [← e]; exact h0) hr h))))) (fun h => zbif2 h (fun h => zbif2 h (fun h => zbif h (fun e h => zh_ok_181 (by rw [← e]; exact h0) hr h)) (fun h => zbif2 h (fun h => zbif h (fun e h => zh_ok_182 (by rw [← e]; exact h0) hr h)) (fun h => zbif h (fun e h => zh_ok_183 (by rw [← e]; exact h0) hr h)))) (fun h => zbif2 h (fun h => zbif2 h (fun h => zbif h (fun e h => zh_ok_184 (by rw [← e]; exact h0) hr h)) (fun h => zbif h (fun e h => zh_ok_187 (by rw [← e]; exact h0) hr h))) (fun h => zbif2 h (fun h => zbif h (fun e h => zh_ok_188 (by rw [← e]; exact h0) hr h)) (fun h => zbif h (fun e h => zh_ok_190 (by rw [← e]; exact h0) hr h))))))))
theorem zdec_ok {b : ByteArray} {pc : Nat} {L : List Nat} {i : Instr × Nat} (hL : zbs b pc L) (h : zdec L = some i) : decode b pc = .ok i := by
  cases L with
  | nil => cases h
  | cons x r => exact zdec1_ok (hL 0 x rfl) (fun k y hk => by have := hL (k + 1) y (by rw [List.getElem?_cons_succ]; exact hk); rw [show pc + 1 + k = pc + (k + 1) by omega]; exact this) h
theorem zbs_drop {b : ByteArray} {p : Nat} {L : List Nat} (h : zbs b p L) : zbs b (p + 1) L.tail := by
  cases L with
  | nil => exact fun k x hk => by cases hk
  | cons y r => exact fun k x hk => by have := h (k + 1) x (by rw [List.getElem?_cons_succ]; exact hk); rw [show p + 1 + k = p + (k + 1) by omega]; exact this
theorem zbs_all (b : ByteArray) : zbs b 0 (b.data.toList.map UInt8.toNat) := by
  intro k x hk
  rw [List.getElem?_map] at hk
  rw [Nat.zero_add]
  cases hg : b.data.toList[k]? with
  | none => rw [hg] at hk; cases hk
  | some y =>
    rw [hg] at hk
    cases hk
    have hl := (List.getElem?_eq_some_iff.mp hg)
    have hs : k < b.size := by
      have := hl.1
      rw [Array.length_toList] at this
      exact this
    unfold zb
    rw [dif_pos hs]
    have he : b[k] = y := by
      have h2 := hl.2
      rw [Array.getElem_toList] at h2
      exact h2
    rw [he]
