noncomputable section
/-! THE PURE MACHINE: values, cells, one step as a condition on what follows -/
abbrev zV : Type := Int ⊕ (Int ⊕ (Nat ⊕ Nat))
abbrev zI (z : Int) : zV := .inl z
abbrev zJ (z : Int) : zV := .inr (.inl z)
abbrev zP (k : Nat) : zV := .inr (.inr (.inl k))
abbrev zS (t : Nat) : zV := .inr (.inr (.inr t))
abbrev zL : Type := List (Nat × zV)
abbrev zSh : Type := (Nat × List (Nat ⊕ Nat)) ⊕ (Bool × Nat)
abbrev zH : Type := List zSh
abbrev zF : Type := Nat → Nat → Int
abbrev zQ : Type := Option zV → zH → zF → Prop
abbrev zC : Type := Nat × (Nat → Int)
abbrev zPr : Type := Nat → Nat → Nat → List zV → zL → Nat → Nat → zH → zF → zQ → Prop
abbrev zCr : Type := Nat → Nat → zL → zH → zF → zQ → Prop
def zIn (z : Int) : Prop := -2147483648 ≤ z ∧ z ≤ 2147483647
def zIn64 (z : Int) : Prop := -9223372036854775808 ≤ z ∧ z ≤ 9223372036854775807
def w32 (z : Int) : Int := Int.bmod z 4294967296
def zcat : zV → Nat
  | .inr (.inl _) => 2
  | _ => 1
def zty : zV → Nat
  | .inl _ => 0
  | .inr (.inl _) => 1
  | _ => 2
def zget (i : Nat) : zL → Option zV
  | [] => none
  | (k, v) :: l => bif Nat.beq k i then some v else zget i l
def zset1 (i : Nat) (v : zV) (l : zL) : zL := (i, v) :: l.filter (fun q => !(q.1 == i) && !(q.1 + 1 == i && zcat q.2 == 2))
def zset2 (i : Nat) (v : zV) (l : zL) : zL := (i, v) :: l.filter (fun q => !(q.1 == i) && (!(q.1 == i + 1) && !(q.1 + 1 == i && zcat q.2 == 2)))
def zargs : Nat → List zV → zL
  | _, [] => []
  | i, v :: vs => (i, v) :: zargs (if zcat v = 2 then i + 2 else i + 1) vs
def zlen : List zV → Nat
  | [] => 0
  | v :: vs => zcat v + zlen vs
def zcats : List zV → Nat
  | [] => 0
  | v :: vs => zcat v + zcats vs
def zup (f : zF) (k j : Nat) (v : Int) : zF := fun a b => if a = k then (if b = j then v else f a b) else f a b
def zclr (f : zF) (k : Nat) : zF := fun a b => if a = k then 0 else f a b
def zcp (f : zF) (src dst sp dp n : Nat) : zF := fun a b => if a = dst then (if dp ≤ b ∧ b < dp + n then f src (sp + (b - dp)) else f a b) else f a b
def zl_START : List Int := [0, 24, 30, 37, 44, 51, 55, 59]
def zl_LEAST : List Int := [0, 0, 1, 0, -1, 0, 0, 0]
def zl_GREATEST : List Int := [9, 9999, 99, 3, 5, 999, 999, 6]
def zl_ABOVE : List Int := [-1, 0, 0, 2, 1, 3, 0, 4]
def zl_BODIES : List Int := [1, 10, 11, 2, 20, 0, 0, 0, 0, 30, 0, 0, 0, 41, 40, 0, 0, 0, 50, 0, 0, 0, 0, 60, 70, 0, 0, 0, 0, 80, 0, 81]
/-- the tables: five static ones, the script -/
def zTb (sc : zC) (t : Nat) : zC := match t with
  | 0 => (8, fun j => zl_START.getD j 0)
  | 1 => (8, fun j => zl_LEAST.getD j 0)
  | 2 => (8, fun j => zl_GREATEST.getD j 0)
  | 3 => (8, fun j => zl_ABOVE.getD j 0)
  | 4 => (32, fun j => zl_BODIES.getD j 0)
  | 5 => sc
  | _ => (0, fun _ => 0)
def zix (i : Int) (n : Nat) (P : Prop) : Prop := if 0 ≤ i ∧ i < (n : Int) then P else False
def zrB (z : Int) (P : Prop) : Prop := if z = 0 then P else if z = 1 then P else False
def zand (x y : Int) : Int := (Int32.ofInt x &&& Int32.ofInt y).toInt
def zor (x y : Int) : Int := (Int32.ofInt x ||| Int32.ofInt y).toInt
def zxor (x y : Int) : Int := (Int32.ofInt x ^^^ Int32.ofInt y).toInt
def zshl (x y : Int) : Int := (Int32.ofInt x <<< (Int32.ofInt y &&& 31)).toInt
def zshr (x y : Int) : Int := (Int32.ofInt x >>> (Int32.ofInt y &&& 31)).toInt
def zushr (x y : Int) : Int := ((Int32.ofInt x).toUInt32 >>> ((Int32.ofInt y).toUInt32 &&& Int32.toUInt32 31)).toInt32.toInt
def zland (x y : Int) : Int := (Int64.ofInt x &&& Int64.ofInt y).toInt
def zlor (x y : Int) : Int := (Int64.ofInt x ||| Int64.ofInt y).toInt
def zlshl (x y : Int) : Int := (Int64.ofInt x <<< ((Int32.ofInt y).toInt64 &&& 63)).toInt
def zi2b (x : Int) : Int := (Int32.ofInt x).toInt8.toInt32.toInt
def zi2s (x : Int) : Int := (Int32.ofInt x).toInt16.toInt32.toInt
def zlcmp (x y : Int) : Int := if x < y then -1 else if x = y then 0 else 1
def ztg (pc : Nat) (off : Int) : Nat := ((pc : Int) + off).toNat
def zsw (x : Int) (K : Int → Prop) (d : Int) : Int → List Int → Prop
  | _, [] => K d
  | k, o :: os => if x = k then K o else zsw x K d (k + 1) os
def zlk (x : Int) (K : Int → Prop) (d : Int) : List (Int × Int) → Prop
  | [] => K d
  | (a, o) :: os => if x = a then K o else zlk x K d os
def zif (c : ClassFile.Cond) (x y : Int) (A B : Prop) : Prop := match c with
  | .eq => if x = y then A else B
  | .ne => if x = y then B else A
  | .lt => if x < y then A else B
  | .ge => if x < y then B else A
  | .gt => if y < x then A else B
  | .le => if y < x then B else A
/-- what a call's answer may be, by the method's kind -/
def zret (rk : Nat) (a : Bool) (sh : zH) (A B : zQ) : Prop := match rk with
  | 0 => match a with
    | true => ∀ sh f, A none sh f → B none sh f
    | false => ∀ f, A none sh f → B none sh f
  | 1 => match a with
    | true => False
    | false => ∀ z f, zIn z → A (some (zI z)) sh f → B (some (zI z)) sh f
  | 2 => match a with
    | true => False
    | false => ∀ z f, zIn64 z → A (some (zJ z)) sh f → B (some (zJ z)) sh f
  | 3 => match a with
    | true => False
    | false => ∀ z f, (z = 0 ∨ z = 1) → A (some (zI z)) sh f → B (some (zI z)) sh f
  | _ => False
def zDk (ci : Nat) : List (Nat ⊕ Nat) := match zCl[ci]? with
  | some q => (List.range q.2.2).map (fun k => zkd (zTy ci k))
  | none => []
/-- a call: the callee at its entry, then what follows -/
def zgo (C : zCr) (P : zPr) (d mi pc : Nat) (as rest : List zV) (lv : zL) (kc ks : Nat) (sh : zH) (f : zF) (Q : zQ) (j ml : Nat) : Prop := match d with
  | 0 => False
  | d' + 1 => bif Nat.ble (zlen as) ml && Nat.ble (zcats rest) 8 then
      (bif Nat.blt j zNI then
        (bif Nat.blt mi zNI && (Nat.ble (kc + zMc j) (zMc mi) && Nat.ble (ks + zMs j) (zMs mi)) then
          C d' j (zargs 0 as) sh f (fun r sh' f' => P (d' + 1) mi (pc + 3) (r.toList ++ rest) lv (kc + zMc j) (ks + zMs j) sh' f' Q) else False)
      else C d' j (zargs 0 as) sh f (fun r sh' f' => P (d' + 1) mi (pc + 3) (r.toList ++ rest) lv kc ks sh' f' Q)) else False
def zld (P : zPr) (d mi pc : Nat) (st : List zV) (lv : zL) (kc ks : Nat) (sh : zH) (f : zF) (Q : zQ) (len i tk : Nat) : Prop := match zget i lv with
  | some v => bif Nat.beq (zty v) tk then P d mi (pc + len) (v :: st) lv kc ks sh f Q else False
  | none => False
def zinvoke (C : zCr) (P : zPr) (d mi pc : Nat) (st : List zV) (lv : zL) (kc ks : Nat) (sh : zH) (f : zF) (Q : zQ) (e : zE) (virt : Nat) : Prop := match e with
  | (2, j, n, _, ci, ml) => match virt with
    | 0 => bif Nat.ble n st.length then zgo C P d mi pc (st.take n).reverse (st.drop n) lv kc ks sh f Q j ml.toNat else False
    | 1 => match st.drop n with
      | .inr (.inr (.inl c)) :: rest => match sh[c]? with
        | some (.inl (ci', _)) => bif Nat.beq ci' ci && Nat.ble zNI j then zgo C P d mi pc (zP c :: (st.take n).reverse) rest lv kc ks sh f Q j ml.toNat else False
        | _ => False
      | _ => False
    | _ => match st.drop n with
      | .inr (.inr (.inl c)) :: rest => bif Nat.blt j zNI then zgo C P d mi pc (zP c :: (st.take n).reverse) rest lv kc ks sh f Q j ml.toNat else False
      | _ => False
  | (10, j, n, _, _, ml) => match virt with
    | 2 => match st.drop n with
      | .inr (.inr (.inl c)) :: rest => bif Nat.blt j zNI then zgo C P d mi pc (zP c :: (st.take n).reverse) rest lv kc ks sh f Q j ml.toNat else False
      | _ => False
    | _ => False
  | (6, _) => match virt with
    | 2 => match st with
      | .inr (.inr (.inl _)) :: rest => bif Nat.blt 0 d && Nat.ble (zcats rest) 8 then P d mi (pc + 3) rest lv kc ks sh f Q else False
      | _ => False
    | _ => False
  | (7, _) => match virt with
    | 0 => match st with
      | .inl n :: .inl dp :: .inr (.inr (.inl dst)) :: .inl sp :: .inr (.inr (.inl src)) :: rest => match sh[src]? with
        | some (.inr (b0, n0)) => match sh[dst]? with
          | some (.inr (b1, n1)) => bif Nat.blt 0 d && ((b0 == b1) && Nat.ble (zcats rest) 8) then
              (if 0 ≤ sp ∧ 0 ≤ dp ∧ 0 ≤ n ∧ sp + n ≤ (n0 : Int) ∧ dp + n ≤ (n1 : Int) then P d mi (pc + 3) rest lv kc ks sh (zcp f src dst sp.toNat dp.toNat n.toNat) Q else False) else False
          | _ => False
        | _ => False
      | _ => False
    | _ => False
  | (8, _) => match virt with
    | 0 => match st with
      | .inl y :: .inl x :: rest => bif Nat.blt 0 d && Nat.ble (zcats rest) 8 then P d mi (pc + 3) (zI (if x < y then y else x) :: rest) lv kc ks sh f Q else False
      | _ => False
    | _ => False
  | (9, _) => match virt with
    | 0 => match st with
      | .inl y :: .inl x :: rest => bif Nat.blt 0 d && Nat.ble (zcats rest) 8 then P d mi (pc + 3) (zI (if y < x then y else x) :: rest) lv kc ks sh f Q else False
      | _ => False
    | _ => False
  | _ => False
def zop2 (P : zPr) (d mi pc : Nat) (st : List zV) (lv : zL) (kc ks : Nat) (sh : zH) (f : zF) (Q : zQ) (g : Int → Int → Int) : Prop := match st with
  | .inl y :: .inl x :: r => P d mi (pc + 1) (zI (g x y) :: r) lv kc ks sh f Q
  | _ => False
def zlop2 (P : zPr) (d mi pc : Nat) (st : List zV) (lv : zL) (kc ks : Nat) (sh : zH) (f : zF) (Q : zQ) (g : Int → Int → Int) : Prop := match st with
  | .inr (.inl y) :: .inr (.inl x) :: r => P d mi (pc + 1) (zJ (g x y) :: r) lv kc ks sh f Q
  | _ => False
def zop1 (P : zPr) (d mi pc : Nat) (st : List zV) (lv : zL) (kc ks : Nat) (sh : zH) (f : zF) (Q : zQ) (g : Int → zV) : Prop := match st with
  | .inl x :: r => P d mi (pc + 1) (g x :: r) lv kc ks sh f Q
  | _ => False
def zst1 (P : zPr) (d mi pc : Nat) (st : List zV) (lv : zL) (kc ks : Nat) (sh : zH) (f : zF) (Q : zQ) (len i : Nat) : Prop := match st with
  | .inl x :: r => P d mi (pc + len) r (zset1 i (zI x) lv) kc ks sh f Q
  | _ => False
def zst2 (P : zPr) (d mi pc : Nat) (st : List zV) (lv : zL) (kc ks : Nat) (sh : zH) (f : zF) (Q : zQ) (len i : Nat) : Prop := match st with
  | .inr (.inl x) :: r => P d mi (pc + len) r (zset2 i (zJ x) lv) kc ks sh f Q
  | _ => False
def zstA (P : zPr) (d mi pc : Nat) (st : List zV) (lv : zL) (kc ks : Nat) (sh : zH) (f : zF) (Q : zQ) (len i : Nat) : Prop := match st with
  | .inr (.inr (.inl x)) :: r => P d mi (pc + len) r (zset1 i (zP x) lv) kc ks sh f Q
  | _ => False
def zgetf (P : zPr) (d mi pc : Nat) (st : List zV) (lv : zL) (kc ks : Nat) (sh : zH) (f : zF) (Q : zQ) (e : zE) : Prop := match e with
  | (0, ci, k, _, _, _) => match st with
    | .inr (.inr (.inl c)) :: r => match sh[c]? with
      | some (.inl (ci', ks')) => bif Nat.beq ci' ci then (match ks'[k]? with
        | some (.inl c') => P d mi (pc + 3) (zP c' :: r) lv kc ks sh f Q
        | some (.inr 2) => False
        | some (.inr _) => P d mi (pc + 3) (zI (f c k) :: r) lv kc ks sh f Q
        | none => False) else False
      | _ => False
    | _ => False
  | _ => False
def zputf (P : zPr) (d mi pc : Nat) (st : List zV) (lv : zL) (kc ks : Nat) (sh : zH) (f : zF) (Q : zQ) (e : zE) : Prop := match e with
  | (0, ci, k, 0, 0, _) => match st with
    | .inl z :: .inr (.inr (.inl c)) :: r => match sh[c]? with
      | some (.inl (ci', ks')) => bif Nat.beq ci' ci && (ks'[k]? == some (.inr 0)) then P d mi (pc + 3) r lv kc ks sh (zup f c k z) Q else False
      | _ => False
    | _ => False
  | (0, ci, k, 1, 0, _) => match st with
    | .inl z :: .inr (.inr (.inl c)) :: r => match sh[c]? with
      | some (.inl (ci', ks')) => bif Nat.beq ci' ci && (ks'[k]? == some (.inr 1)) then zrB z (P d mi (pc + 3) r lv kc ks sh (zup f c k z) Q) else False
      | _ => False
    | _ => False
  | (0, ci, k, 2, 1, _) => match st with
    | .inr (.inr (.inl v)) :: .inr (.inr (.inl c)) :: r => match sh[c]? with
      | some (.inl (ci', ks')) => bif Nat.beq ci' ci && (Nat.blt k ks'.length && (Nat.blt 0 mi && Nat.blt mi zNI)) then P d mi (pc + 3) r lv kc ks (sh.set c (.inl (ci, ks'.set k (.inl v)))) f Q else False
      | _ => False
    | _ => False
  | _ => False
def znewa (P : zPr) (d mi pc : Nat) (st : List zV) (lv : zL) (kc ks : Nat) (sh : zH) (f : zF) (Q : zQ) (b : Bool) : Prop := match st with
  | .inl n :: r => bif decide (0 ≤ n ∧ n ≤ 100000) && (Nat.blt mi zNI && (Nat.ble (kc + 1) (zMc mi) && Nat.ble (ks + n.toNat) (zMs mi))) then
      P d mi (pc + 2) (zP sh.length :: r) lv (kc + 1) (ks + n.toNat) (sh ++ [.inr (b, n.toNat)]) (zclr f sh.length) Q else False
  | _ => False
def znew (P : zPr) (d mi pc : Nat) (st : List zV) (lv : zL) (kc ks : Nat) (sh : zH) (f : zF) (Q : zQ) (e : zE) : Prop := match e with
  | (3, ci, _) => bif Nat.blt mi zNI && (Nat.ble (kc + 1) (zMc mi) && Nat.ble (ks + (zDk ci).length) (zMs mi)) then
      P d mi (pc + 3) (zP sh.length :: st) lv (kc + 1) (ks + (zDk ci).length) (sh ++ [.inl (ci, zDk ci)]) (zclr f sh.length) Q else False
  | _ => False
def zaload (sc : zC) (P : zPr) (d mi pc : Nat) (st : List zV) (lv : zL) (kc ks : Nat) (sh : zH) (f : zF) (Q : zQ) (b : Bool) : Prop := match st with
  | .inl i :: .inr (.inr (.inl c)) :: r => match sh[c]? with
    | some (.inr (b', n)) => bif b == b' then zix i n (P d mi (pc + 1) ((bif b then zJ (f c i.toNat) else zI (f c i.toNat)) :: r) lv kc ks sh f Q) else False
    | _ => False
  | .inl i :: .inr (.inr (.inr t)) :: r => bif b then False else zix i (zTb sc t).1 (P d mi (pc + 1) (zI ((zTb sc t).2 i.toNat) :: r) lv kc ks sh f Q)
  | _ => False
def zalen (sc : zC) (P : zPr) (d mi pc : Nat) (st : List zV) (lv : zL) (kc ks : Nat) (sh : zH) (f : zF) (Q : zQ) : Prop := match st with
  | .inr (.inr (.inl c)) :: r => match sh[c]? with
    | some (.inr (_, n)) => P d mi (pc + 1) (zI (n : Int) :: r) lv kc ks sh f Q
    | _ => False
  | .inr (.inr (.inr t)) :: r => bif Nat.blt t 6 then P d mi (pc + 1) (zI ((zTb sc t).1 : Int) :: r) lv kc ks sh f Q else False
  | _ => False
def zastore (P : zPr) (d mi pc : Nat) (st : List zV) (lv : zL) (kc ks : Nat) (sh : zH) (f : zF) (Q : zQ) (b : Bool) : Prop := match b with
  | false => match st with
    | .inl v :: .inl i :: .inr (.inr (.inl c)) :: r => match sh[c]? with
      | some (.inr (false, n)) => zix i n (P d mi (pc + 1) r lv kc ks sh (zup f c i.toNat v) Q)
      | _ => False
    | _ => False
  | true => match st with
    | .inr (.inl v) :: .inl i :: .inr (.inr (.inl c)) :: r => match sh[c]? with
      | some (.inr (true, n)) => zix i n (P d mi (pc + 1) r lv kc ks sh (zup f c i.toNat v) Q)
      | _ => False
    | _ => False
/-- the row at a place that is looked over in the checks -/
def zAg (mi pc : Nat) : Option zRow := bif Nat.blt mi 265 && Nat.blt pc (zLen mi) then zAt mi pc else none
/-- one step -/
def zstep (sc : zC) (C : zCr) (P : zPr) : zPr := fun d mi pc st lv kc ks sh f Q => match zAg mi pc with
  | none => False
  | some (ins, len, e) => match ins with
    | .iconst n => P d mi (pc + 1) (zI n :: st) lv kc ks sh f Q
    | .bipush n => P d mi (pc + 2) (zI n :: st) lv kc ks sh f Q
    | .sipush n => P d mi (pc + 3) (zI n :: st) lv kc ks sh f Q
    | .ldc _ => P d mi (pc + 2) (zI e.2.2.2.2.2 :: st) lv kc ks sh f Q
    | .ldc_w _ => P d mi (pc + 3) (zI e.2.2.2.2.2 :: st) lv kc ks sh f Q
    | .ldc2_w _ => P d mi (pc + 3) (zJ e.2.2.2.2.2 :: st) lv kc ks sh f Q
    | .lconst n => P d mi (pc + 1) (zJ ((n : Nat) : Int) :: st) lv kc ks sh f Q
    | .iload_n k => zld P d mi pc st lv kc ks sh f Q 1 k 0
    | .iload k => zld P d mi pc st lv kc ks sh f Q 2 k 0
    | .lload_n k => zld P d mi pc st lv kc ks sh f Q 1 k 1
    | .lload k => zld P d mi pc st lv kc ks sh f Q 2 k 1
    | .aload_n k => zld P d mi pc st lv kc ks sh f Q 1 k 2
    | .aload k => zld P d mi pc st lv kc ks sh f Q 2 k 2
    | .istore_n k => zst1 P d mi pc st lv kc ks sh f Q 1 k
    | .istore k => zst1 P d mi pc st lv kc ks sh f Q 2 k
    | .lstore_n k => zst2 P d mi pc st lv kc ks sh f Q 1 k
    | .lstore k => zst2 P d mi pc st lv kc ks sh f Q 2 k
    | .astore_n k => zstA P d mi pc st lv kc ks sh f Q 1 k
    | .astore k => zstA P d mi pc st lv kc ks sh f Q 2 k
    | .iinc i n => match zget i lv with
      | some (.inl x) => P d mi (pc + 3) st (zset1 i (zI (w32 (x + n))) lv) kc ks sh f Q
      | _ => False
    | .iadd => zop2 P d mi pc st lv kc ks sh f Q (fun x y => w32 (x + y))
    | .isub => zop2 P d mi pc st lv kc ks sh f Q (fun x y => w32 (x - y))
    | .imul => zop2 P d mi pc st lv kc ks sh f Q (fun x y => w32 (x * y))
    | .idiv => match st with
      | .inl y :: .inl x :: r => if y = 0 then False else P d mi (pc + 1) (zI (w32 (x.tdiv y)) :: r) lv kc ks sh f Q
      | _ => False
    | .irem => match st with
      | .inl y :: .inl x :: r => if y = 0 then False else P d mi (pc + 1) (zI (x.tmod y) :: r) lv kc ks sh f Q
      | _ => False
    | .ineg => zop1 P d mi pc st lv kc ks sh f Q (fun x => zI (w32 (-x)))
    | .iand => zop2 P d mi pc st lv kc ks sh f Q zand
    | .ior => zop2 P d mi pc st lv kc ks sh f Q zor
    | .ixor => zop2 P d mi pc st lv kc ks sh f Q zxor
    | .ishl => zop2 P d mi pc st lv kc ks sh f Q zshl
    | .ishr => zop2 P d mi pc st lv kc ks sh f Q zshr
    | .iushr => zop2 P d mi pc st lv kc ks sh f Q zushr
    | .land => zlop2 P d mi pc st lv kc ks sh f Q zland
    | .lor => zlop2 P d mi pc st lv kc ks sh f Q zlor
    | .lshl => match st with
      | .inl y :: .inr (.inl x) :: r => P d mi (pc + 1) (zJ (zlshl x y) :: r) lv kc ks sh f Q
      | _ => False
    | .lcmp => match st with
      | .inr (.inl y) :: .inr (.inl x) :: r => P d mi (pc + 1) (zI (zlcmp x y) :: r) lv kc ks sh f Q
      | _ => False
    | .i2l => zop1 P d mi pc st lv kc ks sh f Q zJ
    | .l2i => match st with
      | .inr (.inl x) :: r => P d mi (pc + 1) (zI (w32 x) :: r) lv kc ks sh f Q
      | _ => False
    | .i2b => zop1 P d mi pc st lv kc ks sh f Q (fun x => zI (zi2b x))
    | .i2s => zop1 P d mi pc st lv kc ks sh f Q (fun x => zI (zi2s x))
    | .pop => match st with
      | v :: r => bif Nat.beq (zcat v) 1 then P d mi (pc + 1) r lv kc ks sh f Q else False
      | _ => False
    | .pop2 => match st with
      | v :: r => bif Nat.beq (zcat v) 2 then P d mi (pc + 1) r lv kc ks sh f Q else False
      | _ => False
    | .dup => match st with
      | v :: r => bif Nat.beq (zcat v) 1 then P d mi (pc + 1) (v :: v :: r) lv kc ks sh f Q else False
      | _ => False
    | .dup2 => match st with
      | v :: u :: r => bif Nat.beq (zcat v) 1 && Nat.beq (zcat u) 1 then P d mi (pc + 1) (v :: u :: v :: u :: r) lv kc ks sh f Q else False
      | _ => False
    | .goto off => P d mi (ztg pc off) st lv kc ks sh f Q
    | .ifCond c off => match st with
      | .inl x :: r => zif c x 0 (P d mi (ztg pc off) r lv kc ks sh f Q) (P d mi (pc + 3) r lv kc ks sh f Q)
      | _ => False
    | .if_icmp c off => match st with
      | .inl y :: .inl x :: r => zif c x y (P d mi (ztg pc off) r lv kc ks sh f Q) (P d mi (pc + 3) r lv kc ks sh f Q)
      | _ => False
    | .tableswitch dflt lo _ offs => match st with
      | .inl x :: r => zsw x (fun o => P d mi (ztg pc o) r lv kc ks sh f Q) dflt lo offs.toList
      | _ => False
    | .lookupswitch dflt ps => match st with
      | .inl x :: r => zlk x (fun o => P d mi (ztg pc o) r lv kc ks sh f Q) dflt ps.toList
      | _ => False
    | .getfield _ => zgetf P d mi pc st lv kc ks sh f Q e
    | .putfield _ => zputf P d mi pc st lv kc ks sh f Q e
    | .getstatic _ => match e with
      | (1, t, _) => P d mi (pc + 3) (zS t :: st) lv kc ks sh f Q
      | _ => False
    | .invokestatic _ => zinvoke C P d mi pc st lv kc ks sh f Q e 0
    | .invokevirtual _ => zinvoke C P d mi pc st lv kc ks sh f Q e 1
    | .invokespecial _ => zinvoke C P d mi pc st lv kc ks sh f Q e 2
    | .new _ => znew P d mi pc st lv kc ks sh f Q e
    | .newarray .int => znewa P d mi pc st lv kc ks sh f Q false
    | .newarray .long => znewa P d mi pc st lv kc ks sh f Q true
    | .arraylength => zalen sc P d mi pc st lv kc ks sh f Q
    | .iaload => zaload sc P d mi pc st lv kc ks sh f Q false
    | .laload => zaload sc P d mi pc st lv kc ks sh f Q true
    | .iastore => zastore P d mi pc st lv kc ks sh f Q false
    | .lastore => zastore P d mi pc st lv kc ks sh f Q true
    | .ireturn => match zRk mi with
      | 1 => match st with
        | [.inl z] => Q (some (zI z)) sh f
        | _ => False
      | 3 => match st with
        | [.inl z] => zrB z (Q (some (zI z)) sh f)
        | _ => False
      | _ => False
    | .lreturn => match zRk mi with
      | 2 => match st with
        | [.inr (.inl z)] => Q (some (zJ z)) sh f
        | _ => False
      | _ => False
    | .return_ => match zRk mi with
      | 0 => match st with
        | [] => Q none sh f
        | _ => False
      | _ => False
    | _ => False
end
