def zz_f : Nat → Nat → Nat
  | 0, x => x
  | n + 1, x => if x < 5 then zz_f n (x + 1) else zz_f n (x + 2)
theorem zz_1 (y : Nat) : zz_f 2 y = if y < 5 then (if y + 1 < 5 then y + 1 + 1 else y + 1 + 2) else (if y + 2 < 5 then y + 2 + 1 else y + 2 + 2) := by rfl
theorem zz_2 (y : Nat) : zz_f 2 y = if y < 5 then (if y + 1 < 5 then y + 1 + 1 else y + 1 + 2) else (if y + 2 < 5 then y + 2 + 1 else y + 2 + 2) := by cbv
