/-! what the tables of words say of each class -/
theorem zc_X0 : (∀ w ∈ u_ws RX0 TX0 5, w ∈ zWs) ∧ (∀ k, k < 5 → parseFieldDescriptor (TX0 k).2.2.1 = some (zTy 0 k)) ∧ (∀ a, a < 5 → ∀ b, b < 5 → a ≠ b → (TX0 a).2.1 ≠ (TX0 b).2.1) ∧ Cond.instantiable RX0 5 ∈ zWs ∧ Cond.initialized RX0 ∈ zWs :=
  ⟨zws_of (ps := [205, 207, 209, 211, 213]) (by decide +kernel), by decide +kernel, by decide +kernel, zinT_mem (i := 194) (by decide +kernel), zinT_mem (i := 81) (by decide +kernel)⟩
theorem zc_X1 : (∀ w ∈ u_ws RX1 TX1 4, w ∈ zWs) ∧ (∀ k, k < 4 → parseFieldDescriptor (TX1 k).2.2.1 = some (zTy 1 k)) ∧ (∀ a, a < 4 → ∀ b, b < 4 → a ≠ b → (TX1 a).2.1 ≠ (TX1 b).2.1) ∧ Cond.instantiable RX1 4 ∈ zWs ∧ Cond.initialized RX1 ∈ zWs :=
  ⟨zws_of (ps := [301, 303, 305, 307]) (by decide +kernel), by decide +kernel, by decide +kernel, zinT_mem (i := 290) (by decide +kernel), zinT_mem (i := 86) (by decide +kernel)⟩
theorem zc_X2 : (∀ w ∈ u_ws RX2 TX2 5, w ∈ zWs) ∧ (∀ k, k < 5 → parseFieldDescriptor (TX2 k).2.2.1 = some (zTy 2 k)) ∧ (∀ a, a < 5 → ∀ b, b < 5 → a ≠ b → (TX2 a).2.1 ≠ (TX2 b).2.1) ∧ Cond.instantiable RX2 5 ∈ zWs ∧ Cond.initialized RX2 ∈ zWs :=
  ⟨zws_of (ps := [182, 184, 186, 188, 190]) (by decide +kernel), by decide +kernel, by decide +kernel, zinT_mem (i := 172) (by decide +kernel), zinT_mem (i := 80) (by decide +kernel)⟩
theorem zc_X3 : (∀ w ∈ u_ws RX3 TX3 2, w ∈ zWs) ∧ (∀ k, k < 2 → parseFieldDescriptor (TX3 k).2.2.1 = some (zTy 3 k)) ∧ (∀ a, a < 2 → ∀ b, b < 2 → a ≠ b → (TX3 a).2.1 ≠ (TX3 b).2.1) ∧ Cond.instantiable RX3 2 ∈ zWs ∧ Cond.initialized RX3 ∈ zWs :=
  ⟨zws_of (ps := [224, 226]) (by decide +kernel), by decide +kernel, by decide +kernel, zinT_mem (i := 217) (by decide +kernel), zinT_mem (i := 82) (by decide +kernel)⟩
theorem zc_X4 : (∀ w ∈ u_ws RX4 TX4 6, w ∈ zWs) ∧ (∀ k, k < 6 → parseFieldDescriptor (TX4 k).2.2.1 = some (zTy 4 k)) ∧ (∀ a, a < 6 → ∀ b, b < 6 → a ≠ b → (TX4 a).2.1 ≠ (TX4 b).2.1) ∧ Cond.instantiable RX4 6 ∈ zWs ∧ Cond.initialized RX4 ∈ zWs :=
  ⟨zws_of (ps := [241, 243, 245, 247, 249, 251]) (by decide +kernel), by decide +kernel, by decide +kernel, zinT_mem (i := 230) (by decide +kernel), zinT_mem (i := 83) (by decide +kernel)⟩
theorem zc_X5 : (∀ w ∈ u_ws RX5 TX5 4, w ∈ zWs) ∧ (∀ k, k < 4 → parseFieldDescriptor (TX5 k).2.2.1 = some (zTy 5 k)) ∧ (∀ a, a < 4 → ∀ b, b < 4 → a ≠ b → (TX5 a).2.1 ≠ (TX5 b).2.1) ∧ Cond.instantiable RX5 4 ∈ zWs ∧ Cond.initialized RX5 ∈ zWs :=
  ⟨zws_of (ps := [320, 322, 324, 326]) (by decide +kernel), by decide +kernel, by decide +kernel, zinT_mem (i := 311) (by decide +kernel), zinT_mem (i := 87) (by decide +kernel)⟩
theorem zc_X6 : (∀ w ∈ u_ws RX6 TX6 7, w ∈ zWs) ∧ (∀ k, k < 7 → parseFieldDescriptor (TX6 k).2.2.1 = some (zTy 6 k)) ∧ (∀ a, a < 7 → ∀ b, b < 7 → a ≠ b → (TX6 a).2.1 ≠ (TX6 b).2.1) ∧ Cond.instantiable RX6 7 ∈ zWs ∧ Cond.initialized RX6 ∈ zWs :=
  ⟨zws_of (ps := [129, 131, 133, 135, 137, 139, 141]) (by decide +kernel), by decide +kernel, by decide +kernel, zinT_mem (i := 101) (by decide +kernel), zinT_mem (i := 78) (by decide +kernel)⟩
theorem zc_X7 : (∀ w ∈ u_ws RX7 TX7 6, w ∈ zWs) ∧ (∀ k, k < 6 → parseFieldDescriptor (TX7 k).2.2.1 = some (zTy 7 k)) ∧ (∀ a, a < 6 → ∀ b, b < 6 → a ≠ b → (TX7 a).2.1 ≠ (TX7 b).2.1) ∧ Cond.instantiable RX7 6 ∈ zWs ∧ Cond.initialized RX7 ∈ zWs :=
  ⟨zws_of (ps := [158, 160, 162, 164, 166, 168]) (by decide +kernel), by decide +kernel, by decide +kernel, zinT_mem (i := 146) (by decide +kernel), zinT_mem (i := 79) (by decide +kernel)⟩
theorem zc_X8 : (∀ w ∈ u_ws RX8 TX8 2, w ∈ zWs) ∧ (∀ k, k < 2 → parseFieldDescriptor (TX8 k).2.2.1 = some (zTy 8 k)) ∧ (∀ a, a < 2 → ∀ b, b < 2 → a ≠ b → (TX8 a).2.1 ≠ (TX8 b).2.1) ∧ Cond.instantiable RX8 2 ∈ zWs ∧ Cond.initialized RX8 ∈ zWs :=
  ⟨zws_of (ps := [284, 286]) (by decide +kernel), by decide +kernel, by decide +kernel, zinT_mem (i := 277) (by decide +kernel), zinT_mem (i := 85) (by decide +kernel)⟩
theorem zc_X9 : (∀ w ∈ u_ws RX9 TX9 4, w ∈ zWs) ∧ (∀ k, k < 4 → parseFieldDescriptor (TX9 k).2.2.1 = some (zTy 9 k)) ∧ (∀ a, a < 4 → ∀ b, b < 4 → a ≠ b → (TX9 a).2.1 ≠ (TX9 b).2.1) ∧ Cond.instantiable RX9 4 ∈ zWs ∧ Cond.initialized RX9 ∈ zWs :=
  ⟨zws_of (ps := [267, 269, 271, 273]) (by decide +kernel), by decide +kernel, by decide +kernel, zinT_mem (i := 255) (by decide +kernel), zinT_mem (i := 84) (by decide +kernel)⟩
theorem zc_X10 : (∀ w ∈ u_ws RX10 TX10 13, w ∈ zWs) ∧ (∀ k, k < 13 → parseFieldDescriptor (TX10 k).2.2.1 = some (zTy 10 k)) ∧ (∀ a, a < 13 → ∀ b, b < 13 → a ≠ b → (TX10 a).2.1 ≠ (TX10 b).2.1) ∧ Cond.instantiable RX10 13 ∈ zWs ∧ Cond.initialized RX10 ∈ zWs :=
  ⟨zws_of (ps := [343, 345, 347, 349, 351, 353, 355, 357, 359, 361, 363, 365, 367]) (by decide +kernel), by decide +kernel, by decide +kernel, zinT_mem (i := 93) (by decide +kernel), zinT_mem (i := 77) (by decide +kernel)⟩
theorem zc_X11 : (∀ w ∈ u_ws RX11 TX11 50, w ∈ zWs) ∧ (∀ k, k < 50 → parseFieldDescriptor (TX11 k).2.2.1 = some (zTy 11 k)) ∧ (∀ a, a < 50 → ∀ b, b < 50 → a ≠ b → (TX11 a).2.1 ≠ (TX11 b).2.1) ∧ Cond.instantiable RX11 50 ∈ zWs ∧ Cond.initialized RX11 ∈ zWs :=
  ⟨zws_of (ps := [1079, 1081, 1083, 1085, 1087, 1089, 1091, 1093, 1095, 1097, 1099, 1101, 1103, 1105, 1107, 1109, 1111, 1113, 1115, 1117, 1119, 1121, 1123, 1125, 1127, 1129, 1131, 1133, 1135, 1137, 1139, 1141, 1143, 1145, 1147, 1149, 1151, 1153, 1155, 1157, 1159, 1161, 1163, 1165, 1167, 1169, 1171, 1173, 1175, 1177]) (by decide +kernel), by decide +kernel, by decide +kernel, zinT_mem (i := 1024) (by decide +kernel), zinT_mem (i := 88) (by decide +kernel)⟩
theorem zclok : ∀ (ci : Nat) (q : vw_C), zCl[ci]? = some q → (∀ w ∈ u_ws q.1 q.2.1 q.2.2, w ∈ zWs) ∧ (∀ k, k < q.2.2 → parseFieldDescriptor (q.2.1 k).2.2.1 = some (zTy ci k)) ∧ (∀ a, a < q.2.2 → ∀ b, b < q.2.2 → a ≠ b → (q.2.1 a).2.1 ≠ (q.2.1 b).2.1) ∧ Cond.instantiable q.1 q.2.2 ∈ zWs ∧ Cond.initialized q.1 ∈ zWs := by
  intro ci q h
  match ci, h with
  | 0, h => cases h; exact zc_X0
  | 1, h => cases h; exact zc_X1
  | 2, h => cases h; exact zc_X2
  | 3, h => cases h; exact zc_X3
  | 4, h => cases h; exact zc_X4
  | 5, h => cases h; exact zc_X5
  | 6, h => cases h; exact zc_X6
  | 7, h => cases h; exact zc_X7
  | 8, h => cases h; exact zc_X8
  | 9, h => cases h; exact zc_X9
  | 10, h => cases h; exact zc_X10
  | 11, h => cases h; exact zc_X11
  | k + 12, h => simp [zCl] at h
theorem zkL : zkl 1600 [0] = true := by decide +kernel
theorem zk_0 : zkl 420 [1, 2, 3, 4, 5, 6, 7, 8, 9, 10, 11, 12, 13, 14, 15, 16] = true := by decide +kernel
theorem zk_1 : zkl 420 [17, 18, 19, 20, 21, 22, 23, 24, 25, 26, 27, 28, 29] = true := by decide +kernel
theorem zk_2 : zkl 420 [30, 31, 32, 33, 34, 35, 36, 37, 38, 39, 40, 41, 42, 43, 44, 45] = true := by decide +kernel
theorem zk_3 : zkl 420 [46, 47, 48, 49, 50, 51, 52, 53, 54, 55, 56, 57, 58, 59, 60, 61, 62, 63, 64, 65, 66] = true := by decide +kernel
theorem zk_4 : zkl 420 [67, 68, 69, 70, 71, 72, 73, 74, 75, 76, 77, 78, 79, 80, 81, 82, 83, 84, 85] = true := by decide +kernel
theorem zk_5 : zkl 420 [86, 87, 88, 89, 90, 91, 92, 93, 94, 95, 96, 97, 98, 99, 100, 101] = true := by decide +kernel
theorem zk_6 : zkl 420 [102, 103, 104, 105, 106, 107, 108, 109, 110, 111, 112, 113, 114, 115, 116] = true := by decide +kernel
theorem zk_7 : zkl 420 [117, 118, 119, 120, 121, 122, 123, 124, 125, 126, 127, 128, 129, 130, 131, 132] = true := by decide +kernel
theorem zk_8 : zkl 420 [133, 134, 135, 136, 137, 138, 139, 140, 141, 142, 143, 144, 145] = true := by decide +kernel
theorem zk_9 : zkl 420 [146, 147, 148, 149, 150, 151, 152, 153, 154, 155, 156, 157, 158, 159, 160, 161, 162, 163, 164, 165] = true := by decide +kernel
theorem zk_10 : zkl 420 [166, 167, 168, 169, 170, 171, 172, 173, 174, 175, 176, 177, 178, 179, 180, 181] = true := by decide +kernel
theorem zk_11 : zkl 420 [182, 183, 184, 185, 186, 187, 188, 189, 190, 191, 192, 193, 194, 195] = true := by decide +kernel
theorem zk_12 : zkl 420 [196, 197, 198, 199, 200, 201, 202, 203, 204, 205, 206] = true := by decide +kernel
theorem zk_13 : zkl 420 [207, 208, 209, 210, 211, 212, 213, 214, 215, 216, 217, 218, 219, 220] = true := by decide +kernel
theorem zk_14 : zkl 420 [221, 222, 223, 224, 225, 226, 227, 228, 229, 230, 231, 232, 233] = true := by decide +kernel
theorem zk_15 : zkl 420 [234, 235, 236, 237, 238, 239, 240, 241, 242, 243, 244, 245] = true := by decide +kernel
theorem zk_16 : zkl 420 [246, 247, 248, 249, 250, 251, 252, 253, 254, 255, 256, 257, 258, 259, 260, 261] = true := by decide +kernel
theorem zk_17 : zkl 420 [262, 263, 264] = true := by decide +kernel
theorem zk_all : ∀ mi, mi < zNM → ∀ pc r, pc < (bif Nat.beq mi 0 then 1600 else 420) → zAt mi pc = some r → decode (zby mi) pc = .ok (r.1, r.2.1) ∧ zokI mi pc r.1 r.2.1 r.2.2 = true := by
  intro mi hm pc r hp hr
  cases h0 : Nat.beq mi 0 with
  | true =>
    have h1 := Nat.eq_of_beq_eq_true h0
    subst h1
    exact zkl_ok zkL List.mem_cons_self hp hr
  | false =>
    rw [h0] at hp
    have hm0 : mi ≠ 0 := fun e => by subst e; cases h0
    have hm2 : mi < 265 := hm
    rcases (show (1 ≤ mi ∧ mi < 17) ∨ (17 ≤ mi ∧ mi < 30) ∨ (30 ≤ mi ∧ mi < 46) ∨ (46 ≤ mi ∧ mi < 67) ∨ (67 ≤ mi ∧ mi < 86) ∨ (86 ≤ mi ∧ mi < 102) ∨ (102 ≤ mi ∧ mi < 117) ∨ (117 ≤ mi ∧ mi < 133) ∨ (133 ≤ mi ∧ mi < 146) ∨ (146 ≤ mi ∧ mi < 166) ∨ (166 ≤ mi ∧ mi < 182) ∨ (182 ≤ mi ∧ mi < 196) ∨ (196 ≤ mi ∧ mi < 207) ∨ (207 ≤ mi ∧ mi < 221) ∨ (221 ≤ mi ∧ mi < 234) ∨ (234 ≤ mi ∧ mi < 246) ∨ (246 ≤ mi ∧ mi < 262) ∨ (262 ≤ mi ∧ mi < 265) by omega) with h | h | h | h | h | h | h | h | h | h | h | h | h | h | h | h | h | h
    · exact zkl_ok zk_0 (by have := List.mem_range'_1 (s := 1) (n := 16) (m := mi); exact (this.mpr (by omega))) hp hr
    · exact zkl_ok zk_1 (by have := List.mem_range'_1 (s := 17) (n := 13) (m := mi); exact (this.mpr (by omega))) hp hr
    · exact zkl_ok zk_2 (by have := List.mem_range'_1 (s := 30) (n := 16) (m := mi); exact (this.mpr (by omega))) hp hr
    · exact zkl_ok zk_3 (by have := List.mem_range'_1 (s := 46) (n := 21) (m := mi); exact (this.mpr (by omega))) hp hr
    · exact zkl_ok zk_4 (by have := List.mem_range'_1 (s := 67) (n := 19) (m := mi); exact (this.mpr (by omega))) hp hr
    · exact zkl_ok zk_5 (by have := List.mem_range'_1 (s := 86) (n := 16) (m := mi); exact (this.mpr (by omega))) hp hr
    · exact zkl_ok zk_6 (by have := List.mem_range'_1 (s := 102) (n := 15) (m := mi); exact (this.mpr (by omega))) hp hr
    · exact zkl_ok zk_7 (by have := List.mem_range'_1 (s := 117) (n := 16) (m := mi); exact (this.mpr (by omega))) hp hr
    · exact zkl_ok zk_8 (by have := List.mem_range'_1 (s := 133) (n := 13) (m := mi); exact (this.mpr (by omega))) hp hr
    · exact zkl_ok zk_9 (by have := List.mem_range'_1 (s := 146) (n := 20) (m := mi); exact (this.mpr (by omega))) hp hr
    · exact zkl_ok zk_10 (by have := List.mem_range'_1 (s := 166) (n := 16) (m := mi); exact (this.mpr (by omega))) hp hr
    · exact zkl_ok zk_11 (by have := List.mem_range'_1 (s := 182) (n := 14) (m := mi); exact (this.mpr (by omega))) hp hr
    · exact zkl_ok zk_12 (by have := List.mem_range'_1 (s := 196) (n := 11) (m := mi); exact (this.mpr (by omega))) hp hr
    · exact zkl_ok zk_13 (by have := List.mem_range'_1 (s := 207) (n := 14) (m := mi); exact (this.mpr (by omega))) hp hr
    · exact zkl_ok zk_14 (by have := List.mem_range'_1 (s := 221) (n := 13) (m := mi); exact (this.mpr (by omega))) hp hr
    · exact zkl_ok zk_15 (by have := List.mem_range'_1 (s := 234) (n := 12) (m := mi); exact (this.mpr (by omega))) hp hr
    · exact zkl_ok zk_16 (by have := List.mem_range'_1 (s := 246) (n := 16) (m := mi); exact (this.mpr (by omega))) hp hr
    · exact zkl_ok zk_17 (by have := List.mem_range'_1 (s := 262) (n := 3) (m := mi); exact (this.mpr (by omega))) hp hr
