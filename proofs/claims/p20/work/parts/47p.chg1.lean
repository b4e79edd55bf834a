noncomputable section
set_option maxRecDepth 100000 in
theorem b118_0 {sc : zC} {f : zF} {Q : zQ} (h : if f (1) (0) < 6 then (zov ((f (1) (0)) + (1)) (zov (((f (1) (0)) + (1)) - (1)) (Q (some (zI (((f (1) (0)) + (1)) - (1)))) zSH (zup f (1) (0) ((f (1) (0)) + (1)))))) else (Q (some (zI (-3))) zSH f)) : zR sc (199) 118 0 [] [(0, zP (0))] 0 0 zSH f Q := zwn_R (stp := fun _ _ => none) (inl := fun j => bif Nat.beq j 14 then true else bif Nat.beq j 15 then true else bif Nat.beq j 16 then true else bif Nat.beq j 17 then true else bif Nat.beq j 18 then true else bif Nat.beq j 19 then true else bif Nat.beq j 20 then true else bif Nat.beq j 22 then true else bif Nat.beq j 23 then true else bif Nat.beq j 25 then true else bif Nat.beq j 28 then true else bif Nat.beq j 50 then true else bif Nat.beq j 51 then true else bif Nat.beq j 52 then true else bif Nat.beq j 53 then true else bif Nat.beq j 54 then true else bif Nat.beq j 55 then true else bif Nat.beq j 56 then true else bif Nat.beq j 57 then true else bif Nat.beq j 58 then true else bif Nat.beq j 59 then true else bif Nat.beq j 60 then true else bif Nat.beq j 62 then true else bif Nat.beq j 63 then true else bif Nat.beq j 64 then true else bif Nat.beq j 65 then true else bif Nat.beq j 66 then true else bif Nat.beq j 67 then true else bif Nat.beq j 68 then true else bif Nat.beq j 69 then true else bif Nat.beq j 70 then true else bif Nat.beq j 71 then true else bif Nat.beq j 72 then true else bif Nat.beq j 73 then true else bif Nat.beq j 74 then true else bif Nat.beq j 75 then true else bif Nat.beq j 76 then true else bif Nat.beq j 77 then true else bif Nat.beq j 78 then true else bif Nat.beq j 79 then true else bif Nat.beq j 85 then true else bif Nat.beq j 86 then true else bif Nat.beq j 87 then true else bif Nat.beq j 92 then true else bif Nat.beq j 93 then true else bif Nat.beq j 95 then true else bif Nat.beq j 96 then true else bif Nat.beq j 97 then true else bif Nat.beq j 98 then true else bif Nat.beq j 99 then true else bif Nat.beq j 165 then true else bif Nat.beq j 166 then true else bif Nat.beq j 167 then true else bif Nat.beq j 170 then true else bif Nat.beq j 171 then true else bif Nat.beq j 172 then true else bif Nat.beq j 173 then true else bif Nat.beq j 174 then true else bif Nat.beq j 175 then true else bif Nat.beq j 176 then true else bif Nat.beq j 177 then true else bif Nat.beq j 178 then true else bif Nat.beq j 180 then true else bif Nat.beq j 181 then true else bif Nat.beq j 182 then true else bif Nat.beq j 183 then true else bif Nat.beq j 184 then true else bif Nat.beq j 185 then true else bif Nat.beq j 186 then true else bif Nat.beq j 187 then true else bif Nat.beq j 188 then true else bif Nat.beq j 191 then true else bif Nat.beq j 194 then true else bif Nat.beq j 200 then true else bif Nat.beq j 204 then true else bif Nat.beq j 205 then true else bif Nat.beq j 206 then true else bif Nat.beq j 209 then true else bif Nat.beq j 215 then true else bif Nat.beq j 220 then true else bif Nat.beq j 223 then true else bif Nat.beq j 224 then true else bif Nat.beq j 237 then true else bif Nat.beq j 238 then true else bif Nat.beq j 239 then true else bif Nat.beq j 240 then true else bif Nat.beq j 243 then true else bif Nat.beq j 244 then true else bif Nat.beq j 245 then true else bif Nat.beq j 246 then true else bif Nat.beq j 247 then true else bif Nat.beq j 252 then true else bif Nat.beq j 253 then true else bif Nat.beq j 254 then true else bif Nat.beq j 255 then true else bif Nat.beq j 257 then true else bif Nat.beq j 258 then true else bif Nat.beq j 259 then true else bif Nat.beq j 260 then true else bif Nat.beq j 263 then true else false) (nov := (fun j => bif Nat.beq j 143 then false else bif Nat.beq j 144 then false else bif Nat.beq j 242 then false else bif Nat.beq j 236 then false else bif Nat.beq j 237 then false else bif Nat.beq j 241 then false else bif Nat.beq j 239 then false else bif Nat.beq j 96 then false else true)) 24 h
set_option maxRecDepth 100000 in
theorem b175_0 {sc : zC} {f : zF} {Q : zQ} (h : if f (50) (6) = 6 then (Q (some (zI (-3))) zSH f) else (zov ((f (50) (6)) + (1)) (zov (((f (50) (6)) + (1)) - (1)) (Q (some (zI (((f (50) (6)) + (1)) - (1)))) zSH (zup f (50) (6) ((f (50) (6)) + (1))))))) : zR sc (199) 175 0 [] [(0, zP (50))] 0 0 zSH f Q := zwn_R (stp := fun _ _ => none) (inl := fun j => bif Nat.beq j 14 then true else bif Nat.beq j 15 then true else bif Nat.beq j 16 then true else bif Nat.beq j 17 then true else bif Nat.beq j 18 then true else bif Nat.beq j 19 then true else bif Nat.beq j 20 then true else bif Nat.beq j 22 then true else bif Nat.beq j 23 then true else bif Nat.beq j 25 then true else bif Nat.beq j 28 then true else bif Nat.beq j 50 then true else bif Nat.beq j 51 then true else bif Nat.beq j 52 then true else bif Nat.beq j 53 then true else bif Nat.beq j 54 then true else bif Nat.beq j 55 then true else bif Nat.beq j 56 then true else bif Nat.beq j 57 then true else bif Nat.beq j 58 then true else bif Nat.beq j 59 then true else bif Nat.beq j 60 then true else bif Nat.beq j 62 then true else bif Nat.beq j 63 then true else bif Nat.beq j 64 then true else bif Nat.beq j 65 then true else bif Nat.beq j 66 then true else bif Nat.beq j 67 then true else bif Nat.beq j 68 then true else bif Nat.beq j 69 then true else bif Nat.beq j 70 then true else bif Nat.beq j 71 then true else bif Nat.beq j 72 then true else bif Nat.beq j 73 then true else bif Nat.beq j 74 then true else bif Nat.beq j 75 then true else bif Nat.beq j 76 then true else bif Nat.beq j 77 then true else bif Nat.beq j 78 then true else bif Nat.beq j 79 then true else bif Nat.beq j 85 then true else bif Nat.beq j 86 then true else bif Nat.beq j 87 then true else bif Nat.beq j 92 then true else bif Nat.beq j 93 then true else bif Nat.beq j 95 then true else bif Nat.beq j 96 then true else bif Nat.beq j 97 then true else bif Nat.beq j 98 then true else bif Nat.beq j 99 then true else bif Nat.beq j 165 then true else bif Nat.beq j 166 then true else bif Nat.beq j 167 then true else bif Nat.beq j 170 then true else bif Nat.beq j 171 then true else bif Nat.beq j 172 then true else bif Nat.beq j 173 then true else bif Nat.beq j 174 then true else bif Nat.beq j 176 then true else bif Nat.beq j 177 then true else bif Nat.beq j 178 then true else bif Nat.beq j 180 then true else bif Nat.beq j 181 then true else bif Nat.beq j 182 then true else bif Nat.beq j 183 then true else bif Nat.beq j 184 then true else bif Nat.beq j 185 then true else bif Nat.beq j 186 then true else bif Nat.beq j 187 then true else bif Nat.beq j 188 then true else bif Nat.beq j 191 then true else bif Nat.beq j 194 then true else bif Nat.beq j 200 then true else bif Nat.beq j 204 then true else bif Nat.beq j 205 then true else bif Nat.beq j 206 then true else bif Nat.beq j 209 then true else bif Nat.beq j 215 then true else bif Nat.beq j 220 then true else bif Nat.beq j 223 then true else bif Nat.beq j 224 then true else bif Nat.beq j 237 then true else bif Nat.beq j 238 then true else bif Nat.beq j 239 then true else bif Nat.beq j 240 then true else bif Nat.beq j 243 then true else bif Nat.beq j 244 then true else bif Nat.beq j 245 then true else bif Nat.beq j 246 then true else bif Nat.beq j 247 then true else bif Nat.beq j 252 then true else bif Nat.beq j 253 then true else bif Nat.beq j 254 then true else bif Nat.beq j 255 then true else bif Nat.beq j 257 then true else bif Nat.beq j 258 then true else bif Nat.beq j 259 then true else bif Nat.beq j 260 then true else bif Nat.beq j 263 then true else false) (nov := (fun j => bif Nat.beq j 143 then false else bif Nat.beq j 144 then false else bif Nat.beq j 242 then false else bif Nat.beq j 236 then false else bif Nat.beq j 237 then false else bif Nat.beq j 241 then false else bif Nat.beq j 239 then false else bif Nat.beq j 96 then false else true)) 19 h
set_option maxRecDepth 4000 in
set_option maxHeartbeats 4000000 in
theorem jd_0 {sc : zC} {f0 : zF} (g0 : aGok wG (afx sc f0)) (i0 : wD f0) : zR sc 199 118 0 [] [(0, zP (0))] 0 0 zSH f0 (fun r _ f1 => ∃ v, r = some (zI v) ∧ zR sc 199 175 0 [] [(0, zP (50))] 0 0 zSH f1 (fun r _ f2 => ∃ w, r = some (zI w) ∧ wD f2 ∧ v = w)) := by
  obtain ⟨⟨s1, s1'⟩, s2, s3, s5, ch, im, la⟩ := id i0
  have e0 := g_10 g0
  have e1 := g_11 g0
  refine b118_0 ?_
  repeat' (first | (refine zix_p (by omega) ?_) | (refine zov_p (by omega) ?_) | (refine zit (fun h => ?_) (fun h => ?_)))
  all_goals try (exfalso; omega)
  all_goals refine ⟨_, rfl, b175_0 ?_⟩
  all_goals try simp only [zup_at, Nat.reduceEqDiff, reduceIte, zlc_lt, zlc_gt, zlc_eq]
  all_goals repeat' (first | (refine zix_p (by omega) ?_) | (refine zov_p (by omega) ?_) | (refine zit (fun h => ?_) (fun h => ?_)))
  all_goals try (exfalso; omega)
  all_goals refine ⟨_, rfl, ?_, ?_⟩
  all_goals try omega
  all_goals try exact i0
  all_goals exact ⟨⟨by show f0 1 0 + 1 = f0 50 6 + 1; omega, s1'⟩, s2, ⟨s3.1, s3.2.1, hM_mo s3.2.2 (by show f0 1 0 ≤ f0 1 0 + 1; omega)⟩, s5, ch, wIm_mo im (fun c hc => by rcases hc with rfl | rfl | rfl | rfl | rfl | rfl | rfl <;> rfl) rfl rfl ⟨rfl, rfl⟩ ⟨rfl, rfl⟩ (by show f0 1 0 ≤ f0 1 0 + 1; omega) (Int.le_refl _), wLa_k la (fun _ => rfl) rfl (fun _ => rfl) rfl⟩
set_option maxRecDepth 4000 in
set_option maxHeartbeats 4000000 in
theorem jd_1 {sc : zC} {f0 : zF} (g0 : aGok wG (afx sc f0)) (i0 : wD f0) {a b : Int} : zR sc 199 119 0 [] [(0, zP (0)), (1, zI a), (2, zI b)] 0 0 zSH f0 (fun r _ f1 => ∃ v, r = some (zI v) ∧ zR sc 199 178 0 [] [(0, zP (50)), (1, zI a), (2, zI b)] 0 0 zSH f1 (fun r _ f2 => ∃ w, r = some (zI w) ∧ wD f2 ∧ v = w)) := by
  obtain ⟨⟨s1, s1'⟩, s2, s3, s5, ch, im, la⟩ := id i0
  have e0 := g_10 g0
  have e1 := g_11 g0
  refine b119_0 ?_
  repeat' (first | (refine zix_p (by omega) ?_) | (refine zov_p (by omega) ?_) | (refine zit (fun h => ?_) (fun h => ?_)))
  all_goals try (exfalso; omega)
  all_goals refine ⟨_, rfl, b178_0 ?_⟩
  all_goals try simp only [zup_at, Nat.reduceEqDiff, reduceIte, zlc_lt, zlc_gt, zlc_eq]
  all_goals repeat' (first | (refine zix_p (by omega) ?_) | (refine zov_p (by omega) ?_) | (refine zit (fun h => ?_) (fun h => ?_)))
  all_goals try (exfalso; omega)
  all_goals refine ⟨_, rfl, ?_, ?_⟩
  all_goals try omega
  all_goals try exact i0
  all_goals refine ⟨⟨s1, by show f0 1 1 + 1 = f0 50 7 + 1; omega⟩, ?_, s3, s5, ch, wIm_mo im (fun c hc => by rcases hc with rfl | rfl | rfl | rfl | rfl | rfl | rfl <;> rfl) rfl rfl ⟨rfl, rfl⟩ ⟨rfl, rfl⟩ (Int.le_refl _) (by show f0 1 1 ≤ f0 1 1 + 1; omega), wLa_k la (fun _ => rfl) rfl (fun _ => rfl) rfl⟩
  intro j hj
  obtain ⟨h1, h2⟩ := s2 j hj
  simp only [zup_at, Nat.reduceEqDiff, reduceIte, ← s1']
  rw [← h1]
  refine ⟨rfl, ?_⟩
  repeat' split
  all_goals first | exact h2 | (unfold nB; omega)
set_option maxRecDepth 4000 in
set_option maxHeartbeats 400000 in
theorem wD_gr {f : zF} {q p : Nat → Int} {len b : Int} {m : Nat} (i : wD f) (h0 : 0 ≤ f 1 1) (h : ∀ u, u < m → gvd len (f 1 1) b q p u) : wD (rN (gN f q p m) q p m) := by
  obtain ⟨⟨s1, s1'⟩, s2, s3, s5, ch, im, la⟩ := id i
  have o : ∀ c, c ≠ 1 → c ≠ 2 → c ≠ 50 → c ≠ 51 → rN (gN f q p m) q p m c = f c := fun c h1 h2 h3 h4 => by rw [rN_o h3 h4, gN_o h1 h2]
  have o1 : ∀ j, j ≠ 1 → rN (gN f q p m) q p m 1 j = f 1 j := fun j hj => by rw [rN_o (by decide) (by decide), gN_1o hj]
  have o5 : ∀ j, j ≠ 7 → rN (gN f q p m) q p m 50 j = f 50 j := fun j hj => by rw [rN_50 hj, gN_o (by decide) (by decide)]
  have e1 : rN (gN f q p m) q p m 1 1 = f 1 1 + (m : Int) := by rw [rN_o (by decide) (by decide), gN_1]
  have e7 : rN (gN f q p m) q p m 50 7 = f 50 7 + (m : Int) := by rw [rN_7, gN_o (by decide) (by decide)]
  have R : ∀ t, t ≤ m → ∀ j, j < 60 → gN f q p t 2 j = rN (gN f q p m) q p t 51 j ∧ nB j (gN f q p t 2 j) := by
    intro t
    induction t with
    | zero =>
      intro _ j hj
      refine ⟨?_, (s2 j hj).2⟩
      show f 2 j = gN f q p m 51 j
      rw [gN_o (by decide) (by decide)]
      exact (s2 j hj).1
    | succ t ih =>
      intro ht j hj
      obtain ⟨h1, h2⟩ := ih (by omega) j hj
      have hv := h t (by omega)
      unfold gvd at hv
      show gAdd (gN f q p t) (q t) (p t) 2 j = rAdd (rN (gN f q p m) q p t) (q t) (p t) 51 j ∧ nB j (gAdd (gN f q p t) (q t) (p t) 2 j)
      unfold gAdd rAdd
      simp only [zup_at, Nat.reduceEqDiff, reduceIte]
      rw [gN_1 t, rN_7 t, gN_o (c := 50) (by decide) (by decide), ← s1', ← h1]
      refine ⟨rfl, ?_⟩
      repeat' split
      all_goals first | exact h2 | (unfold nB; omega)
  refine ⟨⟨?_, ?_⟩, ?_, ?_, ?_, ?_, wIm_mo im (fun c hc => o c (by omega) (by omega) (by omega) (by omega)) (congrFun (o 0 (by decide) (by decide) (by decide) (by decide)) 3) (o5 34 (by decide)) ⟨congrFun (o 13 (by decide) (by decide) (by decide) (by decide)) 0, congrFun (o 13 (by decide) (by decide) (by decide) (by decide)) 1⟩ ⟨o5 35 (by decide), o5 36 (by decide)⟩ (by rw [o1 0 (by decide)]; exact Int.le_refl _) (by rw [e1]; omega), wLa_l (fun j => congrFun (o 23 (by decide) (by decide) (by decide) (by decide)) j) (congrFun (o 22 (by decide) (by decide) (by decide) (by decide)) 1) (fun j => congrFun (o 57 (by decide) (by decide) (by decide) (by decide)) j) (o5 12 (by decide)) la⟩
  · rw [o1 0 (by decide), o5 6 (by decide)]
    exact s1
  · rw [e1, e7, s1']
  · intro j hj
    have h1 := R m (Nat.le_refl _) j hj
    rw [rN_o (c := 2) (by decide) (by decide)]
    exact h1
  · unfold wS3
    rw [o 3 (by decide) (by decide) (by decide) (by decide), o 55 (by decide) (by decide) (by decide) (by decide), o 4 (by decide) (by decide) (by decide) (by decide), o1 0 (by decide)]
    exact s3
  · unfold wS5
    rw [o 5 (by decide) (by decide) (by decide) (by decide), o 68 (by decide) (by decide) (by decide) (by decide)]
    exact s5
  · unfold wCh
    rw [o 26 (by decide) (by decide) (by decide) (by decide), o 27 (by decide) (by decide) (by decide) (by decide), o 28 (by decide) (by decide) (by decide) (by decide), o 29 (by decide) (by decide) (by decide) (by decide), o 52 (by decide) (by decide) (by decide) (by decide), o 53 (by decide) (by decide) (by decide) (by decide), o 54 (by decide) (by decide) (by decide) (by decide), o5 5 (by decide), o5 4 (by decide)]
    exact ch
set_option maxRecDepth 4000 in
set_option maxHeartbeats 4000000 in
theorem jd_2 {sc : zC} {f0 : zF} (g0 : aGok wG (afx sc f0)) (i0 : wI f0) (j0 : wD f0) {a b c : Int} (hb : zIn b) : zR sc 199 120 0 [] [(0, zP (0)), (1, zI a), (2, zI b), (3, zI c)] 0 0 zSH f0 (fun r _ f1 => ∃ v, r = some (zI v) ∧ zR sc 199 179 0 [] [(0, zP (50)), (1, zI a), (2, zI b), (3, zI c)] 0 0 zSH f1 (fun r _ f2 => ∃ w, r = some (zI w) ∧ wD f2 ∧ v = w)) := by
  obtain ⟨⟨i1, i2, i3, i4⟩, ⟨k1, k2, k3, k4⟩, s⟩ := id i0
  unfold zIn at hb
  have e1 : (0 : Int) ≤ f0 1 1 ∧ f0 1 1 ≤ 7 := wG_at (F := afx sc f0) (c := 1) (j := 1) (I := (.ofNat 0, .ofNat 7)) g0.1 rfl
  have e2 : (0 : Int) ≤ f0 42 1 ∧ f0 42 1 ≤ 50 := wG_at (F := afx sc f0) (c := 42) (j := 1) (I := (.ofNat 0, .ofNat 50)) g0.1 rfl
  by_cases ha : 0 ≤ a ∧ a < 6
  rotate_left
  · refine b120_0 ?_
    repeat' (first | (refine zix_p (by omega) ?_) | (refine zov_p (by omega) ?_) | (refine zit (fun h => ?_) (fun h => ?_)))
    all_goals try (exfalso; omega)
    all_goals refine ⟨_, rfl, b179_0 ?_⟩
    all_goals simp only [zlc_lt, zlc_gt]
    all_goals repeat' (first | (refine zix_p (by omega) ?_) | (refine zov_p (by omega) ?_) | (refine zit (fun h => ?_) (fun h => ?_)))
    all_goals try (exfalso; omega)
    all_goals exact ⟨_, rfl, j0, rfl⟩
  have sd := (s a.toNat (by omega)).1
  have sz := (s a.toNat (by omega)).2
  have l1 : (0 : Int) ≤ f0 48 a.toNat ∧ f0 48 a.toNat ≤ 60 := wG_rd (F := afx sc f0) (c := 48) (b := 6) (I := (.ofNat 0, .ofNat 60)) g0.1 rfl (by omega)
  have l2 : (-2 : Int) ≤ f0 46 a.toNat ∧ f0 46 a.toNat ≤ 4 := wG_rd (F := afx sc f0) (c := 46) (b := 6) (I := (.negSucc 1, .ofNat 4)) g0.1 rfl (by omega)
  refine b120_0 ?_
  repeat' (first | (refine zix_p (by omega) ?_) | (refine zov_p (by omega) ?_) | (refine zit (fun h => ?_) (fun h => ?_)))
  all_goals try (exfalso; omega)
  all_goals try (refine ⟨_, rfl, b179_0 ?_⟩; (try simp only [zlc_lt, zlc_gt]); repeat' (first | (refine zix_p (by omega) ?_) | (refine zov_p (by omega) ?_) | (refine zit (fun h => ?_) (fun h => ?_))))
  all_goals try (exfalso; omega)
  all_goals try exact ⟨_, rfl, j0, rfl⟩
  all_goals try exact jg_0 ⟨_, rfl, j0, rfl⟩
  refine jg_1 (q := fun t => f0 49 (a * 60 + (b + 2 * (t : Int))).toNat) (p := fun t => f0 49 (a * 60 + (b + 2 * (t : Int) + 1)).toNat) ha (by omega) hb l1 e1 (sz (by omega)) (fun _ => rfl) (fun _ => rfl) (fun m m1 m2 m3 => ⟨_, rfl, b179_0 ?_⟩)
  have h74 : gN f0 (fun t => f0 49 (a * 60 + (b + 2 * (t : Int))).toNat) (fun t => f0 49 (a * 60 + (b + 2 * (t : Int) + 1)).toNat) m 74 a.toNat = f0 74 a.toNat := congrFun (gN_o (by decide) (by decide) m) _
  have h75 : gN f0 (fun t => f0 49 (a * 60 + (b + 2 * (t : Int))).toNat) (fun t => f0 49 (a * 60 + (b + 2 * (t : Int) + 1)).toNat) m 75 a.toNat = f0 75 a.toNat := congrFun (gN_o (by decide) (by decide) m) _
  have h76 : gN f0 (fun t => f0 49 (a * 60 + (b + 2 * (t : Int))).toNat) (fun t => f0 49 (a * 60 + (b + 2 * (t : Int) + 1)).toNat) m 76 = f0 76 := gN_o (by decide) (by decide) m
  have h507 : gN f0 (fun t => f0 49 (a * 60 + (b + 2 * (t : Int))).toNat) (fun t => f0 49 (a * 60 + (b + 2 * (t : Int) + 1)).toNat) m 50 7 = f0 50 7 := congrFun (gN_o (by decide) (by decide) m) _
  have hw := wD_gr (q := fun t => f0 49 (a * 60 + (b + 2 * (t : Int))).toNat) (p := fun t => f0 49 (a * 60 + (b + 2 * (t : Int) + 1)).toNat) j0 e1.1 m1
  have hm0 : b < 0 → m = 0 := fun hb => by
    rcases Nat.eq_zero_or_pos m with h | h
    · exact h
    · exact absurd (m1 0 h).1 (by omega)
  simp only [zlc_lt, zlc_gt]
  repeat' (first | (refine zix_p (by omega) ?_) | (refine zov_p (by omega) ?_) | (refine zit (fun h => ?_) (fun h => ?_)))
  all_goals try (exfalso; omega)
  · have := hm0 (by assumption)
    subst this
    exact jg_0 ⟨_, rfl, j0, rfl⟩
  · refine jg_2 (q := fun t => f0 49 (a * 60 + (b + 2 * (t : Int))).toNat) (p := fun t => f0 49 (a * 60 + (b + 2 * (t : Int) + 1)).toNat) ha (by omega) (by omega) (by omega) (by omega) (fun j j1 j2 => by rw [h76, ← k3]; exact sz (by omega) j j1 j2) (fun t => by rw [h76, ← k3]; exact congrArg (f0 49) (by omega)) (fun t => by rw [h76, ← k3]; exact congrArg (f0 49) (by omega)) (fun n n1 n2 n3 => ?_)
    have e := gvd_u (by omega) (by omega) rfl rfl m1 m2 m3 n1 n2 n3
    subst e
    exact ⟨_, rfl, hw, rfl⟩
set_option maxRecDepth 100000 in
theorem b144_0 {sc : zC} {a b : Int} {f : zF} {Q : zQ} (h : if a < 0 then (Q (some (zI (-1))) zSH f) else (if a < f (1) (1) then (if b < 0 then (Q (some (zI (-1))) zSH f) else (if b < f (1) (0) then (zov ((44) + a) (zix ((44) + a) (60) (if f (2) (((44) + a).toNat) < 0 then (zov ((44) + a) (zix ((44) + a) (60) (Q (some (zI (1))) zSH (zup (zup f (2) (((44) + a).toNat) b) (5) (4) (w32 ((f (5) (4)) + (1))))))) else (Q (some (zI (-5))) zSH f)))) else (Q (some (zI (-1))) zSH f))) else (Q (some (zI (-1))) zSH f))) : zR sc (199) 144 0 [] [(0, zP (0)), (1, zI a), (2, zI b)] 0 0 zSH f Q := zwn_R (stp := fun _ _ => none) (inl := fun j => bif Nat.beq j 14 then true else bif Nat.beq j 15 then true else bif Nat.beq j 16 then true else bif Nat.beq j 17 then true else bif Nat.beq j 18 then true else bif Nat.beq j 19 then true else bif Nat.beq j 20 then true else bif Nat.beq j 22 then true else bif Nat.beq j 23 then true else bif Nat.beq j 25 then true else bif Nat.beq j 28 then true else bif Nat.beq j 50 then true else bif Nat.beq j 51 then true else bif Nat.beq j 52 then true else bif Nat.beq j 53 then true else bif Nat.beq j 54 then true else bif Nat.beq j 55 then true else bif Nat.beq j 56 then true else bif Nat.beq j 57 then true else bif Nat.beq j 58 then true else bif Nat.beq j 59 then true else bif Nat.beq j 60 then true else bif Nat.beq j 62 then true else bif Nat.beq j 63 then true else bif Nat.beq j 64 then true else bif Nat.beq j 65 then true else bif Nat.beq j 66 then true else bif Nat.beq j 67 then true else bif Nat.beq j 68 then true else bif Nat.beq j 69 then true else bif Nat.beq j 70 then true else bif Nat.beq j 71 then true else bif Nat.beq j 72 then true else bif Nat.beq j 73 then true else bif Nat.beq j 74 then true else bif Nat.beq j 75 then true else bif Nat.beq j 76 then true else bif Nat.beq j 77 then true else bif Nat.beq j 78 then true else bif Nat.beq j 79 then true else bif Nat.beq j 85 then true else bif Nat.beq j 86 then true else bif Nat.beq j 87 then true else bif Nat.beq j 92 then true else bif Nat.beq j 93 then true else bif Nat.beq j 95 then true else bif Nat.beq j 96 then true else bif Nat.beq j 97 then true else bif Nat.beq j 98 then true else bif Nat.beq j 99 then true else bif Nat.beq j 165 then true else bif Nat.beq j 166 then true else bif Nat.beq j 167 then true else bif Nat.beq j 170 then true else bif Nat.beq j 171 then true else bif Nat.beq j 172 then true else bif Nat.beq j 173 then true else bif Nat.beq j 174 then true else bif Nat.beq j 175 then true else bif Nat.beq j 176 then true else bif Nat.beq j 177 then true else bif Nat.beq j 178 then true else bif Nat.beq j 180 then true else bif Nat.beq j 181 then true else bif Nat.beq j 182 then true else bif Nat.beq j 183 then true else bif Nat.beq j 184 then true else bif Nat.beq j 185 then true else bif Nat.beq j 186 then true else bif Nat.beq j 187 then true else bif Nat.beq j 188 then true else bif Nat.beq j 191 then true else bif Nat.beq j 194 then true else bif Nat.beq j 200 then true else bif Nat.beq j 204 then true else bif Nat.beq j 205 then true else bif Nat.beq j 206 then true else bif Nat.beq j 209 then true else bif Nat.beq j 215 then true else bif Nat.beq j 220 then true else bif Nat.beq j 223 then true else bif Nat.beq j 224 then true else bif Nat.beq j 237 then true else bif Nat.beq j 238 then true else bif Nat.beq j 239 then true else bif Nat.beq j 240 then true else bif Nat.beq j 243 then true else bif Nat.beq j 244 then true else bif Nat.beq j 245 then true else bif Nat.beq j 246 then true else bif Nat.beq j 247 then true else bif Nat.beq j 252 then true else bif Nat.beq j 253 then true else bif Nat.beq j 254 then true else bif Nat.beq j 255 then true else bif Nat.beq j 257 then true else bif Nat.beq j 258 then true else bif Nat.beq j 259 then true else bif Nat.beq j 260 then true else bif Nat.beq j 263 then true else false) (nov := (fun j => bif Nat.beq j 143 then false else bif Nat.beq j 144 then false else bif Nat.beq j 242 then false else bif Nat.beq j 236 then false else bif Nat.beq j 237 then false else bif Nat.beq j 241 then false else bif Nat.beq j 239 then false else bif Nat.beq j 96 then false else true)) 88 h
set_option maxRecDepth 100000 in
theorem b237_0 {sc : zC} {a b : Int} {f : zF} {Q : zQ} (h : zov ((f (50) (7)) - (1)) (if zlcmp a (0) < 0 then (Q (some (zI (-1))) zSH f) else (if 0 < zlcmp a ((f (50) (7)) - (1)) then (Q (some (zI (-1))) zSH f) else (zov ((f (50) (6)) - (1)) (if zlcmp b (0) < 0 then (Q (some (zI (-1))) zSH f) else (if 0 < zlcmp b ((f (50) (6)) - (1)) then (Q (some (zI (-1))) zSH f) else (zix (w32 ((44) + a)) (60) (if f (51) ((w32 ((44) + a)).toNat) < 0 then (zix (w32 ((44) + a)) (60) (Q (some (zI (1))) zSH (zup (zup f (51) ((w32 ((44) + a)).toNat) b) (68) (4) (w32 ((f (68) (4)) + (1)))))) else (Q (some (zI (-5))) zSH f))))))))) : zR sc (199) 237 0 [] [(0, zP (50)), (1, zI a), (2, zI b)] 0 0 zSH f Q := zwn_R (stp := fun _ _ => none) (inl := fun j => bif Nat.beq j 14 then true else bif Nat.beq j 15 then true else bif Nat.beq j 16 then true else bif Nat.beq j 17 then true else bif Nat.beq j 18 then true else bif Nat.beq j 19 then true else bif Nat.beq j 20 then true else bif Nat.beq j 22 then true else bif Nat.beq j 23 then true else bif Nat.beq j 25 then true else bif Nat.beq j 28 then true else bif Nat.beq j 50 then true else bif Nat.beq j 51 then true else bif Nat.beq j 52 then true else bif Nat.beq j 53 then true else bif Nat.beq j 54 then true else bif Nat.beq j 55 then true else bif Nat.beq j 56 then true else bif Nat.beq j 57 then true else bif Nat.beq j 58 then true else bif Nat.beq j 59 then true else bif Nat.beq j 60 then true else bif Nat.beq j 62 then true else bif Nat.beq j 63 then true else bif Nat.beq j 64 then true else bif Nat.beq j 65 then true else bif Nat.beq j 66 then true else bif Nat.beq j 67 then true else bif Nat.beq j 68 then true else bif Nat.beq j 69 then true else bif Nat.beq j 70 then true else bif Nat.beq j 71 then true else bif Nat.beq j 72 then true else bif Nat.beq j 73 then true else bif Nat.beq j 74 then true else bif Nat.beq j 75 then true else bif Nat.beq j 76 then true else bif Nat.beq j 77 then true else bif Nat.beq j 78 then true else bif Nat.beq j 79 then true else bif Nat.beq j 85 then true else bif Nat.beq j 86 then true else bif Nat.beq j 87 then true else bif Nat.beq j 92 then true else bif Nat.beq j 93 then true else bif Nat.beq j 95 then true else bif Nat.beq j 96 then true else bif Nat.beq j 97 then true else bif Nat.beq j 98 then true else bif Nat.beq j 99 then true else bif Nat.beq j 165 then true else bif Nat.beq j 166 then true else bif Nat.beq j 167 then true else bif Nat.beq j 170 then true else bif Nat.beq j 171 then true else bif Nat.beq j 172 then true else bif Nat.beq j 173 then true else bif Nat.beq j 174 then true else bif Nat.beq j 175 then true else bif Nat.beq j 176 then true else bif Nat.beq j 177 then true else bif Nat.beq j 178 then true else bif Nat.beq j 180 then true else bif Nat.beq j 181 then true else bif Nat.beq j 182 then true else bif Nat.beq j 183 then true else bif Nat.beq j 184 then true else bif Nat.beq j 185 then true else bif Nat.beq j 186 then true else bif Nat.beq j 187 then true else bif Nat.beq j 188 then true else bif Nat.beq j 191 then true else bif Nat.beq j 194 then true else bif Nat.beq j 200 then true else bif Nat.beq j 204 then true else bif Nat.beq j 205 then true else bif Nat.beq j 206 then true else bif Nat.beq j 209 then true else bif Nat.beq j 215 then true else bif Nat.beq j 220 then true else bif Nat.beq j 223 then true else bif Nat.beq j 224 then true else bif Nat.beq j 238 then true else bif Nat.beq j 239 then true else bif Nat.beq j 240 then true else bif Nat.beq j 243 then true else bif Nat.beq j 244 then true else bif Nat.beq j 245 then true else bif Nat.beq j 246 then true else bif Nat.beq j 247 then true else bif Nat.beq j 252 then true else bif Nat.beq j 253 then true else bif Nat.beq j 254 then true else bif Nat.beq j 255 then true else bif Nat.beq j 257 then true else bif Nat.beq j 258 then true else bif Nat.beq j 259 then true else bif Nat.beq j 260 then true else bif Nat.beq j 263 then true else false) (nov := (fun j => bif Nat.beq j 143 then false else bif Nat.beq j 144 then false else bif Nat.beq j 242 then false else bif Nat.beq j 236 then false else bif Nat.beq j 237 then false else bif Nat.beq j 241 then false else bif Nat.beq j 239 then false else bif Nat.beq j 96 then false else true)) 102 h
set_option maxRecDepth 4000 in
set_option maxHeartbeats 4000000 in
theorem jd_26 {sc : zC} {f0 : zF} (g0 : aGok wG (afx sc f0)) (i0 : wD f0) {a b : Int} : zR sc 199 144 0 [] [(0, zP (0)), (1, zI a), (2, zI b)] 0 0 zSH f0 (fun r _ f1 => ∃ v, r = some (zI v) ∧ zR sc 199 237 0 [] [(0, zP (50)), (1, zI a), (2, zI b)] 0 0 zSH f1 (fun r _ f2 => ∃ w, r = some (zI w) ∧ wD f2 ∧ v = w)) := by
  obtain ⟨⟨s1, s1'⟩, s2, s3, s5, ch, im, la⟩ := id i0
  have e0 := g_10 g0
  have e1 := g_11 g0
  by_cases ha : 0 ≤ a ∧ a < 7
  rotate_left
  · refine b144_0 ?_
    repeat' (first | (refine zix_p (by omega) ?_) | (refine zov_p (by omega) ?_) | (refine zit (fun h => ?_) (fun h => ?_)))
    all_goals try (exfalso; omega)
    all_goals refine ⟨_, rfl, b237_0 ?_⟩
    all_goals try simp only [zlc_lt, zlc_gt, zlc_eq]
    all_goals repeat' (first | (refine zix_p (by omega) ?_) | (refine zov_p (by omega) ?_) | (refine zit (fun h => ?_) (fun h => ?_)))
    all_goals try (exfalso; omega)
    all_goals exact ⟨_, rfl, i0, rfl⟩
  have h44 := (s2 (44 + a).toNat (by omega)).1
  have ew : wq (44 + a) (44 + a) := wq_i (by omega) rfl
  refine b144_0 ?_
  repeat' (first | (refine zix_p (by omega) ?_) | (refine zov_p (by omega) ?_) | (refine zit (fun h => ?_) (fun h => ?_)))
  all_goals try (exfalso; omega)
  all_goals refine ⟨_, rfl, b237_0 ?_⟩
  all_goals try simp only [zup_at, Nat.reduceEqDiff, reduceIte, zlc_lt, zlc_gt, zlc_eq, wq_e ew]
  all_goals repeat' (first | (refine zix_p (by omega) ?_) | (refine zov_p (by omega) ?_) | (refine zit (fun h => ?_) (fun h => ?_)))
  all_goals try (exfalso; omega)
  all_goals refine ⟨_, rfl, ?_, ?_⟩
  all_goals try omega
  all_goals try exact i0
  all_goals refine ⟨⟨s1, s1'⟩, ?_, s3, ?_, ch, wIm_mo im (fun c hc => by rcases hc with rfl | rfl | rfl | rfl | rfl | rfl | rfl <;> rfl) rfl rfl ⟨rfl, rfl⟩ ⟨rfl, rfl⟩ (Int.le_refl _) (Int.le_refl _), wLa_k la (fun _ => rfl) rfl (fun _ => rfl) rfl⟩
  · intro j hj
    obtain ⟨h1, h2⟩ := s2 j hj
    simp only [zup_at, Nat.reduceEqDiff, reduceIte]
    rw [← h1]
    refine ⟨rfl, ?_⟩
    repeat' split
    all_goals first | exact h2 | (unfold nB; omega)
  · intro j hj
    simp only [zup_at, Nat.reduceEqDiff, reduceIte]
    rw [s5 j hj, s5 4 (by decide)]
set_option maxRecDepth 100000 in
theorem b145_0 {sc : zC} {a : Int} {f : zF} {Q : zQ} (h : if a < 0 then (Q (some (zI (-1))) zSH f) else (if a < f (1) (1) then (zov ((44) + a) (zix ((44) + a) (60) (if f (2) (((44) + a).toNat) < 0 then (Q (some (zI (-5))) zSH f) else (zov ((44) + a) (zix ((44) + a) (60) (Q (some (zI (f (2) (((44) + a).toNat)))) zSH (zup f (2) (((44) + a).toNat) (-1)))))))) else (Q (some (zI (-1))) zSH f))) : zR sc (199) 145 0 [] [(0, zP (0)), (1, zI a)] 0 0 zSH f Q := zwn_R (stp := fun _ _ => none) (inl := fun j => bif Nat.beq j 14 then true else bif Nat.beq j 15 then true else bif Nat.beq j 16 then true else bif Nat.beq j 17 then true else bif Nat.beq j 18 then true else bif Nat.beq j 19 then true else bif Nat.beq j 20 then true else bif Nat.beq j 22 then true else bif Nat.beq j 23 then true else bif Nat.beq j 25 then true else bif Nat.beq j 28 then true else bif Nat.beq j 50 then true else bif Nat.beq j 51 then true else bif Nat.beq j 52 then true else bif Nat.beq j 53 then true else bif Nat.beq j 54 then true else bif Nat.beq j 55 then true else bif Nat.beq j 56 then true else bif Nat.beq j 57 then true else bif Nat.beq j 58 then true else bif Nat.beq j 59 then true else bif Nat.beq j 60 then true else bif Nat.beq j 62 then true else bif Nat.beq j 63 then true else bif Nat.beq j 64 then true else bif Nat.beq j 65 then true else bif Nat.beq j 66 then true else bif Nat.beq j 67 then true else bif Nat.beq j 68 then true else bif Nat.beq j 69 then true else bif Nat.beq j 70 then true else bif Nat.beq j 71 then true else bif Nat.beq j 72 then true else bif Nat.beq j 73 then true else bif Nat.beq j 74 then true else bif Nat.beq j 75 then true else bif Nat.beq j 76 then true else bif Nat.beq j 77 then true else bif Nat.beq j 78 then true else bif Nat.beq j 79 then true else bif Nat.beq j 85 then true else bif Nat.beq j 86 then true else bif Nat.beq j 87 then true else bif Nat.beq j 92 then true else bif Nat.beq j 93 then true else bif Nat.beq j 95 then true else bif Nat.beq j 96 then true else bif Nat.beq j 97 then true else bif Nat.beq j 98 then true else bif Nat.beq j 99 then true else bif Nat.beq j 165 then true else bif Nat.beq j 166 then true else bif Nat.beq j 167 then true else bif Nat.beq j 170 then true else bif Nat.beq j 171 then true else bif Nat.beq j 172 then true else bif Nat.beq j 173 then true else bif Nat.beq j 174 then true else bif Nat.beq j 175 then true else bif Nat.beq j 176 then true else bif Nat.beq j 177 then true else bif Nat.beq j 178 then true else bif Nat.beq j 180 then true else bif Nat.beq j 181 then true else bif Nat.beq j 182 then true else bif Nat.beq j 183 then true else bif Nat.beq j 184 then true else bif Nat.beq j 185 then true else bif Nat.beq j 186 then true else bif Nat.beq j 187 then true else bif Nat.beq j 188 then true else bif Nat.beq j 191 then true else bif Nat.beq j 194 then true else bif Nat.beq j 200 then true else bif Nat.beq j 204 then true else bif Nat.beq j 205 then true else bif Nat.beq j 206 then true else bif Nat.beq j 209 then true else bif Nat.beq j 215 then true else bif Nat.beq j 220 then true else bif Nat.beq j 223 then true else bif Nat.beq j 224 then true else bif Nat.beq j 237 then true else bif Nat.beq j 238 then true else bif Nat.beq j 239 then true else bif Nat.beq j 240 then true else bif Nat.beq j 243 then true else bif Nat.beq j 244 then true else bif Nat.beq j 245 then true else bif Nat.beq j 246 then true else bif Nat.beq j 247 then true else bif Nat.beq j 252 then true else bif Nat.beq j 253 then true else bif Nat.beq j 254 then true else bif Nat.beq j 255 then true else bif Nat.beq j 257 then true else bif Nat.beq j 258 then true else bif Nat.beq j 259 then true else bif Nat.beq j 260 then true else bif Nat.beq j 263 then true else false) (nov := (fun j => bif Nat.beq j 143 then false else bif Nat.beq j 144 then false else bif Nat.beq j 242 then false else bif Nat.beq j 236 then false else bif Nat.beq j 237 then false else bif Nat.beq j 241 then false else bif Nat.beq j 239 then false else bif Nat.beq j 96 then false else true)) 57 h
set_option maxRecDepth 100000 in
theorem b238_0 {sc : zC} {a : Int} {f : zF} {Q : zQ} (h : zov ((f (50) (7)) - (1)) (if zlcmp a (0) < 0 then (Q (some (zI (-1))) zSH f) else (if 0 < zlcmp a ((f (50) (7)) - (1)) then (Q (some (zI (-1))) zSH f) else (zov ((44) + a) (zix ((44) + a) (60) (if f (51) (((44) + a).toNat) < 0 then (Q (some (zI (-5))) zSH f) else (zov ((44) + a) (zix ((44) + a) (60) (Q (some (zI (f (51) (((44) + a).toNat)))) zSH (zup f (51) (((44) + a).toNat) (-1))))))))))) : zR sc (199) 238 0 [] [(0, zP (50)), (1, zI a)] 0 0 zSH f Q := zwn_R (stp := fun _ _ => none) (inl := fun j => bif Nat.beq j 14 then true else bif Nat.beq j 15 then true else bif Nat.beq j 16 then true else bif Nat.beq j 17 then true else bif Nat.beq j 18 then true else bif Nat.beq j 19 then true else bif Nat.beq j 20 then true else bif Nat.beq j 22 then true else bif Nat.beq j 23 then true else bif Nat.beq j 25 then true else bif Nat.beq j 28 then true else bif Nat.beq j 50 then true else bif Nat.beq j 51 then true else bif Nat.beq j 52 then true else bif Nat.beq j 53 then true else bif Nat.beq j 54 then true else bif Nat.beq j 55 then true else bif Nat.beq j 56 then true else bif Nat.beq j 57 then true else bif Nat.beq j 58 then true else bif Nat.beq j 59 then true else bif Nat.beq j 60 then true else bif Nat.beq j 62 then true else bif Nat.beq j 63 then true else bif Nat.beq j 64 then true else bif Nat.beq j 65 then true else bif Nat.beq j 66 then true else bif Nat.beq j 67 then true else bif Nat.beq j 68 then true else bif Nat.beq j 69 then true else bif Nat.beq j 70 then true else bif Nat.beq j 71 then true else bif Nat.beq j 72 then true else bif Nat.beq j 73 then true else bif Nat.beq j 74 then true else bif Nat.beq j 75 then true else bif Nat.beq j 76 then true else bif Nat.beq j 77 then true else bif Nat.beq j 78 then true else bif Nat.beq j 79 then true else bif Nat.beq j 85 then true else bif Nat.beq j 86 then true else bif Nat.beq j 87 then true else bif Nat.beq j 92 then true else bif Nat.beq j 93 then true else bif Nat.beq j 95 then true else bif Nat.beq j 96 then true else bif Nat.beq j 97 then true else bif Nat.beq j 98 then true else bif Nat.beq j 99 then true else bif Nat.beq j 165 then true else bif Nat.beq j 166 then true else bif Nat.beq j 167 then true else bif Nat.beq j 170 then true else bif Nat.beq j 171 then true else bif Nat.beq j 172 then true else bif Nat.beq j 173 then true else bif Nat.beq j 174 then true else bif Nat.beq j 175 then true else bif Nat.beq j 176 then true else bif Nat.beq j 177 then true else bif Nat.beq j 178 then true else bif Nat.beq j 180 then true else bif Nat.beq j 181 then true else bif Nat.beq j 182 then true else bif Nat.beq j 183 then true else bif Nat.beq j 184 then true else bif Nat.beq j 185 then true else bif Nat.beq j 186 then true else bif Nat.beq j 187 then true else bif Nat.beq j 188 then true else bif Nat.beq j 191 then true else bif Nat.beq j 194 then true else bif Nat.beq j 200 then true else bif Nat.beq j 204 then true else bif Nat.beq j 205 then true else bif Nat.beq j 206 then true else bif Nat.beq j 209 then true else bif Nat.beq j 215 then true else bif Nat.beq j 220 then true else bif Nat.beq j 223 then true else bif Nat.beq j 224 then true else bif Nat.beq j 237 then true else bif Nat.beq j 239 then true else bif Nat.beq j 240 then true else bif Nat.beq j 243 then true else bif Nat.beq j 244 then true else bif Nat.beq j 245 then true else bif Nat.beq j 246 then true else bif Nat.beq j 247 then true else bif Nat.beq j 252 then true else bif Nat.beq j 253 then true else bif Nat.beq j 254 then true else bif Nat.beq j 255 then true else bif Nat.beq j 257 then true else bif Nat.beq j 258 then true else bif Nat.beq j 259 then true else bif Nat.beq j 260 then true else bif Nat.beq j 263 then true else false) (nov := (fun j => bif Nat.beq j 143 then false else bif Nat.beq j 144 then false else bif Nat.beq j 242 then false else bif Nat.beq j 236 then false else bif Nat.beq j 237 then false else bif Nat.beq j 241 then false else bif Nat.beq j 239 then false else bif Nat.beq j 96 then false else true)) 59 h
set_option maxRecDepth 4000 in
set_option maxHeartbeats 4000000 in
theorem jd_27 {sc : zC} {f0 : zF} (g0 : aGok wG (afx sc f0)) (i0 : wD f0) {a : Int} : zR sc 199 145 0 [] [(0, zP (0)), (1, zI a)] 0 0 zSH f0 (fun r _ f1 => ∃ v, r = some (zI v) ∧ zR sc 199 238 0 [] [(0, zP (50)), (1, zI a)] 0 0 zSH f1 (fun r _ f2 => ∃ w, r = some (zI w) ∧ wD f2 ∧ v = w)) := by
  obtain ⟨⟨s1, s1'⟩, s2, s3, s5, ch, im, la⟩ := id i0
  have e0 := g_10 g0
  have e1 := g_11 g0
  by_cases ha : 0 ≤ a ∧ a < 7
  rotate_left
  · refine b145_0 ?_
    repeat' (first | (refine zix_p (by omega) ?_) | (refine zov_p (by omega) ?_) | (refine zit (fun h => ?_) (fun h => ?_)))
    all_goals try (exfalso; omega)
    all_goals refine ⟨_, rfl, b238_0 ?_⟩
    all_goals try simp only [zlc_lt, zlc_gt, zlc_eq]
    all_goals repeat' (first | (refine zix_p (by omega) ?_) | (refine zov_p (by omega) ?_) | (refine zit (fun h => ?_) (fun h => ?_)))
    all_goals try (exfalso; omega)
    all_goals exact ⟨_, rfl, i0, rfl⟩
  have h44 := (s2 (44 + a).toNat (by omega)).1
  refine b145_0 ?_
  repeat' (first | (refine zix_p (by omega) ?_) | (refine zov_p (by omega) ?_) | (refine zit (fun h => ?_) (fun h => ?_)))
  all_goals try (exfalso; omega)
  all_goals refine ⟨_, rfl, b238_0 ?_⟩
  all_goals try simp only [zup_at, Nat.reduceEqDiff, reduceIte, zlc_lt, zlc_gt, zlc_eq]
  all_goals repeat' (first | (refine zix_p (by omega) ?_) | (refine zov_p (by omega) ?_) | (refine zit (fun h => ?_) (fun h => ?_)))
  all_goals try (exfalso; omega)
  all_goals refine ⟨_, rfl, ?_, ?_⟩
  all_goals try omega
  all_goals try exact i0
  all_goals refine ⟨⟨s1, s1'⟩, ?_, s3, s5, ch, wIm_mo im (fun c hc => by rcases hc with rfl | rfl | rfl | rfl | rfl | rfl | rfl <;> rfl) rfl rfl ⟨rfl, rfl⟩ ⟨rfl, rfl⟩ (Int.le_refl _) (Int.le_refl _), wLa_k la (fun _ => rfl) rfl (fun _ => rfl) rfl⟩
  intro j hj
  obtain ⟨h1, h2⟩ := s2 j hj
  simp only [zup_at, Nat.reduceEqDiff, reduceIte]
  rw [← h1]
  refine ⟨rfl, ?_⟩
  repeat' split
  all_goals first | exact h2 | (unfold nB; omega)
set_option maxRecDepth 100000 in
theorem b146_0 {sc : zC} {a : Int} {f : zF} {Q : zQ} (h : if a < 0 then (Q (some (zI (-1))) zSH f) else (if a < f (1) (0) then (zix (w32 ((24) + a)) (60) (zix (w32 ((24) + a)) (60) (Q (some (zI (f (2) ((w32 ((24) + a)).toNat)))) zSH (zup (zup f (2) ((w32 ((24) + a)).toNat) (0)) (5) (5) (w32 ((f (5) (5)) + (f (2) ((w32 ((24) + a)).toNat)))))))) else (Q (some (zI (-1))) zSH f))) : zR sc (199) 146 0 [] [(0, zP (0)), (1, zI a)] 0 0 zSH f Q := zwn_R (stp := fun _ _ => none) (inl := fun j => bif Nat.beq j 14 then true else bif Nat.beq j 15 then true else bif Nat.beq j 16 then true else bif Nat.beq j 17 then true else bif Nat.beq j 18 then true else bif Nat.beq j 19 then true else bif Nat.beq j 20 then true else bif Nat.beq j 22 then true else bif Nat.beq j 23 then true else bif Nat.beq j 25 then true else bif Nat.beq j 28 then true else bif Nat.beq j 50 then true else bif Nat.beq j 51 then true else bif Nat.beq j 52 then true else bif Nat.beq j 53 then true else bif Nat.beq j 54 then true else bif Nat.beq j 55 then true else bif Nat.beq j 56 then true else bif Nat.beq j 57 then true else bif Nat.beq j 58 then true else bif Nat.beq j 59 then true else bif Nat.beq j 60 then true else bif Nat.beq j 62 then true else bif Nat.beq j 63 then true else bif Nat.beq j 64 then true else bif Nat.beq j 65 then true else bif Nat.beq j 66 then true else bif Nat.beq j 67 then true else bif Nat.beq j 68 then true else bif Nat.beq j 69 then true else bif Nat.beq j 70 then true else bif Nat.beq j 71 then true else bif Nat.beq j 72 then true else bif Nat.beq j 73 then true else bif Nat.beq j 74 then true else bif Nat.beq j 75 then true else bif Nat.beq j 76 then true else bif Nat.beq j 77 then true else bif Nat.beq j 78 then true else bif Nat.beq j 79 then true else bif Nat.beq j 85 then true else bif Nat.beq j 86 then true else bif Nat.beq j 87 then true else bif Nat.beq j 92 then true else bif Nat.beq j 93 then true else bif Nat.beq j 95 then true else bif Nat.beq j 96 then true else bif Nat.beq j 97 then true else bif Nat.beq j 98 then true else bif Nat.beq j 99 then true else bif Nat.beq j 165 then true else bif Nat.beq j 166 then true else bif Nat.beq j 167 then true else bif Nat.beq j 170 then true else bif Nat.beq j 171 then true else bif Nat.beq j 172 then true else bif Nat.beq j 173 then true else bif Nat.beq j 174 then true else bif Nat.beq j 175 then true else bif Nat.beq j 176 then true else bif Nat.beq j 177 then true else bif Nat.beq j 178 then true else bif Nat.beq j 180 then true else bif Nat.beq j 181 then true else bif Nat.beq j 182 then true else bif Nat.beq j 183 then true else bif Nat.beq j 184 then true else bif Nat.beq j 185 then true else bif Nat.beq j 186 then true else bif Nat.beq j 187 then true else bif Nat.beq j 188 then true else bif Nat.beq j 191 then true else bif Nat.beq j 194 then true else bif Nat.beq j 200 then true else bif Nat.beq j 204 then true else bif Nat.beq j 205 then true else bif Nat.beq j 206 then true else bif Nat.beq j 209 then true else bif Nat.beq j 215 then true else bif Nat.beq j 220 then true else bif Nat.beq j 223 then true else bif Nat.beq j 224 then true else bif Nat.beq j 237 then true else bif Nat.beq j 238 then true else bif Nat.beq j 239 then true else bif Nat.beq j 240 then true else bif Nat.beq j 243 then true else bif Nat.beq j 244 then true else bif Nat.beq j 245 then true else bif Nat.beq j 246 then true else bif Nat.beq j 247 then true else bif Nat.beq j 252 then true else bif Nat.beq j 253 then true else bif Nat.beq j 254 then true else bif Nat.beq j 255 then true else bif Nat.beq j 257 then true else bif Nat.beq j 258 then true else bif Nat.beq j 259 then true else bif Nat.beq j 260 then true else bif Nat.beq j 263 then true else false) (nov := (fun j => bif Nat.beq j 143 then false else bif Nat.beq j 144 then false else bif Nat.beq j 242 then false else bif Nat.beq j 236 then false else bif Nat.beq j 237 then false else bif Nat.beq j 241 then false else bif Nat.beq j 239 then false else bif Nat.beq j 96 then false else true)) 56 h
set_option maxRecDepth 100000 in
theorem b239_0 {sc : zC} {a : Int} {f : zF} {Q : zQ} (h : zov ((f (50) (6)) - (1)) (if zlcmp a (0) < 0 then (Q (some (zI (-1))) zSH f) else (if 0 < zlcmp a ((f (50) (6)) - (1)) then (Q (some (zI (-1))) zSH f) else (zix (w32 ((24) + a)) (60) (zix (w32 ((24) + a)) (60) (Q (some (zI (f (51) ((w32 ((24) + a)).toNat)))) zSH (zup (zup f (51) ((w32 ((24) + a)).toNat) (0)) (68) (5) (w32 ((f (68) (5)) + (f (51) ((w32 ((24) + a)).toNat))))))))))) : zR sc (199) 239 0 [] [(0, zP (50)), (1, zI a)] 0 0 zSH f Q := zwn_R (stp := fun _ _ => none) (inl := fun j => bif Nat.beq j 14 then true else bif Nat.beq j 15 then true else bif Nat.beq j 16 then true else bif Nat.beq j 17 then true else bif Nat.beq j 18 then true else bif Nat.beq j 19 then true else bif Nat.beq j 20 then true else bif Nat.beq j 22 then true else bif Nat.beq j 23 then true else bif Nat.beq j 25 then true else bif Nat.beq j 28 then true else bif Nat.beq j 50 then true else bif Nat.beq j 51 then true else bif Nat.beq j 52 then true else bif Nat.beq j 53 then true else bif Nat.beq j 54 then true else bif Nat.beq j 55 then true else bif Nat.beq j 56 then true else bif Nat.beq j 57 then true else bif Nat.beq j 58 then true else bif Nat.beq j 59 then true else bif Nat.beq j 60 then true else bif Nat.beq j 62 then true else bif Nat.beq j 63 then true else bif Nat.beq j 64 then true else bif Nat.beq j 65 then true else bif Nat.beq j 66 then true else bif Nat.beq j 67 then true else bif Nat.beq j 68 then true else bif Nat.beq j 69 then true else bif Nat.beq j 70 then true else bif Nat.beq j 71 then true else bif Nat.beq j 72 then true else bif Nat.beq j 73 then true else bif Nat.beq j 74 then true else bif Nat.beq j 75 then true else bif Nat.beq j 76 then true else bif Nat.beq j 77 then true else bif Nat.beq j 78 then true else bif Nat.beq j 79 then true else bif Nat.beq j 85 then true else bif Nat.beq j 86 then true else bif Nat.beq j 87 then true else bif Nat.beq j 92 then true else bif Nat.beq j 93 then true else bif Nat.beq j 95 then true else bif Nat.beq j 96 then true else bif Nat.beq j 97 then true else bif Nat.beq j 98 then true else bif Nat.beq j 99 then true else bif Nat.beq j 165 then true else bif Nat.beq j 166 then true else bif Nat.beq j 167 then true else bif Nat.beq j 170 then true else bif Nat.beq j 171 then true else bif Nat.beq j 172 then true else bif Nat.beq j 173 then true else bif Nat.beq j 174 then true else bif Nat.beq j 175 then true else bif Nat.beq j 176 then true else bif Nat.beq j 177 then true else bif Nat.beq j 178 then true else bif Nat.beq j 180 then true else bif Nat.beq j 181 then true else bif Nat.beq j 182 then true else bif Nat.beq j 183 then true else bif Nat.beq j 184 then true else bif Nat.beq j 185 then true else bif Nat.beq j 186 then true else bif Nat.beq j 187 then true else bif Nat.beq j 188 then true else bif Nat.beq j 191 then true else bif Nat.beq j 194 then true else bif Nat.beq j 200 then true else bif Nat.beq j 204 then true else bif Nat.beq j 205 then true else bif Nat.beq j 206 then true else bif Nat.beq j 209 then true else bif Nat.beq j 215 then true else bif Nat.beq j 220 then true else bif Nat.beq j 223 then true else bif Nat.beq j 224 then true else bif Nat.beq j 237 then true else bif Nat.beq j 238 then true else bif Nat.beq j 240 then true else bif Nat.beq j 243 then true else bif Nat.beq j 244 then true else bif Nat.beq j 245 then true else bif Nat.beq j 246 then true else bif Nat.beq j 247 then true else bif Nat.beq j 252 then true else bif Nat.beq j 253 then true else bif Nat.beq j 254 then true else bif Nat.beq j 255 then true else bif Nat.beq j 257 then true else bif Nat.beq j 258 then true else bif Nat.beq j 259 then true else bif Nat.beq j 260 then true else bif Nat.beq j 263 then true else false) (nov := (fun j => bif Nat.beq j 143 then false else bif Nat.beq j 144 then false else bif Nat.beq j 242 then false else bif Nat.beq j 236 then false else bif Nat.beq j 237 then false else bif Nat.beq j 241 then false else bif Nat.beq j 239 then false else bif Nat.beq j 96 then false else true)) 63 h
set_option maxRecDepth 4000 in
set_option maxHeartbeats 4000000 in
theorem jd_28 {sc : zC} {f0 : zF} (g0 : aGok wG (afx sc f0)) (i0 : wD f0) {a : Int} : zR sc 199 146 0 [] [(0, zP (0)), (1, zI a)] 0 0 zSH f0 (fun r _ f1 => ∃ v, r = some (zI v) ∧ zR sc 199 239 0 [] [(0, zP (50)), (1, zI a)] 0 0 zSH f1 (fun r _ f2 => ∃ w, r = some (zI w) ∧ wD f2 ∧ v = w)) := by
  obtain ⟨⟨s1, s1'⟩, s2, s3, s5, ch, im, la⟩ := id i0
  have e0 := g_10 g0
  have e1 := g_11 g0
  by_cases ha : 0 ≤ a ∧ a < 6
  rotate_left
  · refine b146_0 ?_
    repeat' (first | (refine zix_p (by omega) ?_) | (refine zov_p (by omega) ?_) | (refine zit (fun h => ?_) (fun h => ?_)))
    all_goals try (exfalso; omega)
    all_goals refine ⟨_, rfl, b239_0 ?_⟩
    all_goals try simp only [zlc_lt, zlc_gt, zlc_eq]
    all_goals repeat' (first | (refine zix_p (by omega) ?_) | (refine zov_p (by omega) ?_) | (refine zit (fun h => ?_) (fun h => ?_)))
    all_goals try (exfalso; omega)
    all_goals exact ⟨_, rfl, i0, rfl⟩
  have h24 := (s2 (24 + a).toNat (by omega)).1
  have ew : wq (24 + a) (24 + a) := wq_i (by omega) rfl
  refine b146_0 ?_
  rw [wq_e ew]
  repeat' (first | (refine zix_p (by omega) ?_) | (refine zov_p (by omega) ?_) | (refine zit (fun h => ?_) (fun h => ?_)))
  all_goals try (exfalso; omega)
  all_goals refine ⟨_, rfl, b239_0 ?_⟩
  all_goals try simp only [zup_at, Nat.reduceEqDiff, reduceIte, zlc_lt, zlc_gt, zlc_eq, wq_e ew]
  all_goals repeat' (first | (refine zix_p (by omega) ?_) | (refine zov_p (by omega) ?_) | (refine zit (fun h => ?_) (fun h => ?_)))
  all_goals try (exfalso; omega)
  all_goals refine ⟨_, rfl, ?_, ?_⟩
  all_goals try omega
  all_goals try exact i0
  all_goals refine ⟨⟨s1, s1'⟩, ?_, s3, ?_, ch, wIm_mo im (fun c hc => by rcases hc with rfl | rfl | rfl | rfl | rfl | rfl | rfl <;> rfl) rfl rfl ⟨rfl, rfl⟩ ⟨rfl, rfl⟩ (Int.le_refl _) (Int.le_refl _), wLa_k la (fun _ => rfl) rfl (fun _ => rfl) rfl⟩
  · intro j hj
    obtain ⟨h1, h2⟩ := s2 j hj
    simp only [zup_at, Nat.reduceEqDiff, reduceIte]
    rw [← h1]
    refine ⟨rfl, ?_⟩
    repeat' split
    all_goals first | exact h2 | (unfold nB; omega)
  · intro j hj
    simp only [zup_at, Nat.reduceEqDiff, reduceIte]
    rw [s5 j hj, s5 5 (by decide), h24]
set_option maxRecDepth 100000 in
theorem b150_0 {sc : zC} {f : zF} {Q : zQ} (h : if 0 < f (26) (3) then (zov ((f (26) (3)) - (1)) (zix ((f (26) (3)) - (1)) (40) (zix ((f (26) (3)) - (1)) (40) (zix (f (27) (((f (26) (3)) - (1)).toNat)) (60) (Q (some (zI ((f (26) (3)) - (1)))) zSH (zup (zup f (26) (3) ((f (26) (3)) - (1))) (2) ((f (27) (((f (26) (3)) - (1)).toNat)).toNat) (f (28) (((f (26) (3)) - (1)).toNat)))))))) else (Q (some (zI (-5))) zSH f)) : zR sc (199) 150 0 [] [(0, zP (0))] 0 0 zSH f Q := zwn_R (stp := fun _ _ => none) (inl := fun j => bif Nat.beq j 14 then true else bif Nat.beq j 15 then true else bif Nat.beq j 16 then true else bif Nat.beq j 17 then true else bif Nat.beq j 18 then true else bif Nat.beq j 19 then true else bif Nat.beq j 20 then true else bif Nat.beq j 22 then true else bif Nat.beq j 23 then true else bif Nat.beq j 25 then true else bif Nat.beq j 28 then true else bif Nat.beq j 50 then true else bif Nat.beq j 51 then true else bif Nat.beq j 52 then true else bif Nat.beq j 53 then true else bif Nat.beq j 54 then true else bif Nat.beq j 55 then true else bif Nat.beq j 56 then true else bif Nat.beq j 57 then true else bif Nat.beq j 58 then true else bif Nat.beq j 59 then true else bif Nat.beq j 60 then true else bif Nat.beq j 62 then true else bif Nat.beq j 63 then true else bif Nat.beq j 64 then true else bif Nat.beq j 65 then true else bif Nat.beq j 66 then true else bif Nat.beq j 67 then true else bif Nat.beq j 68 then true else bif Nat.beq j 69 then true else bif Nat.beq j 70 then true else bif Nat.beq j 71 then true else bif Nat.beq j 72 then true else bif Nat.beq j 73 then true else bif Nat.beq j 74 then true else bif Nat.beq j 75 then true else bif Nat.beq j 76 then true else bif Nat.beq j 77 then true else bif Nat.beq j 78 then true else bif Nat.beq j 79 then true else bif Nat.beq j 85 then true else bif Nat.beq j 86 then true else bif Nat.beq j 87 then true else bif Nat.beq j 92 then true else bif Nat.beq j 93 then true else bif Nat.beq j 95 then true else bif Nat.beq j 96 then true else bif Nat.beq j 97 then true else bif Nat.beq j 98 then true else bif Nat.beq j 99 then true else bif Nat.beq j 165 then true else bif Nat.beq j 166 then true else bif Nat.beq j 167 then true else bif Nat.beq j 170 then true else bif Nat.beq j 171 then true else bif Nat.beq j 172 then true else bif Nat.beq j 173 then true else bif Nat.beq j 174 then true else bif Nat.beq j 175 then true else bif Nat.beq j 176 then true else bif Nat.beq j 177 then true else bif Nat.beq j 178 then true else bif Nat.beq j 180 then true else bif Nat.beq j 181 then true else bif Nat.beq j 182 then true else bif Nat.beq j 183 then true else bif Nat.beq j 184 then true else bif Nat.beq j 185 then true else bif Nat.beq j 186 then true else bif Nat.beq j 187 then true else bif Nat.beq j 188 then true else bif Nat.beq j 191 then true else bif Nat.beq j 194 then true else bif Nat.beq j 200 then true else bif Nat.beq j 204 then true else bif Nat.beq j 205 then true else bif Nat.beq j 206 then true else bif Nat.beq j 209 then true else bif Nat.beq j 215 then true else bif Nat.beq j 220 then true else bif Nat.beq j 223 then true else bif Nat.beq j 224 then true else bif Nat.beq j 237 then true else bif Nat.beq j 238 then true else bif Nat.beq j 239 then true else bif Nat.beq j 240 then true else bif Nat.beq j 243 then true else bif Nat.beq j 244 then true else bif Nat.beq j 245 then true else bif Nat.beq j 246 then true else bif Nat.beq j 247 then true else bif Nat.beq j 252 then true else bif Nat.beq j 253 then true else bif Nat.beq j 254 then true else bif Nat.beq j 255 then true else bif Nat.beq j 257 then true else bif Nat.beq j 258 then true else bif Nat.beq j 259 then true else bif Nat.beq j 260 then true else bif Nat.beq j 263 then true else false) (nov := (fun j => bif Nat.beq j 143 then false else bif Nat.beq j 144 then false else bif Nat.beq j 242 then false else bif Nat.beq j 236 then false else bif Nat.beq j 237 then false else bif Nat.beq j 241 then false else bif Nat.beq j 239 then false else bif Nat.beq j 96 then false else true)) 36 h
set_option maxRecDepth 100000 in
theorem b151_0 {sc : zC} {f : zF} {Q : zQ} (h : if f (26) (3) < f (26) (4) then (zix (f (26) (3)) (40) (zix (f (26) (3)) (40) (zix (f (27) ((f (26) (3)).toNat)) (60) (zov ((f (26) (3)) + (1)) (zov ((f (26) (4)) - ((f (26) (3)) + (1))) (Q (some (zI ((f (26) (4)) - ((f (26) (3)) + (1))))) zSH (zup (zup f (2) ((f (27) ((f (26) (3)).toNat)).toNat) (f (29) ((f (26) (3)).toNat))) (26) (3) ((f (26) (3)) + (1))))))))) else (Q (some (zI (-5))) zSH f)) : zR sc (199) 151 0 [] [(0, zP (0))] 0 0 zSH f Q := zwn_R (stp := fun _ _ => none) (inl := fun j => bif Nat.beq j 14 then true else bif Nat.beq j 15 then true else bif Nat.beq j 16 then true else bif Nat.beq j 17 then true else bif Nat.beq j 18 then true else bif Nat.beq j 19 then true else bif Nat.beq j 20 then true else bif Nat.beq j 22 then true else bif Nat.beq j 23 then true else bif Nat.beq j 25 then true else bif Nat.beq j 28 then true else bif Nat.beq j 50 then true else bif Nat.beq j 51 then true else bif Nat.beq j 52 then true else bif Nat.beq j 53 then true else bif Nat.beq j 54 then true else bif Nat.beq j 55 then true else bif Nat.beq j 56 then true else bif Nat.beq j 57 then true else bif Nat.beq j 58 then true else bif Nat.beq j 59 then true else bif Nat.beq j 60 then true else bif Nat.beq j 62 then true else bif Nat.beq j 63 then true else bif Nat.beq j 64 then true else bif Nat.beq j 65 then true else bif Nat.beq j 66 then true else bif Nat.beq j 67 then true else bif Nat.beq j 68 then true else bif Nat.beq j 69 then true else bif Nat.beq j 70 then true else bif Nat.beq j 71 then true else bif Nat.beq j 72 then true else bif Nat.beq j 73 then true else bif Nat.beq j 74 then true else bif Nat.beq j 75 then true else bif Nat.beq j 76 then true else bif Nat.beq j 77 then true else bif Nat.beq j 78 then true else bif Nat.beq j 79 then true else bif Nat.beq j 85 then true else bif Nat.beq j 86 then true else bif Nat.beq j 87 then true else bif Nat.beq j 92 then true else bif Nat.beq j 93 then true else bif Nat.beq j 95 then true else bif Nat.beq j 96 then true else bif Nat.beq j 97 then true else bif Nat.beq j 98 then true else bif Nat.beq j 99 then true else bif Nat.beq j 165 then true else bif Nat.beq j 166 then true else bif Nat.beq j 167 then true else bif Nat.beq j 170 then true else bif Nat.beq j 171 then true else bif Nat.beq j 172 then true else bif Nat.beq j 173 then true else bif Nat.beq j 174 then true else bif Nat.beq j 175 then true else bif Nat.beq j 176 then true else bif Nat.beq j 177 then true else bif Nat.beq j 178 then true else bif Nat.beq j 180 then true else bif Nat.beq j 181 then true else bif Nat.beq j 182 then true else bif Nat.beq j 183 then true else bif Nat.beq j 184 then true else bif Nat.beq j 185 then true else bif Nat.beq j 186 then true else bif Nat.beq j 187 then true else bif Nat.beq j 188 then true else bif Nat.beq j 191 then true else bif Nat.beq j 194 then true else bif Nat.beq j 200 then true else bif Nat.beq j 204 then true else bif Nat.beq j 205 then true else bif Nat.beq j 206 then true else bif Nat.beq j 209 then true else bif Nat.beq j 215 then true else bif Nat.beq j 220 then true else bif Nat.beq j 223 then true else bif Nat.beq j 224 then true else bif Nat.beq j 237 then true else bif Nat.beq j 238 then true else bif Nat.beq j 239 then true else bif Nat.beq j 240 then true else bif Nat.beq j 243 then true else bif Nat.beq j 244 then true else bif Nat.beq j 245 then true else bif Nat.beq j 246 then true else bif Nat.beq j 247 then true else bif Nat.beq j 252 then true else bif Nat.beq j 253 then true else bif Nat.beq j 254 then true else bif Nat.beq j 255 then true else bif Nat.beq j 257 then true else bif Nat.beq j 258 then true else bif Nat.beq j 259 then true else bif Nat.beq j 260 then true else bif Nat.beq j 263 then true else false) (nov := (fun j => bif Nat.beq j 143 then false else bif Nat.beq j 144 then false else bif Nat.beq j 242 then false else bif Nat.beq j 236 then false else bif Nat.beq j 237 then false else bif Nat.beq j 241 then false else bif Nat.beq j 239 then false else bif Nat.beq j 96 then false else true)) 41 h
set_option maxRecDepth 4000 in
set_option maxHeartbeats 4000000 in
theorem jd_32 {sc : zC} {f0 : zF} (g0 : aGok wG (afx sc f0)) (i0 : wD f0) : zR sc 199 150 0 [] [(0, zP (0))] 0 0 zSH f0 (fun r _ f1 => ∃ v, r = some (zI v) ∧ zR sc 199 170 0 [] [(0, zP (50))] 0 0 zSH f1 (fun r _ f2 => ∃ w, r = some (zI w) ∧ wD f2 ∧ v = w)) := by
  obtain ⟨⟨s1, s1'⟩, s2, s3, s5, ch, im, la⟩ := id i0
  have e0 := g_10 g0
  have e1 := g_11 g0
  obtain ⟨⟨c1, c2⟩, cc⟩ := id ch
  have e3 : (0 : Int) ≤ f0 26 3 ∧ f0 26 3 ≤ 40 := wG_at (F := afx sc f0) (c := 26) (j := 3) (I := (.ofNat 0, .ofNat 40)) g0.1 rfl
  have e4 : (0 : Int) ≤ f0 26 4 ∧ f0 26 4 ≤ 40 := wG_at (F := afx sc f0) (c := 26) (j := 4) (I := (.ofNat 0, .ofNat 40)) g0.1 rfl
  by_cases hd : 0 < f0 26 3
  · obtain ⟨⟨x1, x2, x3⟩, ⟨y1, y2⟩, y3, y4⟩ := cc (f0 26 3 - 1).toNat (by omega)
    refine b150_0 ?_
    rw [if_pos hd]
    repeat' (first | (refine zix_p (by omega) ?_) | (refine zov_p (by omega) ?_) | (refine zit (fun h => ?_) (fun h => ?_)))
    refine ⟨_, rfl, zR_le (by decide) (b170_0 ?_)⟩
    simp only [zup_at, Nat.reduceEqDiff, reduceIte]
    rw [← c1]
    try rw [← c2]
    rw [← x1, ← x2, if_neg (by omega)]
    repeat' (first | (refine zix_p (by omega) ?_) | (refine zov_p (by omega) ?_) | (refine zit (fun h => ?_) (fun h => ?_)))
    refine ⟨_, rfl, ?_, rfl⟩
    refine ⟨⟨s1, s1'⟩, ?_, s3, s5, ⟨⟨rfl, c2⟩, cc⟩, wIm_mo im (fun c hc => by rcases hc with rfl | rfl | rfl | rfl | rfl | rfl | rfl <;> rfl) rfl rfl ⟨rfl, rfl⟩ ⟨rfl, rfl⟩ (Int.le_refl _) (Int.le_refl _), wLa_k la (fun _ => rfl) rfl (fun _ => rfl) rfl⟩
    intro j hj
    obtain ⟨h1, h2⟩ := s2 j hj
    simp only [zup_at, Nat.reduceEqDiff, reduceIte]
    rw [← h1]
    refine ⟨rfl, ?_⟩
    split
    · next h => rw [h]; exact y3
    · exact h2
  · refine b150_0 ?_
    rw [if_neg hd]
    refine ⟨_, rfl, zR_le (by decide) (b170_0 ?_)⟩
    rw [← c1]
    try rw [← c2]
    rw [if_pos (by omega)]
    exact ⟨_, rfl, i0, rfl⟩
set_option maxRecDepth 4000 in
set_option maxHeartbeats 4000000 in
theorem jd_33 {sc : zC} {f0 : zF} (g0 : aGok wG (afx sc f0)) (i0 : wD f0) : zR sc 199 151 0 [] [(0, zP (0))] 0 0 zSH f0 (fun r _ f1 => ∃ v, r = some (zI v) ∧ zR sc 199 171 0 [] [(0, zP (50))] 0 0 zSH f1 (fun r _ f2 => ∃ w, r = some (zI w) ∧ wD f2 ∧ v = w)) := by
  obtain ⟨⟨s1, s1'⟩, s2, s3, s5, ch, im, la⟩ := id i0
  have e0 := g_10 g0
  have e1 := g_11 g0
  obtain ⟨⟨c1, c2⟩, cc⟩ := id ch
  have e3 : (0 : Int) ≤ f0 26 3 ∧ f0 26 3 ≤ 40 := wG_at (F := afx sc f0) (c := 26) (j := 3) (I := (.ofNat 0, .ofNat 40)) g0.1 rfl
  have e4 : (0 : Int) ≤ f0 26 4 ∧ f0 26 4 ≤ 40 := wG_at (F := afx sc f0) (c := 26) (j := 4) (I := (.ofNat 0, .ofNat 40)) g0.1 rfl
  have e5 : f0 26 3 ≤ f0 26 4 := by have h := g0.2.2.2; have h : f0 50 5 ≤ f0 50 4 := h; omega
  by_cases hd : f0 26 3 < f0 26 4
  · obtain ⟨⟨x1, x2, x3⟩, ⟨y1, y2⟩, y3, y4⟩ := cc (f0 26 3).toNat (by omega)
    refine b151_0 ?_
    rw [if_pos hd]
    repeat' (first | (refine zix_p (by omega) ?_) | (refine zov_p (by omega) ?_) | (refine zit (fun h => ?_) (fun h => ?_)))
    refine ⟨_, rfl, zR_le (by decide) (b171_0 ?_)⟩
    simp only [zup_at, Nat.reduceEqDiff, reduceIte]
    rw [← c1]
    try rw [← c2]
    rw [← x1, ← x3, if_neg (by omega)]
    repeat' (first | (refine zix_p (by omega) ?_) | (refine zov_p (by omega) ?_) | (refine zit (fun h => ?_) (fun h => ?_)))
    refine ⟨_, rfl, ?_, rfl⟩
    refine ⟨⟨s1, s1'⟩, ?_, s3, s5, ⟨⟨rfl, c2⟩, cc⟩, wIm_mo im (fun c hc => by rcases hc with rfl | rfl | rfl | rfl | rfl | rfl | rfl <;> rfl) rfl rfl ⟨rfl, rfl⟩ ⟨rfl, rfl⟩ (Int.le_refl _) (Int.le_refl _), wLa_k la (fun _ => rfl) rfl (fun _ => rfl) rfl⟩
    intro j hj
    obtain ⟨h1, h2⟩ := s2 j hj
    simp only [zup_at, Nat.reduceEqDiff, reduceIte]
    rw [← h1]
    refine ⟨rfl, ?_⟩
    split
    · next h => rw [h]; exact y4
    · exact h2
  · refine b151_0 ?_
    rw [if_neg hd]
    refine ⟨_, rfl, zR_le (by decide) (b171_0 ?_)⟩
    rw [← c1]
    try rw [← c2]
    rw [if_pos (by omega)]
    exact ⟨_, rfl, i0, rfl⟩
end
