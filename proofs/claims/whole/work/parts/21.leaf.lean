/-! PURE: the class's smallest methods -/
set_option maxHeartbeats 4000000 in
theorem p_at (n a : Nat) (i : Int32) (μ : mM) {N : Nat} (h : μ.2.2.2[a]? = some (0, N)) (hN : N < 2 ^ 31) : FX11_at n [.ref a, .int i] μ = some (some (.int (rd (μ.1 a) N i)), μ) := by
  simp only [eX11_at, kX11_at_0, kX11_at_16, kX11_at_17, i_cst, i_ldI, i_ldJ, i_ldA, i_stI, i_stJ, i_stA, i_inc, i_bin, i_dv, i_un, i_i2l, i_bnJ, i_lshl, i_lcmp, i_dup, i_dp2, i_gI, i_gJ, i_gA, i_pI, i_pZ, i_pJ, i_pA, i_al, i_as, i_alJ, i_asJ, i_len, i_c0, i_c2, i_sw, msel, i_cV, i_cS, i_rV, i_rI, i_rZ, i_rJ, i_mm, i_pop, i_no, mpl, mvr, mnw, List.getElem?_cons_zero, List.getElem?_cons_succ, List.set_cons_zero, List.set_cons_succ, List.length_cons, List.length_nil, List.drop_succ_cons, List.drop_zero, List.take_succ_cons, List.take_zero, List.reverse_cons, List.reverse_nil, List.nil_append, List.cons_append, List.append_nil, List.map_cons, List.map_nil, List.sum_cons, List.sum_nil, Option.toList_some, Option.toList_none, Option.bind_some, Value.category, decide_eq_true_eq, decide_true, decide_false, if_true, if_false, Bool.false_eq_true, and_self, and_true, true_and, true_or, or_true, not_true_eq_false, not_false_eq_true, ↓reduceIte, reduceCtorEq, Nat.reduceEqDiff, Nat.reduceAdd, Nat.reduceSub, Nat.reduceMul, Nat.reduceLT, Nat.reduceLeDiff, Nat.reduceBEq, Nat.le_refl, Nat.zero_le, Nat.lt_irrefl, beq_self_eq_true, Nat.succ_ne_zero, Option.some.injEq, Prod.mk.injEq, Int32.reduceLT, Int32.reduceLE, h]
  unfold rd
  by_cases h0 : i < 0
  · simp [h0, show ¬ (0 ≤ i) from Int32.not_le.mpr h0]
  · rw [if_neg h0]
    by_cases h1 : Int32.ofNat N ≤ i
    · rw [if_pos h1, if_neg (fun q => absurd h1 (Int32.not_le.mpr q.2))]
    · obtain ⟨q1, q2⟩ := ix_lt hN h0 h1
      rw [if_neg h1, if_pos ⟨q2, q1⟩, if_pos ⟨q2, Int32.not_le.mp h1⟩]
set_option maxHeartbeats 4000000 in
theorem p_set (n a : Nat) (i v : Int32) (μ : mM) {N : Nat} (h : μ.2.2.2[a]? = some (0, N)) (hN : N < 2 ^ 31) : FX11_set n [.ref a, .int i, .int v] μ = some (none, if 0 ≤ i ∧ i < nI N then uI μ a i.toNatClampNeg v else μ) := by
  simp only [eX11_set, kX11_set_0, kX11_set_14, i_cst, i_ldI, i_ldJ, i_ldA, i_stI, i_stJ, i_stA, i_inc, i_bin, i_dv, i_un, i_i2l, i_bnJ, i_lshl, i_lcmp, i_dup, i_dp2, i_gI, i_gJ, i_gA, i_pI, i_pZ, i_pJ, i_pA, i_al, i_as, i_alJ, i_asJ, i_len, i_c0, i_c2, i_sw, msel, i_cV, i_cS, i_rV, i_rI, i_rZ, i_rJ, i_mm, i_pop, i_no, mpl, mvr, mnw, List.getElem?_cons_zero, List.getElem?_cons_succ, List.set_cons_zero, List.set_cons_succ, List.length_cons, List.length_nil, List.drop_succ_cons, List.drop_zero, List.take_succ_cons, List.take_zero, List.reverse_cons, List.reverse_nil, List.nil_append, List.cons_append, List.append_nil, List.map_cons, List.map_nil, List.sum_cons, List.sum_nil, Option.toList_some, Option.toList_none, Option.bind_some, Value.category, decide_eq_true_eq, decide_true, decide_false, if_true, if_false, Bool.false_eq_true, and_self, and_true, true_and, true_or, or_true, not_true_eq_false, not_false_eq_true, ↓reduceIte, reduceCtorEq, Nat.reduceEqDiff, Nat.reduceAdd, Nat.reduceSub, Nat.reduceMul, Nat.reduceLT, Nat.reduceLeDiff, Nat.reduceBEq, Nat.le_refl, Nat.zero_le, Nat.lt_irrefl, beq_self_eq_true, Nat.succ_ne_zero, Option.some.injEq, Prod.mk.injEq, Int32.reduceLT, Int32.reduceLE, h]
  by_cases h0 : i < 0
  · simp [h0, show ¬ (0 ≤ i) from Int32.not_le.mpr h0]
  · rw [if_neg h0]
    by_cases h1 : Int32.ofNat N ≤ i
    · rw [if_pos h1, if_neg (fun q => absurd h1 (Int32.not_le.mpr q.2))]
    · obtain ⟨q1, q2⟩ := ix_lt hN h0 h1
      rw [if_neg h1, if_pos ⟨q2, q1⟩, if_pos ⟨q2, Int32.not_le.mp h1⟩]
theorem p_setN (n a j : Nat) (v : Int32) (μ : mM) {N : Nat} (h : μ.2.2.2[a]? = some (0, N)) (hN : N < 2 ^ 31) (hj : j < N) : FX11_set n [.ref a, .int (nI j), .int v] μ = some (none, uI μ a j v) := by
  rw [p_set n a _ v μ h hN, if_pos ⟨nI_pos' (by omega), (nI_ltI (by omega) hN).mpr hj⟩, nI_clamp (by omega)]
theorem p_atN (n a j : Nat) (μ : mM) {N : Nat} (h : μ.2.2.2[a]? = some (0, N)) (hN : N < 2 ^ 31) (hj : j < N) : FX11_at n [.ref a, .int (nI j)] μ = some (some (.int (μ.1 a j)), μ) := by
  rw [p_at n a _ μ h hN, rd_nI hj hN]
theorem p_bit (n : Nat) (x : Int32) (μ : mM) : FX11_bit n [.int x] μ = some (some (.int (bit1 x)), μ) := by
  simp only [eX11_bit, kX11_bit_0, i_cst, i_ldI, i_ldJ, i_ldA, i_stI, i_stJ, i_stA, i_inc, i_bin, i_dv, i_un, i_i2l, i_bnJ, i_lshl, i_lcmp, i_dup, i_dp2, i_gI, i_gJ, i_gA, i_pI, i_pZ, i_pJ, i_pA, i_al, i_as, i_alJ, i_asJ, i_len, i_c0, i_c2, i_sw, msel, i_cV, i_cS, i_rV, i_rI, i_rZ, i_rJ, i_mm, i_pop, i_no, mpl, mvr, mnw, List.getElem?_cons_zero, List.getElem?_cons_succ, List.set_cons_zero, List.set_cons_succ, List.length_cons, List.length_nil, List.drop_succ_cons, List.drop_zero, List.take_succ_cons, List.take_zero, List.reverse_cons, List.reverse_nil, List.nil_append, List.cons_append, List.append_nil, List.map_cons, List.map_nil, List.sum_cons, List.sum_nil, Option.toList_some, Option.toList_none, Option.bind_some, Value.category, decide_eq_true_eq, decide_true, decide_false, if_true, if_false, Bool.false_eq_true, and_self, and_true, true_and, true_or, or_true, not_true_eq_false, not_false_eq_true, ↓reduceIte, reduceCtorEq, Nat.reduceEqDiff, Nat.reduceAdd, Nat.reduceSub, Nat.reduceMul, Nat.reduceLT, Nat.reduceLeDiff, Nat.reduceBEq, Nat.le_refl, Nat.zero_le, Nat.lt_irrefl, beq_self_eq_true, Nat.succ_ne_zero, Option.some.injEq, Prod.mk.injEq, Int32.reduceLT, Int32.reduceLE, bit1]
/-- what the references of a street are -/
theorem st_rt {a : Nat} (ha : a = 29 ∨ a = 34) (f : Nat) : (RT f a 0 = some 2 ∧ RT f a 1 = some (a + 1) ∧ RT f a 2 = some (a + 2) ∧ RT f a 3 = some (a + 3) ∧ RT f a 4 = some (a + 4)) ∧ LAY[a]? = some (4, 8) ∧ LAY[a + 1]? = some (0, 8) ∧ LAY[a + 2]? = some (0, 8) ∧ LAY[a + 3]? = some (0, 8) ∧ LAY[a + 4]? = some (0, 8) := by
  rcases ha with rfl | rfl <;> exact ⟨⟨rfl, rfl, rfl, rfl, rfl⟩, rfl, rfl, rfl, rfl, rfl⟩
theorem p_hasCar (n : Nat) (c : Int32) (I : Nat → Nat → Int32) (J : Nat → Nat → Int64) (f : Nat) : FX4_hasCar n [.ref 2, .int c] (mm I J f) = some (some (.int (b2i (0 ≤ c ∧ c < I 2 2))), mm I J f) := by
  simp only [eX4_hasCar, kX4_hasCar_0, kX4_hasCar_16, kX4_hasCar_17, i_cst, i_ldI, i_ldJ, i_ldA, i_stI, i_stJ, i_stA, i_inc, i_bin, i_dv, i_un, i_i2l, i_bnJ, i_lshl, i_lcmp, i_dup, i_dp2, i_gI, i_gJ, i_gA, i_pI, i_pZ, i_pJ, i_pA, i_al, i_as, i_alJ, i_asJ, i_len, i_c0, i_c2, i_sw, msel, i_cV, i_cS, i_rV, i_rI, i_rZ, i_rJ, i_mm, i_pop, i_no, mpl, mvr, mnw, List.getElem?_cons_zero, List.getElem?_cons_succ, List.set_cons_zero, List.set_cons_succ, List.length_cons, List.length_nil, List.drop_succ_cons, List.drop_zero, List.take_succ_cons, List.take_zero, List.reverse_cons, List.reverse_nil, List.nil_append, List.cons_append, List.append_nil, List.map_cons, List.map_nil, List.sum_cons, List.sum_nil, Option.toList_some, Option.toList_none, Option.bind_some, Value.category, decide_eq_true_eq, decide_true, decide_false, if_true, if_false, Bool.false_eq_true, and_self, and_true, true_and, true_or, or_true, not_true_eq_false, not_false_eq_true, ↓reduceIte, reduceCtorEq, Nat.reduceEqDiff, Nat.reduceAdd, Nat.reduceSub, Nat.reduceMul, Nat.reduceLT, Nat.reduceLeDiff, Nat.reduceBEq, Nat.le_refl, Nat.zero_le, Nat.lt_irrefl, beq_self_eq_true, Nat.succ_ne_zero, Option.some.injEq, Prod.mk.injEq, Int32.reduceLT, Int32.reduceLE, y_2]
  by_cases h0 : c < 0
  · rw [if_pos h0, b2i_neg (fun q => absurd q.1 (Int32.not_le.mpr h0))]
  · rw [if_neg h0]
    by_cases h1 : I 2 2 ≤ c
    · rw [if_pos h1, b2i_neg (fun q => absurd q.2 (Int32.not_lt.mpr h1))]
    · rw [if_neg h1, b2i_pos ⟨Int32.not_lt.mp h0, Int32.not_le.mp h1⟩]
abbrev inC (I : Nat → Nat → Int32) (a : Nat) (c : Int32) : Prop := (0 ≤ c ∧ c < I 2 2) ∧ ¬ rd (I (a + 1)) 8 c = -1
set_option maxHeartbeats 4000000 in
theorem p_isIn (n : Nat) {a : Nat} (ha : a = 29 ∨ a = 34) (c : Int32) (I : Nat → Nat → Int32) (J : Nat → Nat → Int64) (f : Nat) : FX8_isIn n [.ref a, .int c] (mm I J f) = some (some (.int (if (0 ≤ c ∧ c < I 2 2) ∧ ¬ rd (I (a + 1)) 8 c = -1 then 1 else 0)), mm I J f) := by
  obtain ⟨⟨r0, r1, -, -, -⟩, y0, y1, -⟩ := st_rt ha f
  simp only [eX8_isIn, kX8_isIn_0, kX8_isIn_27, kX8_isIn_28, i_cst, i_ldI, i_ldJ, i_ldA, i_stI, i_stJ, i_stA, i_inc, i_bin, i_dv, i_un, i_i2l, i_bnJ, i_lshl, i_lcmp, i_dup, i_dp2, i_gI, i_gJ, i_gA, i_pI, i_pZ, i_pJ, i_pA, i_al, i_as, i_alJ, i_asJ, i_len, i_c0, i_c2, i_sw, msel, i_cV, i_cS, i_rV, i_rI, i_rZ, i_rJ, i_mm, i_pop, i_no, mpl, mvr, mnw, List.getElem?_cons_zero, List.getElem?_cons_succ, List.set_cons_zero, List.set_cons_succ, List.length_cons, List.length_nil, List.drop_succ_cons, List.drop_zero, List.take_succ_cons, List.take_zero, List.reverse_cons, List.reverse_nil, List.nil_append, List.cons_append, List.append_nil, List.map_cons, List.map_nil, List.sum_cons, List.sum_nil, Option.toList_some, Option.toList_none, Option.bind_some, Value.category, decide_eq_true_eq, decide_true, decide_false, if_true, if_false, Bool.false_eq_true, and_self, and_true, true_and, true_or, or_true, not_true_eq_false, not_false_eq_true, ↓reduceIte, reduceCtorEq, Nat.reduceEqDiff, Nat.reduceAdd, Nat.reduceSub, Nat.reduceMul, Nat.reduceLT, Nat.reduceLeDiff, Nat.reduceBEq, Nat.le_refl, Nat.zero_le, Nat.lt_irrefl, beq_self_eq_true, Nat.succ_ne_zero, Option.some.injEq, Prod.mk.injEq, Int32.reduceLT, Int32.reduceLE, y0, r0, r1, y_2, p_hasCar, b2i_eq0, p_at n (a + 1) c (mm I J f) y1 (by decide)]
  by_cases h : 0 ≤ c ∧ c < I 2 2
  · simp only [h, not_true_eq_false, if_false, and_self, true_and]
    by_cases h2 : rd (I (a + 1)) 8 c = -1 <;> simp [h2]
  · simp [h]
