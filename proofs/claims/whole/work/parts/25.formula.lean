/-! PURE: a formula's value -/
def jA (k : Nat) (x y : Int32) : Int32 := match k with
  | 7 => if x < y then 1 else 0
  | 8 => if y < x then 1 else 0
  | 9 => if x = y then 1 else 0
  | 10 => x + y
  | 11 => x - y
  | 12 => x * y
  | 13 => if y = 0 then 0 else x / y
  | 14 => if y = 0 then 0 else x - x / y * y
  | 26 => if ¬ x = 0 ∨ ¬ y = 0 then 1 else 0
  | _ => if ¬ x = 0 ∧ ¬ y = 0 then 1 else 0
def fstep (e : Nat → Int32) (t : Nat × Nat) (st : List Int32) : List Int32 :=
  if t.1 = 0 then nI t.2 :: st
  else if t.1 = 28 then (match st with
    | x :: st => (if x = 0 then 1 else 0) :: st
    | [] => [])
  else if 29 ≤ t.1 then e t.1 :: st
  else (match st with
    | y :: x :: st => jA t.1 x y :: st
    | _ => [])
def frun (e : Nat → Int32) (c : List (Nat × Nat)) (st : List Int32) : List Int32 := c.foldl (fun st t => fstep e t st) st
def fval (e : Nat → Int32) (c : List (Nat × Nat)) : Int32 := (frun e c []).headD 0
def envA (h b m l y : Int32) (k : Nat) : Int32 := match k with
  | 29 => h
  | 30 => b
  | 31 => m
  | 32 => l
  | _ => y
set_option maxHeartbeats 4000000 in
theorem p_jn7 (n : Nat) (x y : Int32) (μ : mM) : FX1_joined n [.int (nI 7), .int x, .int y] μ = some (some (.int (jA 7 x y)), μ) := by
  rw [eX1_joined, kX1_joined_0]
  simp only [i_ldI, List.getElem?_cons_zero]
  rw [sw_eq (by decide)]
  simp only [kX1_joined_108, kX1_joined_113, kX1_joined_126, kX1_joined_127, kX1_joined_138, kX1_joined_149, kX1_joined_160, kX1_joined_184, kX1_joined_185, kX1_joined_196, i_cst, i_ldI, i_ldJ, i_ldA, i_stI, i_stJ, i_stA, i_inc, i_bin, i_dv, i_un, i_i2l, i_bnJ, i_lshl, i_lcmp, i_dup, i_dp2, i_gI, i_gJ, i_gA, i_pI, i_pZ, i_pJ, i_pA, i_al, i_as, i_alJ, i_asJ, i_len, i_c0, i_c2, i_sw, msel, i_cV, i_cS, i_rV, i_rI, i_rZ, i_rJ, i_mm, i_pop, i_no, mpl, mvr, mnw, List.getElem?_cons_zero, List.getElem?_cons_succ, List.set_cons_zero, List.set_cons_succ, List.length_cons, List.length_nil, List.drop_succ_cons, List.drop_zero, List.take_succ_cons, List.take_zero, List.reverse_cons, List.reverse_nil, List.nil_append, List.cons_append, List.append_nil, List.map_cons, List.map_nil, List.sum_cons, List.sum_nil, Option.toList_some, Option.toList_none, Option.bind_some, Value.category, decide_eq_true_eq, decide_true, decide_false, if_true, if_false, Bool.false_eq_true, and_self, and_true, true_and, true_or, or_true, not_true_eq_false, not_false_eq_true, ↓reduceIte, reduceCtorEq, Nat.reduceEqDiff, Nat.reduceAdd, Nat.reduceSub, Nat.reduceMul, Nat.reduceLT, Nat.reduceLeDiff, Nat.reduceBEq, Nat.le_refl, Nat.zero_le, Nat.lt_irrefl, beq_self_eq_true, Nat.succ_ne_zero, Option.some.injEq, Prod.mk.injEq, Int32.reduceLT, Int32.reduceLE, jA]
  by_cases h1 : y ≤ x
  · simp [h1, Int32.not_lt.mpr h1]
  · simp [h1, Int32.not_le.mp h1]
set_option maxHeartbeats 4000000 in
theorem p_jn8 (n : Nat) (x y : Int32) (μ : mM) : FX1_joined n [.int (nI 8), .int x, .int y] μ = some (some (.int (jA 8 x y)), μ) := by
  rw [eX1_joined, kX1_joined_0]
  simp only [i_ldI, List.getElem?_cons_zero]
  rw [sw_ne (by decide), sw_eq (by decide)]
  simp only [kX1_joined_108, kX1_joined_113, kX1_joined_126, kX1_joined_127, kX1_joined_138, kX1_joined_149, kX1_joined_160, kX1_joined_184, kX1_joined_185, kX1_joined_196, i_cst, i_ldI, i_ldJ, i_ldA, i_stI, i_stJ, i_stA, i_inc, i_bin, i_dv, i_un, i_i2l, i_bnJ, i_lshl, i_lcmp, i_dup, i_dp2, i_gI, i_gJ, i_gA, i_pI, i_pZ, i_pJ, i_pA, i_al, i_as, i_alJ, i_asJ, i_len, i_c0, i_c2, i_sw, msel, i_cV, i_cS, i_rV, i_rI, i_rZ, i_rJ, i_mm, i_pop, i_no, mpl, mvr, mnw, List.getElem?_cons_zero, List.getElem?_cons_succ, List.set_cons_zero, List.set_cons_succ, List.length_cons, List.length_nil, List.drop_succ_cons, List.drop_zero, List.take_succ_cons, List.take_zero, List.reverse_cons, List.reverse_nil, List.nil_append, List.cons_append, List.append_nil, List.map_cons, List.map_nil, List.sum_cons, List.sum_nil, Option.toList_some, Option.toList_none, Option.bind_some, Value.category, decide_eq_true_eq, decide_true, decide_false, if_true, if_false, Bool.false_eq_true, and_self, and_true, true_and, true_or, or_true, not_true_eq_false, not_false_eq_true, ↓reduceIte, reduceCtorEq, Nat.reduceEqDiff, Nat.reduceAdd, Nat.reduceSub, Nat.reduceMul, Nat.reduceLT, Nat.reduceLeDiff, Nat.reduceBEq, Nat.le_refl, Nat.zero_le, Nat.lt_irrefl, beq_self_eq_true, Nat.succ_ne_zero, Option.some.injEq, Prod.mk.injEq, Int32.reduceLT, Int32.reduceLE, jA]
  by_cases h1 : x ≤ y
  · simp [h1, Int32.not_lt.mpr h1]
  · simp [h1, Int32.not_le.mp h1]
set_option maxHeartbeats 4000000 in
theorem p_jn9 (n : Nat) (x y : Int32) (μ : mM) : FX1_joined n [.int (nI 9), .int x, .int y] μ = some (some (.int (jA 9 x y)), μ) := by
  rw [eX1_joined, kX1_joined_0]
  simp only [i_ldI, List.getElem?_cons_zero]
  rw [sw_ne (by decide), sw_ne (by decide), sw_eq (by decide)]
  simp only [kX1_joined_108, kX1_joined_113, kX1_joined_126, kX1_joined_127, kX1_joined_138, kX1_joined_149, kX1_joined_160, kX1_joined_184, kX1_joined_185, kX1_joined_196, i_cst, i_ldI, i_ldJ, i_ldA, i_stI, i_stJ, i_stA, i_inc, i_bin, i_dv, i_un, i_i2l, i_bnJ, i_lshl, i_lcmp, i_dup, i_dp2, i_gI, i_gJ, i_gA, i_pI, i_pZ, i_pJ, i_pA, i_al, i_as, i_alJ, i_asJ, i_len, i_c0, i_c2, i_sw, msel, i_cV, i_cS, i_rV, i_rI, i_rZ, i_rJ, i_mm, i_pop, i_no, mpl, mvr, mnw, List.getElem?_cons_zero, List.getElem?_cons_succ, List.set_cons_zero, List.set_cons_succ, List.length_cons, List.length_nil, List.drop_succ_cons, List.drop_zero, List.take_succ_cons, List.take_zero, List.reverse_cons, List.reverse_nil, List.nil_append, List.cons_append, List.append_nil, List.map_cons, List.map_nil, List.sum_cons, List.sum_nil, Option.toList_some, Option.toList_none, Option.bind_some, Value.category, decide_eq_true_eq, decide_true, decide_false, if_true, if_false, Bool.false_eq_true, and_self, and_true, true_and, true_or, or_true, not_true_eq_false, not_false_eq_true, ↓reduceIte, reduceCtorEq, Nat.reduceEqDiff, Nat.reduceAdd, Nat.reduceSub, Nat.reduceMul, Nat.reduceLT, Nat.reduceLeDiff, Nat.reduceBEq, Nat.le_refl, Nat.zero_le, Nat.lt_irrefl, beq_self_eq_true, Nat.succ_ne_zero, Option.some.injEq, Prod.mk.injEq, Int32.reduceLT, Int32.reduceLE, jA]
  by_cases h1 : x = y <;> simp [h1]
set_option maxHeartbeats 4000000 in
theorem p_jn10 (n : Nat) (x y : Int32) (μ : mM) : FX1_joined n [.int (nI 10), .int x, .int y] μ = some (some (.int (jA 10 x y)), μ) := by
  rw [eX1_joined, kX1_joined_0]
  simp only [i_ldI, List.getElem?_cons_zero]
  rw [sw_ne (by decide), sw_ne (by decide), sw_ne (by decide), sw_eq (by decide)]
  simp only [kX1_joined_108, kX1_joined_113, kX1_joined_126, kX1_joined_127, kX1_joined_138, kX1_joined_149, kX1_joined_160, kX1_joined_184, kX1_joined_185, kX1_joined_196, i_cst, i_ldI, i_ldJ, i_ldA, i_stI, i_stJ, i_stA, i_inc, i_bin, i_dv, i_un, i_i2l, i_bnJ, i_lshl, i_lcmp, i_dup, i_dp2, i_gI, i_gJ, i_gA, i_pI, i_pZ, i_pJ, i_pA, i_al, i_as, i_alJ, i_asJ, i_len, i_c0, i_c2, i_sw, msel, i_cV, i_cS, i_rV, i_rI, i_rZ, i_rJ, i_mm, i_pop, i_no, mpl, mvr, mnw, List.getElem?_cons_zero, List.getElem?_cons_succ, List.set_cons_zero, List.set_cons_succ, List.length_cons, List.length_nil, List.drop_succ_cons, List.drop_zero, List.take_succ_cons, List.take_zero, List.reverse_cons, List.reverse_nil, List.nil_append, List.cons_append, List.append_nil, List.map_cons, List.map_nil, List.sum_cons, List.sum_nil, Option.toList_some, Option.toList_none, Option.bind_some, Value.category, decide_eq_true_eq, decide_true, decide_false, if_true, if_false, Bool.false_eq_true, and_self, and_true, true_and, true_or, or_true, not_true_eq_false, not_false_eq_true, ↓reduceIte, reduceCtorEq, Nat.reduceEqDiff, Nat.reduceAdd, Nat.reduceSub, Nat.reduceMul, Nat.reduceLT, Nat.reduceLeDiff, Nat.reduceBEq, Nat.le_refl, Nat.zero_le, Nat.lt_irrefl, beq_self_eq_true, Nat.succ_ne_zero, Option.some.injEq, Prod.mk.injEq, Int32.reduceLT, Int32.reduceLE, jA]
set_option maxHeartbeats 4000000 in
theorem p_jn11 (n : Nat) (x y : Int32) (μ : mM) : FX1_joined n [.int (nI 11), .int x, .int y] μ = some (some (.int (jA 11 x y)), μ) := by
  rw [eX1_joined, kX1_joined_0]
  simp only [i_ldI, List.getElem?_cons_zero]
  rw [sw_ne (by decide), sw_ne (by decide), sw_ne (by decide), sw_ne (by decide), sw_eq (by decide)]
  simp only [kX1_joined_108, kX1_joined_113, kX1_joined_126, kX1_joined_127, kX1_joined_138, kX1_joined_149, kX1_joined_160, kX1_joined_184, kX1_joined_185, kX1_joined_196, i_cst, i_ldI, i_ldJ, i_ldA, i_stI, i_stJ, i_stA, i_inc, i_bin, i_dv, i_un, i_i2l, i_bnJ, i_lshl, i_lcmp, i_dup, i_dp2, i_gI, i_gJ, i_gA, i_pI, i_pZ, i_pJ, i_pA, i_al, i_as, i_alJ, i_asJ, i_len, i_c0, i_c2, i_sw, msel, i_cV, i_cS, i_rV, i_rI, i_rZ, i_rJ, i_mm, i_pop, i_no, mpl, mvr, mnw, List.getElem?_cons_zero, List.getElem?_cons_succ, List.set_cons_zero, List.set_cons_succ, List.length_cons, List.length_nil, List.drop_succ_cons, List.drop_zero, List.take_succ_cons, List.take_zero, List.reverse_cons, List.reverse_nil, List.nil_append, List.cons_append, List.append_nil, List.map_cons, List.map_nil, List.sum_cons, List.sum_nil, Option.toList_some, Option.toList_none, Option.bind_some, Value.category, decide_eq_true_eq, decide_true, decide_false, if_true, if_false, Bool.false_eq_true, and_self, and_true, true_and, true_or, or_true, not_true_eq_false, not_false_eq_true, ↓reduceIte, reduceCtorEq, Nat.reduceEqDiff, Nat.reduceAdd, Nat.reduceSub, Nat.reduceMul, Nat.reduceLT, Nat.reduceLeDiff, Nat.reduceBEq, Nat.le_refl, Nat.zero_le, Nat.lt_irrefl, beq_self_eq_true, Nat.succ_ne_zero, Option.some.injEq, Prod.mk.injEq, Int32.reduceLT, Int32.reduceLE, jA]
set_option maxHeartbeats 4000000 in
theorem p_jn12 (n : Nat) (x y : Int32) (μ : mM) : FX1_joined n [.int (nI 12), .int x, .int y] μ = some (some (.int (jA 12 x y)), μ) := by
  rw [eX1_joined, kX1_joined_0]
  simp only [i_ldI, List.getElem?_cons_zero]
  rw [sw_ne (by decide), sw_ne (by decide), sw_ne (by decide), sw_ne (by decide), sw_ne (by decide), sw_eq (by decide)]
  simp only [kX1_joined_108, kX1_joined_113, kX1_joined_126, kX1_joined_127, kX1_joined_138, kX1_joined_149, kX1_joined_160, kX1_joined_184, kX1_joined_185, kX1_joined_196, i_cst, i_ldI, i_ldJ, i_ldA, i_stI, i_stJ, i_stA, i_inc, i_bin, i_dv, i_un, i_i2l, i_bnJ, i_lshl, i_lcmp, i_dup, i_dp2, i_gI, i_gJ, i_gA, i_pI, i_pZ, i_pJ, i_pA, i_al, i_as, i_alJ, i_asJ, i_len, i_c0, i_c2, i_sw, msel, i_cV, i_cS, i_rV, i_rI, i_rZ, i_rJ, i_mm, i_pop, i_no, mpl, mvr, mnw, List.getElem?_cons_zero, List.getElem?_cons_succ, List.set_cons_zero, List.set_cons_succ, List.length_cons, List.length_nil, List.drop_succ_cons, List.drop_zero, List.take_succ_cons, List.take_zero, List.reverse_cons, List.reverse_nil, List.nil_append, List.cons_append, List.append_nil, List.map_cons, List.map_nil, List.sum_cons, List.sum_nil, Option.toList_some, Option.toList_none, Option.bind_some, Value.category, decide_eq_true_eq, decide_true, decide_false, if_true, if_false, Bool.false_eq_true, and_self, and_true, true_and, true_or, or_true, not_true_eq_false, not_false_eq_true, ↓reduceIte, reduceCtorEq, Nat.reduceEqDiff, Nat.reduceAdd, Nat.reduceSub, Nat.reduceMul, Nat.reduceLT, Nat.reduceLeDiff, Nat.reduceBEq, Nat.le_refl, Nat.zero_le, Nat.lt_irrefl, beq_self_eq_true, Nat.succ_ne_zero, Option.some.injEq, Prod.mk.injEq, Int32.reduceLT, Int32.reduceLE, jA]
set_option maxHeartbeats 4000000 in
theorem p_jn13 (n : Nat) (x y : Int32) (μ : mM) : FX1_joined n [.int (nI 13), .int x, .int y] μ = some (some (.int (jA 13 x y)), μ) := by
  rw [eX1_joined, kX1_joined_0]
  simp only [i_ldI, List.getElem?_cons_zero]
  rw [sw_ne (by decide), sw_ne (by decide), sw_ne (by decide), sw_ne (by decide), sw_ne (by decide), sw_ne (by decide), sw_eq (by decide)]
  simp only [kX1_joined_108, kX1_joined_113, kX1_joined_126, kX1_joined_127, kX1_joined_138, kX1_joined_149, kX1_joined_160, kX1_joined_184, kX1_joined_185, kX1_joined_196, i_cst, i_ldI, i_ldJ, i_ldA, i_stI, i_stJ, i_stA, i_inc, i_bin, i_dv, i_un, i_i2l, i_bnJ, i_lshl, i_lcmp, i_dup, i_dp2, i_gI, i_gJ, i_gA, i_pI, i_pZ, i_pJ, i_pA, i_al, i_as, i_alJ, i_asJ, i_len, i_c0, i_c2, i_sw, msel, i_cV, i_cS, i_rV, i_rI, i_rZ, i_rJ, i_mm, i_pop, i_no, mpl, mvr, mnw, List.getElem?_cons_zero, List.getElem?_cons_succ, List.set_cons_zero, List.set_cons_succ, List.length_cons, List.length_nil, List.drop_succ_cons, List.drop_zero, List.take_succ_cons, List.take_zero, List.reverse_cons, List.reverse_nil, List.nil_append, List.cons_append, List.append_nil, List.map_cons, List.map_nil, List.sum_cons, List.sum_nil, Option.toList_some, Option.toList_none, Option.bind_some, Value.category, decide_eq_true_eq, decide_true, decide_false, if_true, if_false, Bool.false_eq_true, and_self, and_true, true_and, true_or, or_true, not_true_eq_false, not_false_eq_true, ↓reduceIte, reduceCtorEq, Nat.reduceEqDiff, Nat.reduceAdd, Nat.reduceSub, Nat.reduceMul, Nat.reduceLT, Nat.reduceLeDiff, Nat.reduceBEq, Nat.le_refl, Nat.zero_le, Nat.lt_irrefl, beq_self_eq_true, Nat.succ_ne_zero, Option.some.injEq, Prod.mk.injEq, Int32.reduceLT, Int32.reduceLE, jA]
  by_cases h1 : y = 0 <;> simp [h1]
set_option maxHeartbeats 4000000 in
theorem p_jn14 (n : Nat) (x y : Int32) (μ : mM) : FX1_joined n [.int (nI 14), .int x, .int y] μ = some (some (.int (jA 14 x y)), μ) := by
  rw [eX1_joined, kX1_joined_0]
  simp only [i_ldI, List.getElem?_cons_zero]
  rw [sw_ne (by decide), sw_ne (by decide), sw_ne (by decide), sw_ne (by decide), sw_ne (by decide), sw_ne (by decide), sw_ne (by decide), sw_eq (by decide)]
  simp only [kX1_joined_108, kX1_joined_113, kX1_joined_126, kX1_joined_127, kX1_joined_138, kX1_joined_149, kX1_joined_160, kX1_joined_184, kX1_joined_185, kX1_joined_196, i_cst, i_ldI, i_ldJ, i_ldA, i_stI, i_stJ, i_stA, i_inc, i_bin, i_dv, i_un, i_i2l, i_bnJ, i_lshl, i_lcmp, i_dup, i_dp2, i_gI, i_gJ, i_gA, i_pI, i_pZ, i_pJ, i_pA, i_al, i_as, i_alJ, i_asJ, i_len, i_c0, i_c2, i_sw, msel, i_cV, i_cS, i_rV, i_rI, i_rZ, i_rJ, i_mm, i_pop, i_no, mpl, mvr, mnw, List.getElem?_cons_zero, List.getElem?_cons_succ, List.set_cons_zero, List.set_cons_succ, List.length_cons, List.length_nil, List.drop_succ_cons, List.drop_zero, List.take_succ_cons, List.take_zero, List.reverse_cons, List.reverse_nil, List.nil_append, List.cons_append, List.append_nil, List.map_cons, List.map_nil, List.sum_cons, List.sum_nil, Option.toList_some, Option.toList_none, Option.bind_some, Value.category, decide_eq_true_eq, decide_true, decide_false, if_true, if_false, Bool.false_eq_true, and_self, and_true, true_and, true_or, or_true, not_true_eq_false, not_false_eq_true, ↓reduceIte, reduceCtorEq, Nat.reduceEqDiff, Nat.reduceAdd, Nat.reduceSub, Nat.reduceMul, Nat.reduceLT, Nat.reduceLeDiff, Nat.reduceBEq, Nat.le_refl, Nat.zero_le, Nat.lt_irrefl, beq_self_eq_true, Nat.succ_ne_zero, Option.some.injEq, Prod.mk.injEq, Int32.reduceLT, Int32.reduceLE, jA]
  by_cases h1 : y = 0 <;> simp [h1]
set_option maxHeartbeats 4000000 in
theorem p_jn26 (n : Nat) (x y : Int32) (μ : mM) : FX1_joined n [.int (nI 26), .int x, .int y] μ = some (some (.int (jA 26 x y)), μ) := by
  rw [eX1_joined, kX1_joined_0]
  simp only [i_ldI, List.getElem?_cons_zero]
  rw [sw_ne (by decide), sw_ne (by decide), sw_ne (by decide), sw_ne (by decide), sw_ne (by decide), sw_ne (by decide), sw_ne (by decide), sw_ne (by decide), sw_ne (by decide), sw_ne (by decide), sw_ne (by decide), sw_ne (by decide), sw_ne (by decide), sw_ne (by decide), sw_ne (by decide), sw_ne (by decide), sw_ne (by decide), sw_ne (by decide), sw_ne (by decide), sw_eq (by decide)]
  simp only [kX1_joined_108, kX1_joined_113, kX1_joined_126, kX1_joined_127, kX1_joined_138, kX1_joined_149, kX1_joined_160, kX1_joined_184, kX1_joined_185, kX1_joined_196, i_cst, i_ldI, i_ldJ, i_ldA, i_stI, i_stJ, i_stA, i_inc, i_bin, i_dv, i_un, i_i2l, i_bnJ, i_lshl, i_lcmp, i_dup, i_dp2, i_gI, i_gJ, i_gA, i_pI, i_pZ, i_pJ, i_pA, i_al, i_as, i_alJ, i_asJ, i_len, i_c0, i_c2, i_sw, msel, i_cV, i_cS, i_rV, i_rI, i_rZ, i_rJ, i_mm, i_pop, i_no, mpl, mvr, mnw, List.getElem?_cons_zero, List.getElem?_cons_succ, List.set_cons_zero, List.set_cons_succ, List.length_cons, List.length_nil, List.drop_succ_cons, List.drop_zero, List.take_succ_cons, List.take_zero, List.reverse_cons, List.reverse_nil, List.nil_append, List.cons_append, List.append_nil, List.map_cons, List.map_nil, List.sum_cons, List.sum_nil, Option.toList_some, Option.toList_none, Option.bind_some, Value.category, decide_eq_true_eq, decide_true, decide_false, if_true, if_false, Bool.false_eq_true, and_self, and_true, true_and, true_or, or_true, not_true_eq_false, not_false_eq_true, ↓reduceIte, reduceCtorEq, Nat.reduceEqDiff, Nat.reduceAdd, Nat.reduceSub, Nat.reduceMul, Nat.reduceLT, Nat.reduceLeDiff, Nat.reduceBEq, Nat.le_refl, Nat.zero_le, Nat.lt_irrefl, beq_self_eq_true, Nat.succ_ne_zero, Option.some.injEq, Prod.mk.injEq, Int32.reduceLT, Int32.reduceLE, jA]
  by_cases h1 : x = 0 <;> by_cases h2 : y = 0 <;> simp [h1, h2]
set_option maxHeartbeats 4000000 in
theorem p_jn27 (n : Nat) (x y : Int32) (μ : mM) : FX1_joined n [.int (nI 27), .int x, .int y] μ = some (some (.int (jA 27 x y)), μ) := by
  rw [eX1_joined, kX1_joined_0]
  simp only [i_ldI, List.getElem?_cons_zero]
  rw [sw_ne (by decide), sw_ne (by decide), sw_ne (by decide), sw_ne (by decide), sw_ne (by decide), sw_ne (by decide), sw_ne (by decide), sw_ne (by decide), sw_ne (by decide), sw_ne (by decide), sw_ne (by decide), sw_ne (by decide), sw_ne (by decide), sw_ne (by decide), sw_ne (by decide), sw_ne (by decide), sw_ne (by decide), sw_ne (by decide), sw_ne (by decide), sw_ne (by decide), sw_eq (by decide)]
  simp only [kX1_joined_108, kX1_joined_113, kX1_joined_126, kX1_joined_127, kX1_joined_138, kX1_joined_149, kX1_joined_160, kX1_joined_184, kX1_joined_185, kX1_joined_196, i_cst, i_ldI, i_ldJ, i_ldA, i_stI, i_stJ, i_stA, i_inc, i_bin, i_dv, i_un, i_i2l, i_bnJ, i_lshl, i_lcmp, i_dup, i_dp2, i_gI, i_gJ, i_gA, i_pI, i_pZ, i_pJ, i_pA, i_al, i_as, i_alJ, i_asJ, i_len, i_c0, i_c2, i_sw, msel, i_cV, i_cS, i_rV, i_rI, i_rZ, i_rJ, i_mm, i_pop, i_no, mpl, mvr, mnw, List.getElem?_cons_zero, List.getElem?_cons_succ, List.set_cons_zero, List.set_cons_succ, List.length_cons, List.length_nil, List.drop_succ_cons, List.drop_zero, List.take_succ_cons, List.take_zero, List.reverse_cons, List.reverse_nil, List.nil_append, List.cons_append, List.append_nil, List.map_cons, List.map_nil, List.sum_cons, List.sum_nil, Option.toList_some, Option.toList_none, Option.bind_some, Value.category, decide_eq_true_eq, decide_true, decide_false, if_true, if_false, Bool.false_eq_true, and_self, and_true, true_and, true_or, or_true, not_true_eq_false, not_false_eq_true, ↓reduceIte, reduceCtorEq, Nat.reduceEqDiff, Nat.reduceAdd, Nat.reduceSub, Nat.reduceMul, Nat.reduceLT, Nat.reduceLeDiff, Nat.reduceBEq, Nat.le_refl, Nat.zero_le, Nat.lt_irrefl, beq_self_eq_true, Nat.succ_ne_zero, Option.some.injEq, Prod.mk.injEq, Int32.reduceLT, Int32.reduceLE, jA]
  by_cases h1 : x = 0 <;> by_cases h2 : y = 0 <;> simp [h1, h2]
theorem p_joined (n : Nat) {k : Nat} (hk : isB k) (x y : Int32) (μ : mM) : FX1_joined n [.int (nI k), .int x, .int y] μ = some (some (.int (jA k x y)), μ) := by
  have : k = 26 ∨ k = 27 ∨ k = 7 ∨ k = 8 ∨ k = 9 ∨ k = 10 ∨ k = 11 ∨ k = 12 ∨ k = 13 ∨ k = 14 := by unfold isB at hk; omega
  rcases this with rfl | rfl | rfl | rfl | rfl | rfl | rfl | rfl | rfl | rfl
  · exact p_jn26 n x y μ
  · exact p_jn27 n x y μ
  · exact p_jn7 n x y μ
  · exact p_jn8 n x y μ
  · exact p_jn9 n x y μ
  · exact p_jn10 n x y μ
  · exact p_jn11 n x y μ
  · exact p_jn12 n x y μ
  · exact p_jn13 n x y μ
  · exact p_jn14 n x y μ
theorem p_variable (n : Nat) {k : Nat} (h1 : 29 ≤ k) (h2 : k ≤ 33) (h b m l y : Int32) (μ : mM) : FX1_variable n [.int (nI k), .int h, .int b, .int m, .int l, .int y] μ = some (some (.int (envA h b m l y k)), μ) := by
  rcases (show k = 29 ∨ k = 30 ∨ k = 31 ∨ k = 32 ∨ k = 33 by omega) with rfl | rfl | rfl | rfl | rfl <;> simp (decide := true) only [eX1_variable, kX1_variable_0, i_cst, i_ldI, i_ldJ, i_ldA, i_stI, i_stJ, i_stA, i_inc, i_bin, i_dv, i_un, i_i2l, i_bnJ, i_lshl, i_lcmp, i_dup, i_dp2, i_gI, i_gJ, i_gA, i_pI, i_pZ, i_pJ, i_pA, i_al, i_as, i_alJ, i_asJ, i_len, i_c0, i_c2, i_sw, msel, i_cV, i_cS, i_rV, i_rI, i_rZ, i_rJ, i_mm, i_pop, i_no, mpl, mvr, mnw, List.getElem?_cons_zero, List.getElem?_cons_succ, List.set_cons_zero, List.set_cons_succ, List.length_cons, List.length_nil, List.drop_succ_cons, List.drop_zero, List.take_succ_cons, List.take_zero, List.reverse_cons, List.reverse_nil, List.nil_append, List.cons_append, List.append_nil, List.map_cons, List.map_nil, List.sum_cons, List.sum_nil, Option.toList_some, Option.toList_none, Option.bind_some, Value.category, decide_eq_true_eq, decide_true, decide_false, if_true, if_false, Bool.false_eq_true, and_self, and_true, true_and, true_or, or_true, not_true_eq_false, not_false_eq_true, ↓reduceIte, reduceCtorEq, Nat.reduceEqDiff, Nat.reduceAdd, Nat.reduceSub, Nat.reduceMul, Nat.reduceLT, Nat.reduceLeDiff, Nat.reduceBEq, Nat.le_refl, Nat.zero_le, Nat.lt_irrefl, beq_self_eq_true, Nat.succ_ne_zero, Option.some.injEq, Prod.mk.injEq, Int32.reduceLT, Int32.reduceLE, envA]
theorem fm_rt {a : Nat} (ha : a = 7 ∨ a = 10 ∨ a = 18 ∨ a = 21) (f : Nat) : RT f a 0 = some (a + 1) ∧ RT f a 1 = some (a + 2) ∧ LAY[a]? = some (4, 1) ∧ LAY[a + 1]? = some (0, 300) ∧ LAY[a + 2]? = some (0, 32) := by
  rcases ha with rfl | rfl | rfl | rfl <;> exact ⟨rfl, rfl, rfl, rfl, rfl⟩
theorem nI_m1 (q : Nat) : nI q - 1 + 1 = nI q := by
  rw [Int32.sub_add_cancel]
theorem neg_neg1 (k : Nat) : - - nI k = nI k := Int32.neg_neg
theorem ng_all : ∀ k, k < 34 → 1 ≤ k → (-(nI k) < 0 ∧ (-(nI k) = -28 ↔ k = 28) ∧ (-29 < -(nI k) ↔ k < 29)) := by decide
theorem drop_cons {c : List (Nat × Nat)} {i : Nat} (h : i < c.length) : c.drop i = c.getD i (0, 0) :: c.drop (i + 1) := by
  rw [List.drop_eq_getElem_cons h]
  simp [h]
theorem getD_snoc {st : List Int32} {x : Int32} {q : Nat} : (x :: st).reverse.getD q 0 = if q = st.length then x else st.reverse.getD q 0 := by
  rw [List.reverse_cons]
  simp only [List.getD_eq_getElem?_getD]
  by_cases h : q < st.length
  · rw [List.getElem?_append_left (by simpa using h), if_neg (by omega)]
  · by_cases h2 : q = st.length
    · subst h2
      simp
    · rw [List.getElem?_append_right (by simp; omega), if_neg h2]
      rw [List.getElem?_eq_none (by simp; omega), List.getElem?_eq_none (by simp; omega)]
set_option maxHeartbeats 8000000 in
theorem p_valueBy {n a : Nat} (hn : 300 < n) (ha : a = 7 ∨ a = 10 ∨ a = 18 ∨ a = 21) (J : Nat → Nat → Int64) (f : Nat) {I : Nat → Nat → Int32} {c : List (Nat × Nat)} (hF : FC I a c) (hw : wfd c 0) (h b m l y : Int32) :
    ∃ I', FX1_valueBy n [.ref a, .int h, .int b, .int m, .int l, .int y] (mm I J f) = some (some (.int (fval (envA h b m l y) c)), mm I' J f) ∧ ∀ b' j, b' ≠ a + 2 → I' b' j = I b' j := by
  obtain ⟨r0, r1, y0, y1, y2⟩ := fm_rt ha f
  obtain ⟨F1, F2, F3⟩ := hF
  have hna : a ≠ a + 2 := by omega
  have hna1 : a + 1 ≠ a + 2 := by omega
  simp only [eX1_valueBy, kX1_valueBy_0, i_cst, i_ldI, i_ldJ, i_ldA, i_stI, i_stJ, i_stA, i_inc, i_bin, i_dv, i_un, i_i2l, i_bnJ, i_lshl, i_lcmp, i_dup, i_dp2, i_gI, i_gJ, i_gA, i_pI, i_pZ, i_pJ, i_pA, i_al, i_as, i_alJ, i_asJ, i_len, i_c0, i_c2, i_sw, msel, i_cV, i_cS, i_rV, i_rI, i_rZ, i_rJ, i_mm, i_pop, i_no, mpl, mvr, mnw, List.getElem?_cons_zero, List.getElem?_cons_succ, List.set_cons_zero, List.set_cons_succ, List.length_cons, List.length_nil, List.drop_succ_cons, List.drop_zero, List.take_succ_cons, List.take_zero, List.reverse_cons, List.reverse_nil, List.nil_append, List.cons_append, List.append_nil, List.map_cons, List.map_nil, List.sum_cons, List.sum_nil, Option.toList_some, Option.toList_none, Option.bind_some, Value.category, decide_eq_true_eq, decide_true, decide_false, if_true, if_false, Bool.false_eq_true, and_self, and_true, true_and, true_or, or_true, not_true_eq_false, not_false_eq_true, ↓reduceIte, reduceCtorEq, Nat.reduceEqDiff, Nat.reduceAdd, Nat.reduceSub, Nat.reduceMul, Nat.reduceLT, Nat.reduceLeDiff, Nat.reduceBEq, Nat.le_refl, Nat.zero_le, Nat.lt_irrefl, beq_self_eq_true, Nat.succ_ne_zero, Option.some.injEq, Prod.mk.injEq, Int32.reduceLT, Int32.reduceLE]
  refine mit_ind (G := kX1_valueBy_6 n) (fun d L μ => ∃ (i : Nat) (st : List Int32) (I' : Nat → Nat → Int32) (x8 : Option Value), i + d = c.length ∧ μ = mm I' J f ∧ (∀ b' j, b' ≠ a + 2 → I' b' j = I b' j) ∧ L = [some (.ref a), some (.int h), some (.int b), some (.int m), some (.int l), some (.int y), some (.int (nI st.length - 1)), some (.int (nI i)), x8] ∧ st.length ≤ 30 ∧ wfd (c.drop i) st.length ∧ (∀ q, q < st.length → I' (a + 2) q = st.reverse.getD q 0) ∧ frun (envA h b m l y) (c.drop i) st = frun (envA h b m l y) c [])
    (fun v => ∃ I', v = some (some (.int (fval (envA h b m l y) c)), mm I' J f) ∧ ∀ b' j, b' ≠ a + 2 → I' b' j = I b' j) ?_ ?_ c.length n _ _ (by omega) ?_
  · rintro L μ ⟨i, st, I', x8, hi, rfl, hI, rfl, h30, hwf, hop, hfr⟩
    have hil : i = c.length := by omega
    subst hil
    rw [List.drop_length] at hwf hfr
    have hlen : st.length = 1 := hwf
    obtain ⟨x, rfl⟩ : ∃ x, st = [x] := List.length_eq_one_iff.mp hlen
    have h0 : I' (a + 2) 0 = x := by rw [hop 0 (by simp)]; rfl
    have e2 : I' a 2 = nI c.length := by rw [hI a 2 hna, F1]
    have hle : nI c.length ≤ nI c.length := Int32.le_refl _
    refine ⟨some (some (.int x), mm I' J f), fun r => ?_, I', ?_, hI⟩
    · simp only [kX1_valueBy_6, kX1_valueBy_171, i_cst, i_ldI, i_ldJ, i_ldA, i_stI, i_stJ, i_stA, i_inc, i_bin, i_dv, i_un, i_i2l, i_bnJ, i_lshl, i_lcmp, i_dup, i_dp2, i_gI, i_gJ, i_gA, i_pI, i_pZ, i_pJ, i_pA, i_al, i_as, i_alJ, i_asJ, i_len, i_c0, i_c2, i_sw, msel, i_cV, i_cS, i_rV, i_rI, i_rZ, i_rJ, i_mm, i_pop, i_no, mpl, mvr, mnw, List.getElem?_cons_zero, List.getElem?_cons_succ, List.set_cons_zero, List.set_cons_succ, List.length_cons, List.length_nil, List.drop_succ_cons, List.drop_zero, List.take_succ_cons, List.take_zero, List.reverse_cons, List.reverse_nil, List.nil_append, List.cons_append, List.append_nil, List.map_cons, List.map_nil, List.sum_cons, List.sum_nil, Option.toList_some, Option.toList_none, Option.bind_some, Value.category, decide_eq_true_eq, decide_true, decide_false, if_true, if_false, Bool.false_eq_true, and_self, and_true, true_and, true_or, or_true, not_true_eq_false, not_false_eq_true, ↓reduceIte, reduceCtorEq, Nat.reduceEqDiff, Nat.reduceAdd, Nat.reduceSub, Nat.reduceMul, Nat.reduceLT, Nat.reduceLeDiff, Nat.reduceBEq, Nat.le_refl, Nat.zero_le, Nat.lt_irrefl, beq_self_eq_true, Nat.succ_ne_zero, Option.some.injEq, Prod.mk.injEq, Int32.reduceLT, Int32.reduceLE, y0, r0, r1, y1, e2, hle, p_atN n (a + 2) 0 (mm I' J f) y2 (by decide) (by decide)]
      rw [show (0 : Int32) = nI 0 from rfl, p_atN n (a + 2) 0 (mm I' J f) y2 (by decide) (by decide)]
      simp only [i_cst, i_ldI, i_ldJ, i_ldA, i_stI, i_stJ, i_stA, i_inc, i_bin, i_dv, i_un, i_i2l, i_bnJ, i_lshl, i_lcmp, i_dup, i_dp2, i_gI, i_gJ, i_gA, i_pI, i_pZ, i_pJ, i_pA, i_al, i_as, i_alJ, i_asJ, i_len, i_c0, i_c2, i_sw, msel, i_cV, i_cS, i_rV, i_rI, i_rZ, i_rJ, i_mm, i_pop, i_no, mpl, mvr, mnw, List.getElem?_cons_zero, List.getElem?_cons_succ, List.set_cons_zero, List.set_cons_succ, List.length_cons, List.length_nil, List.drop_succ_cons, List.drop_zero, List.take_succ_cons, List.take_zero, List.reverse_cons, List.reverse_nil, List.nil_append, List.cons_append, List.append_nil, List.map_cons, List.map_nil, List.sum_cons, List.sum_nil, Option.toList_some, Option.toList_none, Option.bind_some, Value.category, decide_eq_true_eq, decide_true, decide_false, if_true, if_false, Bool.false_eq_true, and_self, and_true, true_and, true_or, or_true, not_true_eq_false, not_false_eq_true, ↓reduceIte, reduceCtorEq, Nat.reduceEqDiff, Nat.reduceAdd, Nat.reduceSub, Nat.reduceMul, Nat.reduceLT, Nat.reduceLeDiff, Nat.reduceBEq, Nat.le_refl, Nat.zero_le, Nat.lt_irrefl, beq_self_eq_true, Nat.succ_ne_zero, Option.some.injEq, Prod.mk.injEq, Int32.reduceLT, Int32.reduceLE, h0]
    · have : fval (envA h b m l y) c = x := by unfold fval; rw [← hfr]; rfl
      rw [this]
  · rintro d L μ ⟨i, st, I', x8, hi, rfl, hI, rfl, h30, hwf, hop, hfr⟩
    refine Or.inr ?_
    have hil : i < c.length := by omega
    have hi300 : i < 300 := by omega
    rw [drop_cons hil] at hwf hfr
    have e2 : I' a 2 = nI c.length := by rw [hI a 2 hna, F1]
    have e3 : I' (a + 1) i = cc1 (c.getD i (0, 0)) := by rw [hI (a + 1) i hna1, F3 i hil]
    have c1 : ¬ nI c.length ≤ nI i := by rw [nI_leI (by omega) (by omega)]; omega
    have c2 : ¬ Int32.ofNat 300 ≤ nI i := lit_nle (k := 300) rfl (by decide) hi300
    have c3 : (0 : Int32) ≤ nI i := nI_pos' (by omega)
    have c4 : (nI i).toNatClampNeg = i := nI_clamp (by omega)
    generalize c.getD i (0, 0) = t at hwf hfr e3
    obtain ⟨k, v⟩ := t
    rcases hwf with ⟨hp, hd, hwf⟩ | ⟨hp, hd, hwf⟩ | ⟨hp, hd, hwf⟩
    · -- push
      have key : ∀ x : Int32, fstep (envA h b m l y) (k, v) st = x :: st → (∀ r : mK, kX1_valueBy_6 n r [some (.ref a), some (.int h), some (.int b), some (.int m), some (.int l), some (.int y), some (.int (nI st.length - 1)), some (.int (nI i)), x8] [] (mm I' J f) = r [some (.ref a), some (.int h), some (.int b), some (.int m), some (.int l), some (.int y), some (.int (nI (x :: st).length - 1)), some (.int (nI (i + 1))), some (.int (cc1 (k, v)))] [] (mm (u2 I' (a + 2) st.length x) J f)) → ∃ L' μ', (∃ (i : Nat) (st : List Int32) (I' : Nat → Nat → Int32) (x8 : Option Value), i + d = c.length ∧ μ' = mm I' J f ∧ (∀ b' j, b' ≠ a + 2 → I' b' j = I b' j) ∧ L' = [some (.ref a), some (.int h), some (.int b), some (.int m), some (.int l), some (.int y), some (.int (nI st.length - 1)), some (.int (nI i)), x8] ∧ st.length ≤ 30 ∧ wfd (c.drop i) st.length ∧ (∀ q, q < st.length → I' (a + 2) q = st.reverse.getD q 0) ∧ frun (envA h b m l y) (c.drop i) st = frun (envA h b m l y) c []) ∧ ∀ r : mK, kX1_valueBy_6 n r [some (.ref a), some (.int h), some (.int b), some (.int m), some (.int l), some (.int y), some (.int (nI st.length - 1)), some (.int (nI i)), x8] [] (mm I' J f) = r L' [] μ' := by
        intro x hx hr
        refine ⟨_, _, ⟨i + 1, x :: st, u2 I' (a + 2) st.length x, some (.int (cc1 (k, v))), by omega, rfl, fun b' j hb => by rw [u2_a hb]; exact hI b' j hb, rfl, by simp at *; omega, hwf, fun q hq => ?_, ?_⟩, hr⟩
        · rw [getD_snoc]
          by_cases h9 : q = st.length
          · rw [if_pos h9, h9, u2_s]
          · rw [if_neg h9, u2_j h9]
            exact hop q (by simp at hq; omega)
        · rw [← hfr]
          show _ = frun _ _ (fstep _ _ _)
          rw [hx]
      rcases hp with ⟨rfl, hv⟩ | ⟨h1, h2⟩
      · have cv : ¬ nI v < 0 := nI_pos (by omega)
        refine key (nI v) (by simp [fstep]) (fun r => ?_)
        simp only [kX1_valueBy_6, kX1_valueBy_165, i_cst, i_ldI, i_ldJ, i_ldA, i_stI, i_stJ, i_stA, i_inc, i_bin, i_dv, i_un, i_i2l, i_bnJ, i_lshl, i_lcmp, i_dup, i_dp2, i_gI, i_gJ, i_gA, i_pI, i_pZ, i_pJ, i_pA, i_al, i_as, i_alJ, i_asJ, i_len, i_c0, i_c2, i_sw, msel, i_cV, i_cS, i_rV, i_rI, i_rZ, i_rJ, i_mm, i_pop, i_no, mpl, mvr, mnw, List.getElem?_cons_zero, List.getElem?_cons_succ, List.set_cons_zero, List.set_cons_succ, List.length_cons, List.length_nil, List.drop_succ_cons, List.drop_zero, List.take_succ_cons, List.take_zero, List.reverse_cons, List.reverse_nil, List.nil_append, List.cons_append, List.append_nil, List.map_cons, List.map_nil, List.sum_cons, List.sum_nil, Option.toList_some, Option.toList_none, Option.bind_some, Value.category, decide_eq_true_eq, decide_true, decide_false, if_true, if_false, Bool.false_eq_true, and_self, and_true, true_and, true_or, or_true, not_true_eq_false, not_false_eq_true, ↓reduceIte, reduceCtorEq, Nat.reduceEqDiff, Nat.reduceAdd, Nat.reduceSub, Nat.reduceMul, Nat.reduceLT, Nat.reduceLeDiff, Nat.reduceBEq, Nat.le_refl, Nat.zero_le, Nat.lt_irrefl, beq_self_eq_true, Nat.succ_ne_zero, Option.some.injEq, Prod.mk.injEq, Int32.reduceLT, Int32.reduceLE, y0, r0, r1, y1, e2, c1, c2, c3, c4, hi300, e3, cc1, cv, nI_m1, p_setN n (a + 2) st.length _ (mm I' J f) y2 (by decide) (show st.length < 32 by omega), uI_mm, nI_1, nI_pred]
      · obtain ⟨g1, g2, g3⟩ := ng_all k (by omega) (by omega)
        have k0 : ¬ k = 0 := by omega
        have k28 : ¬ k = 28 := by omega
        have k29 : ¬ k < 29 := by omega
        refine key (envA h b m l y k) (by simp [fstep, k0, k28, h1]) (fun r => ?_)
        simp only [kX1_valueBy_6, kX1_valueBy_103, kX1_valueBy_165, i_cst, i_ldI, i_ldJ, i_ldA, i_stI, i_stJ, i_stA, i_inc, i_bin, i_dv, i_un, i_i2l, i_bnJ, i_lshl, i_lcmp, i_dup, i_dp2, i_gI, i_gJ, i_gA, i_pI, i_pZ, i_pJ, i_pA, i_al, i_as, i_alJ, i_asJ, i_len, i_c0, i_c2, i_sw, msel, i_cV, i_cS, i_rV, i_rI, i_rZ, i_rJ, i_mm, i_pop, i_no, mpl, mvr, mnw, List.getElem?_cons_zero, List.getElem?_cons_succ, List.set_cons_zero, List.set_cons_succ, List.length_cons, List.length_nil, List.drop_succ_cons, List.drop_zero, List.take_succ_cons, List.take_zero, List.reverse_cons, List.reverse_nil, List.nil_append, List.cons_append, List.append_nil, List.map_cons, List.map_nil, List.sum_cons, List.sum_nil, Option.toList_some, Option.toList_none, Option.bind_some, Value.category, decide_eq_true_eq, decide_true, decide_false, if_true, if_false, Bool.false_eq_true, and_self, and_true, true_and, true_or, or_true, not_true_eq_false, not_false_eq_true, ↓reduceIte, reduceCtorEq, Nat.reduceEqDiff, Nat.reduceAdd, Nat.reduceSub, Nat.reduceMul, Nat.reduceLT, Nat.reduceLeDiff, Nat.reduceBEq, Nat.le_refl, Nat.zero_le, Nat.lt_irrefl, beq_self_eq_true, Nat.succ_ne_zero, Option.some.injEq, Prod.mk.injEq, Int32.reduceLT, Int32.reduceLE, y0, r0, r1, y1, e2, c1, c2, c3, c4, hi300, e3, cc1, k0, g1, g2, g3, k28, k29, nI_m1, neg_neg1, p_variable n h1 h2, p_setN n (a + 2) st.length _ (mm I' J f) y2 (by decide) (show st.length < 32 by omega), uI_mm, nI_1, nI_pred]
    · -- not
      subst hp
      obtain ⟨x, st0, rfl⟩ : ∃ x st0, st = x :: st0 := by
        cases st with
        | nil => simp at hd
        | cons x st0 => exact ⟨x, st0, rfl⟩
      obtain ⟨g1, g2, g3⟩ := ng_all 28 (by decide) (by decide)
      have hl32 : st0.length < 32 := by
        simp at h30; omega
      have hx : I' (a + 2) st0.length = x := by rw [hop _ (by simp), getD_snoc, if_pos rfl]
      refine ⟨[some (.ref a), some (.int h), some (.int b), some (.int m), some (.int l), some (.int y), some (.int (nI (x :: st0).length - 1)), some (.int (nI (i + 1))), some (.int (cc1 (28, v)))], mm (u2 I' (a + 2) st0.length (if x = 0 then 1 else 0)) J f, ⟨i + 1, (if x = 0 then 1 else 0) :: st0, u2 I' (a + 2) st0.length (if x = 0 then 1 else 0), some (.int (cc1 (28, v))), by omega, rfl, fun b' j hb => by rw [u2_a hb]; exact hI b' j hb, rfl, by simp at *; omega, hwf, fun q hq => ?_, ?_⟩, fun r => ?_⟩
      · rw [getD_snoc]
        by_cases h9 : q = st0.length
        · rw [if_pos h9, h9, u2_s]
        · rw [if_neg h9, u2_j h9, hop q (by simpa using hq), getD_snoc, if_neg h9]
      · rw [← hfr]; rfl
      · have hm : ∀ q : Nat, nI (q + 1) - 1 = nI q := fun q => nI_pred q
        simp only [kX1_valueBy_6, kX1_valueBy_73, kX1_valueBy_86, kX1_valueBy_165, i_cst, i_ldI, i_ldJ, i_ldA, i_stI, i_stJ, i_stA, i_inc, i_bin, i_dv, i_un, i_i2l, i_bnJ, i_lshl, i_lcmp, i_dup, i_dp2, i_gI, i_gJ, i_gA, i_pI, i_pZ, i_pJ, i_pA, i_al, i_as, i_alJ, i_asJ, i_len, i_c0, i_c2, i_sw, msel, i_cV, i_cS, i_rV, i_rI, i_rZ, i_rJ, i_mm, i_pop, i_no, mpl, mvr, mnw, List.getElem?_cons_zero, List.getElem?_cons_succ, List.set_cons_zero, List.set_cons_succ, List.length_cons, List.length_nil, List.drop_succ_cons, List.drop_zero, List.take_succ_cons, List.take_zero, List.reverse_cons, List.reverse_nil, List.nil_append, List.cons_append, List.append_nil, List.map_cons, List.map_nil, List.sum_cons, List.sum_nil, Option.toList_some, Option.toList_none, Option.bind_some, Value.category, decide_eq_true_eq, decide_true, decide_false, if_true, if_false, Bool.false_eq_true, and_self, and_true, true_and, true_or, or_true, not_true_eq_false, not_false_eq_true, ↓reduceIte, reduceCtorEq, Nat.reduceEqDiff, Nat.reduceAdd, Nat.reduceSub, Nat.reduceMul, Nat.reduceLT, Nat.reduceLeDiff, Nat.reduceBEq, Nat.le_refl, Nat.zero_le, Nat.lt_irrefl, beq_self_eq_true, Nat.succ_ne_zero, Option.some.injEq, Prod.mk.injEq, Int32.reduceLT, Int32.reduceLE, y0, r0, r1, y1, e2, c1, c2, c3, c4, hi300, e3, cc1, show ¬ (28 : Nat) = 0 by decide, g1, g2, hm, p_atN n (a + 2) st0.length (mm I' J f) y2 (by decide) hl32, hx]
        by_cases h9 : x = 0
        · simp only [h9, i_cst, i_ldI, i_ldJ, i_ldA, i_stI, i_stJ, i_stA, i_inc, i_bin, i_dv, i_un, i_i2l, i_bnJ, i_lshl, i_lcmp, i_dup, i_dp2, i_gI, i_gJ, i_gA, i_pI, i_pZ, i_pJ, i_pA, i_al, i_as, i_alJ, i_asJ, i_len, i_c0, i_c2, i_sw, msel, i_cV, i_cS, i_rV, i_rI, i_rZ, i_rJ, i_mm, i_pop, i_no, mpl, mvr, mnw, List.getElem?_cons_zero, List.getElem?_cons_succ, List.set_cons_zero, List.set_cons_succ, List.length_cons, List.length_nil, List.drop_succ_cons, List.drop_zero, List.take_succ_cons, List.take_zero, List.reverse_cons, List.reverse_nil, List.nil_append, List.cons_append, List.append_nil, List.map_cons, List.map_nil, List.sum_cons, List.sum_nil, Option.toList_some, Option.toList_none, Option.bind_some, Value.category, decide_eq_true_eq, decide_true, decide_false, if_true, if_false, Bool.false_eq_true, and_self, and_true, true_and, true_or, or_true, not_true_eq_false, not_false_eq_true, ↓reduceIte, reduceCtorEq, Nat.reduceEqDiff, Nat.reduceAdd, Nat.reduceSub, Nat.reduceMul, Nat.reduceLT, Nat.reduceLeDiff, Nat.reduceBEq, Nat.le_refl, Nat.zero_le, Nat.lt_irrefl, beq_self_eq_true, Nat.succ_ne_zero, Option.some.injEq, Prod.mk.injEq, Int32.reduceLT, Int32.reduceLE, p_setN n (a + 2) st0.length _ (mm I' J f) y2 (by decide) hl32, uI_mm, nI_1]
        · simp only [h9, i_cst, i_ldI, i_ldJ, i_ldA, i_stI, i_stJ, i_stA, i_inc, i_bin, i_dv, i_un, i_i2l, i_bnJ, i_lshl, i_lcmp, i_dup, i_dp2, i_gI, i_gJ, i_gA, i_pI, i_pZ, i_pJ, i_pA, i_al, i_as, i_alJ, i_asJ, i_len, i_c0, i_c2, i_sw, msel, i_cV, i_cS, i_rV, i_rI, i_rZ, i_rJ, i_mm, i_pop, i_no, mpl, mvr, mnw, List.getElem?_cons_zero, List.getElem?_cons_succ, List.set_cons_zero, List.set_cons_succ, List.length_cons, List.length_nil, List.drop_succ_cons, List.drop_zero, List.take_succ_cons, List.take_zero, List.reverse_cons, List.reverse_nil, List.nil_append, List.cons_append, List.append_nil, List.map_cons, List.map_nil, List.sum_cons, List.sum_nil, Option.toList_some, Option.toList_none, Option.bind_some, Value.category, decide_eq_true_eq, decide_true, decide_false, if_true, if_false, Bool.false_eq_true, and_self, and_true, true_and, true_or, or_true, not_true_eq_false, not_false_eq_true, ↓reduceIte, reduceCtorEq, Nat.reduceEqDiff, Nat.reduceAdd, Nat.reduceSub, Nat.reduceMul, Nat.reduceLT, Nat.reduceLeDiff, Nat.reduceBEq, Nat.le_refl, Nat.zero_le, Nat.lt_irrefl, beq_self_eq_true, Nat.succ_ne_zero, Option.some.injEq, Prod.mk.injEq, Int32.reduceLT, Int32.reduceLE, p_setN n (a + 2) st0.length _ (mm I' J f) y2 (by decide) hl32, uI_mm, nI_1]
    · -- two joined
      obtain ⟨y2', x2, st0, rfl⟩ : ∃ y x st0, st = y :: x :: st0 := by
        match st, hd with
        | y :: x :: st0, _ => exact ⟨y, x, st0, rfl⟩
      have hk33 : k < 29 ∧ 1 ≤ k ∧ ¬ k = 28 := by unfold isB at hp; simp only at hp; omega
      obtain ⟨g1, g2, g3⟩ := ng_all k (by omega) (by omega)
      have k0 : ¬ k = 0 := by omega
      have k28 := hk33.2.2
      have k29 : k < 29 := hk33.1
      have hl32 : st0.length + 1 < 32 := by
        simp at h30; omega
      have hx : I' (a + 2) st0.length = x2 := by rw [hop _ (by simp only [List.length_cons]; omega), getD_snoc, if_neg (by simp only [List.length_cons]; omega), getD_snoc, if_pos rfl]
      have hy : I' (a + 2) (st0.length + 1) = y2' := by rw [hop _ (by simp only [List.length_cons]; omega), getD_snoc, if_pos (by simp only [List.length_cons])]
      have ht2 : nI (y2' :: x2 :: st0).length - 1 + -1 = nI st0.length := by
        show nI (st0.length + 1 + 1) - 1 + -1 = _
        rw [nI_pred, pk_m1]
      refine ⟨[some (.ref a), some (.int h), some (.int b), some (.int m), some (.int l), some (.int y), some (.int (nI (jA k x2 y2' :: st0).length - 1)), some (.int (nI (i + 1))), some (.int (cc1 (k, v)))], mm (u2 I' (a + 2) st0.length (jA k x2 y2')) J f, ⟨i + 1, jA k x2 y2' :: st0, u2 I' (a + 2) st0.length (jA k x2 y2'), some (.int (cc1 (k, v))), by omega, rfl, fun b' j hb => by rw [u2_a hb]; exact hI b' j hb, rfl, by simp at *; omega, hwf, fun q hq => ?_, ?_⟩, fun r => ?_⟩
      · rw [getD_snoc]
        by_cases h9 : q = st0.length
        · rw [if_pos h9, h9, u2_s]
        · have hq' : q < st0.length := by simp at hq; omega
          rw [if_neg h9, u2_j h9, hop q (by simp; omega), getD_snoc, if_neg (by simp; omega), getD_snoc, if_neg h9]
      · rw [← hfr]
        show _ = frun _ _ (fstep _ _ _)
        rw [show fstep (envA h b m l y) (k, v) (y2' :: x2 :: st0) = jA k x2 y2' :: st0 by simp [fstep, k0, k28, show ¬ 29 ≤ k by omega]]
      · have hm : ∀ q : Nat, nI (q + 1) - 1 = nI q := fun q => nI_pred q
        simp only [kX1_valueBy_6, kX1_valueBy_131, kX1_valueBy_165, i_cst, i_ldI, i_ldJ, i_ldA, i_stI, i_stJ, i_stA, i_inc, i_bin, i_dv, i_un, i_i2l, i_bnJ, i_lshl, i_lcmp, i_dup, i_dp2, i_gI, i_gJ, i_gA, i_pI, i_pZ, i_pJ, i_pA, i_al, i_as, i_alJ, i_asJ, i_len, i_c0, i_c2, i_sw, msel, i_cV, i_cS, i_rV, i_rI, i_rZ, i_rJ, i_mm, i_pop, i_no, mpl, mvr, mnw, List.getElem?_cons_zero, List.getElem?_cons_succ, List.set_cons_zero, List.set_cons_succ, List.length_cons, List.length_nil, List.drop_succ_cons, List.drop_zero, List.take_succ_cons, List.take_zero, List.reverse_cons, List.reverse_nil, List.nil_append, List.cons_append, List.append_nil, List.map_cons, List.map_nil, List.sum_cons, List.sum_nil, Option.toList_some, Option.toList_none, Option.bind_some, Value.category, decide_eq_true_eq, decide_true, decide_false, if_true, if_false, Bool.false_eq_true, and_self, and_true, true_and, true_or, or_true, not_true_eq_false, not_false_eq_true, ↓reduceIte, reduceCtorEq, Nat.reduceEqDiff, Nat.reduceAdd, Nat.reduceSub, Nat.reduceMul, Nat.reduceLT, Nat.reduceLeDiff, Nat.reduceBEq, Nat.le_refl, Nat.zero_le, Nat.lt_irrefl, beq_self_eq_true, Nat.succ_ne_zero, Option.some.injEq, Prod.mk.injEq, Int32.reduceLT, Int32.reduceLE, y0, r0, r1, y1, e2, c1, c2, c3, c4, hi300, e3, cc1, k0, g1, g2, g3, k28, k29, pk_m1, neg_neg1, nI_1, p_atN n (a + 2) st0.length (mm I' J f) y2 (by decide) (show st0.length < 32 by omega), p_atN n (a + 2) (st0.length + 1) (mm I' J f) y2 (by decide) hl32, hx, hy, p_joined n hp, p_setN n (a + 2) st0.length _ (mm I' J f) y2 (by decide) (show st0.length < 32 by omega), uI_mm, hm]
  · exact ⟨0, [], I, none, by simp, rfl, fun _ _ _ => rfl, rfl, by simp, hw, fun q hq => by simp at hq, rfl⟩
