/-! PURE: one round of the law -/
theorem x_salN (xs : Nat → Int32) (N : Nat) (k : mK) (L : List (Option Value)) (S : List Value) (μ : mM) {j : Nat} (h : j < N) (hN : N < 2 ^ 31) : i_sal xs N k L (.int (nI j) :: .float 0 :: S) μ = k L (.int (xs j) :: S) μ := by
  have h1 : (0 : Int32) ≤ nI j := nI_pos' (by omega)
  have h2 : (nI j).toNatClampNeg = j := nI_clamp (by omega)
  simp only [i_sal, h1, h2, h, and_self, if_true]
theorem x_slnN (N : Nat) (k : mK) (L : List (Option Value)) (S : List Value) (μ : mM) : i_sln N k L (.float 0 :: S) μ = k L (.int (nI N) :: S) μ := by
  simp only [i_sln, if_true]
  rfl
theorem sub6 {N i : Nat} (hN : N ≤ 3072) (hi : i ≤ 4000) : nI N - 6 < nI i ↔ N < i + 6 := by
  rw [Int32.lt_iff_toInt_lt, show (6 : Int32) = nI 6 from rfl, pk_sub_toInt (by omega) (by decide), nI_toInt (by omega)]
  omega
theorem nI_pk {i k : Nat} {x : Int32} (h : x = nI k) : nI i + x = nI (i + k) := by rw [h, nI_add]
def lwL (i : Nat) : List (Option Value) := [some (.float 0), some (.ref 0), some (.ref 60), some (.int (nI i))]
section Lw0
variable {n N i f b : Nat} {xs : Nat → Int32} {I : Nat → Nat → Int32} {J : Nat → Nat → Int64} {A : AS}
set_option maxHeartbeats 4000000 in
theorem lw_0 (hn : 2000 < n) (hN : N ≤ 3072) (hi : i + 6 ≤ N) (hx : xs i &&& 63 = 0) (hc : RC I A) (hm : RM I b A) : ∃ I2 J2 f2 b2 A2, (∀ r : mK, kL_law_18 n xs N r (lwL i) [] (mm I J f) = r (lwL (i + 6)) [] (mm I2 J2 f2)) ∧ RC I2 A2 ∧ RM I2 b2 A2 := by
  obtain ⟨v, I1, J1, f1, I2, J2, f2, b2, A2, k1, k2, k3, k4⟩ := uq_feed (n := n) hn (xs (i + 1)) (xs (i + 2)) (xs (i + 3)) (xs (i + 4)) (xs (i + 5)) I J f b A hc hm
  refine ⟨I2, J2, f2, b2, A2, fun r => ?_, k3, k4⟩
  have c6 : ¬ nI N - 6 < nI i := fun z => by have := (sub6 hN (by omega)).mp z; omega
  have s0 := fun (k : mK) (L : List (Option Value)) (S : List Value) (μ : mM) => x_salN xs N k L S μ (j := i) (by omega) (by omega)
  have p1 : nI i + 1 = nI (i + 1) := nI_pk rfl
  have s1 := fun (k : mK) (L : List (Option Value)) (S : List Value) (μ : mM) => x_salN xs N k L S μ (j := i + 1) (by omega) (by omega)
  have p2 : nI i + 2 = nI (i + 2) := nI_pk rfl
  have s2 := fun (k : mK) (L : List (Option Value)) (S : List Value) (μ : mM) => x_salN xs N k L S μ (j := i + 2) (by omega) (by omega)
  have p3 : nI i + 3 = nI (i + 3) := nI_pk rfl
  have s3 := fun (k : mK) (L : List (Option Value)) (S : List Value) (μ : mM) => x_salN xs N k L S μ (j := i + 3) (by omega) (by omega)
  have p4 : nI i + 4 = nI (i + 4) := nI_pk rfl
  have s4 := fun (k : mK) (L : List (Option Value)) (S : List Value) (μ : mM) => x_salN xs N k L S μ (j := i + 4) (by omega) (by omega)
  have p5 : nI i + 5 = nI (i + 5) := nI_pk rfl
  have s5 := fun (k : mK) (L : List (Option Value)) (S : List Value) (μ : mM) => x_salN xs N k L S μ (j := i + 5) (by omega) (by omega)
  have p6 : nI i + 6 = nI (i + 6) := nI_pk rfl
  simp only [lwL, kL_law_18, kL_law_276, kL_law_302, kL_law_1562, x_no, x_cst, x_ldI, x_ldJ, x_ldA, x_stI, x_stJ, x_stA, x_inc, x_bin, x_un, x_i2l, x_bnJ, x_lshl, x_lcmp, x_dup, x_dp2, x_gI, x_gJ, x_gA, x_pI, x_pZ, x_pJ, x_pA, x_c0, x_c2, x_sw, x_cV, x_cS, x_rV, x_rI, x_rZ, x_rJ, x_mm, x_pop, msel, mpl, mvr, mnw, List.getElem?_cons_zero, List.getElem?_cons_succ, List.set_cons_zero, List.set_cons_succ, List.length_cons, List.length_nil, List.drop_succ_cons, List.drop_zero, List.take_succ_cons, List.take_zero, List.reverse_cons, List.reverse_nil, List.nil_append, List.cons_append, List.append_nil, List.map_cons, List.map_nil, List.sum_cons, List.sum_nil, Option.toList_some, Option.toList_none, x_bs, Value.category, decide_eq_true_eq, decide_true, decide_false, if_true, if_false, Bool.false_eq_true, and_self, and_true, true_and, true_or, or_true, not_true_eq_false, not_false_eq_true, ↓reduceIte, reduceCtorEq, Nat.reduceEqDiff, Nat.reduceAdd, Nat.reduceSub, Nat.reduceMul, Nat.reduceLT, Nat.reduceLeDiff, Nat.reduceBEq, Nat.le_refl, Nat.zero_le, Nat.lt_irrefl, beq_self_eq_true, Nat.succ_ne_zero, Option.some.injEq, Prod.mk.injEq, Int32.reduceLT, Int32.reduceLE, y_60, rt_60_0, rt_60_1, rt_60_11, rt_60_12, rt_60_13, rt_60_14, rt_60_15, rt_60_16, rt_60_17, rt_60_18, rt_60_19, rt_60_20, rt_60_21, rt_60_22, rt_60_23, rt_60_24, rt_60_25, rt_60_26, rt_60_27, rt_60_28, rt_60_29, rt_60_30, rt_60_39, rt_60_41, rt_60_42, rt_60_45, rt_60_46, rt_60_47, rt_60_49, rt_60_50, rt_60_51, rt_60_52, rt_60_53, rt_60_54, rt_60_55, rt_60_56, rt_60_59, rt_60_61, rt_60_62, al_63, as_63, al_64, as_64, al_65, as_65, al_66, as_66, al_67, as_67, al_68, as_68, al_69, as_69, al_70, as_70, al_71, as_71, al_72, as_72, al_73, as_73, al_74, as_74, al_75, as_75, al_76, as_76, al_78, as_78, al_79, as_79, al_80, as_80, al_81, as_81, al_82, as_82, al_83, as_83, al_84, as_84, al_85, as_85, al_86, as_86, al_87, as_87, al_88, as_88, al_89, as_89, al_90, as_90, al_91, as_91, al_92, as_92, al_93, as_93, al_94, as_94, al_95, as_95, al_96, as_96, al_97, as_97, al_98, as_98, al_61, as_61, al_62, as_62, al_99, as_99, al_82_0, as_82_0, al_83_32, as_83_32, al_83_33, as_83_33, ad0, ad8, ad16, ad24, ad_0, mu2, mu8, mu34, nI_add, nI_1, uI_mm, dvN, dvM, y_0, y_60, x_slnN, c6, hx, p6, s0, s1, s2, s3, s4, s5, p1, p2, p3, p4, p5, k1, k2]
set_option maxHeartbeats 4000000 in
theorem lw_1 (hn : 2000 < n) (hN : N ≤ 3072) (hi : i + 6 ≤ N) (hx : xs i &&& 63 = 1) (hc : RC I A) (hm : RM I b A) : ∃ I2 J2 f2 b2 A2, (∀ r : mK, kL_law_18 n xs N r (lwL i) [] (mm I J f) = r (lwL (i + 6)) [] (mm I2 J2 f2)) ∧ RC I2 A2 ∧ RM I2 b2 A2 := by
  obtain ⟨v, I1, J1, f1, I2, J2, f2, b2, A2, k1, k2, k3, k4⟩ := uq_end (n := n) hn (xs (i + 1)) I J f b A hc hm
  refine ⟨I2, J2, f2, b2, A2, fun r => ?_, k3, k4⟩
  have c6 : ¬ nI N - 6 < nI i := fun z => by have := (sub6 hN (by omega)).mp z; omega
  have s0 := fun (k : mK) (L : List (Option Value)) (S : List Value) (μ : mM) => x_salN xs N k L S μ (j := i) (by omega) (by omega)
  have p1 : nI i + 1 = nI (i + 1) := nI_pk rfl
  have s1 := fun (k : mK) (L : List (Option Value)) (S : List Value) (μ : mM) => x_salN xs N k L S μ (j := i + 1) (by omega) (by omega)
  have e0 : ¬ (1 : Int32) = 0 := by decide
  have p6 : nI i + 6 = nI (i + 6) := nI_pk rfl
  simp only [lwL, kL_law_18, kL_law_341, kL_law_1562, x_no, x_cst, x_ldI, x_ldJ, x_ldA, x_stI, x_stJ, x_stA, x_inc, x_bin, x_un, x_i2l, x_bnJ, x_lshl, x_lcmp, x_dup, x_dp2, x_gI, x_gJ, x_gA, x_pI, x_pZ, x_pJ, x_pA, x_c0, x_c2, x_sw, x_cV, x_cS, x_rV, x_rI, x_rZ, x_rJ, x_mm, x_pop, msel, mpl, mvr, mnw, List.getElem?_cons_zero, List.getElem?_cons_succ, List.set_cons_zero, List.set_cons_succ, List.length_cons, List.length_nil, List.drop_succ_cons, List.drop_zero, List.take_succ_cons, List.take_zero, List.reverse_cons, List.reverse_nil, List.nil_append, List.cons_append, List.append_nil, List.map_cons, List.map_nil, List.sum_cons, List.sum_nil, Option.toList_some, Option.toList_none, x_bs, Value.category, decide_eq_true_eq, decide_true, decide_false, if_true, if_false, Bool.false_eq_true, and_self, and_true, true_and, true_or, or_true, not_true_eq_false, not_false_eq_true, ↓reduceIte, reduceCtorEq, Nat.reduceEqDiff, Nat.reduceAdd, Nat.reduceSub, Nat.reduceMul, Nat.reduceLT, Nat.reduceLeDiff, Nat.reduceBEq, Nat.le_refl, Nat.zero_le, Nat.lt_irrefl, beq_self_eq_true, Nat.succ_ne_zero, Option.some.injEq, Prod.mk.injEq, Int32.reduceLT, Int32.reduceLE, y_60, rt_60_0, rt_60_1, rt_60_11, rt_60_12, rt_60_13, rt_60_14, rt_60_15, rt_60_16, rt_60_17, rt_60_18, rt_60_19, rt_60_20, rt_60_21, rt_60_22, rt_60_23, rt_60_24, rt_60_25, rt_60_26, rt_60_27, rt_60_28, rt_60_29, rt_60_30, rt_60_39, rt_60_41, rt_60_42, rt_60_45, rt_60_46, rt_60_47, rt_60_49, rt_60_50, rt_60_51, rt_60_52, rt_60_53, rt_60_54, rt_60_55, rt_60_56, rt_60_59, rt_60_61, rt_60_62, al_63, as_63, al_64, as_64, al_65, as_65, al_66, as_66, al_67, as_67, al_68, as_68, al_69, as_69, al_70, as_70, al_71, as_71, al_72, as_72, al_73, as_73, al_74, as_74, al_75, as_75, al_76, as_76, al_78, as_78, al_79, as_79, al_80, as_80, al_81, as_81, al_82, as_82, al_83, as_83, al_84, as_84, al_85, as_85, al_86, as_86, al_87, as_87, al_88, as_88, al_89, as_89, al_90, as_90, al_91, as_91, al_92, as_92, al_93, as_93, al_94, as_94, al_95, as_95, al_96, as_96, al_97, as_97, al_98, as_98, al_61, as_61, al_62, as_62, al_99, as_99, al_82_0, as_82_0, al_83_32, as_83_32, al_83_33, as_83_33, ad0, ad8, ad16, ad24, ad_0, mu2, mu8, mu34, nI_add, nI_1, uI_mm, dvN, dvM, y_0, y_60, x_slnN, c6, hx, p6, s0, s1, p1, e0, k1, k2]
set_option maxHeartbeats 4000000 in
theorem lw_2 (hn : 2000 < n) (hN : N ≤ 3072) (hi : i + 6 ≤ N) (hx : xs i &&& 63 = 2) (hc : RC I A) (hm : RM I b A) : ∃ I2 J2 f2 b2 A2, (∀ r : mK, kL_law_18 n xs N r (lwL i) [] (mm I J f) = r (lwL (i + 6)) [] (mm I2 J2 f2)) ∧ RC I2 A2 ∧ RM I2 b2 A2 := by
  obtain ⟨v, I1, J1, f1, I2, J2, f2, b2, A2, k1, k2, k3, k4⟩ := uq_jam (n := n) hn I J f b A hc hm
  refine ⟨I2, J2, f2, b2, A2, fun r => ?_, k3, k4⟩
  have c6 : ¬ nI N - 6 < nI i := fun z => by have := (sub6 hN (by omega)).mp z; omega
  have s0 := fun (k : mK) (L : List (Option Value)) (S : List Value) (μ : mM) => x_salN xs N k L S μ (j := i) (by omega) (by omega)
  have e0 : ¬ (2 : Int32) = 0 := by decide
  have e1 : ¬ (2 : Int32) = 1 := by decide
  have p6 : nI i + 6 = nI (i + 6) := nI_pk rfl
  simp only [lwL, kL_law_18, kL_law_1562, x_no, x_cst, x_ldI, x_ldJ, x_ldA, x_stI, x_stJ, x_stA, x_inc, x_bin, x_un, x_i2l, x_bnJ, x_lshl, x_lcmp, x_dup, x_dp2, x_gI, x_gJ, x_gA, x_pI, x_pZ, x_pJ, x_pA, x_c0, x_c2, x_sw, x_cV, x_cS, x_rV, x_rI, x_rZ, x_rJ, x_mm, x_pop, msel, mpl, mvr, mnw, List.getElem?_cons_zero, List.getElem?_cons_succ, List.set_cons_zero, List.set_cons_succ, List.length_cons, List.length_nil, List.drop_succ_cons, List.drop_zero, List.take_succ_cons, List.take_zero, List.reverse_cons, List.reverse_nil, List.nil_append, List.cons_append, List.append_nil, List.map_cons, List.map_nil, List.sum_cons, List.sum_nil, Option.toList_some, Option.toList_none, x_bs, Value.category, decide_eq_true_eq, decide_true, decide_false, if_true, if_false, Bool.false_eq_true, and_self, and_true, true_and, true_or, or_true, not_true_eq_false, not_false_eq_true, ↓reduceIte, reduceCtorEq, Nat.reduceEqDiff, Nat.reduceAdd, Nat.reduceSub, Nat.reduceMul, Nat.reduceLT, Nat.reduceLeDiff, Nat.reduceBEq, Nat.le_refl, Nat.zero_le, Nat.lt_irrefl, beq_self_eq_true, Nat.succ_ne_zero, Option.some.injEq, Prod.mk.injEq, Int32.reduceLT, Int32.reduceLE, y_60, rt_60_0, rt_60_1, rt_60_11, rt_60_12, rt_60_13, rt_60_14, rt_60_15, rt_60_16, rt_60_17, rt_60_18, rt_60_19, rt_60_20, rt_60_21, rt_60_22, rt_60_23, rt_60_24, rt_60_25, rt_60_26, rt_60_27, rt_60_28, rt_60_29, rt_60_30, rt_60_39, rt_60_41, rt_60_42, rt_60_45, rt_60_46, rt_60_47, rt_60_49, rt_60_50, rt_60_51, rt_60_52, rt_60_53, rt_60_54, rt_60_55, rt_60_56, rt_60_59, rt_60_61, rt_60_62, al_63, as_63, al_64, as_64, al_65, as_65, al_66, as_66, al_67, as_67, al_68, as_68, al_69, as_69, al_70, as_70, al_71, as_71, al_72, as_72, al_73, as_73, al_74, as_74, al_75, as_75, al_76, as_76, al_78, as_78, al_79, as_79, al_80, as_80, al_81, as_81, al_82, as_82, al_83, as_83, al_84, as_84, al_85, as_85, al_86, as_86, al_87, as_87, al_88, as_88, al_89, as_89, al_90, as_90, al_91, as_91, al_92, as_92, al_93, as_93, al_94, as_94, al_95, as_95, al_96, as_96, al_97, as_97, al_98, as_98, al_61, as_61, al_62, as_62, al_99, as_99, al_82_0, as_82_0, al_83_32, as_83_32, al_83_33, as_83_33, ad0, ad8, ad16, ad24, ad_0, mu2, mu8, mu34, nI_add, nI_1, uI_mm, dvN, dvM, y_0, y_60, x_slnN, c6, hx, p6, s0, e0, e1, k1, k2]
set_option maxHeartbeats 4000000 in
theorem lw_3 (hn : 2000 < n) (hN : N ≤ 3072) (hi : i + 6 ≤ N) (hx : xs i &&& 63 = 3) (hc : RC I A) (hm : RM I b A) : ∃ I2 J2 f2 b2 A2, (∀ r : mK, kL_law_18 n xs N r (lwL i) [] (mm I J f) = r (lwL (i + 6)) [] (mm I2 J2 f2)) ∧ RC I2 A2 ∧ RM I2 b2 A2 := by
  obtain ⟨v, I1, J1, f1, I2, J2, f2, b2, A2, k1, k2, k3, k4⟩ := uq_fault (n := n) hn (xs (i + 1)) I J f b A hc hm
  refine ⟨I2, J2, f2, b2, A2, fun r => ?_, k3, k4⟩
  have c6 : ¬ nI N - 6 < nI i := fun z => by have := (sub6 hN (by omega)).mp z; omega
  have s0 := fun (k : mK) (L : List (Option Value)) (S : List Value) (μ : mM) => x_salN xs N k L S μ (j := i) (by omega) (by omega)
  have p1 : nI i + 1 = nI (i + 1) := nI_pk rfl
  have s1 := fun (k : mK) (L : List (Option Value)) (S : List Value) (μ : mM) => x_salN xs N k L S μ (j := i + 1) (by omega) (by omega)
  have e0 : ¬ (3 : Int32) = 0 := by decide
  have e1 : ¬ (3 : Int32) = 1 := by decide
  have e2 : ¬ (3 : Int32) = 2 := by decide
  have p6 : nI i + 6 = nI (i + 6) := nI_pk rfl
  simp only [lwL, kL_law_18, kL_law_377, kL_law_1562, x_no, x_cst, x_ldI, x_ldJ, x_ldA, x_stI, x_stJ, x_stA, x_inc, x_bin, x_un, x_i2l, x_bnJ, x_lshl, x_lcmp, x_dup, x_dp2, x_gI, x_gJ, x_gA, x_pI, x_pZ, x_pJ, x_pA, x_c0, x_c2, x_sw, x_cV, x_cS, x_rV, x_rI, x_rZ, x_rJ, x_mm, x_pop, msel, mpl, mvr, mnw, List.getElem?_cons_zero, List.getElem?_cons_succ, List.set_cons_zero, List.set_cons_succ, List.length_cons, List.length_nil, List.drop_succ_cons, List.drop_zero, List.take_succ_cons, List.take_zero, List.reverse_cons, List.reverse_nil, List.nil_append, List.cons_append, List.append_nil, List.map_cons, List.map_nil, List.sum_cons, List.sum_nil, Option.toList_some, Option.toList_none, x_bs, Value.category, decide_eq_true_eq, decide_true, decide_false, if_true, if_false, Bool.false_eq_true, and_self, and_true, true_and, true_or, or_true, not_true_eq_false, not_false_eq_true, ↓reduceIte, reduceCtorEq, Nat.reduceEqDiff, Nat.reduceAdd, Nat.reduceSub, Nat.reduceMul, Nat.reduceLT, Nat.reduceLeDiff, Nat.reduceBEq, Nat.le_refl, Nat.zero_le, Nat.lt_irrefl, beq_self_eq_true, Nat.succ_ne_zero, Option.some.injEq, Prod.mk.injEq, Int32.reduceLT, Int32.reduceLE, y_60, rt_60_0, rt_60_1, rt_60_11, rt_60_12, rt_60_13, rt_60_14, rt_60_15, rt_60_16, rt_60_17, rt_60_18, rt_60_19, rt_60_20, rt_60_21, rt_60_22, rt_60_23, rt_60_24, rt_60_25, rt_60_26, rt_60_27, rt_60_28, rt_60_29, rt_60_30, rt_60_39, rt_60_41, rt_60_42, rt_60_45, rt_60_46, rt_60_47, rt_60_49, rt_60_50, rt_60_51, rt_60_52, rt_60_53, rt_60_54, rt_60_55, rt_60_56, rt_60_59, rt_60_61, rt_60_62, al_63, as_63, al_64, as_64, al_65, as_65, al_66, as_66, al_67, as_67, al_68, as_68, al_69, as_69, al_70, as_70, al_71, as_71, al_72, as_72, al_73, as_73, al_74, as_74, al_75, as_75, al_76, as_76, al_78, as_78, al_79, as_79, al_80, as_80, al_81, as_81, al_82, as_82, al_83, as_83, al_84, as_84, al_85, as_85, al_86, as_86, al_87, as_87, al_88, as_88, al_89, as_89, al_90, as_90, al_91, as_91, al_92, as_92, al_93, as_93, al_94, as_94, al_95, as_95, al_96, as_96, al_97, as_97, al_98, as_98, al_61, as_61, al_62, as_62, al_99, as_99, al_82_0, as_82_0, al_83_32, as_83_32, al_83_33, as_83_33, ad0, ad8, ad16, ad24, ad_0, mu2, mu8, mu34, nI_add, nI_1, uI_mm, dvN, dvM, y_0, y_60, x_slnN, c6, hx, p6, s0, s1, p1, e0, e1, e2, k1, k2]
set_option maxHeartbeats 4000000 in
theorem lw_4 (hn : 2000 < n) (hN : N ≤ 3072) (hi : i + 6 ≤ N) (hx : xs i &&& 63 = 4) (hc : RC I A) (hm : RM I b A) : ∃ I2 J2 f2 b2 A2, (∀ r : mK, kL_law_18 n xs N r (lwL i) [] (mm I J f) = r (lwL (i + 6)) [] (mm I2 J2 f2)) ∧ RC I2 A2 ∧ RM I2 b2 A2 := by
  obtain ⟨v, I1, J1, f1, I2, J2, f2, b2, A2, k1, k2, k3, k4⟩ := uq_car (n := n) hn (xs (i + 1)) (xs (i + 2)) I J f b A hc hm
  refine ⟨I2, J2, f2, b2, A2, fun r => ?_, k3, k4⟩
  have c6 : ¬ nI N - 6 < nI i := fun z => by have := (sub6 hN (by omega)).mp z; omega
  have s0 := fun (k : mK) (L : List (Option Value)) (S : List Value) (μ : mM) => x_salN xs N k L S μ (j := i) (by omega) (by omega)
  have p1 : nI i + 1 = nI (i + 1) := nI_pk rfl
  have s1 := fun (k : mK) (L : List (Option Value)) (S : List Value) (μ : mM) => x_salN xs N k L S μ (j := i + 1) (by omega) (by omega)
  have p2 : nI i + 2 = nI (i + 2) := nI_pk rfl
  have s2 := fun (k : mK) (L : List (Option Value)) (S : List Value) (μ : mM) => x_salN xs N k L S μ (j := i + 2) (by omega) (by omega)
  have e0 : ¬ (4 : Int32) = 0 := by decide
  have e1 : ¬ (4 : Int32) = 1 := by decide
  have e2 : ¬ (4 : Int32) = 2 := by decide
  have e3 : ¬ (4 : Int32) = 3 := by decide
  have p6 : nI i + 6 = nI (i + 6) := nI_pk rfl
  simp only [lwL, kL_law_18, kL_law_400, kL_law_1562, x_no, x_cst, x_ldI, x_ldJ, x_ldA, x_stI, x_stJ, x_stA, x_inc, x_bin, x_un, x_i2l, x_bnJ, x_lshl, x_lcmp, x_dup, x_dp2, x_gI, x_gJ, x_gA, x_pI, x_pZ, x_pJ, x_pA, x_c0, x_c2, x_sw, x_cV, x_cS, x_rV, x_rI, x_rZ, x_rJ, x_mm, x_pop, msel, mpl, mvr, mnw, List.getElem?_cons_zero, List.getElem?_cons_succ, List.set_cons_zero, List.set_cons_succ, List.length_cons, List.length_nil, List.drop_succ_cons, List.drop_zero, List.take_succ_cons, List.take_zero, List.reverse_cons, List.reverse_nil, List.nil_append, List.cons_append, List.append_nil, List.map_cons, List.map_nil, List.sum_cons, List.sum_nil, Option.toList_some, Option.toList_none, x_bs, Value.category, decide_eq_true_eq, decide_true, decide_false, if_true, if_false, Bool.false_eq_true, and_self, and_true, true_and, true_or, or_true, not_true_eq_false, not_false_eq_true, ↓reduceIte, reduceCtorEq, Nat.reduceEqDiff, Nat.reduceAdd, Nat.reduceSub, Nat.reduceMul, Nat.reduceLT, Nat.reduceLeDiff, Nat.reduceBEq, Nat.le_refl, Nat.zero_le, Nat.lt_irrefl, beq_self_eq_true, Nat.succ_ne_zero, Option.some.injEq, Prod.mk.injEq, Int32.reduceLT, Int32.reduceLE, y_60, rt_60_0, rt_60_1, rt_60_11, rt_60_12, rt_60_13, rt_60_14, rt_60_15, rt_60_16, rt_60_17, rt_60_18, rt_60_19, rt_60_20, rt_60_21, rt_60_22, rt_60_23, rt_60_24, rt_60_25, rt_60_26, rt_60_27, rt_60_28, rt_60_29, rt_60_30, rt_60_39, rt_60_41, rt_60_42, rt_60_45, rt_60_46, rt_60_47, rt_60_49, rt_60_50, rt_60_51, rt_60_52, rt_60_53, rt_60_54, rt_60_55, rt_60_56, rt_60_59, rt_60_61, rt_60_62, al_63, as_63, al_64, as_64, al_65, as_65, al_66, as_66, al_67, as_67, al_68, as_68, al_69, as_69, al_70, as_70, al_71, as_71, al_72, as_72, al_73, as_73, al_74, as_74, al_75, as_75, al_76, as_76, al_78, as_78, al_79, as_79, al_80, as_80, al_81, as_81, al_82, as_82, al_83, as_83, al_84, as_84, al_85, as_85, al_86, as_86, al_87, as_87, al_88, as_88, al_89, as_89, al_90, as_90, al_91, as_91, al_92, as_92, al_93, as_93, al_94, as_94, al_95, as_95, al_96, as_96, al_97, as_97, al_98, as_98, al_61, as_61, al_62, as_62, al_99, as_99, al_82_0, as_82_0, al_83_32, as_83_32, al_83_33, as_83_33, ad0, ad8, ad16, ad24, ad_0, mu2, mu8, mu34, nI_add, nI_1, uI_mm, dvN, dvM, y_0, y_60, x_slnN, c6, hx, p6, s0, s1, s2, p1, p2, e0, e1, e2, e3, k1, k2]
set_option maxHeartbeats 4000000 in
theorem lw_5 (hn : 2000 < n) (hN : N ≤ 3072) (hi : i + 6 ≤ N) (hx : xs i &&& 63 = 5) (hc : RC I A) (hm : RM I b A) : ∃ I2 J2 f2 b2 A2, (∀ r : mK, kL_law_18 n xs N r (lwL i) [] (mm I J f) = r (lwL (i + 6)) [] (mm I2 J2 f2)) ∧ RC I2 A2 ∧ RM I2 b2 A2 := by
  obtain ⟨v, I1, J1, f1, I2, J2, f2, b2, A2, k1, k2, k3, k4⟩ := uq_spot (n := n) hn (xs (i + 1)) I J f b A hc hm
  refine ⟨I2, J2, f2, b2, A2, fun r => ?_, k3, k4⟩
  have c6 : ¬ nI N - 6 < nI i := fun z => by have := (sub6 hN (by omega)).mp z; omega
  have s0 := fun (k : mK) (L : List (Option Value)) (S : List Value) (μ : mM) => x_salN xs N k L S μ (j := i) (by omega) (by omega)
  have p1 : nI i + 1 = nI (i + 1) := nI_pk rfl
  have s1 := fun (k : mK) (L : List (Option Value)) (S : List Value) (μ : mM) => x_salN xs N k L S μ (j := i + 1) (by omega) (by omega)
  have e0 : ¬ (5 : Int32) = 0 := by decide
  have e1 : ¬ (5 : Int32) = 1 := by decide
  have e2 : ¬ (5 : Int32) = 2 := by decide
  have e3 : ¬ (5 : Int32) = 3 := by decide
  have e4 : ¬ (5 : Int32) = 4 := by decide
  have p6 : nI i + 6 = nI (i + 6) := nI_pk rfl
  simp only [lwL, kL_law_18, kL_law_433, kL_law_1562, x_no, x_cst, x_ldI, x_ldJ, x_ldA, x_stI, x_stJ, x_stA, x_inc, x_bin, x_un, x_i2l, x_bnJ, x_lshl, x_lcmp, x_dup, x_dp2, x_gI, x_gJ, x_gA, x_pI, x_pZ, x_pJ, x_pA, x_c0, x_c2, x_sw, x_cV, x_cS, x_rV, x_rI, x_rZ, x_rJ, x_mm, x_pop, msel, mpl, mvr, mnw, List.getElem?_cons_zero, List.getElem?_cons_succ, List.set_cons_zero, List.set_cons_succ, List.length_cons, List.length_nil, List.drop_succ_cons, List.drop_zero, List.take_succ_cons, List.take_zero, List.reverse_cons, List.reverse_nil, List.nil_append, List.cons_append, List.append_nil, List.map_cons, List.map_nil, List.sum_cons, List.sum_nil, Option.toList_some, Option.toList_none, x_bs, Value.category, decide_eq_true_eq, decide_true, decide_false, if_true, if_false, Bool.false_eq_true, and_self, and_true, true_and, true_or, or_true, not_true_eq_false, not_false_eq_true, ↓reduceIte, reduceCtorEq, Nat.reduceEqDiff, Nat.reduceAdd, Nat.reduceSub, Nat.reduceMul, Nat.reduceLT, Nat.reduceLeDiff, Nat.reduceBEq, Nat.le_refl, Nat.zero_le, Nat.lt_irrefl, beq_self_eq_true, Nat.succ_ne_zero, Option.some.injEq, Prod.mk.injEq, Int32.reduceLT, Int32.reduceLE, y_60, rt_60_0, rt_60_1, rt_60_11, rt_60_12, rt_60_13, rt_60_14, rt_60_15, rt_60_16, rt_60_17, rt_60_18, rt_60_19, rt_60_20, rt_60_21, rt_60_22, rt_60_23, rt_60_24, rt_60_25, rt_60_26, rt_60_27, rt_60_28, rt_60_29, rt_60_30, rt_60_39, rt_60_41, rt_60_42, rt_60_45, rt_60_46, rt_60_47, rt_60_49, rt_60_50, rt_60_51, rt_60_52, rt_60_53, rt_60_54, rt_60_55, rt_60_56, rt_60_59, rt_60_61, rt_60_62, al_63, as_63, al_64, as_64, al_65, as_65, al_66, as_66, al_67, as_67, al_68, as_68, al_69, as_69, al_70, as_70, al_71, as_71, al_72, as_72, al_73, as_73, al_74, as_74, al_75, as_75, al_76, as_76, al_78, as_78, al_79, as_79, al_80, as_80, al_81, as_81, al_82, as_82, al_83, as_83, al_84, as_84, al_85, as_85, al_86, as_86, al_87, as_87, al_88, as_88, al_89, as_89, al_90, as_90, al_91, as_91, al_92, as_92, al_93, as_93, al_94, as_94, al_95, as_95, al_96, as_96, al_97, as_97, al_98, as_98, al_61, as_61, al_62, as_62, al_99, as_99, al_82_0, as_82_0, al_83_32, as_83_32, al_83_33, as_83_33, ad0, ad8, ad16, ad24, ad_0, mu2, mu8, mu34, nI_add, nI_1, uI_mm, dvN, dvM, y_0, y_60, x_slnN, c6, hx, p6, s0, s1, p1, e0, e1, e2, e3, e4, k1, k2]
set_option maxHeartbeats 4000000 in
theorem lw_6 (hn : 2000 < n) (hN : N ≤ 3072) (hi : i + 6 ≤ N) (hx : xs i &&& 63 = 6) (hc : RC I A) (hm : RM I b A) : ∃ I2 J2 f2 b2 A2, (∀ r : mK, kL_law_18 n xs N r (lwL i) [] (mm I J f) = r (lwL (i + 6)) [] (mm I2 J2 f2)) ∧ RC I2 A2 ∧ RM I2 b2 A2 := by
  obtain ⟨v, I1, J1, f1, I2, J2, f2, b2, A2, k1, k2, k3, k4⟩ := uq_worth (n := n) hn (xs (i + 1)) I J f b A hc hm
  refine ⟨I2, J2, f2, b2, A2, fun r => ?_, k3, k4⟩
  have c6 : ¬ nI N - 6 < nI i := fun z => by have := (sub6 hN (by omega)).mp z; omega
  have s0 := fun (k : mK) (L : List (Option Value)) (S : List Value) (μ : mM) => x_salN xs N k L S μ (j := i) (by omega) (by omega)
  have p1 : nI i + 1 = nI (i + 1) := nI_pk rfl
  have s1 := fun (k : mK) (L : List (Option Value)) (S : List Value) (μ : mM) => x_salN xs N k L S μ (j := i + 1) (by omega) (by omega)
  have e0 : ¬ (6 : Int32) = 0 := by decide
  have e1 : ¬ (6 : Int32) = 1 := by decide
  have e2 : ¬ (6 : Int32) = 2 := by decide
  have e3 : ¬ (6 : Int32) = 3 := by decide
  have e4 : ¬ (6 : Int32) = 4 := by decide
  have e5 : ¬ (6 : Int32) = 5 := by decide
  have p6 : nI i + 6 = nI (i + 6) := nI_pk rfl
  simp only [lwL, kL_law_18, kL_law_456, kL_law_1562, x_no, x_cst, x_ldI, x_ldJ, x_ldA, x_stI, x_stJ, x_stA, x_inc, x_bin, x_un, x_i2l, x_bnJ, x_lshl, x_lcmp, x_dup, x_dp2, x_gI, x_gJ, x_gA, x_pI, x_pZ, x_pJ, x_pA, x_c0, x_c2, x_sw, x_cV, x_cS, x_rV, x_rI, x_rZ, x_rJ, x_mm, x_pop, msel, mpl, mvr, mnw, List.getElem?_cons_zero, List.getElem?_cons_succ, List.set_cons_zero, List.set_cons_succ, List.length_cons, List.length_nil, List.drop_succ_cons, List.drop_zero, List.take_succ_cons, List.take_zero, List.reverse_cons, List.reverse_nil, List.nil_append, List.cons_append, List.append_nil, List.map_cons, List.map_nil, List.sum_cons, List.sum_nil, Option.toList_some, Option.toList_none, x_bs, Value.category, decide_eq_true_eq, decide_true, decide_false, if_true, if_false, Bool.false_eq_true, and_self, and_true, true_and, true_or, or_true, not_true_eq_false, not_false_eq_true, ↓reduceIte, reduceCtorEq, Nat.reduceEqDiff, Nat.reduceAdd, Nat.reduceSub, Nat.reduceMul, Nat.reduceLT, Nat.reduceLeDiff, Nat.reduceBEq, Nat.le_refl, Nat.zero_le, Nat.lt_irrefl, beq_self_eq_true, Nat.succ_ne_zero, Option.some.injEq, Prod.mk.injEq, Int32.reduceLT, Int32.reduceLE, y_60, rt_60_0, rt_60_1, rt_60_11, rt_60_12, rt_60_13, rt_60_14, rt_60_15, rt_60_16, rt_60_17, rt_60_18, rt_60_19, rt_60_20, rt_60_21, rt_60_22, rt_60_23, rt_60_24, rt_60_25, rt_60_26, rt_60_27, rt_60_28, rt_60_29, rt_60_30, rt_60_39, rt_60_41, rt_60_42, rt_60_45, rt_60_46, rt_60_47, rt_60_49, rt_60_50, rt_60_51, rt_60_52, rt_60_53, rt_60_54, rt_60_55, rt_60_56, rt_60_59, rt_60_61, rt_60_62, al_63, as_63, al_64, as_64, al_65, as_65, al_66, as_66, al_67, as_67, al_68, as_68, al_69, as_69, al_70, as_70, al_71, as_71, al_72, as_72, al_73, as_73, al_74, as_74, al_75, as_75, al_76, as_76, al_78, as_78, al_79, as_79, al_80, as_80, al_81, as_81, al_82, as_82, al_83, as_83, al_84, as_84, al_85, as_85, al_86, as_86, al_87, as_87, al_88, as_88, al_89, as_89, al_90, as_90, al_91, as_91, al_92, as_92, al_93, as_93, al_94, as_94, al_95, as_95, al_96, as_96, al_97, as_97, al_98, as_98, al_61, as_61, al_62, as_62, al_99, as_99, al_82_0, as_82_0, al_83_32, as_83_32, al_83_33, as_83_33, ad0, ad8, ad16, ad24, ad_0, mu2, mu8, mu34, nI_add, nI_1, uI_mm, dvN, dvM, y_0, y_60, x_slnN, c6, hx, p6, s0, s1, p1, e0, e1, e2, e3, e4, e5, k1, k2]
set_option maxHeartbeats 4000000 in
theorem lw_7 (hn : 2000 < n) (hN : N ≤ 3072) (hi : i + 6 ≤ N) (hx : xs i &&& 63 = 7) (hc : RC I A) (hm : RM I b A) : ∃ I2 J2 f2 b2 A2, (∀ r : mK, kL_law_18 n xs N r (lwL i) [] (mm I J f) = r (lwL (i + 6)) [] (mm I2 J2 f2)) ∧ RC I2 A2 ∧ RM I2 b2 A2 := by
  obtain ⟨v, I1, J1, f1, I2, J2, f2, b2, A2, k1, k2, k3, k4⟩ := uq_year (n := n) hn I J f b A hc hm
  refine ⟨I2, J2, f2, b2, A2, fun r => ?_, k3, k4⟩
  have c6 : ¬ nI N - 6 < nI i := fun z => by have := (sub6 hN (by omega)).mp z; omega
  have s0 := fun (k : mK) (L : List (Option Value)) (S : List Value) (μ : mM) => x_salN xs N k L S μ (j := i) (by omega) (by omega)
  have e0 : ¬ (7 : Int32) = 0 := by decide
  have e1 : ¬ (7 : Int32) = 1 := by decide
  have e2 : ¬ (7 : Int32) = 2 := by decide
  have e3 : ¬ (7 : Int32) = 3 := by decide
  have e4 : ¬ (7 : Int32) = 4 := by decide
  have e5 : ¬ (7 : Int32) = 5 := by decide
  have e6 : ¬ (7 : Int32) = 6 := by decide
  have p6 : nI i + 6 = nI (i + 6) := nI_pk rfl
  simp only [lwL, kL_law_18, kL_law_1562, x_no, x_cst, x_ldI, x_ldJ, x_ldA, x_stI, x_stJ, x_stA, x_inc, x_bin, x_un, x_i2l, x_bnJ, x_lshl, x_lcmp, x_dup, x_dp2, x_gI, x_gJ, x_gA, x_pI, x_pZ, x_pJ, x_pA, x_c0, x_c2, x_sw, x_cV, x_cS, x_rV, x_rI, x_rZ, x_rJ, x_mm, x_pop, msel, mpl, mvr, mnw, List.getElem?_cons_zero, List.getElem?_cons_succ, List.set_cons_zero, List.set_cons_succ, List.length_cons, List.length_nil, List.drop_succ_cons, List.drop_zero, List.take_succ_cons, List.take_zero, List.reverse_cons, List.reverse_nil, List.nil_append, List.cons_append, List.append_nil, List.map_cons, List.map_nil, List.sum_cons, List.sum_nil, Option.toList_some, Option.toList_none, x_bs, Value.category, decide_eq_true_eq, decide_true, decide_false, if_true, if_false, Bool.false_eq_true, and_self, and_true, true_and, true_or, or_true, not_true_eq_false, not_false_eq_true, ↓reduceIte, reduceCtorEq, Nat.reduceEqDiff, Nat.reduceAdd, Nat.reduceSub, Nat.reduceMul, Nat.reduceLT, Nat.reduceLeDiff, Nat.reduceBEq, Nat.le_refl, Nat.zero_le, Nat.lt_irrefl, beq_self_eq_true, Nat.succ_ne_zero, Option.some.injEq, Prod.mk.injEq, Int32.reduceLT, Int32.reduceLE, y_60, rt_60_0, rt_60_1, rt_60_11, rt_60_12, rt_60_13, rt_60_14, rt_60_15, rt_60_16, rt_60_17, rt_60_18, rt_60_19, rt_60_20, rt_60_21, rt_60_22, rt_60_23, rt_60_24, rt_60_25, rt_60_26, rt_60_27, rt_60_28, rt_60_29, rt_60_30, rt_60_39, rt_60_41, rt_60_42, rt_60_45, rt_60_46, rt_60_47, rt_60_49, rt_60_50, rt_60_51, rt_60_52, rt_60_53, rt_60_54, rt_60_55, rt_60_56, rt_60_59, rt_60_61, rt_60_62, al_63, as_63, al_64, as_64, al_65, as_65, al_66, as_66, al_67, as_67, al_68, as_68, al_69, as_69, al_70, as_70, al_71, as_71, al_72, as_72, al_73, as_73, al_74, as_74, al_75, as_75, al_76, as_76, al_78, as_78, al_79, as_79, al_80, as_80, al_81, as_81, al_82, as_82, al_83, as_83, al_84, as_84, al_85, as_85, al_86, as_86, al_87, as_87, al_88, as_88, al_89, as_89, al_90, as_90, al_91, as_91, al_92, as_92, al_93, as_93, al_94, as_94, al_95, as_95, al_96, as_96, al_97, as_97, al_98, as_98, al_61, as_61, al_62, as_62, al_99, as_99, al_82_0, as_82_0, al_83_32, as_83_32, al_83_33, as_83_33, ad0, ad8, ad16, ad24, ad_0, mu2, mu8, mu34, nI_add, nI_1, uI_mm, dvN, dvM, y_0, y_60, x_slnN, c6, hx, p6, s0, e0, e1, e2, e3, e4, e5, e6, k1, k2]
set_option maxHeartbeats 4000000 in
theorem lw_8 (hn : 2000 < n) (hN : N ≤ 3072) (hi : i + 6 ≤ N) (hx : xs i &&& 63 = 8) (hc : RC I A) (hm : RM I b A) : ∃ I2 J2 f2 b2 A2, (∀ r : mK, kL_law_18 n xs N r (lwL i) [] (mm I J f) = r (lwL (i + 6)) [] (mm I2 J2 f2)) ∧ RC I2 A2 ∧ RM I2 b2 A2 := by
  obtain ⟨v, I1, J1, f1, I2, J2, f2, b2, A2, k1, k2, k3, k4⟩ := uq_let (n := n) hn (xs (i + 1)) I J f b A hc hm
  refine ⟨I2, J2, f2, b2, A2, fun r => ?_, k3, k4⟩
  have c6 : ¬ nI N - 6 < nI i := fun z => by have := (sub6 hN (by omega)).mp z; omega
  have s0 := fun (k : mK) (L : List (Option Value)) (S : List Value) (μ : mM) => x_salN xs N k L S μ (j := i) (by omega) (by omega)
  have p1 : nI i + 1 = nI (i + 1) := nI_pk rfl
  have s1 := fun (k : mK) (L : List (Option Value)) (S : List Value) (μ : mM) => x_salN xs N k L S μ (j := i + 1) (by omega) (by omega)
  have e0 : ¬ (8 : Int32) = 0 := by decide
  have e1 : ¬ (8 : Int32) = 1 := by decide
  have e2 : ¬ (8 : Int32) = 2 := by decide
  have e3 : ¬ (8 : Int32) = 3 := by decide
  have e4 : ¬ (8 : Int32) = 4 := by decide
  have e5 : ¬ (8 : Int32) = 5 := by decide
  have e6 : ¬ (8 : Int32) = 6 := by decide
  have e7 : ¬ (8 : Int32) = 7 := by decide
  have p6 : nI i + 6 = nI (i + 6) := nI_pk rfl
  simp only [lwL, kL_law_18, kL_law_492, kL_law_1562, x_no, x_cst, x_ldI, x_ldJ, x_ldA, x_stI, x_stJ, x_stA, x_inc, x_bin, x_un, x_i2l, x_bnJ, x_lshl, x_lcmp, x_dup, x_dp2, x_gI, x_gJ, x_gA, x_pI, x_pZ, x_pJ, x_pA, x_c0, x_c2, x_sw, x_cV, x_cS, x_rV, x_rI, x_rZ, x_rJ, x_mm, x_pop, msel, mpl, mvr, mnw, List.getElem?_cons_zero, List.getElem?_cons_succ, List.set_cons_zero, List.set_cons_succ, List.length_cons, List.length_nil, List.drop_succ_cons, List.drop_zero, List.take_succ_cons, List.take_zero, List.reverse_cons, List.reverse_nil, List.nil_append, List.cons_append, List.append_nil, List.map_cons, List.map_nil, List.sum_cons, List.sum_nil, Option.toList_some, Option.toList_none, x_bs, Value.category, decide_eq_true_eq, decide_true, decide_false, if_true, if_false, Bool.false_eq_true, and_self, and_true, true_and, true_or, or_true, not_true_eq_false, not_false_eq_true, ↓reduceIte, reduceCtorEq, Nat.reduceEqDiff, Nat.reduceAdd, Nat.reduceSub, Nat.reduceMul, Nat.reduceLT, Nat.reduceLeDiff, Nat.reduceBEq, Nat.le_refl, Nat.zero_le, Nat.lt_irrefl, beq_self_eq_true, Nat.succ_ne_zero, Option.some.injEq, Prod.mk.injEq, Int32.reduceLT, Int32.reduceLE, y_60, rt_60_0, rt_60_1, rt_60_11, rt_60_12, rt_60_13, rt_60_14, rt_60_15, rt_60_16, rt_60_17, rt_60_18, rt_60_19, rt_60_20, rt_60_21, rt_60_22, rt_60_23, rt_60_24, rt_60_25, rt_60_26, rt_60_27, rt_60_28, rt_60_29, rt_60_30, rt_60_39, rt_60_41, rt_60_42, rt_60_45, rt_60_46, rt_60_47, rt_60_49, rt_60_50, rt_60_51, rt_60_52, rt_60_53, rt_60_54, rt_60_55, rt_60_56, rt_60_59, rt_60_61, rt_60_62, al_63, as_63, al_64, as_64, al_65, as_65, al_66, as_66, al_67, as_67, al_68, as_68, al_69, as_69, al_70, as_70, al_71, as_71, al_72, as_72, al_73, as_73, al_74, as_74, al_75, as_75, al_76, as_76, al_78, as_78, al_79, as_79, al_80, as_80, al_81, as_81, al_82, as_82, al_83, as_83, al_84, as_84, al_85, as_85, al_86, as_86, al_87, as_87, al_88, as_88, al_89, as_89, al_90, as_90, al_91, as_91, al_92, as_92, al_93, as_93, al_94, as_94, al_95, as_95, al_96, as_96, al_97, as_97, al_98, as_98, al_61, as_61, al_62, as_62, al_99, as_99, al_82_0, as_82_0, al_83_32, as_83_32, al_83_33, as_83_33, ad0, ad8, ad16, ad24, ad_0, mu2, mu8, mu34, nI_add, nI_1, uI_mm, dvN, dvM, y_0, y_60, x_slnN, c6, hx, p6, s0, s1, p1, e0, e1, e2, e3, e4, e5, e6, e7, k1, k2]
set_option maxHeartbeats 4000000 in
theorem lw_9 (hn : 2000 < n) (hN : N ≤ 3072) (hi : i + 6 ≤ N) (hx : xs i &&& 63 = 9) (hc : RC I A) (hm : RM I b A) : ∃ I2 J2 f2 b2 A2, (∀ r : mK, kL_law_18 n xs N r (lwL i) [] (mm I J f) = r (lwL (i + 6)) [] (mm I2 J2 f2)) ∧ RC I2 A2 ∧ RM I2 b2 A2 := by
  obtain ⟨v, I1, J1, f1, I2, J2, f2, b2, A2, k1, k2, k3, k4⟩ := uq_tow (n := n) hn (xs (i + 1)) I J f b A hc hm
  refine ⟨I2, J2, f2, b2, A2, fun r => ?_, k3, k4⟩
  have c6 : ¬ nI N - 6 < nI i := fun z => by have := (sub6 hN (by omega)).mp z; omega
  have s0 := fun (k : mK) (L : List (Option Value)) (S : List Value) (μ : mM) => x_salN xs N k L S μ (j := i) (by omega) (by omega)
  have p1 : nI i + 1 = nI (i + 1) := nI_pk rfl
  have s1 := fun (k : mK) (L : List (Option Value)) (S : List Value) (μ : mM) => x_salN xs N k L S μ (j := i + 1) (by omega) (by omega)
  have e0 : ¬ (9 : Int32) = 0 := by decide
  have e1 : ¬ (9 : Int32) = 1 := by decide
  have e2 : ¬ (9 : Int32) = 2 := by decide
  have e3 : ¬ (9 : Int32) = 3 := by decide
  have e4 : ¬ (9 : Int32) = 4 := by decide
  have e5 : ¬ (9 : Int32) = 5 := by decide
  have e6 : ¬ (9 : Int32) = 6 := by decide
  have e7 : ¬ (9 : Int32) = 7 := by decide
  have e8 : ¬ (9 : Int32) = 8 := by decide
  have p6 : nI i + 6 = nI (i + 6) := nI_pk rfl
  simp only [lwL, kL_law_18, kL_law_515, kL_law_1562, x_no, x_cst, x_ldI, x_ldJ, x_ldA, x_stI, x_stJ, x_stA, x_inc, x_bin, x_un, x_i2l, x_bnJ, x_lshl, x_lcmp, x_dup, x_dp2, x_gI, x_gJ, x_gA, x_pI, x_pZ, x_pJ, x_pA, x_c0, x_c2, x_sw, x_cV, x_cS, x_rV, x_rI, x_rZ, x_rJ, x_mm, x_pop, msel, mpl, mvr, mnw, List.getElem?_cons_zero, List.getElem?_cons_succ, List.set_cons_zero, List.set_cons_succ, List.length_cons, List.length_nil, List.drop_succ_cons, List.drop_zero, List.take_succ_cons, List.take_zero, List.reverse_cons, List.reverse_nil, List.nil_append, List.cons_append, List.append_nil, List.map_cons, List.map_nil, List.sum_cons, List.sum_nil, Option.toList_some, Option.toList_none, x_bs, Value.category, decide_eq_true_eq, decide_true, decide_false, if_true, if_false, Bool.false_eq_true, and_self, and_true, true_and, true_or, or_true, not_true_eq_false, not_false_eq_true, ↓reduceIte, reduceCtorEq, Nat.reduceEqDiff, Nat.reduceAdd, Nat.reduceSub, Nat.reduceMul, Nat.reduceLT, Nat.reduceLeDiff, Nat.reduceBEq, Nat.le_refl, Nat.zero_le, Nat.lt_irrefl, beq_self_eq_true, Nat.succ_ne_zero, Option.some.injEq, Prod.mk.injEq, Int32.reduceLT, Int32.reduceLE, y_60, rt_60_0, rt_60_1, rt_60_11, rt_60_12, rt_60_13, rt_60_14, rt_60_15, rt_60_16, rt_60_17, rt_60_18, rt_60_19, rt_60_20, rt_60_21, rt_60_22, rt_60_23, rt_60_24, rt_60_25, rt_60_26, rt_60_27, rt_60_28, rt_60_29, rt_60_30, rt_60_39, rt_60_41, rt_60_42, rt_60_45, rt_60_46, rt_60_47, rt_60_49, rt_60_50, rt_60_51, rt_60_52, rt_60_53, rt_60_54, rt_60_55, rt_60_56, rt_60_59, rt_60_61, rt_60_62, al_63, as_63, al_64, as_64, al_65, as_65, al_66, as_66, al_67, as_67, al_68, as_68, al_69, as_69, al_70, as_70, al_71, as_71, al_72, as_72, al_73, as_73, al_74, as_74, al_75, as_75, al_76, as_76, al_78, as_78, al_79, as_79, al_80, as_80, al_81, as_81, al_82, as_82, al_83, as_83, al_84, as_84, al_85, as_85, al_86, as_86, al_87, as_87, al_88, as_88, al_89, as_89, al_90, as_90, al_91, as_91, al_92, as_92, al_93, as_93, al_94, as_94, al_95, as_95, al_96, as_96, al_97, as_97, al_98, as_98, al_61, as_61, al_62, as_62, al_99, as_99, al_82_0, as_82_0, al_83_32, as_83_32, al_83_33, as_83_33, ad0, ad8, ad16, ad24, ad_0, mu2, mu8, mu34, nI_add, nI_1, uI_mm, dvN, dvM, y_0, y_60, x_slnN, c6, hx, p6, s0, s1, p1, e0, e1, e2, e3, e4, e5, e6, e7, e8, k1, k2]
set_option maxHeartbeats 4000000 in
theorem lw_10 (hn : 2000 < n) (hN : N ≤ 3072) (hi : i + 6 ≤ N) (hx : xs i &&& 63 = 10) (hc : RC I A) (hm : RM I b A) : ∃ I2 J2 f2 b2 A2, (∀ r : mK, kL_law_18 n xs N r (lwL i) [] (mm I J f) = r (lwL (i + 6)) [] (mm I2 J2 f2)) ∧ RC I2 A2 ∧ RM I2 b2 A2 := by
  obtain ⟨v, I1, J1, f1, I2, J2, f2, b2, A2, k1, k2, k3, k4⟩ := uq_polish (n := n) hn (xs (i + 1)) I J f b A hc hm
  refine ⟨I2, J2, f2, b2, A2, fun r => ?_, k3, k4⟩
  have c6 : ¬ nI N - 6 < nI i := fun z => by have := (sub6 hN (by omega)).mp z; omega
  have s0 := fun (k : mK) (L : List (Option Value)) (S : List Value) (μ : mM) => x_salN xs N k L S μ (j := i) (by omega) (by omega)
  have p1 : nI i + 1 = nI (i + 1) := nI_pk rfl
  have s1 := fun (k : mK) (L : List (Option Value)) (S : List Value) (μ : mM) => x_salN xs N k L S μ (j := i + 1) (by omega) (by omega)
  have e0 : ¬ (10 : Int32) = 0 := by decide
  have e1 : ¬ (10 : Int32) = 1 := by decide
  have e2 : ¬ (10 : Int32) = 2 := by decide
  have e3 : ¬ (10 : Int32) = 3 := by decide
  have e4 : ¬ (10 : Int32) = 4 := by decide
  have e5 : ¬ (10 : Int32) = 5 := by decide
  have e6 : ¬ (10 : Int32) = 6 := by decide
  have e7 : ¬ (10 : Int32) = 7 := by decide
  have e8 : ¬ (10 : Int32) = 8 := by decide
  have e9 : ¬ (10 : Int32) = 9 := by decide
  have p6 : nI i + 6 = nI (i + 6) := nI_pk rfl
  simp only [lwL, kL_law_18, kL_law_538, kL_law_1562, x_no, x_cst, x_ldI, x_ldJ, x_ldA, x_stI, x_stJ, x_stA, x_inc, x_bin, x_un, x_i2l, x_bnJ, x_lshl, x_lcmp, x_dup, x_dp2, x_gI, x_gJ, x_gA, x_pI, x_pZ, x_pJ, x_pA, x_c0, x_c2, x_sw, x_cV, x_cS, x_rV, x_rI, x_rZ, x_rJ, x_mm, x_pop, msel, mpl, mvr, mnw, List.getElem?_cons_zero, List.getElem?_cons_succ, List.set_cons_zero, List.set_cons_succ, List.length_cons, List.length_nil, List.drop_succ_cons, List.drop_zero, List.take_succ_cons, List.take_zero, List.reverse_cons, List.reverse_nil, List.nil_append, List.cons_append, List.append_nil, List.map_cons, List.map_nil, List.sum_cons, List.sum_nil, Option.toList_some, Option.toList_none, x_bs, Value.category, decide_eq_true_eq, decide_true, decide_false, if_true, if_false, Bool.false_eq_true, and_self, and_true, true_and, true_or, or_true, not_true_eq_false, not_false_eq_true, ↓reduceIte, reduceCtorEq, Nat.reduceEqDiff, Nat.reduceAdd, Nat.reduceSub, Nat.reduceMul, Nat.reduceLT, Nat.reduceLeDiff, Nat.reduceBEq, Nat.le_refl, Nat.zero_le, Nat.lt_irrefl, beq_self_eq_true, Nat.succ_ne_zero, Option.some.injEq, Prod.mk.injEq, Int32.reduceLT, Int32.reduceLE, y_60, rt_60_0, rt_60_1, rt_60_11, rt_60_12, rt_60_13, rt_60_14, rt_60_15, rt_60_16, rt_60_17, rt_60_18, rt_60_19, rt_60_20, rt_60_21, rt_60_22, rt_60_23, rt_60_24, rt_60_25, rt_60_26, rt_60_27, rt_60_28, rt_60_29, rt_60_30, rt_60_39, rt_60_41, rt_60_42, rt_60_45, rt_60_46, rt_60_47, rt_60_49, rt_60_50, rt_60_51, rt_60_52, rt_60_53, rt_60_54, rt_60_55, rt_60_56, rt_60_59, rt_60_61, rt_60_62, al_63, as_63, al_64, as_64, al_65, as_65, al_66, as_66, al_67, as_67, al_68, as_68, al_69, as_69, al_70, as_70, al_71, as_71, al_72, as_72, al_73, as_73, al_74, as_74, al_75, as_75, al_76, as_76, al_78, as_78, al_79, as_79, al_80, as_80, al_81, as_81, al_82, as_82, al_83, as_83, al_84, as_84, al_85, as_85, al_86, as_86, al_87, as_87, al_88, as_88, al_89, as_89, al_90, as_90, al_91, as_91, al_92, as_92, al_93, as_93, al_94, as_94, al_95, as_95, al_96, as_96, al_97, as_97, al_98, as_98, al_61, as_61, al_62, as_62, al_99, as_99, al_82_0, as_82_0, al_83_32, as_83_32, al_83_33, as_83_33, ad0, ad8, ad16, ad24, ad_0, mu2, mu8, mu34, nI_add, nI_1, uI_mm, dvN, dvM, y_0, y_60, x_slnN, c6, hx, p6, s0, s1, p1, e0, e1, e2, e3, e4, e5, e6, e7, e8, e9, k1, k2]
set_option maxHeartbeats 4000000 in
theorem lw_11 (hn : 2000 < n) (hN : N ≤ 3072) (hi : i + 6 ≤ N) (hx : xs i &&& 63 = 11) (hc : RC I A) (hm : RM I b A) : ∃ I2 J2 f2 b2 A2, (∀ r : mK, kL_law_18 n xs N r (lwL i) [] (mm I J f) = r (lwL (i + 6)) [] (mm I2 J2 f2)) ∧ RC I2 A2 ∧ RM I2 b2 A2 := by
  obtain ⟨v, I1, J1, f1, I2, J2, f2, b2, A2, k1, k2, k3, k4⟩ := uq_steer (n := n) hn (xs (i + 1)) (xs (i + 2)) I J f b A hc hm
  refine ⟨I2, J2, f2, b2, A2, fun r => ?_, k3, k4⟩
  have c6 : ¬ nI N - 6 < nI i := fun z => by have := (sub6 hN (by omega)).mp z; omega
  have s0 := fun (k : mK) (L : List (Option Value)) (S : List Value) (μ : mM) => x_salN xs N k L S μ (j := i) (by omega) (by omega)
  have p1 : nI i + 1 = nI (i + 1) := nI_pk rfl
  have s1 := fun (k : mK) (L : List (Option Value)) (S : List Value) (μ : mM) => x_salN xs N k L S μ (j := i + 1) (by omega) (by omega)
  have p2 : nI i + 2 = nI (i + 2) := nI_pk rfl
  have s2 := fun (k : mK) (L : List (Option Value)) (S : List Value) (μ : mM) => x_salN xs N k L S μ (j := i + 2) (by omega) (by omega)
  have e0 : ¬ (11 : Int32) = 0 := by decide
  have e1 : ¬ (11 : Int32) = 1 := by decide
  have e2 : ¬ (11 : Int32) = 2 := by decide
  have e3 : ¬ (11 : Int32) = 3 := by decide
  have e4 : ¬ (11 : Int32) = 4 := by decide
  have e5 : ¬ (11 : Int32) = 5 := by decide
  have e6 : ¬ (11 : Int32) = 6 := by decide
  have e7 : ¬ (11 : Int32) = 7 := by decide
  have e8 : ¬ (11 : Int32) = 8 := by decide
  have e9 : ¬ (11 : Int32) = 9 := by decide
  have e10 : ¬ (11 : Int32) = 10 := by decide
  have p6 : nI i + 6 = nI (i + 6) := nI_pk rfl
  simp only [lwL, kL_law_18, kL_law_561, kL_law_1562, x_no, x_cst, x_ldI, x_ldJ, x_ldA, x_stI, x_stJ, x_stA, x_inc, x_bin, x_un, x_i2l, x_bnJ, x_lshl, x_lcmp, x_dup, x_dp2, x_gI, x_gJ, x_gA, x_pI, x_pZ, x_pJ, x_pA, x_c0, x_c2, x_sw, x_cV, x_cS, x_rV, x_rI, x_rZ, x_rJ, x_mm, x_pop, msel, mpl, mvr, mnw, List.getElem?_cons_zero, List.getElem?_cons_succ, List.set_cons_zero, List.set_cons_succ, List.length_cons, List.length_nil, List.drop_succ_cons, List.drop_zero, List.take_succ_cons, List.take_zero, List.reverse_cons, List.reverse_nil, List.nil_append, List.cons_append, List.append_nil, List.map_cons, List.map_nil, List.sum_cons, List.sum_nil, Option.toList_some, Option.toList_none, x_bs, Value.category, decide_eq_true_eq, decide_true, decide_false, if_true, if_false, Bool.false_eq_true, and_self, and_true, true_and, true_or, or_true, not_true_eq_false, not_false_eq_true, ↓reduceIte, reduceCtorEq, Nat.reduceEqDiff, Nat.reduceAdd, Nat.reduceSub, Nat.reduceMul, Nat.reduceLT, Nat.reduceLeDiff, Nat.reduceBEq, Nat.le_refl, Nat.zero_le, Nat.lt_irrefl, beq_self_eq_true, Nat.succ_ne_zero, Option.some.injEq, Prod.mk.injEq, Int32.reduceLT, Int32.reduceLE, y_60, rt_60_0, rt_60_1, rt_60_11, rt_60_12, rt_60_13, rt_60_14, rt_60_15, rt_60_16, rt_60_17, rt_60_18, rt_60_19, rt_60_20, rt_60_21, rt_60_22, rt_60_23, rt_60_24, rt_60_25, rt_60_26, rt_60_27, rt_60_28, rt_60_29, rt_60_30, rt_60_39, rt_60_41, rt_60_42, rt_60_45, rt_60_46, rt_60_47, rt_60_49, rt_60_50, rt_60_51, rt_60_52, rt_60_53, rt_60_54, rt_60_55, rt_60_56, rt_60_59, rt_60_61, rt_60_62, al_63, as_63, al_64, as_64, al_65, as_65, al_66, as_66, al_67, as_67, al_68, as_68, al_69, as_69, al_70, as_70, al_71, as_71, al_72, as_72, al_73, as_73, al_74, as_74, al_75, as_75, al_76, as_76, al_78, as_78, al_79, as_79, al_80, as_80, al_81, as_81, al_82, as_82, al_83, as_83, al_84, as_84, al_85, as_85, al_86, as_86, al_87, as_87, al_88, as_88, al_89, as_89, al_90, as_90, al_91, as_91, al_92, as_92, al_93, as_93, al_94, as_94, al_95, as_95, al_96, as_96, al_97, as_97, al_98, as_98, al_61, as_61, al_62, as_62, al_99, as_99, al_82_0, as_82_0, al_83_32, as_83_32, al_83_33, as_83_33, ad0, ad8, ad16, ad24, ad_0, mu2, mu8, mu34, nI_add, nI_1, uI_mm, dvN, dvM, y_0, y_60, x_slnN, c6, hx, p6, s0, s1, s2, p1, p2, e0, e1, e2, e3, e4, e5, e6, e7, e8, e9, e10, k1, k2]
set_option maxHeartbeats 4000000 in
theorem lw_12 (hn : 2000 < n) (hN : N ≤ 3072) (hi : i + 6 ≤ N) (hx : xs i &&& 63 = 12) (hc : RC I A) (hm : RM I b A) : ∃ I2 J2 f2 b2 A2, (∀ r : mK, kL_law_18 n xs N r (lwL i) [] (mm I J f) = r (lwL (i + 6)) [] (mm I2 J2 f2)) ∧ RC I2 A2 ∧ RM I2 b2 A2 := by
  obtain ⟨v, I1, J1, f1, I2, J2, f2, b2, A2, k1, k2, k3, k4⟩ := uq_put (n := n) hn (xs (i + 1)) (xs (i + 2)) I J f b A hc hm
  refine ⟨I2, J2, f2, b2, A2, fun r => ?_, k3, k4⟩
  have c6 : ¬ nI N - 6 < nI i := fun z => by have := (sub6 hN (by omega)).mp z; omega
  have s0 := fun (k : mK) (L : List (Option Value)) (S : List Value) (μ : mM) => x_salN xs N k L S μ (j := i) (by omega) (by omega)
  have p1 : nI i + 1 = nI (i + 1) := nI_pk rfl
  have s1 := fun (k : mK) (L : List (Option Value)) (S : List Value) (μ : mM) => x_salN xs N k L S μ (j := i + 1) (by omega) (by omega)
  have p2 : nI i + 2 = nI (i + 2) := nI_pk rfl
  have s2 := fun (k : mK) (L : List (Option Value)) (S : List Value) (μ : mM) => x_salN xs N k L S μ (j := i + 2) (by omega) (by omega)
  have e0 : ¬ (12 : Int32) = 0 := by decide
  have e1 : ¬ (12 : Int32) = 1 := by decide
  have e2 : ¬ (12 : Int32) = 2 := by decide
  have e3 : ¬ (12 : Int32) = 3 := by decide
  have e4 : ¬ (12 : Int32) = 4 := by decide
  have e5 : ¬ (12 : Int32) = 5 := by decide
  have e6 : ¬ (12 : Int32) = 6 := by decide
  have e7 : ¬ (12 : Int32) = 7 := by decide
  have e8 : ¬ (12 : Int32) = 8 := by decide
  have e9 : ¬ (12 : Int32) = 9 := by decide
  have e10 : ¬ (12 : Int32) = 10 := by decide
  have e11 : ¬ (12 : Int32) = 11 := by decide
  have p6 : nI i + 6 = nI (i + 6) := nI_pk rfl
  simp only [lwL, kL_law_18, kL_law_594, kL_law_1562, x_no, x_cst, x_ldI, x_ldJ, x_ldA, x_stI, x_stJ, x_stA, x_inc, x_bin, x_un, x_i2l, x_bnJ, x_lshl, x_lcmp, x_dup, x_dp2, x_gI, x_gJ, x_gA, x_pI, x_pZ, x_pJ, x_pA, x_c0, x_c2, x_sw, x_cV, x_cS, x_rV, x_rI, x_rZ, x_rJ, x_mm, x_pop, msel, mpl, mvr, mnw, List.getElem?_cons_zero, List.getElem?_cons_succ, List.set_cons_zero, List.set_cons_succ, List.length_cons, List.length_nil, List.drop_succ_cons, List.drop_zero, List.take_succ_cons, List.take_zero, List.reverse_cons, List.reverse_nil, List.nil_append, List.cons_append, List.append_nil, List.map_cons, List.map_nil, List.sum_cons, List.sum_nil, Option.toList_some, Option.toList_none, x_bs, Value.category, decide_eq_true_eq, decide_true, decide_false, if_true, if_false, Bool.false_eq_true, and_self, and_true, true_and, true_or, or_true, not_true_eq_false, not_false_eq_true, ↓reduceIte, reduceCtorEq, Nat.reduceEqDiff, Nat.reduceAdd, Nat.reduceSub, Nat.reduceMul, Nat.reduceLT, Nat.reduceLeDiff, Nat.reduceBEq, Nat.le_refl, Nat.zero_le, Nat.lt_irrefl, beq_self_eq_true, Nat.succ_ne_zero, Option.some.injEq, Prod.mk.injEq, Int32.reduceLT, Int32.reduceLE, y_60, rt_60_0, rt_60_1, rt_60_11, rt_60_12, rt_60_13, rt_60_14, rt_60_15, rt_60_16, rt_60_17, rt_60_18, rt_60_19, rt_60_20, rt_60_21, rt_60_22, rt_60_23, rt_60_24, rt_60_25, rt_60_26, rt_60_27, rt_60_28, rt_60_29, rt_60_30, rt_60_39, rt_60_41, rt_60_42, rt_60_45, rt_60_46, rt_60_47, rt_60_49, rt_60_50, rt_60_51, rt_60_52, rt_60_53, rt_60_54, rt_60_55, rt_60_56, rt_60_59, rt_60_61, rt_60_62, al_63, as_63, al_64, as_64, al_65, as_65, al_66, as_66, al_67, as_67, al_68, as_68, al_69, as_69, al_70, as_70, al_71, as_71, al_72, as_72, al_73, as_73, al_74, as_74, al_75, as_75, al_76, as_76, al_78, as_78, al_79, as_79, al_80, as_80, al_81, as_81, al_82, as_82, al_83, as_83, al_84, as_84, al_85, as_85, al_86, as_86, al_87, as_87, al_88, as_88, al_89, as_89, al_90, as_90, al_91, as_91, al_92, as_92, al_93, as_93, al_94, as_94, al_95, as_95, al_96, as_96, al_97, as_97, al_98, as_98, al_61, as_61, al_62, as_62, al_99, as_99, al_82_0, as_82_0, al_83_32, as_83_32, al_83_33, as_83_33, ad0, ad8, ad16, ad24, ad_0, mu2, mu8, mu34, nI_add, nI_1, uI_mm, dvN, dvM, y_0, y_60, x_slnN, c6, hx, p6, s0, s1, s2, p1, p2, e0, e1, e2, e3, e4, e5, e6, e7, e8, e9, e10, e11, k1, k2]
set_option maxHeartbeats 4000000 in
theorem lw_13 (hn : 2000 < n) (hN : N ≤ 3072) (hi : i + 6 ≤ N) (hx : xs i &&& 63 = 13) (hc : RC I A) (hm : RM I b A) : ∃ I2 J2 f2 b2 A2, (∀ r : mK, kL_law_18 n xs N r (lwL i) [] (mm I J f) = r (lwL (i + 6)) [] (mm I2 J2 f2)) ∧ RC I2 A2 ∧ RM I2 b2 A2 := by
  obtain ⟨v, I1, J1, f1, I2, J2, f2, b2, A2, k1, k2, k3, k4⟩ := uq_undo (n := n) hn I J f b A hc hm
  refine ⟨I2, J2, f2, b2, A2, fun r => ?_, k3, k4⟩
  have c6 : ¬ nI N - 6 < nI i := fun z => by have := (sub6 hN (by omega)).mp z; omega
  have s0 := fun (k : mK) (L : List (Option Value)) (S : List Value) (μ : mM) => x_salN xs N k L S μ (j := i) (by omega) (by omega)
  have e0 : ¬ (13 : Int32) = 0 := by decide
  have e1 : ¬ (13 : Int32) = 1 := by decide
  have e2 : ¬ (13 : Int32) = 2 := by decide
  have e3 : ¬ (13 : Int32) = 3 := by decide
  have e4 : ¬ (13 : Int32) = 4 := by decide
  have e5 : ¬ (13 : Int32) = 5 := by decide
  have e6 : ¬ (13 : Int32) = 6 := by decide
  have e7 : ¬ (13 : Int32) = 7 := by decide
  have e8 : ¬ (13 : Int32) = 8 := by decide
  have e9 : ¬ (13 : Int32) = 9 := by decide
  have e10 : ¬ (13 : Int32) = 10 := by decide
  have e11 : ¬ (13 : Int32) = 11 := by decide
  have e12 : ¬ (13 : Int32) = 12 := by decide
  have p6 : nI i + 6 = nI (i + 6) := nI_pk rfl
  simp only [lwL, kL_law_18, kL_law_1562, x_no, x_cst, x_ldI, x_ldJ, x_ldA, x_stI, x_stJ, x_stA, x_inc, x_bin, x_un, x_i2l, x_bnJ, x_lshl, x_lcmp, x_dup, x_dp2, x_gI, x_gJ, x_gA, x_pI, x_pZ, x_pJ, x_pA, x_c0, x_c2, x_sw, x_cV, x_cS, x_rV, x_rI, x_rZ, x_rJ, x_mm, x_pop, msel, mpl, mvr, mnw, List.getElem?_cons_zero, List.getElem?_cons_succ, List.set_cons_zero, List.set_cons_succ, List.length_cons, List.length_nil, List.drop_succ_cons, List.drop_zero, List.take_succ_cons, List.take_zero, List.reverse_cons, List.reverse_nil, List.nil_append, List.cons_append, List.append_nil, List.map_cons, List.map_nil, List.sum_cons, List.sum_nil, Option.toList_some, Option.toList_none, x_bs, Value.category, decide_eq_true_eq, decide_true, decide_false, if_true, if_false, Bool.false_eq_true, and_self, and_true, true_and, true_or, or_true, not_true_eq_false, not_false_eq_true, ↓reduceIte, reduceCtorEq, Nat.reduceEqDiff, Nat.reduceAdd, Nat.reduceSub, Nat.reduceMul, Nat.reduceLT, Nat.reduceLeDiff, Nat.reduceBEq, Nat.le_refl, Nat.zero_le, Nat.lt_irrefl, beq_self_eq_true, Nat.succ_ne_zero, Option.some.injEq, Prod.mk.injEq, Int32.reduceLT, Int32.reduceLE, y_60, rt_60_0, rt_60_1, rt_60_11, rt_60_12, rt_60_13, rt_60_14, rt_60_15, rt_60_16, rt_60_17, rt_60_18, rt_60_19, rt_60_20, rt_60_21, rt_60_22, rt_60_23, rt_60_24, rt_60_25, rt_60_26, rt_60_27, rt_60_28, rt_60_29, rt_60_30, rt_60_39, rt_60_41, rt_60_42, rt_60_45, rt_60_46, rt_60_47, rt_60_49, rt_60_50, rt_60_51, rt_60_52, rt_60_53, rt_60_54, rt_60_55, rt_60_56, rt_60_59, rt_60_61, rt_60_62, al_63, as_63, al_64, as_64, al_65, as_65, al_66, as_66, al_67, as_67, al_68, as_68, al_69, as_69, al_70, as_70, al_71, as_71, al_72, as_72, al_73, as_73, al_74, as_74, al_75, as_75, al_76, as_76, al_78, as_78, al_79, as_79, al_80, as_80, al_81, as_81, al_82, as_82, al_83, as_83, al_84, as_84, al_85, as_85, al_86, as_86, al_87, as_87, al_88, as_88, al_89, as_89, al_90, as_90, al_91, as_91, al_92, as_92, al_93, as_93, al_94, as_94, al_95, as_95, al_96, as_96, al_97, as_97, al_98, as_98, al_61, as_61, al_62, as_62, al_99, as_99, al_82_0, as_82_0, al_83_32, as_83_32, al_83_33, as_83_33, ad0, ad8, ad16, ad24, ad_0, mu2, mu8, mu34, nI_add, nI_1, uI_mm, dvN, dvM, y_0, y_60, x_slnN, c6, hx, p6, s0, e0, e1, e2, e3, e4, e5, e6, e7, e8, e9, e10, e11, e12, k1, k2]
set_option maxHeartbeats 4000000 in
theorem lw_14 (hn : 2000 < n) (hN : N ≤ 3072) (hi : i + 6 ≤ N) (hx : xs i &&& 63 = 14) (hc : RC I A) (hm : RM I b A) : ∃ I2 J2 f2 b2 A2, (∀ r : mK, kL_law_18 n xs N r (lwL i) [] (mm I J f) = r (lwL (i + 6)) [] (mm I2 J2 f2)) ∧ RC I2 A2 ∧ RM I2 b2 A2 := by
  obtain ⟨v, I1, J1, f1, I2, J2, f2, b2, A2, k1, k2, k3, k4⟩ := uq_redo (n := n) hn I J f b A hc hm
  refine ⟨I2, J2, f2, b2, A2, fun r => ?_, k3, k4⟩
  have c6 : ¬ nI N - 6 < nI i := fun z => by have := (sub6 hN (by omega)).mp z; omega
  have s0 := fun (k : mK) (L : List (Option Value)) (S : List Value) (μ : mM) => x_salN xs N k L S μ (j := i) (by omega) (by omega)
  have e0 : ¬ (14 : Int32) = 0 := by decide
  have e1 : ¬ (14 : Int32) = 1 := by decide
  have e2 : ¬ (14 : Int32) = 2 := by decide
  have e3 : ¬ (14 : Int32) = 3 := by decide
  have e4 : ¬ (14 : Int32) = 4 := by decide
  have e5 : ¬ (14 : Int32) = 5 := by decide
  have e6 : ¬ (14 : Int32) = 6 := by decide
  have e7 : ¬ (14 : Int32) = 7 := by decide
  have e8 : ¬ (14 : Int32) = 8 := by decide
  have e9 : ¬ (14 : Int32) = 9 := by decide
  have e10 : ¬ (14 : Int32) = 10 := by decide
  have e11 : ¬ (14 : Int32) = 11 := by decide
  have e12 : ¬ (14 : Int32) = 12 := by decide
  have e13 : ¬ (14 : Int32) = 13 := by decide
  have p6 : nI i + 6 = nI (i + 6) := nI_pk rfl
  simp only [lwL, kL_law_18, kL_law_1562, x_no, x_cst, x_ldI, x_ldJ, x_ldA, x_stI, x_stJ, x_stA, x_inc, x_bin, x_un, x_i2l, x_bnJ, x_lshl, x_lcmp, x_dup, x_dp2, x_gI, x_gJ, x_gA, x_pI, x_pZ, x_pJ, x_pA, x_c0, x_c2, x_sw, x_cV, x_cS, x_rV, x_rI, x_rZ, x_rJ, x_mm, x_pop, msel, mpl, mvr, mnw, List.getElem?_cons_zero, List.getElem?_cons_succ, List.set_cons_zero, List.set_cons_succ, List.length_cons, List.length_nil, List.drop_succ_cons, List.drop_zero, List.take_succ_cons, List.take_zero, List.reverse_cons, List.reverse_nil, List.nil_append, List.cons_append, List.append_nil, List.map_cons, List.map_nil, List.sum_cons, List.sum_nil, Option.toList_some, Option.toList_none, x_bs, Value.category, decide_eq_true_eq, decide_true, decide_false, if_true, if_false, Bool.false_eq_true, and_self, and_true, true_and, true_or, or_true, not_true_eq_false, not_false_eq_true, ↓reduceIte, reduceCtorEq, Nat.reduceEqDiff, Nat.reduceAdd, Nat.reduceSub, Nat.reduceMul, Nat.reduceLT, Nat.reduceLeDiff, Nat.reduceBEq, Nat.le_refl, Nat.zero_le, Nat.lt_irrefl, beq_self_eq_true, Nat.succ_ne_zero, Option.some.injEq, Prod.mk.injEq, Int32.reduceLT, Int32.reduceLE, y_60, rt_60_0, rt_60_1, rt_60_11, rt_60_12, rt_60_13, rt_60_14, rt_60_15, rt_60_16, rt_60_17, rt_60_18, rt_60_19, rt_60_20, rt_60_21, rt_60_22, rt_60_23, rt_60_24, rt_60_25, rt_60_26, rt_60_27, rt_60_28, rt_60_29, rt_60_30, rt_60_39, rt_60_41, rt_60_42, rt_60_45, rt_60_46, rt_60_47, rt_60_49, rt_60_50, rt_60_51, rt_60_52, rt_60_53, rt_60_54, rt_60_55, rt_60_56, rt_60_59, rt_60_61, rt_60_62, al_63, as_63, al_64, as_64, al_65, as_65, al_66, as_66, al_67, as_67, al_68, as_68, al_69, as_69, al_70, as_70, al_71, as_71, al_72, as_72, al_73, as_73, al_74, as_74, al_75, as_75, al_76, as_76, al_78, as_78, al_79, as_79, al_80, as_80, al_81, as_81, al_82, as_82, al_83, as_83, al_84, as_84, al_85, as_85, al_86, as_86, al_87, as_87, al_88, as_88, al_89, as_89, al_90, as_90, al_91, as_91, al_92, as_92, al_93, as_93, al_94, as_94, al_95, as_95, al_96, as_96, al_97, as_97, al_98, as_98, al_61, as_61, al_62, as_62, al_99, as_99, al_82_0, as_82_0, al_83_32, as_83_32, al_83_33, as_83_33, ad0, ad8, ad16, ad24, ad_0, mu2, mu8, mu34, nI_add, nI_1, uI_mm, dvN, dvM, y_0, y_60, x_slnN, c6, hx, p6, s0, e0, e1, e2, e3, e4, e5, e6, e7, e8, e9, e10, e11, e12, e13, k1, k2]
set_option maxHeartbeats 4000000 in
theorem lw_15 (hn : 2000 < n) (hN : N ≤ 3072) (hi : i + 6 ≤ N) (hx : xs i &&& 63 = 15) (hc : RC I A) (hm : RM I b A) : ∃ I2 J2 f2 b2 A2, (∀ r : mK, kL_law_18 n xs N r (lwL i) [] (mm I J f) = r (lwL (i + 6)) [] (mm I2 J2 f2)) ∧ RC I2 A2 ∧ RM I2 b2 A2 := by
  obtain ⟨v, I1, J1, f1, I2, J2, f2, b2, A2, k1, k2, k3, k4⟩ := uq_free (n := n) hn I J f b A hc hm
  refine ⟨I2, J2, f2, b2, A2, fun r => ?_, k3, k4⟩
  have c6 : ¬ nI N - 6 < nI i := fun z => by have := (sub6 hN (by omega)).mp z; omega
  have s0 := fun (k : mK) (L : List (Option Value)) (S : List Value) (μ : mM) => x_salN xs N k L S μ (j := i) (by omega) (by omega)
  have e0 : ¬ (15 : Int32) = 0 := by decide
  have e1 : ¬ (15 : Int32) = 1 := by decide
  have e2 : ¬ (15 : Int32) = 2 := by decide
  have e3 : ¬ (15 : Int32) = 3 := by decide
  have e4 : ¬ (15 : Int32) = 4 := by decide
  have e5 : ¬ (15 : Int32) = 5 := by decide
  have e6 : ¬ (15 : Int32) = 6 := by decide
  have e7 : ¬ (15 : Int32) = 7 := by decide
  have e8 : ¬ (15 : Int32) = 8 := by decide
  have e9 : ¬ (15 : Int32) = 9 := by decide
  have e10 : ¬ (15 : Int32) = 10 := by decide
  have e11 : ¬ (15 : Int32) = 11 := by decide
  have e12 : ¬ (15 : Int32) = 12 := by decide
  have e13 : ¬ (15 : Int32) = 13 := by decide
  have e14 : ¬ (15 : Int32) = 14 := by decide
  have p6 : nI i + 6 = nI (i + 6) := nI_pk rfl
  simp only [lwL, kL_law_18, kL_law_1562, x_no, x_cst, x_ldI, x_ldJ, x_ldA, x_stI, x_stJ, x_stA, x_inc, x_bin, x_un, x_i2l, x_bnJ, x_lshl, x_lcmp, x_dup, x_dp2, x_gI, x_gJ, x_gA, x_pI, x_pZ, x_pJ, x_pA, x_c0, x_c2, x_sw, x_cV, x_cS, x_rV, x_rI, x_rZ, x_rJ, x_mm, x_pop, msel, mpl, mvr, mnw, List.getElem?_cons_zero, List.getElem?_cons_succ, List.set_cons_zero, List.set_cons_succ, List.length_cons, List.length_nil, List.drop_succ_cons, List.drop_zero, List.take_succ_cons, List.take_zero, List.reverse_cons, List.reverse_nil, List.nil_append, List.cons_append, List.append_nil, List.map_cons, List.map_nil, List.sum_cons, List.sum_nil, Option.toList_some, Option.toList_none, x_bs, Value.category, decide_eq_true_eq, decide_true, decide_false, if_true, if_false, Bool.false_eq_true, and_self, and_true, true_and, true_or, or_true, not_true_eq_false, not_false_eq_true, ↓reduceIte, reduceCtorEq, Nat.reduceEqDiff, Nat.reduceAdd, Nat.reduceSub, Nat.reduceMul, Nat.reduceLT, Nat.reduceLeDiff, Nat.reduceBEq, Nat.le_refl, Nat.zero_le, Nat.lt_irrefl, beq_self_eq_true, Nat.succ_ne_zero, Option.some.injEq, Prod.mk.injEq, Int32.reduceLT, Int32.reduceLE, y_60, rt_60_0, rt_60_1, rt_60_11, rt_60_12, rt_60_13, rt_60_14, rt_60_15, rt_60_16, rt_60_17, rt_60_18, rt_60_19, rt_60_20, rt_60_21, rt_60_22, rt_60_23, rt_60_24, rt_60_25, rt_60_26, rt_60_27, rt_60_28, rt_60_29, rt_60_30, rt_60_39, rt_60_41, rt_60_42, rt_60_45, rt_60_46, rt_60_47, rt_60_49, rt_60_50, rt_60_51, rt_60_52, rt_60_53, rt_60_54, rt_60_55, rt_60_56, rt_60_59, rt_60_61, rt_60_62, al_63, as_63, al_64, as_64, al_65, as_65, al_66, as_66, al_67, as_67, al_68, as_68, al_69, as_69, al_70, as_70, al_71, as_71, al_72, as_72, al_73, as_73, al_74, as_74, al_75, as_75, al_76, as_76, al_78, as_78, al_79, as_79, al_80, as_80, al_81, as_81, al_82, as_82, al_83, as_83, al_84, as_84, al_85, as_85, al_86, as_86, al_87, as_87, al_88, as_88, al_89, as_89, al_90, as_90, al_91, as_91, al_92, as_92, al_93, as_93, al_94, as_94, al_95, as_95, al_96, as_96, al_97, as_97, al_98, as_98, al_61, as_61, al_62, as_62, al_99, as_99, al_82_0, as_82_0, al_83_32, as_83_32, al_83_33, as_83_33, ad0, ad8, ad16, ad24, ad_0, mu2, mu8, mu34, nI_add, nI_1, uI_mm, dvN, dvM, y_0, y_60, x_slnN, c6, hx, p6, s0, e0, e1, e2, e3, e4, e5, e6, e7, e8, e9, e10, e11, e12, e13, e14, k1, k2]
set_option maxHeartbeats 4000000 in
theorem lw_16 (hn : 2000 < n) (hN : N ≤ 3072) (hi : i + 6 ≤ N) (hx : xs i &&& 63 = 16) (hc : RC I A) (hm : RM I b A) : ∃ I2 J2 f2 b2 A2, (∀ r : mK, kL_law_18 n xs N r (lwL i) [] (mm I J f) = r (lwL (i + 6)) [] (mm I2 J2 f2)) ∧ RC I2 A2 ∧ RM I2 b2 A2 := by
  obtain ⟨v, I1, J1, f1, I2, J2, f2, b2, A2, k1, k2, k3, k4⟩ := uq_order (n := n) hn I J f b A hc hm
  refine ⟨I2, J2, f2, b2, A2, fun r => ?_, k3, k4⟩
  have c6 : ¬ nI N - 6 < nI i := fun z => by have := (sub6 hN (by omega)).mp z; omega
  have s0 := fun (k : mK) (L : List (Option Value)) (S : List Value) (μ : mM) => x_salN xs N k L S μ (j := i) (by omega) (by omega)
  have e0 : ¬ (16 : Int32) = 0 := by decide
  have e1 : ¬ (16 : Int32) = 1 := by decide
  have e2 : ¬ (16 : Int32) = 2 := by decide
  have e3 : ¬ (16 : Int32) = 3 := by decide
  have e4 : ¬ (16 : Int32) = 4 := by decide
  have e5 : ¬ (16 : Int32) = 5 := by decide
  have e6 : ¬ (16 : Int32) = 6 := by decide
  have e7 : ¬ (16 : Int32) = 7 := by decide
  have e8 : ¬ (16 : Int32) = 8 := by decide
  have e9 : ¬ (16 : Int32) = 9 := by decide
  have e10 : ¬ (16 : Int32) = 10 := by decide
  have e11 : ¬ (16 : Int32) = 11 := by decide
  have e12 : ¬ (16 : Int32) = 12 := by decide
  have e13 : ¬ (16 : Int32) = 13 := by decide
  have e14 : ¬ (16 : Int32) = 14 := by decide
  have e15 : ¬ (16 : Int32) = 15 := by decide
  have p6 : nI i + 6 = nI (i + 6) := nI_pk rfl
  simp only [lwL, kL_law_18, kL_law_1562, x_no, x_cst, x_ldI, x_ldJ, x_ldA, x_stI, x_stJ, x_stA, x_inc, x_bin, x_un, x_i2l, x_bnJ, x_lshl, x_lcmp, x_dup, x_dp2, x_gI, x_gJ, x_gA, x_pI, x_pZ, x_pJ, x_pA, x_c0, x_c2, x_sw, x_cV, x_cS, x_rV, x_rI, x_rZ, x_rJ, x_mm, x_pop, msel, mpl, mvr, mnw, List.getElem?_cons_zero, List.getElem?_cons_succ, List.set_cons_zero, List.set_cons_succ, List.length_cons, List.length_nil, List.drop_succ_cons, List.drop_zero, List.take_succ_cons, List.take_zero, List.reverse_cons, List.reverse_nil, List.nil_append, List.cons_append, List.append_nil, List.map_cons, List.map_nil, List.sum_cons, List.sum_nil, Option.toList_some, Option.toList_none, x_bs, Value.category, decide_eq_true_eq, decide_true, decide_false, if_true, if_false, Bool.false_eq_true, and_self, and_true, true_and, true_or, or_true, not_true_eq_false, not_false_eq_true, ↓reduceIte, reduceCtorEq, Nat.reduceEqDiff, Nat.reduceAdd, Nat.reduceSub, Nat.reduceMul, Nat.reduceLT, Nat.reduceLeDiff, Nat.reduceBEq, Nat.le_refl, Nat.zero_le, Nat.lt_irrefl, beq_self_eq_true, Nat.succ_ne_zero, Option.some.injEq, Prod.mk.injEq, Int32.reduceLT, Int32.reduceLE, y_60, rt_60_0, rt_60_1, rt_60_11, rt_60_12, rt_60_13, rt_60_14, rt_60_15, rt_60_16, rt_60_17, rt_60_18, rt_60_19, rt_60_20, rt_60_21, rt_60_22, rt_60_23, rt_60_24, rt_60_25, rt_60_26, rt_60_27, rt_60_28, rt_60_29, rt_60_30, rt_60_39, rt_60_41, rt_60_42, rt_60_45, rt_60_46, rt_60_47, rt_60_49, rt_60_50, rt_60_51, rt_60_52, rt_60_53, rt_60_54, rt_60_55, rt_60_56, rt_60_59, rt_60_61, rt_60_62, al_63, as_63, al_64, as_64, al_65, as_65, al_66, as_66, al_67, as_67, al_68, as_68, al_69, as_69, al_70, as_70, al_71, as_71, al_72, as_72, al_73, as_73, al_74, as_74, al_75, as_75, al_76, as_76, al_78, as_78, al_79, as_79, al_80, as_80, al_81, as_81, al_82, as_82, al_83, as_83, al_84, as_84, al_85, as_85, al_86, as_86, al_87, as_87, al_88, as_88, al_89, as_89, al_90, as_90, al_91, as_91, al_92, as_92, al_93, as_93, al_94, as_94, al_95, as_95, al_96, as_96, al_97, as_97, al_98, as_98, al_61, as_61, al_62, as_62, al_99, as_99, al_82_0, as_82_0, al_83_32, as_83_32, al_83_33, as_83_33, ad0, ad8, ad16, ad24, ad_0, mu2, mu8, mu34, nI_add, nI_1, uI_mm, dvN, dvM, y_0, y_60, x_slnN, c6, hx, p6, s0, e0, e1, e2, e3, e4, e5, e6, e7, e8, e9, e10, e11, e12, e13, e14, e15, k1, k2]
set_option maxHeartbeats 4000000 in
theorem lw_17 (hn : 2000 < n) (hN : N ≤ 3072) (hi : i + 6 ≤ N) (hx : xs i &&& 63 = 17) (hc : RC I A) (hm : RM I b A) : ∃ I2 J2 f2 b2 A2, (∀ r : mK, kL_law_18 n xs N r (lwL i) [] (mm I J f) = r (lwL (i + 6)) [] (mm I2 J2 f2)) ∧ RC I2 A2 ∧ RM I2 b2 A2 := by
  obtain ⟨v, I1, J1, f1, I2, J2, f2, b2, A2, k1, k2, k3, k4⟩ := uq_loose (n := n) hn I J f b A hc hm
  refine ⟨I2, J2, f2, b2, A2, fun r => ?_, k3, k4⟩
  have c6 : ¬ nI N - 6 < nI i := fun z => by have := (sub6 hN (by omega)).mp z; omega
  have s0 := fun (k : mK) (L : List (Option Value)) (S : List Value) (μ : mM) => x_salN xs N k L S μ (j := i) (by omega) (by omega)
  have e0 : ¬ (17 : Int32) = 0 := by decide
  have e1 : ¬ (17 : Int32) = 1 := by decide
  have e2 : ¬ (17 : Int32) = 2 := by decide
  have e3 : ¬ (17 : Int32) = 3 := by decide
  have e4 : ¬ (17 : Int32) = 4 := by decide
  have e5 : ¬ (17 : Int32) = 5 := by decide
  have e6 : ¬ (17 : Int32) = 6 := by decide
  have e7 : ¬ (17 : Int32) = 7 := by decide
  have e8 : ¬ (17 : Int32) = 8 := by decide
  have e9 : ¬ (17 : Int32) = 9 := by decide
  have e10 : ¬ (17 : Int32) = 10 := by decide
  have e11 : ¬ (17 : Int32) = 11 := by decide
  have e12 : ¬ (17 : Int32) = 12 := by decide
  have e13 : ¬ (17 : Int32) = 13 := by decide
  have e14 : ¬ (17 : Int32) = 14 := by decide
  have e15 : ¬ (17 : Int32) = 15 := by decide
  have e16 : ¬ (17 : Int32) = 16 := by decide
  have p6 : nI i + 6 = nI (i + 6) := nI_pk rfl
  simp only [lwL, kL_law_18, kL_law_1562, x_no, x_cst, x_ldI, x_ldJ, x_ldA, x_stI, x_stJ, x_stA, x_inc, x_bin, x_un, x_i2l, x_bnJ, x_lshl, x_lcmp, x_dup, x_dp2, x_gI, x_gJ, x_gA, x_pI, x_pZ, x_pJ, x_pA, x_c0, x_c2, x_sw, x_cV, x_cS, x_rV, x_rI, x_rZ, x_rJ, x_mm, x_pop, msel, mpl, mvr, mnw, List.getElem?_cons_zero, List.getElem?_cons_succ, List.set_cons_zero, List.set_cons_succ, List.length_cons, List.length_nil, List.drop_succ_cons, List.drop_zero, List.take_succ_cons, List.take_zero, List.reverse_cons, List.reverse_nil, List.nil_append, List.cons_append, List.append_nil, List.map_cons, List.map_nil, List.sum_cons, List.sum_nil, Option.toList_some, Option.toList_none, x_bs, Value.category, decide_eq_true_eq, decide_true, decide_false, if_true, if_false, Bool.false_eq_true, and_self, and_true, true_and, true_or, or_true, not_true_eq_false, not_false_eq_true, ↓reduceIte, reduceCtorEq, Nat.reduceEqDiff, Nat.reduceAdd, Nat.reduceSub, Nat.reduceMul, Nat.reduceLT, Nat.reduceLeDiff, Nat.reduceBEq, Nat.le_refl, Nat.zero_le, Nat.lt_irrefl, beq_self_eq_true, Nat.succ_ne_zero, Option.some.injEq, Prod.mk.injEq, Int32.reduceLT, Int32.reduceLE, y_60, rt_60_0, rt_60_1, rt_60_11, rt_60_12, rt_60_13, rt_60_14, rt_60_15, rt_60_16, rt_60_17, rt_60_18, rt_60_19, rt_60_20, rt_60_21, rt_60_22, rt_60_23, rt_60_24, rt_60_25, rt_60_26, rt_60_27, rt_60_28, rt_60_29, rt_60_30, rt_60_39, rt_60_41, rt_60_42, rt_60_45, rt_60_46, rt_60_47, rt_60_49, rt_60_50, rt_60_51, rt_60_52, rt_60_53, rt_60_54, rt_60_55, rt_60_56, rt_60_59, rt_60_61, rt_60_62, al_63, as_63, al_64, as_64, al_65, as_65, al_66, as_66, al_67, as_67, al_68, as_68, al_69, as_69, al_70, as_70, al_71, as_71, al_72, as_72, al_73, as_73, al_74, as_74, al_75, as_75, al_76, as_76, al_78, as_78, al_79, as_79, al_80, as_80, al_81, as_81, al_82, as_82, al_83, as_83, al_84, as_84, al_85, as_85, al_86, as_86, al_87, as_87, al_88, as_88, al_89, as_89, al_90, as_90, al_91, as_91, al_92, as_92, al_93, as_93, al_94, as_94, al_95, as_95, al_96, as_96, al_97, as_97, al_98, as_98, al_61, as_61, al_62, as_62, al_99, as_99, al_82_0, as_82_0, al_83_32, as_83_32, al_83_33, as_83_33, ad0, ad8, ad16, ad24, ad_0, mu2, mu8, mu34, nI_add, nI_1, uI_mm, dvN, dvM, y_0, y_60, x_slnN, c6, hx, p6, s0, e0, e1, e2, e3, e4, e5, e6, e7, e8, e9, e10, e11, e12, e13, e14, e15, e16, k1, k2]
end Lw0
