section Lw36
variable {n N i f b : Nat} {xs : Nat → Int32} {I : Nat → Nat → Int32} {J : Nat → Nat → Int64} {A : AS}
set_option maxHeartbeats 4000000 in
theorem lw_36 (hn : 2000 < n) (hN : N ≤ 3072) (hi : i + 6 ≤ N) (hx : xs i &&& 63 = 36) (hc : RC I A) (hm : RM I b A) : ∃ I2 J2 f2 b2 A2, (∀ r : mK, kL_law_18 n xs N r (lwL i) [] (mm I J f) = r (lwL (i + 6)) [] (mm I2 J2 f2)) ∧ RC I2 A2 ∧ RM I2 b2 A2 := by
  obtain ⟨v, I1, J1, f1, I2, J2, f2, b2, A2, k1, k2, k3, k4⟩ := uq_window (n := n) hn (xs (i + 1)) (xs (i + 2)) I J f b A hc hm
  refine ⟨I2, J2, f2, b2, A2, fun r => ?_, k3, k4⟩
  have c6 : ¬ nI N - 6 < nI i := fun z => by have := (sub6 hN (by omega)).mp z; omega
  have s0 := fun (k : mK) (L : List (Option Value)) (S : List Value) (μ : mM) => x_salN xs N k L S μ (j := i) (by omega) (by omega)
  have p1 : nI i + 1 = nI (i + 1) := nI_pk rfl
  have s1 := fun (k : mK) (L : List (Option Value)) (S : List Value) (μ : mM) => x_salN xs N k L S μ (j := i + 1) (by omega) (by omega)
  have p2 : nI i + 2 = nI (i + 2) := nI_pk rfl
  have s2 := fun (k : mK) (L : List (Option Value)) (S : List Value) (μ : mM) => x_salN xs N k L S μ (j := i + 2) (by omega) (by omega)
  have e0 : ¬ (36 : Int32) = 0 := by decide
  have e1 : ¬ (36 : Int32) = 1 := by decide
  have e2 : ¬ (36 : Int32) = 2 := by decide
  have e3 : ¬ (36 : Int32) = 3 := by decide
  have e4 : ¬ (36 : Int32) = 4 := by decide
  have e5 : ¬ (36 : Int32) = 5 := by decide
  have e6 : ¬ (36 : Int32) = 6 := by decide
  have e7 : ¬ (36 : Int32) = 7 := by decide
  have e8 : ¬ (36 : Int32) = 8 := by decide
  have e9 : ¬ (36 : Int32) = 9 := by decide
  have e10 : ¬ (36 : Int32) = 10 := by decide
  have e11 : ¬ (36 : Int32) = 11 := by decide
  have e12 : ¬ (36 : Int32) = 12 := by decide
  have e13 : ¬ (36 : Int32) = 13 := by decide
  have e14 : ¬ (36 : Int32) = 14 := by decide
  have e15 : ¬ (36 : Int32) = 15 := by decide
  have e16 : ¬ (36 : Int32) = 16 := by decide
  have e17 : ¬ (36 : Int32) = 17 := by decide
  have e18 : ¬ (36 : Int32) = 18 := by decide
  have e19 : ¬ (36 : Int32) = 19 := by decide
  have e20 : ¬ (36 : Int32) = 20 := by decide
  have e21 : ¬ (36 : Int32) = 21 := by decide
  have e22 : ¬ (36 : Int32) = 22 := by decide
  have e23 : ¬ (36 : Int32) = 23 := by decide
  have e24 : ¬ (36 : Int32) = 24 := by decide
  have e25 : ¬ (36 : Int32) = 25 := by decide
  have e26 : ¬ (36 : Int32) = 26 := by decide
  have e27 : ¬ (36 : Int32) = 27 := by decide
  have e28 : ¬ (36 : Int32) = 28 := by decide
  have e29 : ¬ (36 : Int32) = 29 := by decide
  have e30 : ¬ (36 : Int32) = 30 := by decide
  have e31 : ¬ (36 : Int32) = 31 := by decide
  have e32 : ¬ (36 : Int32) = 32 := by decide
  have e33 : ¬ (36 : Int32) = 33 := by decide
  have e34 : ¬ (36 : Int32) = 34 := by decide
  have e35 : ¬ (36 : Int32) = 35 := by decide
  have p6 : nI i + 6 = nI (i + 6) := nI_pk rfl
  simp only [lwL, kL_law_18, kL_law_1096, kL_law_1562, x_no, x_cst, x_ldI, x_ldJ, x_ldA, x_stI, x_stJ, x_stA, x_inc, x_bin, x_un, x_i2l, x_bnJ, x_lshl, x_lcmp, x_dup, x_dp2, x_gI, x_gJ, x_gA, x_pI, x_pZ, x_pJ, x_pA, x_c0, x_c2, x_sw, x_cV, x_cS, x_rV, x_rI, x_rZ, x_rJ, x_mm, x_pop, msel, mpl, mvr, mnw, List.getElem?_cons_zero, List.getElem?_cons_succ, List.set_cons_zero, List.set_cons_succ, List.length_cons, List.length_nil, List.drop_succ_cons, List.drop_zero, List.take_succ_cons, List.take_zero, List.reverse_cons, List.reverse_nil, List.nil_append, List.cons_append, List.append_nil, List.map_cons, List.map_nil, List.sum_cons, List.sum_nil, Option.toList_some, Option.toList_none, x_bs, Value.category, decide_eq_true_eq, decide_true, decide_false, if_true, if_false, Bool.false_eq_true, and_self, and_true, true_and, true_or, or_true, not_true_eq_false, not_false_eq_true, ↓reduceIte, reduceCtorEq, Nat.reduceEqDiff, Nat.reduceAdd, Nat.reduceSub, Nat.reduceMul, Nat.reduceLT, Nat.reduceLeDiff, Nat.reduceBEq, Nat.le_refl, Nat.zero_le, Nat.lt_irrefl, beq_self_eq_true, Nat.succ_ne_zero, Option.some.injEq, Prod.mk.injEq, Int32.reduceLT, Int32.reduceLE, y_60, rt_60_0, rt_60_1, rt_60_11, rt_60_12, rt_60_13, rt_60_14, rt_60_15, rt_60_16, rt_60_17, rt_60_18, rt_60_19, rt_60_20, rt_60_21, rt_60_22, rt_60_23, rt_60_24, rt_60_25, rt_60_26, rt_60_27, rt_60_28, rt_60_29, rt_60_30, rt_60_39, rt_60_41, rt_60_42, rt_60_45, rt_60_46, rt_60_47, rt_60_49, rt_60_50, rt_60_51, rt_60_52, rt_60_53, rt_60_54, rt_60_55, rt_60_56, rt_60_59, rt_60_61, rt_60_62, al_63, as_63, al_64, as_64, al_65, as_65, al_66, as_66, al_67, as_67, al_68, as_68, al_69, as_69, al_70, as_70, al_71, as_71, al_72, as_72, al_73, as_73, al_74, as_74, al_75, as_75, al_76, as_76, al_78, as_78, al_79, as_79, al_80, as_80, al_81, as_81, al_82, as_82, al_83, as_83, al_84, as_84, al_85, as_85, al_86, as_86, al_87, as_87, al_88, as_88, al_89, as_89, al_90, as_90, al_91, as_91, al_92, as_92, al_93, as_93, al_94, as_94, al_95, as_95, al_96, as_96, al_97, as_97, al_98, as_98, al_61, as_61, al_62, as_62, al_99, as_99, al_82_0, as_82_0, al_83_32, as_83_32, al_83_33, as_83_33, ad0, ad8, ad16, ad24, ad_0, mu2, mu8, mu34, nI_add, nI_1, uI_mm, dvN, dvM, y_0, y_60, x_slnN, c6, hx, p6, s0, s1, s2, p1, p2, e0, e1, e2, e3, e4, e5, e6, e7, e8, e9, e10, e11, e12, e13, e14, e15, e16, e17, e18, e19, e20, e21, e22, e23, e24, e25, e26, e27, e28, e29, e30, e31, e32, e33, e34, e35, k1, k2]
set_option maxHeartbeats 4000000 in
theorem lw_37 (hn : 2000 < n) (hN : N ≤ 3072) (hi : i + 6 ≤ N) (hx : xs i &&& 63 = 37) (hc : RC I A) (hm : RM I b A) : ∃ I2 J2 f2 b2 A2, (∀ r : mK, kL_law_18 n xs N r (lwL i) [] (mm I J f) = r (lwL (i + 6)) [] (mm I2 J2 f2)) ∧ RC I2 A2 ∧ RM I2 b2 A2 := by
  obtain ⟨v, I1, J1, f1, I2, J2, f2, b2, A2, k1, k2, k3, k4⟩ := uq_reach (n := n) hn (xs (i + 1)) I J f b A hc hm
  refine ⟨I2, J2, f2, b2, A2, fun r => ?_, k3, k4⟩
  have c6 : ¬ nI N - 6 < nI i := fun z => by have := (sub6 hN (by omega)).mp z; omega
  have s0 := fun (k : mK) (L : List (Option Value)) (S : List Value) (μ : mM) => x_salN xs N k L S μ (j := i) (by omega) (by omega)
  have p1 : nI i + 1 = nI (i + 1) := nI_pk rfl
  have s1 := fun (k : mK) (L : List (Option Value)) (S : List Value) (μ : mM) => x_salN xs N k L S μ (j := i + 1) (by omega) (by omega)
  have e0 : ¬ (37 : Int32) = 0 := by decide
  have e1 : ¬ (37 : Int32) = 1 := by decide
  have e2 : ¬ (37 : Int32) = 2 := by decide
  have e3 : ¬ (37 : Int32) = 3 := by decide
  have e4 : ¬ (37 : Int32) = 4 := by decide
  have e5 : ¬ (37 : Int32) = 5 := by decide
  have e6 : ¬ (37 : Int32) = 6 := by decide
  have e7 : ¬ (37 : Int32) = 7 := by decide
  have e8 : ¬ (37 : Int32) = 8 := by decide
  have e9 : ¬ (37 : Int32) = 9 := by decide
  have e10 : ¬ (37 : Int32) = 10 := by decide
  have e11 : ¬ (37 : Int32) = 11 := by decide
  have e12 : ¬ (37 : Int32) = 12 := by decide
  have e13 : ¬ (37 : Int32) = 13 := by decide
  have e14 : ¬ (37 : Int32) = 14 := by decide
  have e15 : ¬ (37 : Int32) = 15 := by decide
  have e16 : ¬ (37 : Int32) = 16 := by decide
  have e17 : ¬ (37 : Int32) = 17 := by decide
  have e18 : ¬ (37 : Int32) = 18 := by decide
  have e19 : ¬ (37 : Int32) = 19 := by decide
  have e20 : ¬ (37 : Int32) = 20 := by decide
  have e21 : ¬ (37 : Int32) = 21 := by decide
  have e22 : ¬ (37 : Int32) = 22 := by decide
  have e23 : ¬ (37 : Int32) = 23 := by decide
  have e24 : ¬ (37 : Int32) = 24 := by decide
  have e25 : ¬ (37 : Int32) = 25 := by decide
  have e26 : ¬ (37 : Int32) = 26 := by decide
  have e27 : ¬ (37 : Int32) = 27 := by decide
  have e28 : ¬ (37 : Int32) = 28 := by decide
  have e29 : ¬ (37 : Int32) = 29 := by decide
  have e30 : ¬ (37 : Int32) = 30 := by decide
  have e31 : ¬ (37 : Int32) = 31 := by decide
  have e32 : ¬ (37 : Int32) = 32 := by decide
  have e33 : ¬ (37 : Int32) = 33 := by decide
  have e34 : ¬ (37 : Int32) = 34 := by decide
  have e35 : ¬ (37 : Int32) = 35 := by decide
  have e36 : ¬ (37 : Int32) = 36 := by decide
  have p6 : nI i + 6 = nI (i + 6) := nI_pk rfl
  simp only [lwL, kL_law_18, kL_law_1129, kL_law_1562, x_no, x_cst, x_ldI, x_ldJ, x_ldA, x_stI, x_stJ, x_stA, x_inc, x_bin, x_un, x_i2l, x_bnJ, x_lshl, x_lcmp, x_dup, x_dp2, x_gI, x_gJ, x_gA, x_pI, x_pZ, x_pJ, x_pA, x_c0, x_c2, x_sw, x_cV, x_cS, x_rV, x_rI, x_rZ, x_rJ, x_mm, x_pop, msel, mpl, mvr, mnw, List.getElem?_cons_zero, List.getElem?_cons_succ, List.set_cons_zero, List.set_cons_succ, List.length_cons, List.length_nil, List.drop_succ_cons, List.drop_zero, List.take_succ_cons, List.take_zero, List.reverse_cons, List.reverse_nil, List.nil_append, List.cons_append, List.append_nil, List.map_cons, List.map_nil, List.sum_cons, List.sum_nil, Option.toList_some, Option.toList_none, x_bs, Value.category, decide_eq_true_eq, decide_true, decide_false, if_true, if_false, Bool.false_eq_true, and_self, and_true, true_and, true_or, or_true, not_true_eq_false, not_false_eq_true, ↓reduceIte, reduceCtorEq, Nat.reduceEqDiff, Nat.reduceAdd, Nat.reduceSub, Nat.reduceMul, Nat.reduceLT, Nat.reduceLeDiff, Nat.reduceBEq, Nat.le_refl, Nat.zero_le, Nat.lt_irrefl, beq_self_eq_true, Nat.succ_ne_zero, Option.some.injEq, Prod.mk.injEq, Int32.reduceLT, Int32.reduceLE, y_60, rt_60_0, rt_60_1, rt_60_11, rt_60_12, rt_60_13, rt_60_14, rt_60_15, rt_60_16, rt_60_17, rt_60_18, rt_60_19, rt_60_20, rt_60_21, rt_60_22, rt_60_23, rt_60_24, rt_60_25, rt_60_26, rt_60_27, rt_60_28, rt_60_29, rt_60_30, rt_60_39, rt_60_41, rt_60_42, rt_60_45, rt_60_46, rt_60_47, rt_60_49, rt_60_50, rt_60_51, rt_60_52, rt_60_53, rt_60_54, rt_60_55, rt_60_56, rt_60_59, rt_60_61, rt_60_62, al_63, as_63, al_64, as_64, al_65, as_65, al_66, as_66, al_67, as_67, al_68, as_68, al_69, as_69, al_70, as_70, al_71, as_71, al_72, as_72, al_73, as_73, al_74, as_74, al_75, as_75, al_76, as_76, al_78, as_78, al_79, as_79, al_80, as_80, al_81, as_81, al_82, as_82, al_83, as_83, al_84, as_84, al_85, as_85, al_86, as_86, al_87, as_87, al_88, as_88, al_89, as_89, al_90, as_90, al_91, as_91, al_92, as_92, al_93, as_93, al_94, as_94, al_95, as_95, al_96, as_96, al_97, as_97, al_98, as_98, al_61, as_61, al_62, as_62, al_99, as_99, al_82_0, as_82_0, al_83_32, as_83_32, al_83_33, as_83_33, ad0, ad8, ad16, ad24, ad_0, mu2, mu8, mu34, nI_add, nI_1, uI_mm, dvN, dvM, y_0, y_60, x_slnN, c6, hx, p6, s0, s1, p1, e0, e1, e2, e3, e4, e5, e6, e7, e8, e9, e10, e11, e12, e13, e14, e15, e16, e17, e18, e19, e20, e21, e22, e23, e24, e25, e26, e27, e28, e29, e30, e31, e32, e33, e34, e35, e36, k1, k2]
set_option maxHeartbeats 4000000 in
theorem lw_38 (hn : 2000 < n) (hN : N ≤ 3072) (hi : i + 6 ≤ N) (hx : xs i &&& 63 = 38) (hc : RC I A) (hm : RM I b A) : ∃ I2 J2 f2 b2 A2, (∀ r : mK, kL_law_18 n xs N r (lwL i) [] (mm I J f) = r (lwL (i + 6)) [] (mm I2 J2 f2)) ∧ RC I2 A2 ∧ RM I2 b2 A2 := by
  obtain ⟨v, I1, J1, f1, I2, J2, f2, b2, A2, k1, k2, k3, k4⟩ := uq_sale (n := n) hn (xs (i + 1)) (xs (i + 2)) I J f b A hc hm
  refine ⟨I2, J2, f2, b2, A2, fun r => ?_, k3, k4⟩
  have c6 : ¬ nI N - 6 < nI i := fun z => by have := (sub6 hN (by omega)).mp z; omega
  have s0 := fun (k : mK) (L : List (Option Value)) (S : List Value) (μ : mM) => x_salN xs N k L S μ (j := i) (by omega) (by omega)
  have p1 : nI i + 1 = nI (i + 1) := nI_pk rfl
  have s1 := fun (k : mK) (L : List (Option Value)) (S : List Value) (μ : mM) => x_salN xs N k L S μ (j := i + 1) (by omega) (by omega)
  have p2 : nI i + 2 = nI (i + 2) := nI_pk rfl
  have s2 := fun (k : mK) (L : List (Option Value)) (S : List Value) (μ : mM) => x_salN xs N k L S μ (j := i + 2) (by omega) (by omega)
  have e0 : ¬ (38 : Int32) = 0 := by decide
  have e1 : ¬ (38 : Int32) = 1 := by decide
  have e2 : ¬ (38 : Int32) = 2 := by decide
  have e3 : ¬ (38 : Int32) = 3 := by decide
  have e4 : ¬ (38 : Int32) = 4 := by decide
  have e5 : ¬ (38 : Int32) = 5 := by decide
  have e6 : ¬ (38 : Int32) = 6 := by decide
  have e7 : ¬ (38 : Int32) = 7 := by decide
  have e8 : ¬ (38 : Int32) = 8 := by decide
  have e9 : ¬ (38 : Int32) = 9 := by decide
  have e10 : ¬ (38 : Int32) = 10 := by decide
  have e11 : ¬ (38 : Int32) = 11 := by decide
  have e12 : ¬ (38 : Int32) = 12 := by decide
  have e13 : ¬ (38 : Int32) = 13 := by decide
  have e14 : ¬ (38 : Int32) = 14 := by decide
  have e15 : ¬ (38 : Int32) = 15 := by decide
  have e16 : ¬ (38 : Int32) = 16 := by decide
  have e17 : ¬ (38 : Int32) = 17 := by decide
  have e18 : ¬ (38 : Int32) = 18 := by decide
  have e19 : ¬ (38 : Int32) = 19 := by decide
  have e20 : ¬ (38 : Int32) = 20 := by decide
  have e21 : ¬ (38 : Int32) = 21 := by decide
  have e22 : ¬ (38 : Int32) = 22 := by decide
  have e23 : ¬ (38 : Int32) = 23 := by decide
  have e24 : ¬ (38 : Int32) = 24 := by decide
  have e25 : ¬ (38 : Int32) = 25 := by decide
  have e26 : ¬ (38 : Int32) = 26 := by decide
  have e27 : ¬ (38 : Int32) = 27 := by decide
  have e28 : ¬ (38 : Int32) = 28 := by decide
  have e29 : ¬ (38 : Int32) = 29 := by decide
  have e30 : ¬ (38 : Int32) = 30 := by decide
  have e31 : ¬ (38 : Int32) = 31 := by decide
  have e32 : ¬ (38 : Int32) = 32 := by decide
  have e33 : ¬ (38 : Int32) = 33 := by decide
  have e34 : ¬ (38 : Int32) = 34 := by decide
  have e35 : ¬ (38 : Int32) = 35 := by decide
  have e36 : ¬ (38 : Int32) = 36 := by decide
  have e37 : ¬ (38 : Int32) = 37 := by decide
  have p6 : nI i + 6 = nI (i + 6) := nI_pk rfl
  simp only [lwL, kL_law_18, kL_law_1152, kL_law_1562, x_no, x_cst, x_ldI, x_ldJ, x_ldA, x_stI, x_stJ, x_stA, x_inc, x_bin, x_un, x_i2l, x_bnJ, x_lshl, x_lcmp, x_dup, x_dp2, x_gI, x_gJ, x_gA, x_pI, x_pZ, x_pJ, x_pA, x_c0, x_c2, x_sw, x_cV, x_cS, x_rV, x_rI, x_rZ, x_rJ, x_mm, x_pop, msel, mpl, mvr, mnw, List.getElem?_cons_zero, List.getElem?_cons_succ, List.set_cons_zero, List.set_cons_succ, List.length_cons, List.length_nil, List.drop_succ_cons, List.drop_zero, List.take_succ_cons, List.take_zero, List.reverse_cons, List.reverse_nil, List.nil_append, List.cons_append, List.append_nil, List.map_cons, List.map_nil, List.sum_cons, List.sum_nil, Option.toList_some, Option.toList_none, x_bs, Value.category, decide_eq_true_eq, decide_true, decide_false, if_true, if_false, Bool.false_eq_true, and_self, and_true, true_and, true_or, or_true, not_true_eq_false, not_false_eq_true, ↓reduceIte, reduceCtorEq, Nat.reduceEqDiff, Nat.reduceAdd, Nat.reduceSub, Nat.reduceMul, Nat.reduceLT, Nat.reduceLeDiff, Nat.reduceBEq, Nat.le_refl, Nat.zero_le, Nat.lt_irrefl, beq_self_eq_true, Nat.succ_ne_zero, Option.some.injEq, Prod.mk.injEq, Int32.reduceLT, Int32.reduceLE, y_60, rt_60_0, rt_60_1, rt_60_11, rt_60_12, rt_60_13, rt_60_14, rt_60_15, rt_60_16, rt_60_17, rt_60_18, rt_60_19, rt_60_20, rt_60_21, rt_60_22, rt_60_23, rt_60_24, rt_60_25, rt_60_26, rt_60_27, rt_60_28, rt_60_29, rt_60_30, rt_60_39, rt_60_41, rt_60_42, rt_60_45, rt_60_46, rt_60_47, rt_60_49, rt_60_50, rt_60_51, rt_60_52, rt_60_53, rt_60_54, rt_60_55, rt_60_56, rt_60_59, rt_60_61, rt_60_62, al_63, as_63, al_64, as_64, al_65, as_65, al_66, as_66, al_67, as_67, al_68, as_68, al_69, as_69, al_70, as_70, al_71, as_71, al_72, as_72, al_73, as_73, al_74, as_74, al_75, as_75, al_76, as_76, al_78, as_78, al_79, as_79, al_80, as_80, al_81, as_81, al_82, as_82, al_83, as_83, al_84, as_84, al_85, as_85, al_86, as_86, al_87, as_87, al_88, as_88, al_89, as_89, al_90, as_90, al_91, as_91, al_92, as_92, al_93, as_93, al_94, as_94, al_95, as_95, al_96, as_96, al_97, as_97, al_98, as_98, al_61, as_61, al_62, as_62, al_99, as_99, al_82_0, as_82_0, al_83_32, as_83_32, al_83_33, as_83_33, ad0, ad8, ad16, ad24, ad_0, mu2, mu8, mu34, nI_add, nI_1, uI_mm, dvN, dvM, y_0, y_60, x_slnN, c6, hx, p6, s0, s1, s2, p1, p2, e0, e1, e2, e3, e4, e5, e6, e7, e8, e9, e10, e11, e12, e13, e14, e15, e16, e17, e18, e19, e20, e21, e22, e23, e24, e25, e26, e27, e28, e29, e30, e31, e32, e33, e34, e35, e36, e37, k1, k2]
set_option maxHeartbeats 4000000 in
theorem lw_39 (hn : 2000 < n) (hN : N ≤ 3072) (hi : i + 6 ≤ N) (hx : xs i &&& 63 = 39) (hc : RC I A) (hm : RM I b A) : ∃ I2 J2 f2 b2 A2, (∀ r : mK, kL_law_18 n xs N r (lwL i) [] (mm I J f) = r (lwL (i + 6)) [] (mm I2 J2 f2)) ∧ RC I2 A2 ∧ RM I2 b2 A2 := by
  obtain ⟨v, I1, J1, f1, I2, J2, f2, b2, A2, k1, k2, k3, k4⟩ := uq_heir (n := n) hn I J f b A hc hm
  refine ⟨I2, J2, f2, b2, A2, fun r => ?_, k3, k4⟩
  have c6 : ¬ nI N - 6 < nI i := fun z => by have := (sub6 hN (by omega)).mp z; omega
  have s0 := fun (k : mK) (L : List (Option Value)) (S : List Value) (μ : mM) => x_salN xs N k L S μ (j := i) (by omega) (by omega)
  have e0 : ¬ (39 : Int32) = 0 := by decide
  have e1 : ¬ (39 : Int32) = 1 := by decide
  have e2 : ¬ (39 : Int32) = 2 := by decide
  have e3 : ¬ (39 : Int32) = 3 := by decide
  have e4 : ¬ (39 : Int32) = 4 := by decide
  have e5 : ¬ (39 : Int32) = 5 := by decide
  have e6 : ¬ (39 : Int32) = 6 := by decide
  have e7 : ¬ (39 : Int32) = 7 := by decide
  have e8 : ¬ (39 : Int32) = 8 := by decide
  have e9 : ¬ (39 : Int32) = 9 := by decide
  have e10 : ¬ (39 : Int32) = 10 := by decide
  have e11 : ¬ (39 : Int32) = 11 := by decide
  have e12 : ¬ (39 : Int32) = 12 := by decide
  have e13 : ¬ (39 : Int32) = 13 := by decide
  have e14 : ¬ (39 : Int32) = 14 := by decide
  have e15 : ¬ (39 : Int32) = 15 := by decide
  have e16 : ¬ (39 : Int32) = 16 := by decide
  have e17 : ¬ (39 : Int32) = 17 := by decide
  have e18 : ¬ (39 : Int32) = 18 := by decide
  have e19 : ¬ (39 : Int32) = 19 := by decide
  have e20 : ¬ (39 : Int32) = 20 := by decide
  have e21 : ¬ (39 : Int32) = 21 := by decide
  have e22 : ¬ (39 : Int32) = 22 := by decide
  have e23 : ¬ (39 : Int32) = 23 := by decide
  have e24 : ¬ (39 : Int32) = 24 := by decide
  have e25 : ¬ (39 : Int32) = 25 := by decide
  have e26 : ¬ (39 : Int32) = 26 := by decide
  have e27 : ¬ (39 : Int32) = 27 := by decide
  have e28 : ¬ (39 : Int32) = 28 := by decide
  have e29 : ¬ (39 : Int32) = 29 := by decide
  have e30 : ¬ (39 : Int32) = 30 := by decide
  have e31 : ¬ (39 : Int32) = 31 := by decide
  have e32 : ¬ (39 : Int32) = 32 := by decide
  have e33 : ¬ (39 : Int32) = 33 := by decide
  have e34 : ¬ (39 : Int32) = 34 := by decide
  have e35 : ¬ (39 : Int32) = 35 := by decide
  have e36 : ¬ (39 : Int32) = 36 := by decide
  have e37 : ¬ (39 : Int32) = 37 := by decide
  have e38 : ¬ (39 : Int32) = 38 := by decide
  have p6 : nI i + 6 = nI (i + 6) := nI_pk rfl
  simp only [lwL, kL_law_18, kL_law_1562, x_no, x_cst, x_ldI, x_ldJ, x_ldA, x_stI, x_stJ, x_stA, x_inc, x_bin, x_un, x_i2l, x_bnJ, x_lshl, x_lcmp, x_dup, x_dp2, x_gI, x_gJ, x_gA, x_pI, x_pZ, x_pJ, x_pA, x_c0, x_c2, x_sw, x_cV, x_cS, x_rV, x_rI, x_rZ, x_rJ, x_mm, x_pop, msel, mpl, mvr, mnw, List.getElem?_cons_zero, List.getElem?_cons_succ, List.set_cons_zero, List.set_cons_succ, List.length_cons, List.length_nil, List.drop_succ_cons, List.drop_zero, List.take_succ_cons, List.take_zero, List.reverse_cons, List.reverse_nil, List.nil_append, List.cons_append, List.append_nil, List.map_cons, List.map_nil, List.sum_cons, List.sum_nil, Option.toList_some, Option.toList_none, x_bs, Value.category, decide_eq_true_eq, decide_true, decide_false, if_true, if_false, Bool.false_eq_true, and_self, and_true, true_and, true_or, or_true, not_true_eq_false, not_false_eq_true, ↓reduceIte, reduceCtorEq, Nat.reduceEqDiff, Nat.reduceAdd, Nat.reduceSub, Nat.reduceMul, Nat.reduceLT, Nat.reduceLeDiff, Nat.reduceBEq, Nat.le_refl, Nat.zero_le, Nat.lt_irrefl, beq_self_eq_true, Nat.succ_ne_zero, Option.some.injEq, Prod.mk.injEq, Int32.reduceLT, Int32.reduceLE, y_60, rt_60_0, rt_60_1, rt_60_11, rt_60_12, rt_60_13, rt_60_14, rt_60_15, rt_60_16, rt_60_17, rt_60_18, rt_60_19, rt_60_20, rt_60_21, rt_60_22, rt_60_23, rt_60_24, rt_60_25, rt_60_26, rt_60_27, rt_60_28, rt_60_29, rt_60_30, rt_60_39, rt_60_41, rt_60_42, rt_60_45, rt_60_46, rt_60_47, rt_60_49, rt_60_50, rt_60_51, rt_60_52, rt_60_53, rt_60_54, rt_60_55, rt_60_56, rt_60_59, rt_60_61, rt_60_62, al_63, as_63, al_64, as_64, al_65, as_65, al_66, as_66, al_67, as_67, al_68, as_68, al_69, as_69, al_70, as_70, al_71, as_71, al_72, as_72, al_73, as_73, al_74, as_74, al_75, as_75, al_76, as_76, al_78, as_78, al_79, as_79, al_80, as_80, al_81, as_81, al_82, as_82, al_83, as_83, al_84, as_84, al_85, as_85, al_86, as_86, al_87, as_87, al_88, as_88, al_89, as_89, al_90, as_90, al_91, as_91, al_92, as_92, al_93, as_93, al_94, as_94, al_95, as_95, al_96, as_96, al_97, as_97, al_98, as_98, al_61, as_61, al_62, as_62, al_99, as_99, al_82_0, as_82_0, al_83_32, as_83_32, al_83_33, as_83_33, ad0, ad8, ad16, ad24, ad_0, mu2, mu8, mu34, nI_add, nI_1, uI_mm, dvN, dvM, y_0, y_60, x_slnN, c6, hx, p6, s0, e0, e1, e2, e3, e4, e5, e6, e7, e8, e9, e10, e11, e12, e13, e14, e15, e16, e17, e18, e19, e20, e21, e22, e23, e24, e25, e26, e27, e28, e29, e30, e31, e32, e33, e34, e35, e36, e37, e38, k1, k2]
set_option maxHeartbeats 4000000 in
theorem lw_40 (hn : 2000 < n) (hN : N ≤ 3072) (hi : i + 6 ≤ N) (hx : xs i &&& 63 = 40) (hc : RC I A) (hm : RM I b A) : ∃ I2 J2 f2 b2 A2, (∀ r : mK, kL_law_18 n xs N r (lwL i) [] (mm I J f) = r (lwL (i + 6)) [] (mm I2 J2 f2)) ∧ RC I2 A2 ∧ RM I2 b2 A2 := by
  obtain ⟨v, I1, J1, f1, I2, J2, f2, b2, A2, k1, k2, k3, k4⟩ := uq_finest (n := n) hn I J f b A hc hm
  refine ⟨I2, J2, f2, b2, A2, fun r => ?_, k3, k4⟩
  have c6 : ¬ nI N - 6 < nI i := fun z => by have := (sub6 hN (by omega)).mp z; omega
  have s0 := fun (k : mK) (L : List (Option Value)) (S : List Value) (μ : mM) => x_salN xs N k L S μ (j := i) (by omega) (by omega)
  have e0 : ¬ (40 : Int32) = 0 := by decide
  have e1 : ¬ (40 : Int32) = 1 := by decide
  have e2 : ¬ (40 : Int32) = 2 := by decide
  have e3 : ¬ (40 : Int32) = 3 := by decide
  have e4 : ¬ (40 : Int32) = 4 := by decide
  have e5 : ¬ (40 : Int32) = 5 := by decide
  have e6 : ¬ (40 : Int32) = 6 := by decide
  have e7 : ¬ (40 : Int32) = 7 := by decide
  have e8 : ¬ (40 : Int32) = 8 := by decide
  have e9 : ¬ (40 : Int32) = 9 := by decide
  have e10 : ¬ (40 : Int32) = 10 := by decide
  have e11 : ¬ (40 : Int32) = 11 := by decide
  have e12 : ¬ (40 : Int32) = 12 := by decide
  have e13 : ¬ (40 : Int32) = 13 := by decide
  have e14 : ¬ (40 : Int32) = 14 := by decide
  have e15 : ¬ (40 : Int32) = 15 := by decide
  have e16 : ¬ (40 : Int32) = 16 := by decide
  have e17 : ¬ (40 : Int32) = 17 := by decide
  have e18 : ¬ (40 : Int32) = 18 := by decide
  have e19 : ¬ (40 : Int32) = 19 := by decide
  have e20 : ¬ (40 : Int32) = 20 := by decide
  have e21 : ¬ (40 : Int32) = 21 := by decide
  have e22 : ¬ (40 : Int32) = 22 := by decide
  have e23 : ¬ (40 : Int32) = 23 := by decide
  have e24 : ¬ (40 : Int32) = 24 := by decide
  have e25 : ¬ (40 : Int32) = 25 := by decide
  have e26 : ¬ (40 : Int32) = 26 := by decide
  have e27 : ¬ (40 : Int32) = 27 := by decide
  have e28 : ¬ (40 : Int32) = 28 := by decide
  have e29 : ¬ (40 : Int32) = 29 := by decide
  have e30 : ¬ (40 : Int32) = 30 := by decide
  have e31 : ¬ (40 : Int32) = 31 := by decide
  have e32 : ¬ (40 : Int32) = 32 := by decide
  have e33 : ¬ (40 : Int32) = 33 := by decide
  have e34 : ¬ (40 : Int32) = 34 := by decide
  have e35 : ¬ (40 : Int32) = 35 := by decide
  have e36 : ¬ (40 : Int32) = 36 := by decide
  have e37 : ¬ (40 : Int32) = 37 := by decide
  have e38 : ¬ (40 : Int32) = 38 := by decide
  have e39 : ¬ (40 : Int32) = 39 := by decide
  have p6 : nI i + 6 = nI (i + 6) := nI_pk rfl
  simp only [lwL, kL_law_18, kL_law_1562, x_no, x_cst, x_ldI, x_ldJ, x_ldA, x_stI, x_stJ, x_stA, x_inc, x_bin, x_un, x_i2l, x_bnJ, x_lshl, x_lcmp, x_dup, x_dp2, x_gI, x_gJ, x_gA, x_pI, x_pZ, x_pJ, x_pA, x_c0, x_c2, x_sw, x_cV, x_cS, x_rV, x_rI, x_rZ, x_rJ, x_mm, x_pop, msel, mpl, mvr, mnw, List.getElem?_cons_zero, List.getElem?_cons_succ, List.set_cons_zero, List.set_cons_succ, List.length_cons, List.length_nil, List.drop_succ_cons, List.drop_zero, List.take_succ_cons, List.take_zero, List.reverse_cons, List.reverse_nil, List.nil_append, List.cons_append, List.append_nil, List.map_cons, List.map_nil, List.sum_cons, List.sum_nil, Option.toList_some, Option.toList_none, x_bs, Value.category, decide_eq_true_eq, decide_true, decide_false, if_true, if_false, Bool.false_eq_true, and_self, and_true, true_and, true_or, or_true, not_true_eq_false, not_false_eq_true, ↓reduceIte, reduceCtorEq, Nat.reduceEqDiff, Nat.reduceAdd, Nat.reduceSub, Nat.reduceMul, Nat.reduceLT, Nat.reduceLeDiff, Nat.reduceBEq, Nat.le_refl, Nat.zero_le, Nat.lt_irrefl, beq_self_eq_true, Nat.succ_ne_zero, Option.some.injEq, Prod.mk.injEq, Int32.reduceLT, Int32.reduceLE, y_60, rt_60_0, rt_60_1, rt_60_11, rt_60_12, rt_60_13, rt_60_14, rt_60_15, rt_60_16, rt_60_17, rt_60_18, rt_60_19, rt_60_20, rt_60_21, rt_60_22, rt_60_23, rt_60_24, rt_60_25, rt_60_26, rt_60_27, rt_60_28, rt_60_29, rt_60_30, rt_60_39, rt_60_41, rt_60_42, rt_60_45, rt_60_46, rt_60_47, rt_60_49, rt_60_50, rt_60_51, rt_60_52, rt_60_53, rt_60_54, rt_60_55, rt_60_56, rt_60_59, rt_60_61, rt_60_62, al_63, as_63, al_64, as_64, al_65, as_65, al_66, as_66, al_67, as_67, al_68, as_68, al_69, as_69, al_70, as_70, al_71, as_71, al_72, as_72, al_73, as_73, al_74, as_74, al_75, as_75, al_76, as_76, al_78, as_78, al_79, as_79, al_80, as_80, al_81, as_81, al_82, as_82, al_83, as_83, al_84, as_84, al_85, as_85, al_86, as_86, al_87, as_87, al_88, as_88, al_89, as_89, al_90, as_90, al_91, as_91, al_92, as_92, al_93, as_93, al_94, as_94, al_95, as_95, al_96, as_96, al_97, as_97, al_98, as_98, al_61, as_61, al_62, as_62, al_99, as_99, al_82_0, as_82_0, al_83_32, as_83_32, al_83_33, as_83_33, ad0, ad8, ad16, ad24, ad_0, mu2, mu8, mu34, nI_add, nI_1, uI_mm, dvN, dvM, y_0, y_60, x_slnN, c6, hx, p6, s0, e0, e1, e2, e3, e4, e5, e6, e7, e8, e9, e10, e11, e12, e13, e14, e15, e16, e17, e18, e19, e20, e21, e22, e23, e24, e25, e26, e27, e28, e29, e30, e31, e32, e33, e34, e35, e36, e37, e38, e39, k1, k2]
set_option maxHeartbeats 4000000 in
theorem lw_41 (hn : 2000 < n) (hN : N ≤ 3072) (hi : i + 6 ≤ N) (hx : xs i &&& 63 = 41) (hc : RC I A) (hm : RM I b A) : ∃ I2 J2 f2 b2 A2, (∀ r : mK, kL_law_18 n xs N r (lwL i) [] (mm I J f) = r (lwL (i + 6)) [] (mm I2 J2 f2)) ∧ RC I2 A2 ∧ RM I2 b2 A2 := by
  obtain ⟨v, I1, J1, f1, I2, J2, f2, b2, A2, k1, k2, k3, k4⟩ := uq_fullest (n := n) hn I J f b A hc hm
  refine ⟨I2, J2, f2, b2, A2, fun r => ?_, k3, k4⟩
  have c6 : ¬ nI N - 6 < nI i := fun z => by have := (sub6 hN (by omega)).mp z; omega
  have s0 := fun (k : mK) (L : List (Option Value)) (S : List Value) (μ : mM) => x_salN xs N k L S μ (j := i) (by omega) (by omega)
  have e0 : ¬ (41 : Int32) = 0 := by decide
  have e1 : ¬ (41 : Int32) = 1 := by decide
  have e2 : ¬ (41 : Int32) = 2 := by decide
  have e3 : ¬ (41 : Int32) = 3 := by decide
  have e4 : ¬ (41 : Int32) = 4 := by decide
  have e5 : ¬ (41 : Int32) = 5 := by decide
  have e6 : ¬ (41 : Int32) = 6 := by decide
  have e7 : ¬ (41 : Int32) = 7 := by decide
  have e8 : ¬ (41 : Int32) = 8 := by decide
  have e9 : ¬ (41 : Int32) = 9 := by decide
  have e10 : ¬ (41 : Int32) = 10 := by decide
  have e11 : ¬ (41 : Int32) = 11 := by decide
  have e12 : ¬ (41 : Int32) = 12 := by decide
  have e13 : ¬ (41 : Int32) = 13 := by decide
  have e14 : ¬ (41 : Int32) = 14 := by decide
  have e15 : ¬ (41 : Int32) = 15 := by decide
  have e16 : ¬ (41 : Int32) = 16 := by decide
  have e17 : ¬ (41 : Int32) = 17 := by decide
  have e18 : ¬ (41 : Int32) = 18 := by decide
  have e19 : ¬ (41 : Int32) = 19 := by decide
  have e20 : ¬ (41 : Int32) = 20 := by decide
  have e21 : ¬ (41 : Int32) = 21 := by decide
  have e22 : ¬ (41 : Int32) = 22 := by decide
  have e23 : ¬ (41 : Int32) = 23 := by decide
  have e24 : ¬ (41 : Int32) = 24 := by decide
  have e25 : ¬ (41 : Int32) = 25 := by decide
  have e26 : ¬ (41 : Int32) = 26 := by decide
  have e27 : ¬ (41 : Int32) = 27 := by decide
  have e28 : ¬ (41 : Int32) = 28 := by decide
  have e29 : ¬ (41 : Int32) = 29 := by decide
  have e30 : ¬ (41 : Int32) = 30 := by decide
  have e31 : ¬ (41 : Int32) = 31 := by decide
  have e32 : ¬ (41 : Int32) = 32 := by decide
  have e33 : ¬ (41 : Int32) = 33 := by decide
  have e34 : ¬ (41 : Int32) = 34 := by decide
  have e35 : ¬ (41 : Int32) = 35 := by decide
  have e36 : ¬ (41 : Int32) = 36 := by decide
  have e37 : ¬ (41 : Int32) = 37 := by decide
  have e38 : ¬ (41 : Int32) = 38 := by decide
  have e39 : ¬ (41 : Int32) = 39 := by decide
  have e40 : ¬ (41 : Int32) = 40 := by decide
  have p6 : nI i + 6 = nI (i + 6) := nI_pk rfl
  simp only [lwL, kL_law_18, kL_law_1562, x_no, x_cst, x_ldI, x_ldJ, x_ldA, x_stI, x_stJ, x_stA, x_inc, x_bin, x_un, x_i2l, x_bnJ, x_lshl, x_lcmp, x_dup, x_dp2, x_gI, x_gJ, x_gA, x_pI, x_pZ, x_pJ, x_pA, x_c0, x_c2, x_sw, x_cV, x_cS, x_rV, x_rI, x_rZ, x_rJ, x_mm, x_pop, msel, mpl, mvr, mnw, List.getElem?_cons_zero, List.getElem?_cons_succ, List.set_cons_zero, List.set_cons_succ, List.length_cons, List.length_nil, List.drop_succ_cons, List.drop_zero, List.take_succ_cons, List.take_zero, List.reverse_cons, List.reverse_nil, List.nil_append, List.cons_append, List.append_nil, List.map_cons, List.map_nil, List.sum_cons, List.sum_nil, Option.toList_some, Option.toList_none, x_bs, Value.category, decide_eq_true_eq, decide_true, decide_false, if_true, if_false, Bool.false_eq_true, and_self, and_true, true_and, true_or, or_true, not_true_eq_false, not_false_eq_true, ↓reduceIte, reduceCtorEq, Nat.reduceEqDiff, Nat.reduceAdd, Nat.reduceSub, Nat.reduceMul, Nat.reduceLT, Nat.reduceLeDiff, Nat.reduceBEq, Nat.le_refl, Nat.zero_le, Nat.lt_irrefl, beq_self_eq_true, Nat.succ_ne_zero, Option.some.injEq, Prod.mk.injEq, Int32.reduceLT, Int32.reduceLE, y_60, rt_60_0, rt_60_1, rt_60_11, rt_60_12, rt_60_13, rt_60_14, rt_60_15, rt_60_16, rt_60_17, rt_60_18, rt_60_19, rt_60_20, rt_60_21, rt_60_22, rt_60_23, rt_60_24, rt_60_25, rt_60_26, rt_60_27, rt_60_28, rt_60_29, rt_60_30, rt_60_39, rt_60_41, rt_60_42, rt_60_45, rt_60_46, rt_60_47, rt_60_49, rt_60_50, rt_60_51, rt_60_52, rt_60_53, rt_60_54, rt_60_55, rt_60_56, rt_60_59, rt_60_61, rt_60_62, al_63, as_63, al_64, as_64, al_65, as_65, al_66, as_66, al_67, as_67, al_68, as_68, al_69, as_69, al_70, as_70, al_71, as_71, al_72, as_72, al_73, as_73, al_74, as_74, al_75, as_75, al_76, as_76, al_78, as_78, al_79, as_79, al_80, as_80, al_81, as_81, al_82, as_82, al_83, as_83, al_84, as_84, al_85, as_85, al_86, as_86, al_87, as_87, al_88, as_88, al_89, as_89, al_90, as_90, al_91, as_91, al_92, as_92, al_93, as_93, al_94, as_94, al_95, as_95, al_96, as_96, al_97, as_97, al_98, as_98, al_61, as_61, al_62, as_62, al_99, as_99, al_82_0, as_82_0, al_83_32, as_83_32, al_83_33, as_83_33, ad0, ad8, ad16, ad24, ad_0, mu2, mu8, mu34, nI_add, nI_1, uI_mm, dvN, dvM, y_0, y_60, x_slnN, c6, hx, p6, s0, e0, e1, e2, e3, e4, e5, e6, e7, e8, e9, e10, e11, e12, e13, e14, e15, e16, e17, e18, e19, e20, e21, e22, e23, e24, e25, e26, e27, e28, e29, e30, e31, e32, e33, e34, e35, e36, e37, e38, e39, e40, k1, k2]
set_option maxHeartbeats 4000000 in
theorem lw_42 (hn : 2000 < n) (hN : N ≤ 3072) (hi : i + 6 ≤ N) (hx : xs i &&& 63 = 42) (hc : RC I A) (hm : RM I b A) : ∃ I2 J2 f2 b2 A2, (∀ r : mK, kL_law_18 n xs N r (lwL i) [] (mm I J f) = r (lwL (i + 6)) [] (mm I2 J2 f2)) ∧ RC I2 A2 ∧ RM I2 b2 A2 := by
  obtain ⟨v, I1, J1, f1, I2, J2, f2, b2, A2, k1, k2, k3, k4⟩ := uq_law (n := n) hn (xs (i + 1)) I J f b A hc hm
  refine ⟨I2, J2, f2, b2, A2, fun r => ?_, k3, k4⟩
  have c6 : ¬ nI N - 6 < nI i := fun z => by have := (sub6 hN (by omega)).mp z; omega
  have s0 := fun (k : mK) (L : List (Option Value)) (S : List Value) (μ : mM) => x_salN xs N k L S μ (j := i) (by omega) (by omega)
  have p1 : nI i + 1 = nI (i + 1) := nI_pk rfl
  have s1 := fun (k : mK) (L : List (Option Value)) (S : List Value) (μ : mM) => x_salN xs N k L S μ (j := i + 1) (by omega) (by omega)
  have e0 : ¬ (42 : Int32) = 0 := by decide
  have e1 : ¬ (42 : Int32) = 1 := by decide
  have e2 : ¬ (42 : Int32) = 2 := by decide
  have e3 : ¬ (42 : Int32) = 3 := by decide
  have e4 : ¬ (42 : Int32) = 4 := by decide
  have e5 : ¬ (42 : Int32) = 5 := by decide
  have e6 : ¬ (42 : Int32) = 6 := by decide
  have e7 : ¬ (42 : Int32) = 7 := by decide
  have e8 : ¬ (42 : Int32) = 8 := by decide
  have e9 : ¬ (42 : Int32) = 9 := by decide
  have e10 : ¬ (42 : Int32) = 10 := by decide
  have e11 : ¬ (42 : Int32) = 11 := by decide
  have e12 : ¬ (42 : Int32) = 12 := by decide
  have e13 : ¬ (42 : Int32) = 13 := by decide
  have e14 : ¬ (42 : Int32) = 14 := by decide
  have e15 : ¬ (42 : Int32) = 15 := by decide
  have e16 : ¬ (42 : Int32) = 16 := by decide
  have e17 : ¬ (42 : Int32) = 17 := by decide
  have e18 : ¬ (42 : Int32) = 18 := by decide
  have e19 : ¬ (42 : Int32) = 19 := by decide
  have e20 : ¬ (42 : Int32) = 20 := by decide
  have e21 : ¬ (42 : Int32) = 21 := by decide
  have e22 : ¬ (42 : Int32) = 22 := by decide
  have e23 : ¬ (42 : Int32) = 23 := by decide
  have e24 : ¬ (42 : Int32) = 24 := by decide
  have e25 : ¬ (42 : Int32) = 25 := by decide
  have e26 : ¬ (42 : Int32) = 26 := by decide
  have e27 : ¬ (42 : Int32) = 27 := by decide
  have e28 : ¬ (42 : Int32) = 28 := by decide
  have e29 : ¬ (42 : Int32) = 29 := by decide
  have e30 : ¬ (42 : Int32) = 30 := by decide
  have e31 : ¬ (42 : Int32) = 31 := by decide
  have e32 : ¬ (42 : Int32) = 32 := by decide
  have e33 : ¬ (42 : Int32) = 33 := by decide
  have e34 : ¬ (42 : Int32) = 34 := by decide
  have e35 : ¬ (42 : Int32) = 35 := by decide
  have e36 : ¬ (42 : Int32) = 36 := by decide
  have e37 : ¬ (42 : Int32) = 37 := by decide
  have e38 : ¬ (42 : Int32) = 38 := by decide
  have e39 : ¬ (42 : Int32) = 39 := by decide
  have e40 : ¬ (42 : Int32) = 40 := by decide
  have e41 : ¬ (42 : Int32) = 41 := by decide
  have p6 : nI i + 6 = nI (i + 6) := nI_pk rfl
  simp only [lwL, kL_law_18, kL_law_1224, kL_law_1562, x_no, x_cst, x_ldI, x_ldJ, x_ldA, x_stI, x_stJ, x_stA, x_inc, x_bin, x_un, x_i2l, x_bnJ, x_lshl, x_lcmp, x_dup, x_dp2, x_gI, x_gJ, x_gA, x_pI, x_pZ, x_pJ, x_pA, x_c0, x_c2, x_sw, x_cV, x_cS, x_rV, x_rI, x_rZ, x_rJ, x_mm, x_pop, msel, mpl, mvr, mnw, List.getElem?_cons_zero, List.getElem?_cons_succ, List.set_cons_zero, List.set_cons_succ, List.length_cons, List.length_nil, List.drop_succ_cons, List.drop_zero, List.take_succ_cons, List.take_zero, List.reverse_cons, List.reverse_nil, List.nil_append, List.cons_append, List.append_nil, List.map_cons, List.map_nil, List.sum_cons, List.sum_nil, Option.toList_some, Option.toList_none, x_bs, Value.category, decide_eq_true_eq, decide_true, decide_false, if_true, if_false, Bool.false_eq_true, and_self, and_true, true_and, true_or, or_true, not_true_eq_false, not_false_eq_true, ↓reduceIte, reduceCtorEq, Nat.reduceEqDiff, Nat.reduceAdd, Nat.reduceSub, Nat.reduceMul, Nat.reduceLT, Nat.reduceLeDiff, Nat.reduceBEq, Nat.le_refl, Nat.zero_le, Nat.lt_irrefl, beq_self_eq_true, Nat.succ_ne_zero, Option.some.injEq, Prod.mk.injEq, Int32.reduceLT, Int32.reduceLE, y_60, rt_60_0, rt_60_1, rt_60_11, rt_60_12, rt_60_13, rt_60_14, rt_60_15, rt_60_16, rt_60_17, rt_60_18, rt_60_19, rt_60_20, rt_60_21, rt_60_22, rt_60_23, rt_60_24, rt_60_25, rt_60_26, rt_60_27, rt_60_28, rt_60_29, rt_60_30, rt_60_39, rt_60_41, rt_60_42, rt_60_45, rt_60_46, rt_60_47, rt_60_49, rt_60_50, rt_60_51, rt_60_52, rt_60_53, rt_60_54, rt_60_55, rt_60_56, rt_60_59, rt_60_61, rt_60_62, al_63, as_63, al_64, as_64, al_65, as_65, al_66, as_66, al_67, as_67, al_68, as_68, al_69, as_69, al_70, as_70, al_71, as_71, al_72, as_72, al_73, as_73, al_74, as_74, al_75, as_75, al_76, as_76, al_78, as_78, al_79, as_79, al_80, as_80, al_81, as_81, al_82, as_82, al_83, as_83, al_84, as_84, al_85, as_85, al_86, as_86, al_87, as_87, al_88, as_88, al_89, as_89, al_90, as_90, al_91, as_91, al_92, as_92, al_93, as_93, al_94, as_94, al_95, as_95, al_96, as_96, al_97, as_97, al_98, as_98, al_61, as_61, al_62, as_62, al_99, as_99, al_82_0, as_82_0, al_83_32, as_83_32, al_83_33, as_83_33, ad0, ad8, ad16, ad24, ad_0, mu2, mu8, mu34, nI_add, nI_1, uI_mm, dvN, dvM, y_0, y_60, x_slnN, c6, hx, p6, s0, s1, p1, e0, e1, e2, e3, e4, e5, e6, e7, e8, e9, e10, e11, e12, e13, e14, e15, e16, e17, e18, e19, e20, e21, e22, e23, e24, e25, e26, e27, e28, e29, e30, e31, e32, e33, e34, e35, e36, e37, e38, e39, e40, e41, k1, k2]
set_option maxHeartbeats 4000000 in
theorem lw_43 (hn : 2000 < n) (hN : N ≤ 3072) (hi : i + 6 ≤ N) (hx : xs i &&& 63 = 43) (hc : RC I A) (hm : RM I b A) : ∃ I2 J2 f2 b2 A2, (∀ r : mK, kL_law_18 n xs N r (lwL i) [] (mm I J f) = r (lwL (i + 6)) [] (mm I2 J2 f2)) ∧ RC I2 A2 ∧ RM I2 b2 A2 := by
  obtain ⟨v, I1, J1, f1, I2, J2, f2, b2, A2, k1, k2, k3, k4⟩ := uq_odds (n := n) hn (xs (i + 1)) (xs (i + 2)) (xs (i + 3)) I J f b A hc hm
  refine ⟨I2, J2, f2, b2, A2, fun r => ?_, k3, k4⟩
  have c6 : ¬ nI N - 6 < nI i := fun z => by have := (sub6 hN (by omega)).mp z; omega
  have s0 := fun (k : mK) (L : List (Option Value)) (S : List Value) (μ : mM) => x_salN xs N k L S μ (j := i) (by omega) (by omega)
  have p1 : nI i + 1 = nI (i + 1) := nI_pk rfl
  have s1 := fun (k : mK) (L : List (Option Value)) (S : List Value) (μ : mM) => x_salN xs N k L S μ (j := i + 1) (by omega) (by omega)
  have p2 : nI i + 2 = nI (i + 2) := nI_pk rfl
  have s2 := fun (k : mK) (L : List (Option Value)) (S : List Value) (μ : mM) => x_salN xs N k L S μ (j := i + 2) (by omega) (by omega)
  have p3 : nI i + 3 = nI (i + 3) := nI_pk rfl
  have s3 := fun (k : mK) (L : List (Option Value)) (S : List Value) (μ : mM) => x_salN xs N k L S μ (j := i + 3) (by omega) (by omega)
  have e0 : ¬ (43 : Int32) = 0 := by decide
  have e1 : ¬ (43 : Int32) = 1 := by decide
  have e2 : ¬ (43 : Int32) = 2 := by decide
  have e3 : ¬ (43 : Int32) = 3 := by decide
  have e4 : ¬ (43 : Int32) = 4 := by decide
  have e5 : ¬ (43 : Int32) = 5 := by decide
  have e6 : ¬ (43 : Int32) = 6 := by decide
  have e7 : ¬ (43 : Int32) = 7 := by decide
  have e8 : ¬ (43 : Int32) = 8 := by decide
  have e9 : ¬ (43 : Int32) = 9 := by decide
  have e10 : ¬ (43 : Int32) = 10 := by decide
  have e11 : ¬ (43 : Int32) = 11 := by decide
  have e12 : ¬ (43 : Int32) = 12 := by decide
  have e13 : ¬ (43 : Int32) = 13 := by decide
  have e14 : ¬ (43 : Int32) = 14 := by decide
  have e15 : ¬ (43 : Int32) = 15 := by decide
  have e16 : ¬ (43 : Int32) = 16 := by decide
  have e17 : ¬ (43 : Int32) = 17 := by decide
  have e18 : ¬ (43 : Int32) = 18 := by decide
  have e19 : ¬ (43 : Int32) = 19 := by decide
  have e20 : ¬ (43 : Int32) = 20 := by decide
  have e21 : ¬ (43 : Int32) = 21 := by decide
  have e22 : ¬ (43 : Int32) = 22 := by decide
  have e23 : ¬ (43 : Int32) = 23 := by decide
  have e24 : ¬ (43 : Int32) = 24 := by decide
  have e25 : ¬ (43 : Int32) = 25 := by decide
  have e26 : ¬ (43 : Int32) = 26 := by decide
  have e27 : ¬ (43 : Int32) = 27 := by decide
  have e28 : ¬ (43 : Int32) = 28 := by decide
  have e29 : ¬ (43 : Int32) = 29 := by decide
  have e30 : ¬ (43 : Int32) = 30 := by decide
  have e31 : ¬ (43 : Int32) = 31 := by decide
  have e32 : ¬ (43 : Int32) = 32 := by decide
  have e33 : ¬ (43 : Int32) = 33 := by decide
  have e34 : ¬ (43 : Int32) = 34 := by decide
  have e35 : ¬ (43 : Int32) = 35 := by decide
  have e36 : ¬ (43 : Int32) = 36 := by decide
  have e37 : ¬ (43 : Int32) = 37 := by decide
  have e38 : ¬ (43 : Int32) = 38 := by decide
  have e39 : ¬ (43 : Int32) = 39 := by decide
  have e40 : ¬ (43 : Int32) = 40 := by decide
  have e41 : ¬ (43 : Int32) = 41 := by decide
  have e42 : ¬ (43 : Int32) = 42 := by decide
  have p6 : nI i + 6 = nI (i + 6) := nI_pk rfl
  simp only [lwL, kL_law_18, kL_law_1245, kL_law_1275, kL_law_1562, x_no, x_cst, x_ldI, x_ldJ, x_ldA, x_stI, x_stJ, x_stA, x_inc, x_bin, x_un, x_i2l, x_bnJ, x_lshl, x_lcmp, x_dup, x_dp2, x_gI, x_gJ, x_gA, x_pI, x_pZ, x_pJ, x_pA, x_c0, x_c2, x_sw, x_cV, x_cS, x_rV, x_rI, x_rZ, x_rJ, x_mm, x_pop, msel, mpl, mvr, mnw, List.getElem?_cons_zero, List.getElem?_cons_succ, List.set_cons_zero, List.set_cons_succ, List.length_cons, List.length_nil, List.drop_succ_cons, List.drop_zero, List.take_succ_cons, List.take_zero, List.reverse_cons, List.reverse_nil, List.nil_append, List.cons_append, List.append_nil, List.map_cons, List.map_nil, List.sum_cons, List.sum_nil, Option.toList_some, Option.toList_none, x_bs, Value.category, decide_eq_true_eq, decide_true, decide_false, if_true, if_false, Bool.false_eq_true, and_self, and_true, true_and, true_or, or_true, not_true_eq_false, not_false_eq_true, ↓reduceIte, reduceCtorEq, Nat.reduceEqDiff, Nat.reduceAdd, Nat.reduceSub, Nat.reduceMul, Nat.reduceLT, Nat.reduceLeDiff, Nat.reduceBEq, Nat.le_refl, Nat.zero_le, Nat.lt_irrefl, beq_self_eq_true, Nat.succ_ne_zero, Option.some.injEq, Prod.mk.injEq, Int32.reduceLT, Int32.reduceLE, y_60, rt_60_0, rt_60_1, rt_60_11, rt_60_12, rt_60_13, rt_60_14, rt_60_15, rt_60_16, rt_60_17, rt_60_18, rt_60_19, rt_60_20, rt_60_21, rt_60_22, rt_60_23, rt_60_24, rt_60_25, rt_60_26, rt_60_27, rt_60_28, rt_60_29, rt_60_30, rt_60_39, rt_60_41, rt_60_42, rt_60_45, rt_60_46, rt_60_47, rt_60_49, rt_60_50, rt_60_51, rt_60_52, rt_60_53, rt_60_54, rt_60_55, rt_60_56, rt_60_59, rt_60_61, rt_60_62, al_63, as_63, al_64, as_64, al_65, as_65, al_66, as_66, al_67, as_67, al_68, as_68, al_69, as_69, al_70, as_70, al_71, as_71, al_72, as_72, al_73, as_73, al_74, as_74, al_75, as_75, al_76, as_76, al_78, as_78, al_79, as_79, al_80, as_80, al_81, as_81, al_82, as_82, al_83, as_83, al_84, as_84, al_85, as_85, al_86, as_86, al_87, as_87, al_88, as_88, al_89, as_89, al_90, as_90, al_91, as_91, al_92, as_92, al_93, as_93, al_94, as_94, al_95, as_95, al_96, as_96, al_97, as_97, al_98, as_98, al_61, as_61, al_62, as_62, al_99, as_99, al_82_0, as_82_0, al_83_32, as_83_32, al_83_33, as_83_33, ad0, ad8, ad16, ad24, ad_0, mu2, mu8, mu34, nI_add, nI_1, uI_mm, dvN, dvM, y_0, y_60, x_slnN, c6, hx, p6, s0, s1, s2, s3, p1, p2, p3, e0, e1, e2, e3, e4, e5, e6, e7, e8, e9, e10, e11, e12, e13, e14, e15, e16, e17, e18, e19, e20, e21, e22, e23, e24, e25, e26, e27, e28, e29, e30, e31, e32, e33, e34, e35, e36, e37, e38, e39, e40, e41, e42, k1, k2]
set_option maxHeartbeats 4000000 in
theorem lw_44 (hn : 2000 < n) (hN : N ≤ 3072) (hi : i + 6 ≤ N) (hx : xs i &&& 63 = 44) (hc : RC I A) (hm : RM I b A) : ∃ I2 J2 f2 b2 A2, (∀ r : mK, kL_law_18 n xs N r (lwL i) [] (mm I J f) = r (lwL (i + 6)) [] (mm I2 J2 f2)) ∧ RC I2 A2 ∧ RM I2 b2 A2 := by
  obtain ⟨v, I1, J1, f1, I2, J2, f2, b2, A2, k1, k2, k3, k4⟩ := uq_lies (n := n) (xs (i + 1)) I J f b A hc hm
  refine ⟨I2, J2, f2, b2, A2, fun r => ?_, k3, k4⟩
  have c6 : ¬ nI N - 6 < nI i := fun z => by have := (sub6 hN (by omega)).mp z; omega
  have s0 := fun (k : mK) (L : List (Option Value)) (S : List Value) (μ : mM) => x_salN xs N k L S μ (j := i) (by omega) (by omega)
  have p1 : nI i + 1 = nI (i + 1) := nI_pk rfl
  have s1 := fun (k : mK) (L : List (Option Value)) (S : List Value) (μ : mM) => x_salN xs N k L S μ (j := i + 1) (by omega) (by omega)
  have e0 : ¬ (44 : Int32) = 0 := by decide
  have e1 : ¬ (44 : Int32) = 1 := by decide
  have e2 : ¬ (44 : Int32) = 2 := by decide
  have e3 : ¬ (44 : Int32) = 3 := by decide
  have e4 : ¬ (44 : Int32) = 4 := by decide
  have e5 : ¬ (44 : Int32) = 5 := by decide
  have e6 : ¬ (44 : Int32) = 6 := by decide
  have e7 : ¬ (44 : Int32) = 7 := by decide
  have e8 : ¬ (44 : Int32) = 8 := by decide
  have e9 : ¬ (44 : Int32) = 9 := by decide
  have e10 : ¬ (44 : Int32) = 10 := by decide
  have e11 : ¬ (44 : Int32) = 11 := by decide
  have e12 : ¬ (44 : Int32) = 12 := by decide
  have e13 : ¬ (44 : Int32) = 13 := by decide
  have e14 : ¬ (44 : Int32) = 14 := by decide
  have e15 : ¬ (44 : Int32) = 15 := by decide
  have e16 : ¬ (44 : Int32) = 16 := by decide
  have e17 : ¬ (44 : Int32) = 17 := by decide
  have e18 : ¬ (44 : Int32) = 18 := by decide
  have e19 : ¬ (44 : Int32) = 19 := by decide
  have e20 : ¬ (44 : Int32) = 20 := by decide
  have e21 : ¬ (44 : Int32) = 21 := by decide
  have e22 : ¬ (44 : Int32) = 22 := by decide
  have e23 : ¬ (44 : Int32) = 23 := by decide
  have e24 : ¬ (44 : Int32) = 24 := by decide
  have e25 : ¬ (44 : Int32) = 25 := by decide
  have e26 : ¬ (44 : Int32) = 26 := by decide
  have e27 : ¬ (44 : Int32) = 27 := by decide
  have e28 : ¬ (44 : Int32) = 28 := by decide
  have e29 : ¬ (44 : Int32) = 29 := by decide
  have e30 : ¬ (44 : Int32) = 30 := by decide
  have e31 : ¬ (44 : Int32) = 31 := by decide
  have e32 : ¬ (44 : Int32) = 32 := by decide
  have e33 : ¬ (44 : Int32) = 33 := by decide
  have e34 : ¬ (44 : Int32) = 34 := by decide
  have e35 : ¬ (44 : Int32) = 35 := by decide
  have e36 : ¬ (44 : Int32) = 36 := by decide
  have e37 : ¬ (44 : Int32) = 37 := by decide
  have e38 : ¬ (44 : Int32) = 38 := by decide
  have e39 : ¬ (44 : Int32) = 39 := by decide
  have e40 : ¬ (44 : Int32) = 40 := by decide
  have e41 : ¬ (44 : Int32) = 41 := by decide
  have e42 : ¬ (44 : Int32) = 42 := by decide
  have e43 : ¬ (44 : Int32) = 43 := by decide
  have p6 : nI i + 6 = nI (i + 6) := nI_pk rfl
  simp only [lwL, kL_law_18, kL_law_1290, kL_law_1562, x_no, x_cst, x_ldI, x_ldJ, x_ldA, x_stI, x_stJ, x_stA, x_inc, x_bin, x_un, x_i2l, x_bnJ, x_lshl, x_lcmp, x_dup, x_dp2, x_gI, x_gJ, x_gA, x_pI, x_pZ, x_pJ, x_pA, x_c0, x_c2, x_sw, x_cV, x_cS, x_rV, x_rI, x_rZ, x_rJ, x_mm, x_pop, msel, mpl, mvr, mnw, List.getElem?_cons_zero, List.getElem?_cons_succ, List.set_cons_zero, List.set_cons_succ, List.length_cons, List.length_nil, List.drop_succ_cons, List.drop_zero, List.take_succ_cons, List.take_zero, List.reverse_cons, List.reverse_nil, List.nil_append, List.cons_append, List.append_nil, List.map_cons, List.map_nil, List.sum_cons, List.sum_nil, Option.toList_some, Option.toList_none, x_bs, Value.category, decide_eq_true_eq, decide_true, decide_false, if_true, if_false, Bool.false_eq_true, and_self, and_true, true_and, true_or, or_true, not_true_eq_false, not_false_eq_true, ↓reduceIte, reduceCtorEq, Nat.reduceEqDiff, Nat.reduceAdd, Nat.reduceSub, Nat.reduceMul, Nat.reduceLT, Nat.reduceLeDiff, Nat.reduceBEq, Nat.le_refl, Nat.zero_le, Nat.lt_irrefl, beq_self_eq_true, Nat.succ_ne_zero, Option.some.injEq, Prod.mk.injEq, Int32.reduceLT, Int32.reduceLE, y_60, rt_60_0, rt_60_1, rt_60_11, rt_60_12, rt_60_13, rt_60_14, rt_60_15, rt_60_16, rt_60_17, rt_60_18, rt_60_19, rt_60_20, rt_60_21, rt_60_22, rt_60_23, rt_60_24, rt_60_25, rt_60_26, rt_60_27, rt_60_28, rt_60_29, rt_60_30, rt_60_39, rt_60_41, rt_60_42, rt_60_45, rt_60_46, rt_60_47, rt_60_49, rt_60_50, rt_60_51, rt_60_52, rt_60_53, rt_60_54, rt_60_55, rt_60_56, rt_60_59, rt_60_61, rt_60_62, al_63, as_63, al_64, as_64, al_65, as_65, al_66, as_66, al_67, as_67, al_68, as_68, al_69, as_69, al_70, as_70, al_71, as_71, al_72, as_72, al_73, as_73, al_74, as_74, al_75, as_75, al_76, as_76, al_78, as_78, al_79, as_79, al_80, as_80, al_81, as_81, al_82, as_82, al_83, as_83, al_84, as_84, al_85, as_85, al_86, as_86, al_87, as_87, al_88, as_88, al_89, as_89, al_90, as_90, al_91, as_91, al_92, as_92, al_93, as_93, al_94, as_94, al_95, as_95, al_96, as_96, al_97, as_97, al_98, as_98, al_61, as_61, al_62, as_62, al_99, as_99, al_82_0, as_82_0, al_83_32, as_83_32, al_83_33, as_83_33, ad0, ad8, ad16, ad24, ad_0, mu2, mu8, mu34, nI_add, nI_1, uI_mm, dvN, dvM, y_0, y_60, x_slnN, c6, hx, p6, s0, s1, p1, e0, e1, e2, e3, e4, e5, e6, e7, e8, e9, e10, e11, e12, e13, e14, e15, e16, e17, e18, e19, e20, e21, e22, e23, e24, e25, e26, e27, e28, e29, e30, e31, e32, e33, e34, e35, e36, e37, e38, e39, e40, e41, e42, e43, k1, k2]
set_option maxHeartbeats 4000000 in
theorem lw_45 (hn : 2000 < n) (hN : N ≤ 3072) (hi : i + 6 ≤ N) (hx : xs i &&& 63 = 45) (hc : RC I A) (hm : RM I b A) : ∃ I2 J2 f2 b2 A2, (∀ r : mK, kL_law_18 n xs N r (lwL i) [] (mm I J f) = r (lwL (i + 6)) [] (mm I2 J2 f2)) ∧ RC I2 A2 ∧ RM I2 b2 A2 := by
  obtain ⟨v, I1, J1, f1, I2, J2, f2, b2, A2, k1, k2, k3, k4⟩ := uq_heard (n := n) (xs (i + 1)) (xs (i + 2)) (decide (¬ xs (i + 3) = 0)) I J f b A hc hm
  refine ⟨I2, J2, f2, b2, A2, fun r => ?_, k3, k4⟩
  have c6 : ¬ nI N - 6 < nI i := fun z => by have := (sub6 hN (by omega)).mp z; omega
  have s0 := fun (k : mK) (L : List (Option Value)) (S : List Value) (μ : mM) => x_salN xs N k L S μ (j := i) (by omega) (by omega)
  have p1 : nI i + 1 = nI (i + 1) := nI_pk rfl
  have s1 := fun (k : mK) (L : List (Option Value)) (S : List Value) (μ : mM) => x_salN xs N k L S μ (j := i + 1) (by omega) (by omega)
  have p2 : nI i + 2 = nI (i + 2) := nI_pk rfl
  have s2 := fun (k : mK) (L : List (Option Value)) (S : List Value) (μ : mM) => x_salN xs N k L S μ (j := i + 2) (by omega) (by omega)
  have p3 : nI i + 3 = nI (i + 3) := nI_pk rfl
  have s3 := fun (k : mK) (L : List (Option Value)) (S : List Value) (μ : mM) => x_salN xs N k L S μ (j := i + 3) (by omega) (by omega)
  have e0 : ¬ (45 : Int32) = 0 := by decide
  have e1 : ¬ (45 : Int32) = 1 := by decide
  have e2 : ¬ (45 : Int32) = 2 := by decide
  have e3 : ¬ (45 : Int32) = 3 := by decide
  have e4 : ¬ (45 : Int32) = 4 := by decide
  have e5 : ¬ (45 : Int32) = 5 := by decide
  have e6 : ¬ (45 : Int32) = 6 := by decide
  have e7 : ¬ (45 : Int32) = 7 := by decide
  have e8 : ¬ (45 : Int32) = 8 := by decide
  have e9 : ¬ (45 : Int32) = 9 := by decide
  have e10 : ¬ (45 : Int32) = 10 := by decide
  have e11 : ¬ (45 : Int32) = 11 := by decide
  have e12 : ¬ (45 : Int32) = 12 := by decide
  have e13 : ¬ (45 : Int32) = 13 := by decide
  have e14 : ¬ (45 : Int32) = 14 := by decide
  have e15 : ¬ (45 : Int32) = 15 := by decide
  have e16 : ¬ (45 : Int32) = 16 := by decide
  have e17 : ¬ (45 : Int32) = 17 := by decide
  have e18 : ¬ (45 : Int32) = 18 := by decide
  have e19 : ¬ (45 : Int32) = 19 := by decide
  have e20 : ¬ (45 : Int32) = 20 := by decide
  have e21 : ¬ (45 : Int32) = 21 := by decide
  have e22 : ¬ (45 : Int32) = 22 := by decide
  have e23 : ¬ (45 : Int32) = 23 := by decide
  have e24 : ¬ (45 : Int32) = 24 := by decide
  have e25 : ¬ (45 : Int32) = 25 := by decide
  have e26 : ¬ (45 : Int32) = 26 := by decide
  have e27 : ¬ (45 : Int32) = 27 := by decide
  have e28 : ¬ (45 : Int32) = 28 := by decide
  have e29 : ¬ (45 : Int32) = 29 := by decide
  have e30 : ¬ (45 : Int32) = 30 := by decide
  have e31 : ¬ (45 : Int32) = 31 := by decide
  have e32 : ¬ (45 : Int32) = 32 := by decide
  have e33 : ¬ (45 : Int32) = 33 := by decide
  have e34 : ¬ (45 : Int32) = 34 := by decide
  have e35 : ¬ (45 : Int32) = 35 := by decide
  have e36 : ¬ (45 : Int32) = 36 := by decide
  have e37 : ¬ (45 : Int32) = 37 := by decide
  have e38 : ¬ (45 : Int32) = 38 := by decide
  have e39 : ¬ (45 : Int32) = 39 := by decide
  have e40 : ¬ (45 : Int32) = 40 := by decide
  have e41 : ¬ (45 : Int32) = 41 := by decide
  have e42 : ¬ (45 : Int32) = 42 := by decide
  have e43 : ¬ (45 : Int32) = 43 := by decide
  have e44 : ¬ (45 : Int32) = 44 := by decide
  have p6 : nI i + 6 = nI (i + 6) := nI_pk rfl
  have q1 : ¬ (1 : Int32) = 0 := by decide
  by_cases e : xs (i + 3) = 0
  · have bb : b2i ((decide (¬ xs (i + 3) = 0)) = true) = 0 := b2i_0 (by simp [e])
    rw [bb] at k1 k2
    simp only [lwL, kL_law_18, kL_law_1311, kL_law_1323, kL_law_1350, kL_law_1562, x_no, x_cst, x_ldI, x_ldJ, x_ldA, x_stI, x_stJ, x_stA, x_inc, x_bin, x_un, x_i2l, x_bnJ, x_lshl, x_lcmp, x_dup, x_dp2, x_gI, x_gJ, x_gA, x_pI, x_pZ, x_pJ, x_pA, x_c0, x_c2, x_sw, x_cV, x_cS, x_rV, x_rI, x_rZ, x_rJ, x_mm, x_pop, msel, mpl, mvr, mnw, List.getElem?_cons_zero, List.getElem?_cons_succ, List.set_cons_zero, List.set_cons_succ, List.length_cons, List.length_nil, List.drop_succ_cons, List.drop_zero, List.take_succ_cons, List.take_zero, List.reverse_cons, List.reverse_nil, List.nil_append, List.cons_append, List.append_nil, List.map_cons, List.map_nil, List.sum_cons, List.sum_nil, Option.toList_some, Option.toList_none, x_bs, Value.category, decide_eq_true_eq, decide_true, decide_false, if_true, if_false, Bool.false_eq_true, and_self, and_true, true_and, true_or, or_true, not_true_eq_false, not_false_eq_true, ↓reduceIte, reduceCtorEq, Nat.reduceEqDiff, Nat.reduceAdd, Nat.reduceSub, Nat.reduceMul, Nat.reduceLT, Nat.reduceLeDiff, Nat.reduceBEq, Nat.le_refl, Nat.zero_le, Nat.lt_irrefl, beq_self_eq_true, Nat.succ_ne_zero, Option.some.injEq, Prod.mk.injEq, Int32.reduceLT, Int32.reduceLE, y_60, rt_60_0, rt_60_1, rt_60_11, rt_60_12, rt_60_13, rt_60_14, rt_60_15, rt_60_16, rt_60_17, rt_60_18, rt_60_19, rt_60_20, rt_60_21, rt_60_22, rt_60_23, rt_60_24, rt_60_25, rt_60_26, rt_60_27, rt_60_28, rt_60_29, rt_60_30, rt_60_39, rt_60_41, rt_60_42, rt_60_45, rt_60_46, rt_60_47, rt_60_49, rt_60_50, rt_60_51, rt_60_52, rt_60_53, rt_60_54, rt_60_55, rt_60_56, rt_60_59, rt_60_61, rt_60_62, al_63, as_63, al_64, as_64, al_65, as_65, al_66, as_66, al_67, as_67, al_68, as_68, al_69, as_69, al_70, as_70, al_71, as_71, al_72, as_72, al_73, as_73, al_74, as_74, al_75, as_75, al_76, as_76, al_78, as_78, al_79, as_79, al_80, as_80, al_81, as_81, al_82, as_82, al_83, as_83, al_84, as_84, al_85, as_85, al_86, as_86, al_87, as_87, al_88, as_88, al_89, as_89, al_90, as_90, al_91, as_91, al_92, as_92, al_93, as_93, al_94, as_94, al_95, as_95, al_96, as_96, al_97, as_97, al_98, as_98, al_61, as_61, al_62, as_62, al_99, as_99, al_82_0, as_82_0, al_83_32, as_83_32, al_83_33, as_83_33, ad0, ad8, ad16, ad24, ad_0, mu2, mu8, mu34, nI_add, nI_1, uI_mm, dvN, dvM, y_0, y_60, x_slnN, c6, hx, p6, s0, s1, s2, s3, p1, p2, p3, e0, e1, e2, e3, e4, e5, e6, e7, e8, e9, e10, e11, e12, e13, e14, e15, e16, e17, e18, e19, e20, e21, e22, e23, e24, e25, e26, e27, e28, e29, e30, e31, e32, e33, e34, e35, e36, e37, e38, e39, e40, e41, e42, e43, e44, e, k1, k2, q1]
  · have bb : b2i ((decide (¬ xs (i + 3) = 0)) = true) = 1 := b2i_1 (by simp [e])
    rw [bb] at k1 k2
    simp only [lwL, kL_law_18, kL_law_1311, kL_law_1323, kL_law_1350, kL_law_1562, x_no, x_cst, x_ldI, x_ldJ, x_ldA, x_stI, x_stJ, x_stA, x_inc, x_bin, x_un, x_i2l, x_bnJ, x_lshl, x_lcmp, x_dup, x_dp2, x_gI, x_gJ, x_gA, x_pI, x_pZ, x_pJ, x_pA, x_c0, x_c2, x_sw, x_cV, x_cS, x_rV, x_rI, x_rZ, x_rJ, x_mm, x_pop, msel, mpl, mvr, mnw, List.getElem?_cons_zero, List.getElem?_cons_succ, List.set_cons_zero, List.set_cons_succ, List.length_cons, List.length_nil, List.drop_succ_cons, List.drop_zero, List.take_succ_cons, List.take_zero, List.reverse_cons, List.reverse_nil, List.nil_append, List.cons_append, List.append_nil, List.map_cons, List.map_nil, List.sum_cons, List.sum_nil, Option.toList_some, Option.toList_none, x_bs, Value.category, decide_eq_true_eq, decide_true, decide_false, if_true, if_false, Bool.false_eq_true, and_self, and_true, true_and, true_or, or_true, not_true_eq_false, not_false_eq_true, ↓reduceIte, reduceCtorEq, Nat.reduceEqDiff, Nat.reduceAdd, Nat.reduceSub, Nat.reduceMul, Nat.reduceLT, Nat.reduceLeDiff, Nat.reduceBEq, Nat.le_refl, Nat.zero_le, Nat.lt_irrefl, beq_self_eq_true, Nat.succ_ne_zero, Option.some.injEq, Prod.mk.injEq, Int32.reduceLT, Int32.reduceLE, y_60, rt_60_0, rt_60_1, rt_60_11, rt_60_12, rt_60_13, rt_60_14, rt_60_15, rt_60_16, rt_60_17, rt_60_18, rt_60_19, rt_60_20, rt_60_21, rt_60_22, rt_60_23, rt_60_24, rt_60_25, rt_60_26, rt_60_27, rt_60_28, rt_60_29, rt_60_30, rt_60_39, rt_60_41, rt_60_42, rt_60_45, rt_60_46, rt_60_47, rt_60_49, rt_60_50, rt_60_51, rt_60_52, rt_60_53, rt_60_54, rt_60_55, rt_60_56, rt_60_59, rt_60_61, rt_60_62, al_63, as_63, al_64, as_64, al_65, as_65, al_66, as_66, al_67, as_67, al_68, as_68, al_69, as_69, al_70, as_70, al_71, as_71, al_72, as_72, al_73, as_73, al_74, as_74, al_75, as_75, al_76, as_76, al_78, as_78, al_79, as_79, al_80, as_80, al_81, as_81, al_82, as_82, al_83, as_83, al_84, as_84, al_85, as_85, al_86, as_86, al_87, as_87, al_88, as_88, al_89, as_89, al_90, as_90, al_91, as_91, al_92, as_92, al_93, as_93, al_94, as_94, al_95, as_95, al_96, as_96, al_97, as_97, al_98, as_98, al_61, as_61, al_62, as_62, al_99, as_99, al_82_0, as_82_0, al_83_32, as_83_32, al_83_33, as_83_33, ad0, ad8, ad16, ad24, ad_0, mu2, mu8, mu34, nI_add, nI_1, uI_mm, dvN, dvM, y_0, y_60, x_slnN, c6, hx, p6, s0, s1, s2, s3, p1, p2, p3, e0, e1, e2, e3, e4, e5, e6, e7, e8, e9, e10, e11, e12, e13, e14, e15, e16, e17, e18, e19, e20, e21, e22, e23, e24, e25, e26, e27, e28, e29, e30, e31, e32, e33, e34, e35, e36, e37, e38, e39, e40, e41, e42, e43, e44, e, k1, k2, q1]
set_option maxHeartbeats 4000000 in
theorem lw_46 (hn : 2000 < n) (hN : N ≤ 3072) (hi : i + 6 ≤ N) (hx : xs i &&& 63 = 46) (hc : RC I A) (hm : RM I b A) : ∃ I2 J2 f2 b2 A2, (∀ r : mK, kL_law_18 n xs N r (lwL i) [] (mm I J f) = r (lwL (i + 6)) [] (mm I2 J2 f2)) ∧ RC I2 A2 ∧ RM I2 b2 A2 := by
  obtain ⟨v, I1, J1, f1, I2, J2, f2, b2, A2, k1, k2, k3, k4⟩ := uq_untell (n := n) hn (xs (i + 1)) I J f b A hc hm
  refine ⟨I2, J2, f2, b2, A2, fun r => ?_, k3, k4⟩
  have c6 : ¬ nI N - 6 < nI i := fun z => by have := (sub6 hN (by omega)).mp z; omega
  have s0 := fun (k : mK) (L : List (Option Value)) (S : List Value) (μ : mM) => x_salN xs N k L S μ (j := i) (by omega) (by omega)
  have p1 : nI i + 1 = nI (i + 1) := nI_pk rfl
  have s1 := fun (k : mK) (L : List (Option Value)) (S : List Value) (μ : mM) => x_salN xs N k L S μ (j := i + 1) (by omega) (by omega)
  have e0 : ¬ (46 : Int32) = 0 := by decide
  have e1 : ¬ (46 : Int32) = 1 := by decide
  have e2 : ¬ (46 : Int32) = 2 := by decide
  have e3 : ¬ (46 : Int32) = 3 := by decide
  have e4 : ¬ (46 : Int32) = 4 := by decide
  have e5 : ¬ (46 : Int32) = 5 := by decide
  have e6 : ¬ (46 : Int32) = 6 := by decide
  have e7 : ¬ (46 : Int32) = 7 := by decide
  have e8 : ¬ (46 : Int32) = 8 := by decide
  have e9 : ¬ (46 : Int32) = 9 := by decide
  have e10 : ¬ (46 : Int32) = 10 := by decide
  have e11 : ¬ (46 : Int32) = 11 := by decide
  have e12 : ¬ (46 : Int32) = 12 := by decide
  have e13 : ¬ (46 : Int32) = 13 := by decide
  have e14 : ¬ (46 : Int32) = 14 := by decide
  have e15 : ¬ (46 : Int32) = 15 := by decide
  have e16 : ¬ (46 : Int32) = 16 := by decide
  have e17 : ¬ (46 : Int32) = 17 := by decide
  have e18 : ¬ (46 : Int32) = 18 := by decide
  have e19 : ¬ (46 : Int32) = 19 := by decide
  have e20 : ¬ (46 : Int32) = 20 := by decide
  have e21 : ¬ (46 : Int32) = 21 := by decide
  have e22 : ¬ (46 : Int32) = 22 := by decide
  have e23 : ¬ (46 : Int32) = 23 := by decide
  have e24 : ¬ (46 : Int32) = 24 := by decide
  have e25 : ¬ (46 : Int32) = 25 := by decide
  have e26 : ¬ (46 : Int32) = 26 := by decide
  have e27 : ¬ (46 : Int32) = 27 := by decide
  have e28 : ¬ (46 : Int32) = 28 := by decide
  have e29 : ¬ (46 : Int32) = 29 := by decide
  have e30 : ¬ (46 : Int32) = 30 := by decide
  have e31 : ¬ (46 : Int32) = 31 := by decide
  have e32 : ¬ (46 : Int32) = 32 := by decide
  have e33 : ¬ (46 : Int32) = 33 := by decide
  have e34 : ¬ (46 : Int32) = 34 := by decide
  have e35 : ¬ (46 : Int32) = 35 := by decide
  have e36 : ¬ (46 : Int32) = 36 := by decide
  have e37 : ¬ (46 : Int32) = 37 := by decide
  have e38 : ¬ (46 : Int32) = 38 := by decide
  have e39 : ¬ (46 : Int32) = 39 := by decide
  have e40 : ¬ (46 : Int32) = 40 := by decide
  have e41 : ¬ (46 : Int32) = 41 := by decide
  have e42 : ¬ (46 : Int32) = 42 := by decide
  have e43 : ¬ (46 : Int32) = 43 := by decide
  have e44 : ¬ (46 : Int32) = 44 := by decide
  have e45 : ¬ (46 : Int32) = 45 := by decide
  have p6 : nI i + 6 = nI (i + 6) := nI_pk rfl
  simp only [lwL, kL_law_18, kL_law_1372, kL_law_1562, x_no, x_cst, x_ldI, x_ldJ, x_ldA, x_stI, x_stJ, x_stA, x_inc, x_bin, x_un, x_i2l, x_bnJ, x_lshl, x_lcmp, x_dup, x_dp2, x_gI, x_gJ, x_gA, x_pI, x_pZ, x_pJ, x_pA, x_c0, x_c2, x_sw, x_cV, x_cS, x_rV, x_rI, x_rZ, x_rJ, x_mm, x_pop, msel, mpl, mvr, mnw, List.getElem?_cons_zero, List.getElem?_cons_succ, List.set_cons_zero, List.set_cons_succ, List.length_cons, List.length_nil, List.drop_succ_cons, List.drop_zero, List.take_succ_cons, List.take_zero, List.reverse_cons, List.reverse_nil, List.nil_append, List.cons_append, List.append_nil, List.map_cons, List.map_nil, List.sum_cons, List.sum_nil, Option.toList_some, Option.toList_none, x_bs, Value.category, decide_eq_true_eq, decide_true, decide_false, if_true, if_false, Bool.false_eq_true, and_self, and_true, true_and, true_or, or_true, not_true_eq_false, not_false_eq_true, ↓reduceIte, reduceCtorEq, Nat.reduceEqDiff, Nat.reduceAdd, Nat.reduceSub, Nat.reduceMul, Nat.reduceLT, Nat.reduceLeDiff, Nat.reduceBEq, Nat.le_refl, Nat.zero_le, Nat.lt_irrefl, beq_self_eq_true, Nat.succ_ne_zero, Option.some.injEq, Prod.mk.injEq, Int32.reduceLT, Int32.reduceLE, y_60, rt_60_0, rt_60_1, rt_60_11, rt_60_12, rt_60_13, rt_60_14, rt_60_15, rt_60_16, rt_60_17, rt_60_18, rt_60_19, rt_60_20, rt_60_21, rt_60_22, rt_60_23, rt_60_24, rt_60_25, rt_60_26, rt_60_27, rt_60_28, rt_60_29, rt_60_30, rt_60_39, rt_60_41, rt_60_42, rt_60_45, rt_60_46, rt_60_47, rt_60_49, rt_60_50, rt_60_51, rt_60_52, rt_60_53, rt_60_54, rt_60_55, rt_60_56, rt_60_59, rt_60_61, rt_60_62, al_63, as_63, al_64, as_64, al_65, as_65, al_66, as_66, al_67, as_67, al_68, as_68, al_69, as_69, al_70, as_70, al_71, as_71, al_72, as_72, al_73, as_73, al_74, as_74, al_75, as_75, al_76, as_76, al_78, as_78, al_79, as_79, al_80, as_80, al_81, as_81, al_82, as_82, al_83, as_83, al_84, as_84, al_85, as_85, al_86, as_86, al_87, as_87, al_88, as_88, al_89, as_89, al_90, as_90, al_91, as_91, al_92, as_92, al_93, as_93, al_94, as_94, al_95, as_95, al_96, as_96, al_97, as_97, al_98, as_98, al_61, as_61, al_62, as_62, al_99, as_99, al_82_0, as_82_0, al_83_32, as_83_32, al_83_33, as_83_33, ad0, ad8, ad16, ad24, ad_0, mu2, mu8, mu34, nI_add, nI_1, uI_mm, dvN, dvM, y_0, y_60, x_slnN, c6, hx, p6, s0, s1, p1, e0, e1, e2, e3, e4, e5, e6, e7, e8, e9, e10, e11, e12, e13, e14, e15, e16, e17, e18, e19, e20, e21, e22, e23, e24, e25, e26, e27, e28, e29, e30, e31, e32, e33, e34, e35, e36, e37, e38, e39, e40, e41, e42, e43, e44, e45, k1, k2]
set_option maxHeartbeats 4000000 in
theorem lw_47 (hn : 2000 < n) (hN : N ≤ 3072) (hi : i + 6 ≤ N) (hx : xs i &&& 63 = 47) (hc : RC I A) (hm : RM I b A) : ∃ I2 J2 f2 b2 A2, (∀ r : mK, kL_law_18 n xs N r (lwL i) [] (mm I J f) = r (lwL (i + 6)) [] (mm I2 J2 f2)) ∧ RC I2 A2 ∧ RM I2 b2 A2 := by
  obtain ⟨v, I1, J1, f1, I2, J2, f2, b2, A2, k1, k2, k3, k4⟩ := uq_later (n := n) hn (xs (i + 1)) I J f b A hc hm
  refine ⟨I2, J2, f2, b2, A2, fun r => ?_, k3, k4⟩
  have c6 : ¬ nI N - 6 < nI i := fun z => by have := (sub6 hN (by omega)).mp z; omega
  have s0 := fun (k : mK) (L : List (Option Value)) (S : List Value) (μ : mM) => x_salN xs N k L S μ (j := i) (by omega) (by omega)
  have p1 : nI i + 1 = nI (i + 1) := nI_pk rfl
  have s1 := fun (k : mK) (L : List (Option Value)) (S : List Value) (μ : mM) => x_salN xs N k L S μ (j := i + 1) (by omega) (by omega)
  have e0 : ¬ (47 : Int32) = 0 := by decide
  have e1 : ¬ (47 : Int32) = 1 := by decide
  have e2 : ¬ (47 : Int32) = 2 := by decide
  have e3 : ¬ (47 : Int32) = 3 := by decide
  have e4 : ¬ (47 : Int32) = 4 := by decide
  have e5 : ¬ (47 : Int32) = 5 := by decide
  have e6 : ¬ (47 : Int32) = 6 := by decide
  have e7 : ¬ (47 : Int32) = 7 := by decide
  have e8 : ¬ (47 : Int32) = 8 := by decide
  have e9 : ¬ (47 : Int32) = 9 := by decide
  have e10 : ¬ (47 : Int32) = 10 := by decide
  have e11 : ¬ (47 : Int32) = 11 := by decide
  have e12 : ¬ (47 : Int32) = 12 := by decide
  have e13 : ¬ (47 : Int32) = 13 := by decide
  have e14 : ¬ (47 : Int32) = 14 := by decide
  have e15 : ¬ (47 : Int32) = 15 := by decide
  have e16 : ¬ (47 : Int32) = 16 := by decide
  have e17 : ¬ (47 : Int32) = 17 := by decide
  have e18 : ¬ (47 : Int32) = 18 := by decide
  have e19 : ¬ (47 : Int32) = 19 := by decide
  have e20 : ¬ (47 : Int32) = 20 := by decide
  have e21 : ¬ (47 : Int32) = 21 := by decide
  have e22 : ¬ (47 : Int32) = 22 := by decide
  have e23 : ¬ (47 : Int32) = 23 := by decide
  have e24 : ¬ (47 : Int32) = 24 := by decide
  have e25 : ¬ (47 : Int32) = 25 := by decide
  have e26 : ¬ (47 : Int32) = 26 := by decide
  have e27 : ¬ (47 : Int32) = 27 := by decide
  have e28 : ¬ (47 : Int32) = 28 := by decide
  have e29 : ¬ (47 : Int32) = 29 := by decide
  have e30 : ¬ (47 : Int32) = 30 := by decide
  have e31 : ¬ (47 : Int32) = 31 := by decide
  have e32 : ¬ (47 : Int32) = 32 := by decide
  have e33 : ¬ (47 : Int32) = 33 := by decide
  have e34 : ¬ (47 : Int32) = 34 := by decide
  have e35 : ¬ (47 : Int32) = 35 := by decide
  have e36 : ¬ (47 : Int32) = 36 := by decide
  have e37 : ¬ (47 : Int32) = 37 := by decide
  have e38 : ¬ (47 : Int32) = 38 := by decide
  have e39 : ¬ (47 : Int32) = 39 := by decide
  have e40 : ¬ (47 : Int32) = 40 := by decide
  have e41 : ¬ (47 : Int32) = 41 := by decide
  have e42 : ¬ (47 : Int32) = 42 := by decide
  have e43 : ¬ (47 : Int32) = 43 := by decide
  have e44 : ¬ (47 : Int32) = 44 := by decide
  have e45 : ¬ (47 : Int32) = 45 := by decide
  have e46 : ¬ (47 : Int32) = 46 := by decide
  have p6 : nI i + 6 = nI (i + 6) := nI_pk rfl
  simp only [lwL, kL_law_18, kL_law_1395, kL_law_1562, x_no, x_cst, x_ldI, x_ldJ, x_ldA, x_stI, x_stJ, x_stA, x_inc, x_bin, x_un, x_i2l, x_bnJ, x_lshl, x_lcmp, x_dup, x_dp2, x_gI, x_gJ, x_gA, x_pI, x_pZ, x_pJ, x_pA, x_c0, x_c2, x_sw, x_cV, x_cS, x_rV, x_rI, x_rZ, x_rJ, x_mm, x_pop, msel, mpl, mvr, mnw, List.getElem?_cons_zero, List.getElem?_cons_succ, List.set_cons_zero, List.set_cons_succ, List.length_cons, List.length_nil, List.drop_succ_cons, List.drop_zero, List.take_succ_cons, List.take_zero, List.reverse_cons, List.reverse_nil, List.nil_append, List.cons_append, List.append_nil, List.map_cons, List.map_nil, List.sum_cons, List.sum_nil, Option.toList_some, Option.toList_none, x_bs, Value.category, decide_eq_true_eq, decide_true, decide_false, if_true, if_false, Bool.false_eq_true, and_self, and_true, true_and, true_or, or_true, not_true_eq_false, not_false_eq_true, ↓reduceIte, reduceCtorEq, Nat.reduceEqDiff, Nat.reduceAdd, Nat.reduceSub, Nat.reduceMul, Nat.reduceLT, Nat.reduceLeDiff, Nat.reduceBEq, Nat.le_refl, Nat.zero_le, Nat.lt_irrefl, beq_self_eq_true, Nat.succ_ne_zero, Option.some.injEq, Prod.mk.injEq, Int32.reduceLT, Int32.reduceLE, y_60, rt_60_0, rt_60_1, rt_60_11, rt_60_12, rt_60_13, rt_60_14, rt_60_15, rt_60_16, rt_60_17, rt_60_18, rt_60_19, rt_60_20, rt_60_21, rt_60_22, rt_60_23, rt_60_24, rt_60_25, rt_60_26, rt_60_27, rt_60_28, rt_60_29, rt_60_30, rt_60_39, rt_60_41, rt_60_42, rt_60_45, rt_60_46, rt_60_47, rt_60_49, rt_60_50, rt_60_51, rt_60_52, rt_60_53, rt_60_54, rt_60_55, rt_60_56, rt_60_59, rt_60_61, rt_60_62, al_63, as_63, al_64, as_64, al_65, as_65, al_66, as_66, al_67, as_67, al_68, as_68, al_69, as_69, al_70, as_70, al_71, as_71, al_72, as_72, al_73, as_73, al_74, as_74, al_75, as_75, al_76, as_76, al_78, as_78, al_79, as_79, al_80, as_80, al_81, as_81, al_82, as_82, al_83, as_83, al_84, as_84, al_85, as_85, al_86, as_86, al_87, as_87, al_88, as_88, al_89, as_89, al_90, as_90, al_91, as_91, al_92, as_92, al_93, as_93, al_94, as_94, al_95, as_95, al_96, as_96, al_97, as_97, al_98, as_98, al_61, as_61, al_62, as_62, al_99, as_99, al_82_0, as_82_0, al_83_32, as_83_32, al_83_33, as_83_33, ad0, ad8, ad16, ad24, ad_0, mu2, mu8, mu34, nI_add, nI_1, uI_mm, dvN, dvM, y_0, y_60, x_slnN, c6, hx, p6, s0, s1, p1, e0, e1, e2, e3, e4, e5, e6, e7, e8, e9, e10, e11, e12, e13, e14, e15, e16, e17, e18, e19, e20, e21, e22, e23, e24, e25, e26, e27, e28, e29, e30, e31, e32, e33, e34, e35, e36, e37, e38, e39, e40, e41, e42, e43, e44, e45, e46, k1, k2]
set_option maxHeartbeats 4000000 in
theorem lw_48 (hn : 2000 < n) (hN : N ≤ 3072) (hi : i + 6 ≤ N) (hx : xs i &&& 63 = 48) (hc : RC I A) (hm : RM I b A) : ∃ I2 J2 f2 b2 A2, (∀ r : mK, kL_law_18 n xs N r (lwL i) [] (mm I J f) = r (lwL (i + 6)) [] (mm I2 J2 f2)) ∧ RC I2 A2 ∧ RM I2 b2 A2 := by
  obtain ⟨v, I1, J1, f1, I2, J2, f2, b2, A2, k1, k2, k3, k4⟩ := uq_fits (n := n) hn (xs (i + 1)) I J f b A hc hm
  refine ⟨I2, J2, f2, b2, A2, fun r => ?_, k3, k4⟩
  have c6 : ¬ nI N - 6 < nI i := fun z => by have := (sub6 hN (by omega)).mp z; omega
  have s0 := fun (k : mK) (L : List (Option Value)) (S : List Value) (μ : mM) => x_salN xs N k L S μ (j := i) (by omega) (by omega)
  have p1 : nI i + 1 = nI (i + 1) := nI_pk rfl
  have s1 := fun (k : mK) (L : List (Option Value)) (S : List Value) (μ : mM) => x_salN xs N k L S μ (j := i + 1) (by omega) (by omega)
  have e0 : ¬ (48 : Int32) = 0 := by decide
  have e1 : ¬ (48 : Int32) = 1 := by decide
  have e2 : ¬ (48 : Int32) = 2 := by decide
  have e3 : ¬ (48 : Int32) = 3 := by decide
  have e4 : ¬ (48 : Int32) = 4 := by decide
  have e5 : ¬ (48 : Int32) = 5 := by decide
  have e6 : ¬ (48 : Int32) = 6 := by decide
  have e7 : ¬ (48 : Int32) = 7 := by decide
  have e8 : ¬ (48 : Int32) = 8 := by decide
  have e9 : ¬ (48 : Int32) = 9 := by decide
  have e10 : ¬ (48 : Int32) = 10 := by decide
  have e11 : ¬ (48 : Int32) = 11 := by decide
  have e12 : ¬ (48 : Int32) = 12 := by decide
  have e13 : ¬ (48 : Int32) = 13 := by decide
  have e14 : ¬ (48 : Int32) = 14 := by decide
  have e15 : ¬ (48 : Int32) = 15 := by decide
  have e16 : ¬ (48 : Int32) = 16 := by decide
  have e17 : ¬ (48 : Int32) = 17 := by decide
  have e18 : ¬ (48 : Int32) = 18 := by decide
  have e19 : ¬ (48 : Int32) = 19 := by decide
  have e20 : ¬ (48 : Int32) = 20 := by decide
  have e21 : ¬ (48 : Int32) = 21 := by decide
  have e22 : ¬ (48 : Int32) = 22 := by decide
  have e23 : ¬ (48 : Int32) = 23 := by decide
  have e24 : ¬ (48 : Int32) = 24 := by decide
  have e25 : ¬ (48 : Int32) = 25 := by decide
  have e26 : ¬ (48 : Int32) = 26 := by decide
  have e27 : ¬ (48 : Int32) = 27 := by decide
  have e28 : ¬ (48 : Int32) = 28 := by decide
  have e29 : ¬ (48 : Int32) = 29 := by decide
  have e30 : ¬ (48 : Int32) = 30 := by decide
  have e31 : ¬ (48 : Int32) = 31 := by decide
  have e32 : ¬ (48 : Int32) = 32 := by decide
  have e33 : ¬ (48 : Int32) = 33 := by decide
  have e34 : ¬ (48 : Int32) = 34 := by decide
  have e35 : ¬ (48 : Int32) = 35 := by decide
  have e36 : ¬ (48 : Int32) = 36 := by decide
  have e37 : ¬ (48 : Int32) = 37 := by decide
  have e38 : ¬ (48 : Int32) = 38 := by decide
  have e39 : ¬ (48 : Int32) = 39 := by decide
  have e40 : ¬ (48 : Int32) = 40 := by decide
  have e41 : ¬ (48 : Int32) = 41 := by decide
  have e42 : ¬ (48 : Int32) = 42 := by decide
  have e43 : ¬ (48 : Int32) = 43 := by decide
  have e44 : ¬ (48 : Int32) = 44 := by decide
  have e45 : ¬ (48 : Int32) = 45 := by decide
  have e46 : ¬ (48 : Int32) = 46 := by decide
  have e47 : ¬ (48 : Int32) = 47 := by decide
  have p6 : nI i + 6 = nI (i + 6) := nI_pk rfl
  simp only [lwL, kL_law_18, kL_law_1418, kL_law_1562, x_no, x_cst, x_ldI, x_ldJ, x_ldA, x_stI, x_stJ, x_stA, x_inc, x_bin, x_un, x_i2l, x_bnJ, x_lshl, x_lcmp, x_dup, x_dp2, x_gI, x_gJ, x_gA, x_pI, x_pZ, x_pJ, x_pA, x_c0, x_c2, x_sw, x_cV, x_cS, x_rV, x_rI, x_rZ, x_rJ, x_mm, x_pop, msel, mpl, mvr, mnw, List.getElem?_cons_zero, List.getElem?_cons_succ, List.set_cons_zero, List.set_cons_succ, List.length_cons, List.length_nil, List.drop_succ_cons, List.drop_zero, List.take_succ_cons, List.take_zero, List.reverse_cons, List.reverse_nil, List.nil_append, List.cons_append, List.append_nil, List.map_cons, List.map_nil, List.sum_cons, List.sum_nil, Option.toList_some, Option.toList_none, x_bs, Value.category, decide_eq_true_eq, decide_true, decide_false, if_true, if_false, Bool.false_eq_true, and_self, and_true, true_and, true_or, or_true, not_true_eq_false, not_false_eq_true, ↓reduceIte, reduceCtorEq, Nat.reduceEqDiff, Nat.reduceAdd, Nat.reduceSub, Nat.reduceMul, Nat.reduceLT, Nat.reduceLeDiff, Nat.reduceBEq, Nat.le_refl, Nat.zero_le, Nat.lt_irrefl, beq_self_eq_true, Nat.succ_ne_zero, Option.some.injEq, Prod.mk.injEq, Int32.reduceLT, Int32.reduceLE, y_60, rt_60_0, rt_60_1, rt_60_11, rt_60_12, rt_60_13, rt_60_14, rt_60_15, rt_60_16, rt_60_17, rt_60_18, rt_60_19, rt_60_20, rt_60_21, rt_60_22, rt_60_23, rt_60_24, rt_60_25, rt_60_26, rt_60_27, rt_60_28, rt_60_29, rt_60_30, rt_60_39, rt_60_41, rt_60_42, rt_60_45, rt_60_46, rt_60_47, rt_60_49, rt_60_50, rt_60_51, rt_60_52, rt_60_53, rt_60_54, rt_60_55, rt_60_56, rt_60_59, rt_60_61, rt_60_62, al_63, as_63, al_64, as_64, al_65, as_65, al_66, as_66, al_67, as_67, al_68, as_68, al_69, as_69, al_70, as_70, al_71, as_71, al_72, as_72, al_73, as_73, al_74, as_74, al_75, as_75, al_76, as_76, al_78, as_78, al_79, as_79, al_80, as_80, al_81, as_81, al_82, as_82, al_83, as_83, al_84, as_84, al_85, as_85, al_86, as_86, al_87, as_87, al_88, as_88, al_89, as_89, al_90, as_90, al_91, as_91, al_92, as_92, al_93, as_93, al_94, as_94, al_95, as_95, al_96, as_96, al_97, as_97, al_98, as_98, al_61, as_61, al_62, as_62, al_99, as_99, al_82_0, as_82_0, al_83_32, as_83_32, al_83_33, as_83_33, ad0, ad8, ad16, ad24, ad_0, mu2, mu8, mu34, nI_add, nI_1, uI_mm, dvN, dvM, y_0, y_60, x_slnN, c6, hx, p6, s0, s1, p1, e0, e1, e2, e3, e4, e5, e6, e7, e8, e9, e10, e11, e12, e13, e14, e15, e16, e17, e18, e19, e20, e21, e22, e23, e24, e25, e26, e27, e28, e29, e30, e31, e32, e33, e34, e35, e36, e37, e38, e39, e40, e41, e42, e43, e44, e45, e46, e47, k1, k2]
set_option maxHeartbeats 4000000 in
theorem lw_49 (hn : 2000 < n) (hN : N ≤ 3072) (hi : i + 6 ≤ N) (hx : xs i &&& 63 = 49) (hc : RC I A) (hm : RM I b A) : ∃ I2 J2 f2 b2 A2, (∀ r : mK, kL_law_18 n xs N r (lwL i) [] (mm I J f) = r (lwL (i + 6)) [] (mm I2 J2 f2)) ∧ RC I2 A2 ∧ RM I2 b2 A2 := by
  obtain ⟨v, I1, J1, f1, I2, J2, f2, b2, A2, k1, k2, k3, k4⟩ := uq_sure (n := n) hn (xs (i + 1)) (xs (i + 2)) I J f b A hc hm
  refine ⟨I2, J2, f2, b2, A2, fun r => ?_, k3, k4⟩
  have c6 : ¬ nI N - 6 < nI i := fun z => by have := (sub6 hN (by omega)).mp z; omega
  have s0 := fun (k : mK) (L : List (Option Value)) (S : List Value) (μ : mM) => x_salN xs N k L S μ (j := i) (by omega) (by omega)
  have p1 : nI i + 1 = nI (i + 1) := nI_pk rfl
  have s1 := fun (k : mK) (L : List (Option Value)) (S : List Value) (μ : mM) => x_salN xs N k L S μ (j := i + 1) (by omega) (by omega)
  have p2 : nI i + 2 = nI (i + 2) := nI_pk rfl
  have s2 := fun (k : mK) (L : List (Option Value)) (S : List Value) (μ : mM) => x_salN xs N k L S μ (j := i + 2) (by omega) (by omega)
  have e0 : ¬ (49 : Int32) = 0 := by decide
  have e1 : ¬ (49 : Int32) = 1 := by decide
  have e2 : ¬ (49 : Int32) = 2 := by decide
  have e3 : ¬ (49 : Int32) = 3 := by decide
  have e4 : ¬ (49 : Int32) = 4 := by decide
  have e5 : ¬ (49 : Int32) = 5 := by decide
  have e6 : ¬ (49 : Int32) = 6 := by decide
  have e7 : ¬ (49 : Int32) = 7 := by decide
  have e8 : ¬ (49 : Int32) = 8 := by decide
  have e9 : ¬ (49 : Int32) = 9 := by decide
  have e10 : ¬ (49 : Int32) = 10 := by decide
  have e11 : ¬ (49 : Int32) = 11 := by decide
  have e12 : ¬ (49 : Int32) = 12 := by decide
  have e13 : ¬ (49 : Int32) = 13 := by decide
  have e14 : ¬ (49 : Int32) = 14 := by decide
  have e15 : ¬ (49 : Int32) = 15 := by decide
  have e16 : ¬ (49 : Int32) = 16 := by decide
  have e17 : ¬ (49 : Int32) = 17 := by decide
  have e18 : ¬ (49 : Int32) = 18 := by decide
  have e19 : ¬ (49 : Int32) = 19 := by decide
  have e20 : ¬ (49 : Int32) = 20 := by decide
  have e21 : ¬ (49 : Int32) = 21 := by decide
  have e22 : ¬ (49 : Int32) = 22 := by decide
  have e23 : ¬ (49 : Int32) = 23 := by decide
  have e24 : ¬ (49 : Int32) = 24 := by decide
  have e25 : ¬ (49 : Int32) = 25 := by decide
  have e26 : ¬ (49 : Int32) = 26 := by decide
  have e27 : ¬ (49 : Int32) = 27 := by decide
  have e28 : ¬ (49 : Int32) = 28 := by decide
  have e29 : ¬ (49 : Int32) = 29 := by decide
  have e30 : ¬ (49 : Int32) = 30 := by decide
  have e31 : ¬ (49 : Int32) = 31 := by decide
  have e32 : ¬ (49 : Int32) = 32 := by decide
  have e33 : ¬ (49 : Int32) = 33 := by decide
  have e34 : ¬ (49 : Int32) = 34 := by decide
  have e35 : ¬ (49 : Int32) = 35 := by decide
  have e36 : ¬ (49 : Int32) = 36 := by decide
  have e37 : ¬ (49 : Int32) = 37 := by decide
  have e38 : ¬ (49 : Int32) = 38 := by decide
  have e39 : ¬ (49 : Int32) = 39 := by decide
  have e40 : ¬ (49 : Int32) = 40 := by decide
  have e41 : ¬ (49 : Int32) = 41 := by decide
  have e42 : ¬ (49 : Int32) = 42 := by decide
  have e43 : ¬ (49 : Int32) = 43 := by decide
  have e44 : ¬ (49 : Int32) = 44 := by decide
  have e45 : ¬ (49 : Int32) = 45 := by decide
  have e46 : ¬ (49 : Int32) = 46 := by decide
  have e47 : ¬ (49 : Int32) = 47 := by decide
  have e48 : ¬ (49 : Int32) = 48 := by decide
  have p6 : nI i + 6 = nI (i + 6) := nI_pk rfl
  simp only [lwL, kL_law_18, kL_law_1441, kL_law_1562, x_no, x_cst, x_ldI, x_ldJ, x_ldA, x_stI, x_stJ, x_stA, x_inc, x_bin, x_un, x_i2l, x_bnJ, x_lshl, x_lcmp, x_dup, x_dp2, x_gI, x_gJ, x_gA, x_pI, x_pZ, x_pJ, x_pA, x_c0, x_c2, x_sw, x_cV, x_cS, x_rV, x_rI, x_rZ, x_rJ, x_mm, x_pop, msel, mpl, mvr, mnw, List.getElem?_cons_zero, List.getElem?_cons_succ, List.set_cons_zero, List.set_cons_succ, List.length_cons, List.length_nil, List.drop_succ_cons, List.drop_zero, List.take_succ_cons, List.take_zero, List.reverse_cons, List.reverse_nil, List.nil_append, List.cons_append, List.append_nil, List.map_cons, List.map_nil, List.sum_cons, List.sum_nil, Option.toList_some, Option.toList_none, x_bs, Value.category, decide_eq_true_eq, decide_true, decide_false, if_true, if_false, Bool.false_eq_true, and_self, and_true, true_and, true_or, or_true, not_true_eq_false, not_false_eq_true, ↓reduceIte, reduceCtorEq, Nat.reduceEqDiff, Nat.reduceAdd, Nat.reduceSub, Nat.reduceMul, Nat.reduceLT, Nat.reduceLeDiff, Nat.reduceBEq, Nat.le_refl, Nat.zero_le, Nat.lt_irrefl, beq_self_eq_true, Nat.succ_ne_zero, Option.some.injEq, Prod.mk.injEq, Int32.reduceLT, Int32.reduceLE, y_60, rt_60_0, rt_60_1, rt_60_11, rt_60_12, rt_60_13, rt_60_14, rt_60_15, rt_60_16, rt_60_17, rt_60_18, rt_60_19, rt_60_20, rt_60_21, rt_60_22, rt_60_23, rt_60_24, rt_60_25, rt_60_26, rt_60_27, rt_60_28, rt_60_29, rt_60_30, rt_60_39, rt_60_41, rt_60_42, rt_60_45, rt_60_46, rt_60_47, rt_60_49, rt_60_50, rt_60_51, rt_60_52, rt_60_53, rt_60_54, rt_60_55, rt_60_56, rt_60_59, rt_60_61, rt_60_62, al_63, as_63, al_64, as_64, al_65, as_65, al_66, as_66, al_67, as_67, al_68, as_68, al_69, as_69, al_70, as_70, al_71, as_71, al_72, as_72, al_73, as_73, al_74, as_74, al_75, as_75, al_76, as_76, al_78, as_78, al_79, as_79, al_80, as_80, al_81, as_81, al_82, as_82, al_83, as_83, al_84, as_84, al_85, as_85, al_86, as_86, al_87, as_87, al_88, as_88, al_89, as_89, al_90, as_90, al_91, as_91, al_92, as_92, al_93, as_93, al_94, as_94, al_95, as_95, al_96, as_96, al_97, as_97, al_98, as_98, al_61, as_61, al_62, as_62, al_99, as_99, al_82_0, as_82_0, al_83_32, as_83_32, al_83_33, as_83_33, ad0, ad8, ad16, ad24, ad_0, mu2, mu8, mu34, nI_add, nI_1, uI_mm, dvN, dvM, y_0, y_60, x_slnN, c6, hx, p6, s0, s1, s2, p1, p2, e0, e1, e2, e3, e4, e5, e6, e7, e8, e9, e10, e11, e12, e13, e14, e15, e16, e17, e18, e19, e20, e21, e22, e23, e24, e25, e26, e27, e28, e29, e30, e31, e32, e33, e34, e35, e36, e37, e38, e39, e40, e41, e42, e43, e44, e45, e46, e47, e48, k1, k2]
set_option maxHeartbeats 4000000 in
theorem lw_50 (hn : 2000 < n) (hN : N ≤ 3072) (hi : i + 6 ≤ N) (hx : xs i &&& 63 = 50) (hc : RC I A) (hm : RM I b A) : ∃ I2 J2 f2 b2 A2, (∀ r : mK, kL_law_18 n xs N r (lwL i) [] (mm I J f) = r (lwL (i + 6)) [] (mm I2 J2 f2)) ∧ RC I2 A2 ∧ RM I2 b2 A2 := by
  obtain ⟨v, I1, J1, f1, I2, J2, f2, b2, A2, k1, k2, k3, k4⟩ := uq_ask (n := n) hn (xs (i + 1)) (xs (i + 2)) I J f b A hc hm
  refine ⟨I2, J2, f2, b2, A2, fun r => ?_, k3, k4⟩
  have c6 : ¬ nI N - 6 < nI i := fun z => by have := (sub6 hN (by omega)).mp z; omega
  have s0 := fun (k : mK) (L : List (Option Value)) (S : List Value) (μ : mM) => x_salN xs N k L S μ (j := i) (by omega) (by omega)
  have p1 : nI i + 1 = nI (i + 1) := nI_pk rfl
  have s1 := fun (k : mK) (L : List (Option Value)) (S : List Value) (μ : mM) => x_salN xs N k L S μ (j := i + 1) (by omega) (by omega)
  have p2 : nI i + 2 = nI (i + 2) := nI_pk rfl
  have s2 := fun (k : mK) (L : List (Option Value)) (S : List Value) (μ : mM) => x_salN xs N k L S μ (j := i + 2) (by omega) (by omega)
  have e0 : ¬ (50 : Int32) = 0 := by decide
  have e1 : ¬ (50 : Int32) = 1 := by decide
  have e2 : ¬ (50 : Int32) = 2 := by decide
  have e3 : ¬ (50 : Int32) = 3 := by decide
  have e4 : ¬ (50 : Int32) = 4 := by decide
  have e5 : ¬ (50 : Int32) = 5 := by decide
  have e6 : ¬ (50 : Int32) = 6 := by decide
  have e7 : ¬ (50 : Int32) = 7 := by decide
  have e8 : ¬ (50 : Int32) = 8 := by decide
  have e9 : ¬ (50 : Int32) = 9 := by decide
  have e10 : ¬ (50 : Int32) = 10 := by decide
  have e11 : ¬ (50 : Int32) = 11 := by decide
  have e12 : ¬ (50 : Int32) = 12 := by decide
  have e13 : ¬ (50 : Int32) = 13 := by decide
  have e14 : ¬ (50 : Int32) = 14 := by decide
  have e15 : ¬ (50 : Int32) = 15 := by decide
  have e16 : ¬ (50 : Int32) = 16 := by decide
  have e17 : ¬ (50 : Int32) = 17 := by decide
  have e18 : ¬ (50 : Int32) = 18 := by decide
  have e19 : ¬ (50 : Int32) = 19 := by decide
  have e20 : ¬ (50 : Int32) = 20 := by decide
  have e21 : ¬ (50 : Int32) = 21 := by decide
  have e22 : ¬ (50 : Int32) = 22 := by decide
  have e23 : ¬ (50 : Int32) = 23 := by decide
  have e24 : ¬ (50 : Int32) = 24 := by decide
  have e25 : ¬ (50 : Int32) = 25 := by decide
  have e26 : ¬ (50 : Int32) = 26 := by decide
  have e27 : ¬ (50 : Int32) = 27 := by decide
  have e28 : ¬ (50 : Int32) = 28 := by decide
  have e29 : ¬ (50 : Int32) = 29 := by decide
  have e30 : ¬ (50 : Int32) = 30 := by decide
  have e31 : ¬ (50 : Int32) = 31 := by decide
  have e32 : ¬ (50 : Int32) = 32 := by decide
  have e33 : ¬ (50 : Int32) = 33 := by decide
  have e34 : ¬ (50 : Int32) = 34 := by decide
  have e35 : ¬ (50 : Int32) = 35 := by decide
  have e36 : ¬ (50 : Int32) = 36 := by decide
  have e37 : ¬ (50 : Int32) = 37 := by decide
  have e38 : ¬ (50 : Int32) = 38 := by decide
  have e39 : ¬ (50 : Int32) = 39 := by decide
  have e40 : ¬ (50 : Int32) = 40 := by decide
  have e41 : ¬ (50 : Int32) = 41 := by decide
  have e42 : ¬ (50 : Int32) = 42 := by decide
  have e43 : ¬ (50 : Int32) = 43 := by decide
  have e44 : ¬ (50 : Int32) = 44 := by decide
  have e45 : ¬ (50 : Int32) = 45 := by decide
  have e46 : ¬ (50 : Int32) = 46 := by decide
  have e47 : ¬ (50 : Int32) = 47 := by decide
  have e48 : ¬ (50 : Int32) = 48 := by decide
  have e49 : ¬ (50 : Int32) = 49 := by decide
  have p6 : nI i + 6 = nI (i + 6) := nI_pk rfl
  simp only [lwL, kL_law_18, kL_law_1474, kL_law_1562, x_no, x_cst, x_ldI, x_ldJ, x_ldA, x_stI, x_stJ, x_stA, x_inc, x_bin, x_un, x_i2l, x_bnJ, x_lshl, x_lcmp, x_dup, x_dp2, x_gI, x_gJ, x_gA, x_pI, x_pZ, x_pJ, x_pA, x_c0, x_c2, x_sw, x_cV, x_cS, x_rV, x_rI, x_rZ, x_rJ, x_mm, x_pop, msel, mpl, mvr, mnw, List.getElem?_cons_zero, List.getElem?_cons_succ, List.set_cons_zero, List.set_cons_succ, List.length_cons, List.length_nil, List.drop_succ_cons, List.drop_zero, List.take_succ_cons, List.take_zero, List.reverse_cons, List.reverse_nil, List.nil_append, List.cons_append, List.append_nil, List.map_cons, List.map_nil, List.sum_cons, List.sum_nil, Option.toList_some, Option.toList_none, x_bs, Value.category, decide_eq_true_eq, decide_true, decide_false, if_true, if_false, Bool.false_eq_true, and_self, and_true, true_and, true_or, or_true, not_true_eq_false, not_false_eq_true, ↓reduceIte, reduceCtorEq, Nat.reduceEqDiff, Nat.reduceAdd, Nat.reduceSub, Nat.reduceMul, Nat.reduceLT, Nat.reduceLeDiff, Nat.reduceBEq, Nat.le_refl, Nat.zero_le, Nat.lt_irrefl, beq_self_eq_true, Nat.succ_ne_zero, Option.some.injEq, Prod.mk.injEq, Int32.reduceLT, Int32.reduceLE, y_60, rt_60_0, rt_60_1, rt_60_11, rt_60_12, rt_60_13, rt_60_14, rt_60_15, rt_60_16, rt_60_17, rt_60_18, rt_60_19, rt_60_20, rt_60_21, rt_60_22, rt_60_23, rt_60_24, rt_60_25, rt_60_26, rt_60_27, rt_60_28, rt_60_29, rt_60_30, rt_60_39, rt_60_41, rt_60_42, rt_60_45, rt_60_46, rt_60_47, rt_60_49, rt_60_50, rt_60_51, rt_60_52, rt_60_53, rt_60_54, rt_60_55, rt_60_56, rt_60_59, rt_60_61, rt_60_62, al_63, as_63, al_64, as_64, al_65, as_65, al_66, as_66, al_67, as_67, al_68, as_68, al_69, as_69, al_70, as_70, al_71, as_71, al_72, as_72, al_73, as_73, al_74, as_74, al_75, as_75, al_76, as_76, al_78, as_78, al_79, as_79, al_80, as_80, al_81, as_81, al_82, as_82, al_83, as_83, al_84, as_84, al_85, as_85, al_86, as_86, al_87, as_87, al_88, as_88, al_89, as_89, al_90, as_90, al_91, as_91, al_92, as_92, al_93, as_93, al_94, as_94, al_95, as_95, al_96, as_96, al_97, as_97, al_98, as_98, al_61, as_61, al_62, as_62, al_99, as_99, al_82_0, as_82_0, al_83_32, as_83_32, al_83_33, as_83_33, ad0, ad8, ad16, ad24, ad_0, mu2, mu8, mu34, nI_add, nI_1, uI_mm, dvN, dvM, y_0, y_60, x_slnN, c6, hx, p6, s0, s1, s2, p1, p2, e0, e1, e2, e3, e4, e5, e6, e7, e8, e9, e10, e11, e12, e13, e14, e15, e16, e17, e18, e19, e20, e21, e22, e23, e24, e25, e26, e27, e28, e29, e30, e31, e32, e33, e34, e35, e36, e37, e38, e39, e40, e41, e42, e43, e44, e45, e46, e47, e48, e49, k1, k2]
set_option maxHeartbeats 4000000 in
theorem lw_51 (hn : 2000 < n) (hN : N ≤ 3072) (hi : i + 6 ≤ N) (hx : xs i &&& 63 = 51) (hc : RC I A) (hm : RM I b A) : ∃ I2 J2 f2 b2 A2, (∀ r : mK, kL_law_18 n xs N r (lwL i) [] (mm I J f) = r (lwL (i + 6)) [] (mm I2 J2 f2)) ∧ RC I2 A2 ∧ RM I2 b2 A2 := by
  obtain ⟨v, I1, J1, f1, I2, J2, f2, b2, A2, k1, k2, k3, k4⟩ := uq_image (n := n) hn (xs (i + 1)) I J f b A hc hm
  refine ⟨I2, J2, f2, b2, A2, fun r => ?_, k3, k4⟩
  have c6 : ¬ nI N - 6 < nI i := fun z => by have := (sub6 hN (by omega)).mp z; omega
  have s0 := fun (k : mK) (L : List (Option Value)) (S : List Value) (μ : mM) => x_salN xs N k L S μ (j := i) (by omega) (by omega)
  have p1 : nI i + 1 = nI (i + 1) := nI_pk rfl
  have s1 := fun (k : mK) (L : List (Option Value)) (S : List Value) (μ : mM) => x_salN xs N k L S μ (j := i + 1) (by omega) (by omega)
  have e0 : ¬ (51 : Int32) = 0 := by decide
  have e1 : ¬ (51 : Int32) = 1 := by decide
  have e2 : ¬ (51 : Int32) = 2 := by decide
  have e3 : ¬ (51 : Int32) = 3 := by decide
  have e4 : ¬ (51 : Int32) = 4 := by decide
  have e5 : ¬ (51 : Int32) = 5 := by decide
  have e6 : ¬ (51 : Int32) = 6 := by decide
  have e7 : ¬ (51 : Int32) = 7 := by decide
  have e8 : ¬ (51 : Int32) = 8 := by decide
  have e9 : ¬ (51 : Int32) = 9 := by decide
  have e10 : ¬ (51 : Int32) = 10 := by decide
  have e11 : ¬ (51 : Int32) = 11 := by decide
  have e12 : ¬ (51 : Int32) = 12 := by decide
  have e13 : ¬ (51 : Int32) = 13 := by decide
  have e14 : ¬ (51 : Int32) = 14 := by decide
  have e15 : ¬ (51 : Int32) = 15 := by decide
  have e16 : ¬ (51 : Int32) = 16 := by decide
  have e17 : ¬ (51 : Int32) = 17 := by decide
  have e18 : ¬ (51 : Int32) = 18 := by decide
  have e19 : ¬ (51 : Int32) = 19 := by decide
  have e20 : ¬ (51 : Int32) = 20 := by decide
  have e21 : ¬ (51 : Int32) = 21 := by decide
  have e22 : ¬ (51 : Int32) = 22 := by decide
  have e23 : ¬ (51 : Int32) = 23 := by decide
  have e24 : ¬ (51 : Int32) = 24 := by decide
  have e25 : ¬ (51 : Int32) = 25 := by decide
  have e26 : ¬ (51 : Int32) = 26 := by decide
  have e27 : ¬ (51 : Int32) = 27 := by decide
  have e28 : ¬ (51 : Int32) = 28 := by decide
  have e29 : ¬ (51 : Int32) = 29 := by decide
  have e30 : ¬ (51 : Int32) = 30 := by decide
  have e31 : ¬ (51 : Int32) = 31 := by decide
  have e32 : ¬ (51 : Int32) = 32 := by decide
  have e33 : ¬ (51 : Int32) = 33 := by decide
  have e34 : ¬ (51 : Int32) = 34 := by decide
  have e35 : ¬ (51 : Int32) = 35 := by decide
  have e36 : ¬ (51 : Int32) = 36 := by decide
  have e37 : ¬ (51 : Int32) = 37 := by decide
  have e38 : ¬ (51 : Int32) = 38 := by decide
  have e39 : ¬ (51 : Int32) = 39 := by decide
  have e40 : ¬ (51 : Int32) = 40 := by decide
  have e41 : ¬ (51 : Int32) = 41 := by decide
  have e42 : ¬ (51 : Int32) = 42 := by decide
  have e43 : ¬ (51 : Int32) = 43 := by decide
  have e44 : ¬ (51 : Int32) = 44 := by decide
  have e45 : ¬ (51 : Int32) = 45 := by decide
  have e46 : ¬ (51 : Int32) = 46 := by decide
  have e47 : ¬ (51 : Int32) = 47 := by decide
  have e48 : ¬ (51 : Int32) = 48 := by decide
  have e49 : ¬ (51 : Int32) = 49 := by decide
  have e50 : ¬ (51 : Int32) = 50 := by decide
  have p6 : nI i + 6 = nI (i + 6) := nI_pk rfl
  simp only [lwL, kL_law_18, kL_law_1507, kL_law_1562, x_no, x_cst, x_ldI, x_ldJ, x_ldA, x_stI, x_stJ, x_stA, x_inc, x_bin, x_un, x_i2l, x_bnJ, x_lshl, x_lcmp, x_dup, x_dp2, x_gI, x_gJ, x_gA, x_pI, x_pZ, x_pJ, x_pA, x_c0, x_c2, x_sw, x_cV, x_cS, x_rV, x_rI, x_rZ, x_rJ, x_mm, x_pop, msel, mpl, mvr, mnw, List.getElem?_cons_zero, List.getElem?_cons_succ, List.set_cons_zero, List.set_cons_succ, List.length_cons, List.length_nil, List.drop_succ_cons, List.drop_zero, List.take_succ_cons, List.take_zero, List.reverse_cons, List.reverse_nil, List.nil_append, List.cons_append, List.append_nil, List.map_cons, List.map_nil, List.sum_cons, List.sum_nil, Option.toList_some, Option.toList_none, x_bs, Value.category, decide_eq_true_eq, decide_true, decide_false, if_true, if_false, Bool.false_eq_true, and_self, and_true, true_and, true_or, or_true, not_true_eq_false, not_false_eq_true, ↓reduceIte, reduceCtorEq, Nat.reduceEqDiff, Nat.reduceAdd, Nat.reduceSub, Nat.reduceMul, Nat.reduceLT, Nat.reduceLeDiff, Nat.reduceBEq, Nat.le_refl, Nat.zero_le, Nat.lt_irrefl, beq_self_eq_true, Nat.succ_ne_zero, Option.some.injEq, Prod.mk.injEq, Int32.reduceLT, Int32.reduceLE, y_60, rt_60_0, rt_60_1, rt_60_11, rt_60_12, rt_60_13, rt_60_14, rt_60_15, rt_60_16, rt_60_17, rt_60_18, rt_60_19, rt_60_20, rt_60_21, rt_60_22, rt_60_23, rt_60_24, rt_60_25, rt_60_26, rt_60_27, rt_60_28, rt_60_29, rt_60_30, rt_60_39, rt_60_41, rt_60_42, rt_60_45, rt_60_46, rt_60_47, rt_60_49, rt_60_50, rt_60_51, rt_60_52, rt_60_53, rt_60_54, rt_60_55, rt_60_56, rt_60_59, rt_60_61, rt_60_62, al_63, as_63, al_64, as_64, al_65, as_65, al_66, as_66, al_67, as_67, al_68, as_68, al_69, as_69, al_70, as_70, al_71, as_71, al_72, as_72, al_73, as_73, al_74, as_74, al_75, as_75, al_76, as_76, al_78, as_78, al_79, as_79, al_80, as_80, al_81, as_81, al_82, as_82, al_83, as_83, al_84, as_84, al_85, as_85, al_86, as_86, al_87, as_87, al_88, as_88, al_89, as_89, al_90, as_90, al_91, as_91, al_92, as_92, al_93, as_93, al_94, as_94, al_95, as_95, al_96, as_96, al_97, as_97, al_98, as_98, al_61, as_61, al_62, as_62, al_99, as_99, al_82_0, as_82_0, al_83_32, as_83_32, al_83_33, as_83_33, ad0, ad8, ad16, ad24, ad_0, mu2, mu8, mu34, nI_add, nI_1, uI_mm, dvN, dvM, y_0, y_60, x_slnN, c6, hx, p6, s0, s1, p1, e0, e1, e2, e3, e4, e5, e6, e7, e8, e9, e10, e11, e12, e13, e14, e15, e16, e17, e18, e19, e20, e21, e22, e23, e24, e25, e26, e27, e28, e29, e30, e31, e32, e33, e34, e35, e36, e37, e38, e39, e40, e41, e42, e43, e44, e45, e46, e47, e48, e49, e50, k1, k2]
set_option maxHeartbeats 4000000 in
theorem lw_52 (hn : 2000 < n) (hN : N ≤ 3072) (hi : i + 6 ≤ N) (hx : xs i &&& 63 = 52) (hc : RC I A) (hm : RM I b A) : ∃ I2 J2 f2 b2 A2, (∀ r : mK, kL_law_18 n xs N r (lwL i) [] (mm I J f) = r (lwL (i + 6)) [] (mm I2 J2 f2)) ∧ RC I2 A2 ∧ RM I2 b2 A2 := by
  obtain ⟨v, I1, J1, f1, I2, J2, f2, b2, A2, k1, k2, k3, k4⟩ := uq_back (n := n) hn (xs (i + 1)) I J f b A hc hm
  refine ⟨I2, J2, f2, b2, A2, fun r => ?_, k3, k4⟩
  have c6 : ¬ nI N - 6 < nI i := fun z => by have := (sub6 hN (by omega)).mp z; omega
  have s0 := fun (k : mK) (L : List (Option Value)) (S : List Value) (μ : mM) => x_salN xs N k L S μ (j := i) (by omega) (by omega)
  have p1 : nI i + 1 = nI (i + 1) := nI_pk rfl
  have s1 := fun (k : mK) (L : List (Option Value)) (S : List Value) (μ : mM) => x_salN xs N k L S μ (j := i + 1) (by omega) (by omega)
  have e0 : ¬ (52 : Int32) = 0 := by decide
  have e1 : ¬ (52 : Int32) = 1 := by decide
  have e2 : ¬ (52 : Int32) = 2 := by decide
  have e3 : ¬ (52 : Int32) = 3 := by decide
  have e4 : ¬ (52 : Int32) = 4 := by decide
  have e5 : ¬ (52 : Int32) = 5 := by decide
  have e6 : ¬ (52 : Int32) = 6 := by decide
  have e7 : ¬ (52 : Int32) = 7 := by decide
  have e8 : ¬ (52 : Int32) = 8 := by decide
  have e9 : ¬ (52 : Int32) = 9 := by decide
  have e10 : ¬ (52 : Int32) = 10 := by decide
  have e11 : ¬ (52 : Int32) = 11 := by decide
  have e12 : ¬ (52 : Int32) = 12 := by decide
  have e13 : ¬ (52 : Int32) = 13 := by decide
  have e14 : ¬ (52 : Int32) = 14 := by decide
  have e15 : ¬ (52 : Int32) = 15 := by decide
  have e16 : ¬ (52 : Int32) = 16 := by decide
  have e17 : ¬ (52 : Int32) = 17 := by decide
  have e18 : ¬ (52 : Int32) = 18 := by decide
  have e19 : ¬ (52 : Int32) = 19 := by decide
  have e20 : ¬ (52 : Int32) = 20 := by decide
  have e21 : ¬ (52 : Int32) = 21 := by decide
  have e22 : ¬ (52 : Int32) = 22 := by decide
  have e23 : ¬ (52 : Int32) = 23 := by decide
  have e24 : ¬ (52 : Int32) = 24 := by decide
  have e25 : ¬ (52 : Int32) = 25 := by decide
  have e26 : ¬ (52 : Int32) = 26 := by decide
  have e27 : ¬ (52 : Int32) = 27 := by decide
  have e28 : ¬ (52 : Int32) = 28 := by decide
  have e29 : ¬ (52 : Int32) = 29 := by decide
  have e30 : ¬ (52 : Int32) = 30 := by decide
  have e31 : ¬ (52 : Int32) = 31 := by decide
  have e32 : ¬ (52 : Int32) = 32 := by decide
  have e33 : ¬ (52 : Int32) = 33 := by decide
  have e34 : ¬ (52 : Int32) = 34 := by decide
  have e35 : ¬ (52 : Int32) = 35 := by decide
  have e36 : ¬ (52 : Int32) = 36 := by decide
  have e37 : ¬ (52 : Int32) = 37 := by decide
  have e38 : ¬ (52 : Int32) = 38 := by decide
  have e39 : ¬ (52 : Int32) = 39 := by decide
  have e40 : ¬ (52 : Int32) = 40 := by decide
  have e41 : ¬ (52 : Int32) = 41 := by decide
  have e42 : ¬ (52 : Int32) = 42 := by decide
  have e43 : ¬ (52 : Int32) = 43 := by decide
  have e44 : ¬ (52 : Int32) = 44 := by decide
  have e45 : ¬ (52 : Int32) = 45 := by decide
  have e46 : ¬ (52 : Int32) = 46 := by decide
  have e47 : ¬ (52 : Int32) = 47 := by decide
  have e48 : ¬ (52 : Int32) = 48 := by decide
  have e49 : ¬ (52 : Int32) = 49 := by decide
  have e50 : ¬ (52 : Int32) = 50 := by decide
  have e51 : ¬ (52 : Int32) = 51 := by decide
  have p6 : nI i + 6 = nI (i + 6) := nI_pk rfl
  simp only [lwL, kL_law_18, kL_law_1530, kL_law_1562, x_no, x_cst, x_ldI, x_ldJ, x_ldA, x_stI, x_stJ, x_stA, x_inc, x_bin, x_un, x_i2l, x_bnJ, x_lshl, x_lcmp, x_dup, x_dp2, x_gI, x_gJ, x_gA, x_pI, x_pZ, x_pJ, x_pA, x_c0, x_c2, x_sw, x_cV, x_cS, x_rV, x_rI, x_rZ, x_rJ, x_mm, x_pop, msel, mpl, mvr, mnw, List.getElem?_cons_zero, List.getElem?_cons_succ, List.set_cons_zero, List.set_cons_succ, List.length_cons, List.length_nil, List.drop_succ_cons, List.drop_zero, List.take_succ_cons, List.take_zero, List.reverse_cons, List.reverse_nil, List.nil_append, List.cons_append, List.append_nil, List.map_cons, List.map_nil, List.sum_cons, List.sum_nil, Option.toList_some, Option.toList_none, x_bs, Value.category, decide_eq_true_eq, decide_true, decide_false, if_true, if_false, Bool.false_eq_true, and_self, and_true, true_and, true_or, or_true, not_true_eq_false, not_false_eq_true, ↓reduceIte, reduceCtorEq, Nat.reduceEqDiff, Nat.reduceAdd, Nat.reduceSub, Nat.reduceMul, Nat.reduceLT, Nat.reduceLeDiff, Nat.reduceBEq, Nat.le_refl, Nat.zero_le, Nat.lt_irrefl, beq_self_eq_true, Nat.succ_ne_zero, Option.some.injEq, Prod.mk.injEq, Int32.reduceLT, Int32.reduceLE, y_60, rt_60_0, rt_60_1, rt_60_11, rt_60_12, rt_60_13, rt_60_14, rt_60_15, rt_60_16, rt_60_17, rt_60_18, rt_60_19, rt_60_20, rt_60_21, rt_60_22, rt_60_23, rt_60_24, rt_60_25, rt_60_26, rt_60_27, rt_60_28, rt_60_29, rt_60_30, rt_60_39, rt_60_41, rt_60_42, rt_60_45, rt_60_46, rt_60_47, rt_60_49, rt_60_50, rt_60_51, rt_60_52, rt_60_53, rt_60_54, rt_60_55, rt_60_56, rt_60_59, rt_60_61, rt_60_62, al_63, as_63, al_64, as_64, al_65, as_65, al_66, as_66, al_67, as_67, al_68, as_68, al_69, as_69, al_70, as_70, al_71, as_71, al_72, as_72, al_73, as_73, al_74, as_74, al_75, as_75, al_76, as_76, al_78, as_78, al_79, as_79, al_80, as_80, al_81, as_81, al_82, as_82, al_83, as_83, al_84, as_84, al_85, as_85, al_86, as_86, al_87, as_87, al_88, as_88, al_89, as_89, al_90, as_90, al_91, as_91, al_92, as_92, al_93, as_93, al_94, as_94, al_95, as_95, al_96, as_96, al_97, as_97, al_98, as_98, al_61, as_61, al_62, as_62, al_99, as_99, al_82_0, as_82_0, al_83_32, as_83_32, al_83_33, as_83_33, ad0, ad8, ad16, ad24, ad_0, mu2, mu8, mu34, nI_add, nI_1, uI_mm, dvN, dvM, y_0, y_60, x_slnN, c6, hx, p6, s0, s1, p1, e0, e1, e2, e3, e4, e5, e6, e7, e8, e9, e10, e11, e12, e13, e14, e15, e16, e17, e18, e19, e20, e21, e22, e23, e24, e25, e26, e27, e28, e29, e30, e31, e32, e33, e34, e35, e36, e37, e38, e39, e40, e41, e42, e43, e44, e45, e46, e47, e48, e49, e50, e51, k1, k2]
set_option maxHeartbeats 4000000 in
theorem lw_53 (hn : 2000 < n) (hN : N ≤ 3072) (hi : i + 6 ≤ N) (hx : xs i &&& 63 = 53) (hc : RC I A) (hm : RM I b A) : ∃ I2 J2 f2 b2 A2, (∀ r : mK, kL_law_18 n xs N r (lwL i) [] (mm I J f) = r (lwL (i + 6)) [] (mm I2 J2 f2)) ∧ RC I2 A2 ∧ RM I2 b2 A2 := by
  obtain ⟨v, I1, J1, f1, I2, J2, f2, b2, A2, k1, k2, k3, k4⟩ := uq_about (n := n) hn (xs (i + 1)) I J f b A hc hm
  refine ⟨I2, J2, f2, b2, A2, fun r => ?_, k3, k4⟩
  have c6 : ¬ nI N - 6 < nI i := fun z => by have := (sub6 hN (by omega)).mp z; omega
  have s0 := fun (k : mK) (L : List (Option Value)) (S : List Value) (μ : mM) => x_salN xs N k L S μ (j := i) (by omega) (by omega)
  have p1 : nI i + 1 = nI (i + 1) := nI_pk rfl
  have s1 := fun (k : mK) (L : List (Option Value)) (S : List Value) (μ : mM) => x_salN xs N k L S μ (j := i + 1) (by omega) (by omega)
  have e0 : ¬ (53 : Int32) = 0 := by decide
  have e1 : ¬ (53 : Int32) = 1 := by decide
  have e2 : ¬ (53 : Int32) = 2 := by decide
  have e3 : ¬ (53 : Int32) = 3 := by decide
  have e4 : ¬ (53 : Int32) = 4 := by decide
  have e5 : ¬ (53 : Int32) = 5 := by decide
  have e6 : ¬ (53 : Int32) = 6 := by decide
  have e7 : ¬ (53 : Int32) = 7 := by decide
  have e8 : ¬ (53 : Int32) = 8 := by decide
  have e9 : ¬ (53 : Int32) = 9 := by decide
  have e10 : ¬ (53 : Int32) = 10 := by decide
  have e11 : ¬ (53 : Int32) = 11 := by decide
  have e12 : ¬ (53 : Int32) = 12 := by decide
  have e13 : ¬ (53 : Int32) = 13 := by decide
  have e14 : ¬ (53 : Int32) = 14 := by decide
  have e15 : ¬ (53 : Int32) = 15 := by decide
  have e16 : ¬ (53 : Int32) = 16 := by decide
  have e17 : ¬ (53 : Int32) = 17 := by decide
  have e18 : ¬ (53 : Int32) = 18 := by decide
  have e19 : ¬ (53 : Int32) = 19 := by decide
  have e20 : ¬ (53 : Int32) = 20 := by decide
  have e21 : ¬ (53 : Int32) = 21 := by decide
  have e22 : ¬ (53 : Int32) = 22 := by decide
  have e23 : ¬ (53 : Int32) = 23 := by decide
  have e24 : ¬ (53 : Int32) = 24 := by decide
  have e25 : ¬ (53 : Int32) = 25 := by decide
  have e26 : ¬ (53 : Int32) = 26 := by decide
  have e27 : ¬ (53 : Int32) = 27 := by decide
  have e28 : ¬ (53 : Int32) = 28 := by decide
  have e29 : ¬ (53 : Int32) = 29 := by decide
  have e30 : ¬ (53 : Int32) = 30 := by decide
  have e31 : ¬ (53 : Int32) = 31 := by decide
  have e32 : ¬ (53 : Int32) = 32 := by decide
  have e33 : ¬ (53 : Int32) = 33 := by decide
  have e34 : ¬ (53 : Int32) = 34 := by decide
  have e35 : ¬ (53 : Int32) = 35 := by decide
  have e36 : ¬ (53 : Int32) = 36 := by decide
  have e37 : ¬ (53 : Int32) = 37 := by decide
  have e38 : ¬ (53 : Int32) = 38 := by decide
  have e39 : ¬ (53 : Int32) = 39 := by decide
  have e40 : ¬ (53 : Int32) = 40 := by decide
  have e41 : ¬ (53 : Int32) = 41 := by decide
  have e42 : ¬ (53 : Int32) = 42 := by decide
  have e43 : ¬ (53 : Int32) = 43 := by decide
  have e44 : ¬ (53 : Int32) = 44 := by decide
  have e45 : ¬ (53 : Int32) = 45 := by decide
  have e46 : ¬ (53 : Int32) = 46 := by decide
  have e47 : ¬ (53 : Int32) = 47 := by decide
  have e48 : ¬ (53 : Int32) = 48 := by decide
  have e49 : ¬ (53 : Int32) = 49 := by decide
  have e50 : ¬ (53 : Int32) = 50 := by decide
  have e51 : ¬ (53 : Int32) = 51 := by decide
  have e52 : ¬ (53 : Int32) = 52 := by decide
  have p6 : nI i + 6 = nI (i + 6) := nI_pk rfl
  simp only [lwL, kL_law_18, kL_law_1553, kL_law_1562, x_no, x_cst, x_ldI, x_ldJ, x_ldA, x_stI, x_stJ, x_stA, x_inc, x_bin, x_un, x_i2l, x_bnJ, x_lshl, x_lcmp, x_dup, x_dp2, x_gI, x_gJ, x_gA, x_pI, x_pZ, x_pJ, x_pA, x_c0, x_c2, x_sw, x_cV, x_cS, x_rV, x_rI, x_rZ, x_rJ, x_mm, x_pop, msel, mpl, mvr, mnw, List.getElem?_cons_zero, List.getElem?_cons_succ, List.set_cons_zero, List.set_cons_succ, List.length_cons, List.length_nil, List.drop_succ_cons, List.drop_zero, List.take_succ_cons, List.take_zero, List.reverse_cons, List.reverse_nil, List.nil_append, List.cons_append, List.append_nil, List.map_cons, List.map_nil, List.sum_cons, List.sum_nil, Option.toList_some, Option.toList_none, x_bs, Value.category, decide_eq_true_eq, decide_true, decide_false, if_true, if_false, Bool.false_eq_true, and_self, and_true, true_and, true_or, or_true, not_true_eq_false, not_false_eq_true, ↓reduceIte, reduceCtorEq, Nat.reduceEqDiff, Nat.reduceAdd, Nat.reduceSub, Nat.reduceMul, Nat.reduceLT, Nat.reduceLeDiff, Nat.reduceBEq, Nat.le_refl, Nat.zero_le, Nat.lt_irrefl, beq_self_eq_true, Nat.succ_ne_zero, Option.some.injEq, Prod.mk.injEq, Int32.reduceLT, Int32.reduceLE, y_60, rt_60_0, rt_60_1, rt_60_11, rt_60_12, rt_60_13, rt_60_14, rt_60_15, rt_60_16, rt_60_17, rt_60_18, rt_60_19, rt_60_20, rt_60_21, rt_60_22, rt_60_23, rt_60_24, rt_60_25, rt_60_26, rt_60_27, rt_60_28, rt_60_29, rt_60_30, rt_60_39, rt_60_41, rt_60_42, rt_60_45, rt_60_46, rt_60_47, rt_60_49, rt_60_50, rt_60_51, rt_60_52, rt_60_53, rt_60_54, rt_60_55, rt_60_56, rt_60_59, rt_60_61, rt_60_62, al_63, as_63, al_64, as_64, al_65, as_65, al_66, as_66, al_67, as_67, al_68, as_68, al_69, as_69, al_70, as_70, al_71, as_71, al_72, as_72, al_73, as_73, al_74, as_74, al_75, as_75, al_76, as_76, al_78, as_78, al_79, as_79, al_80, as_80, al_81, as_81, al_82, as_82, al_83, as_83, al_84, as_84, al_85, as_85, al_86, as_86, al_87, as_87, al_88, as_88, al_89, as_89, al_90, as_90, al_91, as_91, al_92, as_92, al_93, as_93, al_94, as_94, al_95, as_95, al_96, as_96, al_97, as_97, al_98, as_98, al_61, as_61, al_62, as_62, al_99, as_99, al_82_0, as_82_0, al_83_32, as_83_32, al_83_33, as_83_33, ad0, ad8, ad16, ad24, ad_0, mu2, mu8, mu34, nI_add, nI_1, uI_mm, dvN, dvM, y_0, y_60, x_slnN, c6, hx, p6, s0, s1, p1, e0, e1, e2, e3, e4, e5, e6, e7, e8, e9, e10, e11, e12, e13, e14, e15, e16, e17, e18, e19, e20, e21, e22, e23, e24, e25, e26, e27, e28, e29, e30, e31, e32, e33, e34, e35, e36, e37, e38, e39, e40, e41, e42, e43, e44, e45, e46, e47, e48, e49, e50, e51, e52, k1, k2]
end Lw36
