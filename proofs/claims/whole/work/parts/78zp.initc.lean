/-! PURE: the class's constructor -/
section InitC
variable {a ci j t N m mc : Nat} {x : Int32} {K : mK} {L : List (Option Value)} {l l' : List OP} {n : Nat}
theorem sh_lt {q : Nat × Nat} (h : shO l a = some q) : a < cN l := by
  rcases Nat.lt_or_ge a (cN l) with g | g
  · exact g
  · rw [sh_len l a g] at h; cases h
theorem shk0 {q : Nat × Nat} {u v w : Nat} (h : shO l a = some q) : shO ((0, u, v, w) :: l) a = some q := by
  have := sh_lt h
  show (if (0 : Nat) = 0 ∧ a = cN l then _ else shO l a) = _
  rw [if_neg (by omega), h]
theorem shk1 {q : Nat × Nat} {u v w : Nat} (h : shO l a = some q) : shO ((1, u, v, w) :: l) a = some q := by
  show (if (1 : Nat) = 0 ∧ a = cN l then _ else shO l a) = _
  rw [if_neg (by omega), h]
theorem shk {q : Nat × Nat} {u v w u' v' w' : Nat} (h : shO l a = some q) : shO ((1, u, v, w) :: (0, u', v', w') :: l) a = some q := shk1 (shk0 h)
theorem cNk {u v w u' v' w' : Nat} (h : cN l = m) : cN ((1, u, v, w) :: (0, u', v', w') :: l) = m + 1 := by
  show cN l + 1 = _; rw [h]
/-- ldA 0, getfield, a call on it -/
theorem Bgc {r j1 c1 : Nat} {F : List Value → mM → Option mR} (h0 : L[0]? = some (some (.ref a))) (hs : shO l a = some (4, ci)) (hr : rdO l a j1 = some r) (hs2 : shO l r = some (4, c1)) (hF : F [.ref r] (Mo l) = some (none, Mo l')) : i_ldA 0 (i_gA ci j1 (i_cV c1 0 F K)) L [] (Mo l) = K L [] (Mo l') := by
  have e : (Mo l).2.2.2[a]? = some (4, ci) := (sh_M l a).trans hs
  have e2 : (Mo l).2.2.2[r]? = some (4, c1) := (sh_M l r).trans hs2
  have er : (Mo l).2.2.1 a j1 = some r := (rd_M l a j1).trans hr
  rw [x_ldA, h0]
  show i_gA ci j1 (i_cV c1 0 F K) L [.ref a] (Mo l) = _
  simp only [x_no, x_cst, x_ldI, x_ldJ, x_ldA, x_stI, x_stJ, x_stA, x_inc, x_bin, x_un, x_i2l, x_bnJ, x_lshl, x_lcmp, x_dup, x_dp2, x_gI, x_gJ, x_gA, x_pI, x_pZ, x_pJ, x_pA, x_c0, x_c2, x_sw, x_cV, x_cS, x_rV, x_rI, x_rZ, x_rJ, x_mm, x_pop, msel, mpl, mvr, mnw, List.getElem?_cons_zero, List.getElem?_cons_succ, List.set_cons_zero, List.set_cons_succ, List.length_cons, List.length_nil, List.drop_succ_cons, List.drop_zero, List.take_succ_cons, List.take_zero, List.reverse_cons, List.reverse_nil, List.nil_append, List.cons_append, List.append_nil, List.map_cons, List.map_nil, List.sum_cons, List.sum_nil, Option.toList_some, Option.toList_none, x_bs, Value.category, decide_eq_true_eq, decide_true, decide_false, if_true, if_false, Bool.false_eq_true, and_self, and_true, true_and, true_or, or_true, not_true_eq_false, not_false_eq_true, ↓reduceIte, reduceCtorEq, Nat.reduceEqDiff, Nat.reduceAdd, Nat.reduceSub, Nat.reduceMul, Nat.reduceLT, Nat.reduceLeDiff, Nat.reduceBEq, Nat.le_refl, Nat.zero_le, Nat.lt_irrefl, beq_self_eq_true, Nat.succ_ne_zero, Option.some.injEq, Prod.mk.injEq, Int32.reduceLT, Int32.reduceLE, y_60, rt_60_0, rt_60_1, rt_60_11, rt_60_12, rt_60_13, rt_60_14, rt_60_15, rt_60_16, rt_60_17, rt_60_18, rt_60_19, rt_60_20, rt_60_21, rt_60_22, rt_60_23, rt_60_24, rt_60_25, rt_60_26, rt_60_27, rt_60_28, rt_60_29, rt_60_30, rt_60_39, rt_60_41, rt_60_42, rt_60_45, rt_60_46, rt_60_47, rt_60_49, rt_60_50, rt_60_51, rt_60_52, rt_60_53, rt_60_54, rt_60_55, rt_60_56, rt_60_59, rt_60_61, rt_60_62, al_63, as_63, al_64, as_64, al_65, as_65, al_66, as_66, al_67, as_67, al_68, as_68, al_69, as_69, al_70, as_70, al_71, as_71, al_72, as_72, al_73, as_73, al_74, as_74, al_75, as_75, al_76, as_76, al_78, as_78, al_79, as_79, al_80, as_80, al_81, as_81, al_82, as_82, al_83, as_83, al_84, as_84, al_85, as_85, al_86, as_86, al_87, as_87, al_88, as_88, al_89, as_89, al_90, as_90, al_91, as_91, al_92, as_92, al_93, as_93, al_94, as_94, al_95, as_95, al_96, as_96, al_97, as_97, al_98, as_98, al_61, as_61, al_62, as_62, al_99, as_99, al_82_0, as_82_0, al_83_32, as_83_32, al_83_33, as_83_33, ad0, ad8, ad16, ad24, ad_0, mu2, mu8, mu34, nI_add, nI_1, uI_mm, dvN, dvM, e, er, e2, hF]
theorem Bcv {F : List Value → mM → Option mR} (h0 : L[0]? = some (some (.ref a))) (hs : shO l a = some (4, ci)) (hF : F [.ref a] (Mo l) = some (none, Mo l')) : i_ldA 0 (i_cV ci 0 F K) L [] (Mo l) = K L [] (Mo l') := by
  have e : (Mo l).2.2.2[a]? = some (4, ci) := (sh_M l a).trans hs
  rw [x_ldA, h0]
  show i_cV ci 0 F K L [.ref a] (Mo l) = _
  simp only [x_no, x_cst, x_ldI, x_ldJ, x_ldA, x_stI, x_stJ, x_stA, x_inc, x_bin, x_un, x_i2l, x_bnJ, x_lshl, x_lcmp, x_dup, x_dp2, x_gI, x_gJ, x_gA, x_pI, x_pZ, x_pJ, x_pA, x_c0, x_c2, x_sw, x_cV, x_cS, x_rV, x_rI, x_rZ, x_rJ, x_mm, x_pop, msel, mpl, mvr, mnw, List.getElem?_cons_zero, List.getElem?_cons_succ, List.set_cons_zero, List.set_cons_succ, List.length_cons, List.length_nil, List.drop_succ_cons, List.drop_zero, List.take_succ_cons, List.take_zero, List.reverse_cons, List.reverse_nil, List.nil_append, List.cons_append, List.append_nil, List.map_cons, List.map_nil, List.sum_cons, List.sum_nil, Option.toList_some, Option.toList_none, x_bs, Value.category, decide_eq_true_eq, decide_true, decide_false, if_true, if_false, Bool.false_eq_true, and_self, and_true, true_and, true_or, or_true, not_true_eq_false, not_false_eq_true, ↓reduceIte, reduceCtorEq, Nat.reduceEqDiff, Nat.reduceAdd, Nat.reduceSub, Nat.reduceMul, Nat.reduceLT, Nat.reduceLeDiff, Nat.reduceBEq, Nat.le_refl, Nat.zero_le, Nat.lt_irrefl, beq_self_eq_true, Nat.succ_ne_zero, Option.some.injEq, Prod.mk.injEq, Int32.reduceLT, Int32.reduceLE, y_60, rt_60_0, rt_60_1, rt_60_11, rt_60_12, rt_60_13, rt_60_14, rt_60_15, rt_60_16, rt_60_17, rt_60_18, rt_60_19, rt_60_20, rt_60_21, rt_60_22, rt_60_23, rt_60_24, rt_60_25, rt_60_26, rt_60_27, rt_60_28, rt_60_29, rt_60_30, rt_60_39, rt_60_41, rt_60_42, rt_60_45, rt_60_46, rt_60_47, rt_60_49, rt_60_50, rt_60_51, rt_60_52, rt_60_53, rt_60_54, rt_60_55, rt_60_56, rt_60_59, rt_60_61, rt_60_62, al_63, as_63, al_64, as_64, al_65, as_65, al_66, as_66, al_67, as_67, al_68, as_68, al_69, as_69, al_70, as_70, al_71, as_71, al_72, as_72, al_73, as_73, al_74, as_74, al_75, as_75, al_76, as_76, al_78, as_78, al_79, as_79, al_80, as_80, al_81, as_81, al_82, as_82, al_83, as_83, al_84, as_84, al_85, as_85, al_86, as_86, al_87, as_87, al_88, as_88, al_89, as_89, al_90, as_90, al_91, as_91, al_92, as_92, al_93, as_93, al_94, as_94, al_95, as_95, al_96, as_96, al_97, as_97, al_98, as_98, al_61, as_61, al_62, as_62, al_99, as_99, al_82_0, as_82_0, al_83_32, as_83_32, al_83_33, as_83_33, ad0, ad8, ad16, ad24, ad_0, mu2, mu8, mu34, nI_add, nI_1, uI_mm, dvN, dvM, e, hF]
/-- ldA 0, new, dup, ldA p, invokespecial with it, putfield -/
theorem Bnl {c p b : Nat} {F : List Value → mM → Option mR} (h0 : L[0]? = some (some (.ref a))) (hp : L[p]? = some (some (.ref b))) (hc : cN l = m) (hF : F [.ref m, .ref b] (Mo ((0, 4, c, 0) :: l)) = some (none, Mo l')) (hm : cN l' = m + 1 + mc) (hs : shO l' a = some (4, ci)) : i_ldA 0 (i_new c (i_dup (i_ldA p (i_cI 1 mc F (i_pA ci j K))))) L [] (Mo l) = K L [] (Mo ((1, a, j, m) :: l')) := by
  have e : (Mo l').2.2.2[a]? = some (4, ci) := (sh_M l' a).trans hs
  have em : mnew (Mo l) (4, c) = Mo ((0, 4, c, 0) :: l) := rfl
  have hcn : cN ((0, 4, c, 0) :: l) = m + 1 := by show cN l + 1 = _; rw [hc]
  have er : uR (Mo l') a j (some m) = Mo ((1, a, j, m) :: l') := rfl
  rw [x_ldA, h0]
  show i_new c (i_dup (i_ldA p (i_cI 1 mc F (i_pA ci j K)))) L [.ref a] (Mo l) = _
  simp only [x_no, x_cst, x_ldI, x_ldJ, x_ldA, x_stI, x_stJ, x_stA, x_inc, x_bin, x_un, x_i2l, x_bnJ, x_lshl, x_lcmp, x_dup, x_dp2, x_gI, x_gJ, x_gA, x_pI, x_pZ, x_pJ, x_pA, x_c0, x_c2, x_sw, x_cV, x_cS, x_rV, x_rI, x_rZ, x_rJ, x_mm, x_pop, msel, mpl, mvr, mnw, List.getElem?_cons_zero, List.getElem?_cons_succ, List.set_cons_zero, List.set_cons_succ, List.length_cons, List.length_nil, List.drop_succ_cons, List.drop_zero, List.take_succ_cons, List.take_zero, List.reverse_cons, List.reverse_nil, List.nil_append, List.cons_append, List.append_nil, List.map_cons, List.map_nil, List.sum_cons, List.sum_nil, Option.toList_some, Option.toList_none, x_bs, Value.category, decide_eq_true_eq, decide_true, decide_false, if_true, if_false, Bool.false_eq_true, and_self, and_true, true_and, true_or, or_true, not_true_eq_false, not_false_eq_true, ↓reduceIte, reduceCtorEq, Nat.reduceEqDiff, Nat.reduceAdd, Nat.reduceSub, Nat.reduceMul, Nat.reduceLT, Nat.reduceLeDiff, Nat.reduceBEq, Nat.le_refl, Nat.zero_le, Nat.lt_irrefl, beq_self_eq_true, Nat.succ_ne_zero, Option.some.injEq, Prod.mk.injEq, Int32.reduceLT, Int32.reduceLE, y_60, rt_60_0, rt_60_1, rt_60_11, rt_60_12, rt_60_13, rt_60_14, rt_60_15, rt_60_16, rt_60_17, rt_60_18, rt_60_19, rt_60_20, rt_60_21, rt_60_22, rt_60_23, rt_60_24, rt_60_25, rt_60_26, rt_60_27, rt_60_28, rt_60_29, rt_60_30, rt_60_39, rt_60_41, rt_60_42, rt_60_45, rt_60_46, rt_60_47, rt_60_49, rt_60_50, rt_60_51, rt_60_52, rt_60_53, rt_60_54, rt_60_55, rt_60_56, rt_60_59, rt_60_61, rt_60_62, al_63, as_63, al_64, as_64, al_65, as_65, al_66, as_66, al_67, as_67, al_68, as_68, al_69, as_69, al_70, as_70, al_71, as_71, al_72, as_72, al_73, as_73, al_74, as_74, al_75, as_75, al_76, as_76, al_78, as_78, al_79, as_79, al_80, as_80, al_81, as_81, al_82, as_82, al_83, as_83, al_84, as_84, al_85, as_85, al_86, as_86, al_87, as_87, al_88, as_88, al_89, as_89, al_90, as_90, al_91, as_91, al_92, as_92, al_93, as_93, al_94, as_94, al_95, as_95, al_96, as_96, al_97, as_97, al_98, as_98, al_61, as_61, al_62, as_62, al_99, as_99, al_82_0, as_82_0, al_83_32, as_83_32, al_83_33, as_83_33, ad0, ad8, ad16, ad24, ad_0, mu2, mu8, mu34, nI_add, nI_1, uI_mm, dvN, dvM, x_new, x_cI, mn_M, hc, em, hp, hF, hcn, hm, e, er]
/-- ldA 0, ldA p, getfield, putfield -/
theorem Bga {c2 j2 p b r : Nat} (h0 : L[0]? = some (some (.ref a))) (hp : L[p]? = some (some (.ref b))) (hs2 : shO l b = some (4, c2)) (hr : rdO l b j2 = some r) (hs : shO l a = some (4, ci)) : i_ldA 0 (i_ldA p (i_gA c2 j2 (i_pA ci j K))) L [] (Mo l) = K L [] (Mo ((1, a, j, r) :: l)) := by
  have e : (Mo l).2.2.2[a]? = some (4, ci) := (sh_M l a).trans hs
  have e2 : (Mo l).2.2.2[b]? = some (4, c2) := (sh_M l b).trans hs2
  have er : (Mo l).2.2.1 b j2 = some r := (rd_M l b j2).trans hr
  have eu : uR (Mo l) a j (some r) = Mo ((1, a, j, r) :: l) := rfl
  rw [x_ldA, h0]
  show i_ldA p (i_gA c2 j2 (i_pA ci j K)) L [.ref a] (Mo l) = _
  rw [x_ldA, hp]
  show i_gA c2 j2 (i_pA ci j K) L [.ref b, .ref a] (Mo l) = _
  simp only [x_no, x_cst, x_ldI, x_ldJ, x_ldA, x_stI, x_stJ, x_stA, x_inc, x_bin, x_un, x_i2l, x_bnJ, x_lshl, x_lcmp, x_dup, x_dp2, x_gI, x_gJ, x_gA, x_pI, x_pZ, x_pJ, x_pA, x_c0, x_c2, x_sw, x_cV, x_cS, x_rV, x_rI, x_rZ, x_rJ, x_mm, x_pop, msel, mpl, mvr, mnw, List.getElem?_cons_zero, List.getElem?_cons_succ, List.set_cons_zero, List.set_cons_succ, List.length_cons, List.length_nil, List.drop_succ_cons, List.drop_zero, List.take_succ_cons, List.take_zero, List.reverse_cons, List.reverse_nil, List.nil_append, List.cons_append, List.append_nil, List.map_cons, List.map_nil, List.sum_cons, List.sum_nil, Option.toList_some, Option.toList_none, x_bs, Value.category, decide_eq_true_eq, decide_true, decide_false, if_true, if_false, Bool.false_eq_true, and_self, and_true, true_and, true_or, or_true, not_true_eq_false, not_false_eq_true, ↓reduceIte, reduceCtorEq, Nat.reduceEqDiff, Nat.reduceAdd, Nat.reduceSub, Nat.reduceMul, Nat.reduceLT, Nat.reduceLeDiff, Nat.reduceBEq, Nat.le_refl, Nat.zero_le, Nat.lt_irrefl, beq_self_eq_true, Nat.succ_ne_zero, Option.some.injEq, Prod.mk.injEq, Int32.reduceLT, Int32.reduceLE, y_60, rt_60_0, rt_60_1, rt_60_11, rt_60_12, rt_60_13, rt_60_14, rt_60_15, rt_60_16, rt_60_17, rt_60_18, rt_60_19, rt_60_20, rt_60_21, rt_60_22, rt_60_23, rt_60_24, rt_60_25, rt_60_26, rt_60_27, rt_60_28, rt_60_29, rt_60_30, rt_60_39, rt_60_41, rt_60_42, rt_60_45, rt_60_46, rt_60_47, rt_60_49, rt_60_50, rt_60_51, rt_60_52, rt_60_53, rt_60_54, rt_60_55, rt_60_56, rt_60_59, rt_60_61, rt_60_62, al_63, as_63, al_64, as_64, al_65, as_65, al_66, as_66, al_67, as_67, al_68, as_68, al_69, as_69, al_70, as_70, al_71, as_71, al_72, as_72, al_73, as_73, al_74, as_74, al_75, as_75, al_76, as_76, al_78, as_78, al_79, as_79, al_80, as_80, al_81, as_81, al_82, as_82, al_83, as_83, al_84, as_84, al_85, as_85, al_86, as_86, al_87, as_87, al_88, as_88, al_89, as_89, al_90, as_90, al_91, as_91, al_92, as_92, al_93, as_93, al_94, as_94, al_95, as_95, al_96, as_96, al_97, as_97, al_98, as_98, al_61, as_61, al_62, as_62, al_99, as_99, al_82_0, as_82_0, al_83_32, as_83_32, al_83_33, as_83_33, ad0, ad8, ad16, ad24, ad_0, mu2, mu8, mu34, nI_add, nI_1, uI_mm, dvN, dvM, e, er, e2, eu]
/-- ldA 0, new, dup, two fields, invokespecial with them, putfield -/
theorem Bn2 {c j1 j2 b1 b2 : Nat} {F : List Value → mM → Option mR} (h0 : L[0]? = some (some (.ref a))) (hc : cN l = m) (hs0 : shO l a = some (4, ci)) (hr1 : rdO ((0, 4, c, 0) :: l) a j1 = some b1) (hr2 : rdO ((0, 4, c, 0) :: l) a j2 = some b2) (hF : F [.ref m, .ref b1, .ref b2] (Mo ((0, 4, c, 0) :: l)) = some (none, Mo l')) (hm : cN l' = m + 1 + mc) (hs : shO l' a = some (4, ci)) : i_ldA 0 (i_new c (i_dup (i_ldA 0 (i_gA ci j1 (i_ldA 0 (i_gA ci j2 (i_cI 2 mc F (i_pA ci j K)))))))) L [] (Mo l) = K L [] (Mo ((1, a, j, m) :: l')) := by
  have e : (Mo l').2.2.2[a]? = some (4, ci) := (sh_M l' a).trans hs
  have e0 : (Mo ((0, 4, c, 0) :: l)).2.2.2[a]? = some (4, ci) := (sh_M _ a).trans (shk0 hs0)
  have r1 : (Mo ((0, 4, c, 0) :: l)).2.2.1 a j1 = some b1 := (rd_M _ a j1).trans hr1
  have r2 : (Mo ((0, 4, c, 0) :: l)).2.2.1 a j2 = some b2 := (rd_M _ a j2).trans hr2
  have em : mnew (Mo l) (4, c) = Mo ((0, 4, c, 0) :: l) := rfl
  have hcn : cN ((0, 4, c, 0) :: l) = m + 1 := by show cN l + 1 = _; rw [hc]
  have er : uR (Mo l') a j (some m) = Mo ((1, a, j, m) :: l') := rfl
  rw [x_ldA, h0]
  show i_new c (i_dup (i_ldA 0 (i_gA ci j1 (i_ldA 0 (i_gA ci j2 (i_cI 2 mc F (i_pA ci j K))))))) L [.ref a] (Mo l) = _
  simp only [x_no, x_cst, x_ldI, x_ldJ, x_ldA, x_stI, x_stJ, x_stA, x_inc, x_bin, x_un, x_i2l, x_bnJ, x_lshl, x_lcmp, x_dup, x_dp2, x_gI, x_gJ, x_gA, x_pI, x_pZ, x_pJ, x_pA, x_c0, x_c2, x_sw, x_cV, x_cS, x_rV, x_rI, x_rZ, x_rJ, x_mm, x_pop, msel, mpl, mvr, mnw, List.getElem?_cons_zero, List.getElem?_cons_succ, List.set_cons_zero, List.set_cons_succ, List.length_cons, List.length_nil, List.drop_succ_cons, List.drop_zero, List.take_succ_cons, List.take_zero, List.reverse_cons, List.reverse_nil, List.nil_append, List.cons_append, List.append_nil, List.map_cons, List.map_nil, List.sum_cons, List.sum_nil, Option.toList_some, Option.toList_none, x_bs, Value.category, decide_eq_true_eq, decide_true, decide_false, if_true, if_false, Bool.false_eq_true, and_self, and_true, true_and, true_or, or_true, not_true_eq_false, not_false_eq_true, ↓reduceIte, reduceCtorEq, Nat.reduceEqDiff, Nat.reduceAdd, Nat.reduceSub, Nat.reduceMul, Nat.reduceLT, Nat.reduceLeDiff, Nat.reduceBEq, Nat.le_refl, Nat.zero_le, Nat.lt_irrefl, beq_self_eq_true, Nat.succ_ne_zero, Option.some.injEq, Prod.mk.injEq, Int32.reduceLT, Int32.reduceLE, y_60, rt_60_0, rt_60_1, rt_60_11, rt_60_12, rt_60_13, rt_60_14, rt_60_15, rt_60_16, rt_60_17, rt_60_18, rt_60_19, rt_60_20, rt_60_21, rt_60_22, rt_60_23, rt_60_24, rt_60_25, rt_60_26, rt_60_27, rt_60_28, rt_60_29, rt_60_30, rt_60_39, rt_60_41, rt_60_42, rt_60_45, rt_60_46, rt_60_47, rt_60_49, rt_60_50, rt_60_51, rt_60_52, rt_60_53, rt_60_54, rt_60_55, rt_60_56, rt_60_59, rt_60_61, rt_60_62, al_63, as_63, al_64, as_64, al_65, as_65, al_66, as_66, al_67, as_67, al_68, as_68, al_69, as_69, al_70, as_70, al_71, as_71, al_72, as_72, al_73, as_73, al_74, as_74, al_75, as_75, al_76, as_76, al_78, as_78, al_79, as_79, al_80, as_80, al_81, as_81, al_82, as_82, al_83, as_83, al_84, as_84, al_85, as_85, al_86, as_86, al_87, as_87, al_88, as_88, al_89, as_89, al_90, as_90, al_91, as_91, al_92, as_92, al_93, as_93, al_94, as_94, al_95, as_95, al_96, as_96, al_97, as_97, al_98, as_98, al_61, as_61, al_62, as_62, al_99, as_99, al_82_0, as_82_0, al_83_32, as_83_32, al_83_33, as_83_33, ad0, ad8, ad16, ad24, ad_0, mu2, mu8, mu34, nI_add, nI_1, uI_mm, dvN, dvM, x_new, x_cI, mn_M, hc, em, h0, e0, r1, r2, hF, hcn, hm, e, er]
theorem iX1 (hc : cN l = m) (hs : shO l a = some (4, 1)) : FX1_init n [.ref a] (Mo l) = some (none, Mo ((1, a, 1, m + 1) :: (0, 0, 32, 0) :: (1, a, 0, m) :: (0, 0, 300, 0) :: l)) := by
  rw [eX1_init]
  refine Bob (a := a) (by rfl) ?_
  refine Eq.trans (Bna (a := a) (by rfl) (by rfl) hc hs) ?_
  refine Eq.trans (Bna (a := a) (by rfl) (by rfl) (cNk hc) (shk hs)) ?_
  exact x_rV _ _
theorem iX9 {b : Nat} (hc : cN l = m) (hs : shO l a = some (4, 9)) : FX9_init n [.ref a, .ref b] (Mo l) = some (none, Mo ((1, a, 0, b) :: (1, a, 2, m + 1) :: (0, 0, 1601, 0) :: (1, a, 1, m) :: (0, 0, 1601, 0) :: l)) := by
  rw [eX9_init]
  refine Bob (a := a) (by rfl) ?_
  refine Eq.trans (Bna (a := a) (by rfl) (by rfl) hc hs) ?_
  refine Eq.trans (Bna (a := a) (by rfl) (by rfl) (cNk hc) (shk hs)) ?_
  refine Eq.trans (Bpa (a := a) (b := b) (by rfl) (by rfl) (shk (shk hs))) ?_
  exact x_rV _ _
theorem iX8 {b : Nat} (hc : cN l = m) (hs : shO l a = some (4, 8)) : FX8_init n [.ref a, .ref b] (Mo l) = some (none, Mo ((1, a, 0, b) :: (1, a, 4, m + 3) :: (0, 0, 8, 0) :: (1, a, 3, m + 2) :: (0, 0, 8, 0) :: (1, a, 2, m + 1) :: (0, 0, 8, 0) :: (1, a, 1, m) :: (0, 0, 8, 0) :: l)) := by
  rw [eX8_init]
  refine Bob (a := a) (by rfl) ?_
  refine Eq.trans (Bna (a := a) (by rfl) (by rfl) hc hs) ?_
  refine Eq.trans (Bna (a := a) (by rfl) (by rfl) (cNk hc) (shk hs)) ?_
  refine Eq.trans (Bna (a := a) (by rfl) (by rfl) (cNk (cNk hc)) (shk (shk hs))) ?_
  refine Eq.trans (Bna (a := a) (by rfl) (by rfl) (cNk (cNk (cNk hc))) (shk (shk (shk hs)))) ?_
  refine Eq.trans (Bpa (a := a) (b := b) (by rfl) (by rfl) (shk (shk (shk (shk hs))))) ?_
  exact x_rV _ _
theorem iX0 {b : Nat} (hc : cN l = m) (hs : shO l a = some (4, 0)) : FX0_init n [.ref a, .ref b] (Mo l) = some (none, Mo ((1, a, 0, b) :: (1, a, 1, m) :: (0, 0, 8, 0) :: l)) := by
  rw [eX0_init]
  refine Bob (a := a) (by rfl) ?_
  refine Eq.trans (Bna (a := a) (by rfl) (by rfl) hc hs) ?_
  refine Eq.trans (Bpa (a := a) (b := b) (by rfl) (by rfl) (shk hs)) ?_
  exact x_rV _ _
theorem iX10 {b : Nat} (hc : cN l = m) (hs : shO l a = some (4, 10)) : FX10_init n [.ref a, .ref b] (Mo l) = some (none, Mo ((1, a, 0, b) :: (1, a, 2, m + 1) :: (0, 0, 64, 0) :: (1, a, 1, m) :: (0, 0, 64, 0) :: l)) := by
  rw [eX10_init]
  refine Bob (a := a) (by rfl) ?_
  refine Eq.trans (Bna (a := a) (by rfl) (by rfl) hc hs) ?_
  refine Eq.trans (Bna (a := a) (by rfl) (by rfl) (cNk hc) (shk hs)) ?_
  refine Eq.trans (Bpa (a := a) (b := b) (by rfl) (by rfl) (shk (shk hs))) ?_
  exact x_rV _ _
theorem iX3 {b : Nat} (hc : cN l = m) (hs : shO l a = some (4, 3)) : FX3_init n [.ref a, .ref b] (Mo l) = some (none, Mo ((1, a, 0, b) :: (1, a, 1, m) :: (0, 0, 1394, 0) :: l)) := by
  rw [eX3_init]
  refine Bob (a := a) (by rfl) ?_
  refine Eq.trans (Bna (a := a) (by rfl) (by rfl) hc hs) ?_
  refine Eq.trans (Bpa (a := a) (b := b) (by rfl) (by rfl) (shk hs)) ?_
  exact x_rV _ _
theorem iX2 {b : Nat} (hc : cN l = m) (hs : shO l a = some (4, 2)) : FX2_init n [.ref a, .ref b] (Mo l) = some (none, Mo ((1, a, 0, b) :: (1, a, 10, m + 6) :: (0, 0, 100, 0) :: (1, a, 8, m + 5) :: (0, 0, 2100, 0) :: (1, a, 5, m + 4) :: (0, 0, 30, 0) :: (1, a, 4, m + 3) :: (0, 0, 30, 0) :: (1, a, 3, m + 2) :: (0, 2, 30, 0) :: (1, a, 2, m + 1) :: (0, 0, 30, 0) :: (1, a, 1, m) :: (0, 0, 30, 0) :: l)) := by
  rw [eX2_init]
  refine Bob (a := a) (by rfl) ?_
  refine Eq.trans (Bna (a := a) (by rfl) (by rfl) hc hs) ?_
  refine Eq.trans (Bna (a := a) (by rfl) (by rfl) (cNk hc) (shk hs)) ?_
  refine Eq.trans (Bna (a := a) (by rfl) (by rfl) (cNk (cNk hc)) (shk (shk hs))) ?_
  refine Eq.trans (Bna (a := a) (by rfl) (by rfl) (cNk (cNk (cNk hc))) (shk (shk (shk hs)))) ?_
  refine Eq.trans (Bna (a := a) (by rfl) (by rfl) (cNk (cNk (cNk (cNk hc)))) (shk (shk (shk (shk hs))))) ?_
  refine Eq.trans (Bna (a := a) (by rfl) (by rfl) (cNk (cNk (cNk (cNk (cNk hc))))) (shk (shk (shk (shk (shk hs)))))) ?_
  refine Eq.trans (Bna (a := a) (by rfl) (by rfl) (cNk (cNk (cNk (cNk (cNk (cNk hc)))))) (shk (shk (shk (shk (shk (shk hs))))))) ?_
  refine Eq.trans (Bpa (a := a) (b := b) (by rfl) (by rfl) (shk (shk (shk (shk (shk (shk (shk hs)))))))) ?_
  exact x_rV _ _
theorem iX7 (hc : cN l = m) (hs : shO l a = some (4, 7)) : FX7_init n [.ref a] (Mo l) = some (none, Mo (l)) := by
  rw [eX7_init]
  refine Bob (a := a) (by rfl) ?_
  exact x_rV _ _
theorem iX6 (hc : cN l = m) (hs : shO l a = some (4, 6)) : FX6_init n [.ref a] (Mo l) = some (none, Mo ((1, a, 0, m) :: (0, 0, 16, 0) :: l)) := by
  rw [eX6_init]
  refine Bob (a := a) (by rfl) ?_
  refine Eq.trans (Bna (a := a) (by rfl) (by rfl) hc hs) ?_
  exact x_rV _ _
theorem iX1c (hs : shO l a = some (4, 1)) : FX1_clear n [.ref a] (Mo l) = some (none, Mo ((2, a, 2, 0) :: l)) := by
  rw [eX1_clear]
  refine Eq.trans (Bpi (a := a) (v := 0) (by rfl) (by rfl) hs) ?_
  exact x_rV _ _
end InitC
section InitC2
variable {n : Nat}
def LI1 : List OP := (0, 4, 11, 0) :: []
def LI2 : List OP := (1, 0, 0, 1) :: (0, 0, 1600, 0) :: LI1
def LI3 : List OP := (0, 4, 4, 0) :: LI2
def LI4 : List OP := (1, 2, 6, 3) :: (0, 0, 8, 0) :: LI3
def LI5 : List OP := (1, 2, 7, 4) :: (0, 0, 8, 0) :: LI4
def LI6 : List OP := (1, 2, 8, 5) :: (0, 0, 8, 0) :: LI5
def LI7 : List OP := (1, 2, 9, 6) :: (0, 0, 8, 0) :: LI6
def LI8 : List OP := (1, 7, 1, 9) :: (0, 0, 32, 0) :: (1, 7, 0, 8) :: (0, 0, 300, 0) :: (0, 4, 1, 0) :: LI7
def LI9 : List OP := (1, 2, 10, 7) :: LI8
def LI10 : List OP := (1, 10, 1, 12) :: (0, 0, 32, 0) :: (1, 10, 0, 11) :: (0, 0, 300, 0) :: (0, 4, 1, 0) :: LI9
def LI11 : List OP := (1, 2, 11, 10) :: LI10
def LI12 : List OP := (2, 2, 0, 6) :: LI11
def LI13 : List OP := (2, 2, 1, 6) :: LI12
def LI14 : List OP := (2, 2, 2, 0) :: LI13
def LI15 : List OP := (2, 2, 3, 0) :: LI14
def LI16 : List OP := (2, 2, 4, 0) :: LI15
def LI17 : List OP := (2, 2, 5, 0) :: LI16
def LI18 : List OP := (2, 7, 2, 0) :: LI17
def LI19 : List OP := (2, 10, 2, 0) :: LI18
theorem iX4c_2 : FX4_clear n [.ref 2] (Mo LI11) = some (none, Mo LI19) := by
  rw [eX4_clear]
  refine Eq.trans (Bpi (a := 2) (v := 6) (l := LI11) (by rfl) (by rfl) (by decide +kernel)) ?_
  refine Eq.trans (Bpi (a := 2) (v := 6) (l := LI12) (by rfl) (by rfl) (by decide +kernel)) ?_
  refine Eq.trans (Bpi (a := 2) (v := 0) (l := LI13) (by rfl) (by rfl) (by decide +kernel)) ?_
  refine Eq.trans (Bpi (a := 2) (v := 0) (l := LI14) (by rfl) (by rfl) (by decide +kernel)) ?_
  refine Eq.trans (Bpi (a := 2) (v := 0) (l := LI15) (by rfl) (by rfl) (by decide +kernel)) ?_
  refine Eq.trans (Bpi (a := 2) (v := 0) (l := LI16) (by rfl) (by rfl) (by decide +kernel)) ?_
  refine Eq.trans (Bgc (a := 2) (r := 7) (l := LI17) (l' := LI18) (by rfl) (by decide +kernel) (by decide +kernel) (by decide +kernel) (iX1c (by decide +kernel))) ?_
  refine Eq.trans (Bgc (a := 2) (r := 10) (l := LI18) (l' := LI19) (by rfl) (by decide +kernel) (by decide +kernel) (by decide +kernel) (iX1c (by decide +kernel))) ?_
  exact x_rV _ _
theorem iX4_2 : FX4_init n [.ref 2] (Mo LI3) = some (none, Mo LI19) := by
  rw [eX4_init]
  refine Bob (a := 2) (by rfl) ?_
  refine Eq.trans (Bna (a := 2) (m := 3) (l := LI3) (by rfl) (by rfl) (by decide +kernel) (by decide +kernel)) ?_
  refine Eq.trans (Bna (a := 2) (m := 4) (l := LI4) (by rfl) (by rfl) (by decide +kernel) (by decide +kernel)) ?_
  refine Eq.trans (Bna (a := 2) (m := 5) (l := LI5) (by rfl) (by rfl) (by decide +kernel) (by decide +kernel)) ?_
  refine Eq.trans (Bna (a := 2) (m := 6) (l := LI6) (by rfl) (by rfl) (by decide +kernel) (by decide +kernel)) ?_
  refine Eq.trans (Bn0 (a := 2) (m := 7) (l := LI7) (l' := LI8) (by rfl) (by decide +kernel) (iX1 (m := 8) (by decide +kernel) (by decide +kernel)) (by decide +kernel) (by decide +kernel)) ?_
  refine Eq.trans (Bn0 (a := 2) (m := 10) (l := LI9) (l' := LI10) (by rfl) (by decide +kernel) (iX1 (m := 11) (by decide +kernel) (by decide +kernel)) (by decide +kernel) (by decide +kernel)) ?_
  refine Eq.trans (Bcv (a := 2) (l := LI11) (l' := LI19) (by rfl) (by decide +kernel) iX4c_2) ?_
  exact x_rV _ _
def LI20 : List OP := (1, 0, 2, 2) :: LI19
def LI21 : List OP := (0, 4, 4, 0) :: LI20
def LI22 : List OP := (1, 13, 6, 14) :: (0, 0, 8, 0) :: LI21
def LI23 : List OP := (1, 13, 7, 15) :: (0, 0, 8, 0) :: LI22
def LI24 : List OP := (1, 13, 8, 16) :: (0, 0, 8, 0) :: LI23
def LI25 : List OP := (1, 13, 9, 17) :: (0, 0, 8, 0) :: LI24
def LI26 : List OP := (1, 18, 1, 20) :: (0, 0, 32, 0) :: (1, 18, 0, 19) :: (0, 0, 300, 0) :: (0, 4, 1, 0) :: LI25
def LI27 : List OP := (1, 13, 10, 18) :: LI26
def LI28 : List OP := (1, 21, 1, 23) :: (0, 0, 32, 0) :: (1, 21, 0, 22) :: (0, 0, 300, 0) :: (0, 4, 1, 0) :: LI27
def LI29 : List OP := (1, 13, 11, 21) :: LI28
def LI30 : List OP := (2, 13, 0, 6) :: LI29
def LI31 : List OP := (2, 13, 1, 6) :: LI30
def LI32 : List OP := (2, 13, 2, 0) :: LI31
def LI33 : List OP := (2, 13, 3, 0) :: LI32
def LI34 : List OP := (2, 13, 4, 0) :: LI33
def LI35 : List OP := (2, 13, 5, 0) :: LI34
def LI36 : List OP := (2, 18, 2, 0) :: LI35
def LI37 : List OP := (2, 21, 2, 0) :: LI36
theorem iX4c_13 : FX4_clear n [.ref 13] (Mo LI29) = some (none, Mo LI37) := by
  rw [eX4_clear]
  refine Eq.trans (Bpi (a := 13) (v := 6) (l := LI29) (by rfl) (by rfl) (by decide +kernel)) ?_
  refine Eq.trans (Bpi (a := 13) (v := 6) (l := LI30) (by rfl) (by rfl) (by decide +kernel)) ?_
  refine Eq.trans (Bpi (a := 13) (v := 0) (l := LI31) (by rfl) (by rfl) (by decide +kernel)) ?_
  refine Eq.trans (Bpi (a := 13) (v := 0) (l := LI32) (by rfl) (by rfl) (by decide +kernel)) ?_
  refine Eq.trans (Bpi (a := 13) (v := 0) (l := LI33) (by rfl) (by rfl) (by decide +kernel)) ?_
  refine Eq.trans (Bpi (a := 13) (v := 0) (l := LI34) (by rfl) (by rfl) (by decide +kernel)) ?_
  refine Eq.trans (Bgc (a := 13) (r := 18) (l := LI35) (l' := LI36) (by rfl) (by decide +kernel) (by decide +kernel) (by decide +kernel) (iX1c (by decide +kernel))) ?_
  refine Eq.trans (Bgc (a := 13) (r := 21) (l := LI36) (l' := LI37) (by rfl) (by decide +kernel) (by decide +kernel) (by decide +kernel) (iX1c (by decide +kernel))) ?_
  exact x_rV _ _
theorem iX4_13 : FX4_init n [.ref 13] (Mo LI21) = some (none, Mo LI37) := by
  rw [eX4_init]
  refine Bob (a := 13) (by rfl) ?_
  refine Eq.trans (Bna (a := 13) (m := 14) (l := LI21) (by rfl) (by rfl) (by decide +kernel) (by decide +kernel)) ?_
  refine Eq.trans (Bna (a := 13) (m := 15) (l := LI22) (by rfl) (by rfl) (by decide +kernel) (by decide +kernel)) ?_
  refine Eq.trans (Bna (a := 13) (m := 16) (l := LI23) (by rfl) (by rfl) (by decide +kernel) (by decide +kernel)) ?_
  refine Eq.trans (Bna (a := 13) (m := 17) (l := LI24) (by rfl) (by rfl) (by decide +kernel) (by decide +kernel)) ?_
  refine Eq.trans (Bn0 (a := 13) (m := 18) (l := LI25) (l' := LI26) (by rfl) (by decide +kernel) (iX1 (m := 19) (by decide +kernel) (by decide +kernel)) (by decide +kernel) (by decide +kernel)) ?_
  refine Eq.trans (Bn0 (a := 13) (m := 21) (l := LI27) (l' := LI28) (by rfl) (by decide +kernel) (iX1 (m := 22) (by decide +kernel) (by decide +kernel)) (by decide +kernel) (by decide +kernel)) ?_
  refine Eq.trans (Bcv (a := 13) (l := LI29) (l' := LI37) (by rfl) (by decide +kernel) iX4c_13) ?_
  exact x_rV _ _
def LI38 : List OP := (1, 0, 3, 13) :: LI37
def LI39 : List OP := (0, 4, 5, 0) :: LI38
def LI40 : List OP := (1, 24, 2, 25) :: (0, 3, 8, 0) :: LI39
def LI41 : List OP := (2, 24, 12, 4294967295) :: LI40
def LI42 : List OP := (1, 26, 0, 1) :: (1, 26, 2, 28) :: (0, 0, 1601, 0) :: (1, 26, 1, 27) :: (0, 0, 1601, 0) :: (0, 4, 9, 0) :: LI41
def LI43 : List OP := (1, 24, 0, 26) :: LI42
def LI44 : List OP := (1, 24, 1, 13) :: LI43
def LI45 : List OP := (1, 24, 3, 21) :: LI44
theorem iX5_24 : FX5_init n [.ref 24, .ref 1, .ref 13] (Mo LI39) = some (none, Mo LI45) := by
  rw [eX5_init]
  refine Bob (a := 24) (by rfl) ?_
  refine Eq.trans (Bna (a := 24) (m := 25) (l := LI39) (by rfl) (by rfl) (by decide +kernel) (by decide +kernel)) ?_
  refine Eq.trans (Bpi (a := 24) (v := 4294967295) (l := LI40) (by rfl) (by decide +kernel) (by decide +kernel)) ?_
  refine Eq.trans (Bnl (a := 24) (b := 1) (m := 26) (l := LI41) (l' := LI42) (by rfl) (by rfl) (by decide +kernel) (iX9 (m := 27) (by decide +kernel) (by decide +kernel)) (by decide +kernel) (by decide +kernel)) ?_
  refine Eq.trans (Bpa (a := 24) (b := 13) (l := LI43) (by rfl) (by rfl) (by decide +kernel)) ?_
  refine Eq.trans (Bga (a := 24) (b := 13) (r := 21) (l := LI44) (by rfl) (by rfl) (by decide +kernel) (by decide +kernel) (by decide +kernel)) ?_
  exact x_rV _ _
def LI46 : List OP := (1, 0, 4, 24) :: LI45
def LI47 : List OP := (1, 29, 0, 2) :: (1, 29, 4, 33) :: (0, 0, 8, 0) :: (1, 29, 3, 32) :: (0, 0, 8, 0) :: (1, 29, 2, 31) :: (0, 0, 8, 0) :: (1, 29, 1, 30) :: (0, 0, 8, 0) :: (0, 4, 8, 0) :: LI46
def LI48 : List OP := (1, 0, 5, 29) :: LI47
def LI49 : List OP := (1, 34, 0, 2) :: (1, 34, 4, 38) :: (0, 0, 8, 0) :: (1, 34, 3, 37) :: (0, 0, 8, 0) :: (1, 34, 2, 36) :: (0, 0, 8, 0) :: (1, 34, 1, 35) :: (0, 0, 8, 0) :: (0, 4, 8, 0) :: LI48
def LI50 : List OP := (1, 0, 6, 34) :: LI49
def LI51 : List OP := (1, 39, 0, 29) :: (1, 39, 1, 40) :: (0, 0, 8, 0) :: (0, 4, 0, 0) :: LI50
def LI52 : List OP := (1, 0, 7, 39) :: LI51
def LI53 : List OP := (1, 41, 0, 29) :: (1, 41, 2, 43) :: (0, 0, 64, 0) :: (1, 41, 1, 42) :: (0, 0, 64, 0) :: (0, 4, 10, 0) :: LI52
def LI54 : List OP := (1, 0, 8, 41) :: LI53
def LI55 : List OP := (1, 44, 0, 29) :: (1, 44, 1, 45) :: (0, 0, 1394, 0) :: (0, 4, 3, 0) :: LI54
def LI56 : List OP := (1, 0, 9, 44) :: LI55
def LI57 : List OP := (1, 46, 0, 2) :: (1, 46, 10, 53) :: (0, 0, 100, 0) :: (1, 46, 8, 52) :: (0, 0, 2100, 0) :: (1, 46, 5, 51) :: (0, 0, 30, 0) :: (1, 46, 4, 50) :: (0, 0, 30, 0) :: (1, 46, 3, 49) :: (0, 2, 30, 0) :: (1, 46, 2, 48) :: (0, 0, 30, 0) :: (1, 46, 1, 47) :: (0, 0, 30, 0) :: (0, 4, 2, 0) :: LI56
def LI58 : List OP := (1, 0, 10, 46) :: LI57
def LI59 : List OP := (0, 4, 7, 0) :: LI58
def LI60 : List OP := (1, 0, 11, 54) :: LI59
def LI61 : List OP := (1, 55, 0, 56) :: (0, 0, 16, 0) :: (0, 4, 6, 0) :: LI60
def LI62 : List OP := (1, 0, 12, 55) :: LI61
def LI63 : List OP := (1, 0, 13, 57) :: (0, 0, 3, 0) :: LI62
def LI64 : List OP := (1, 0, 14, 58) :: (0, 0, 102, 0) :: LI63
def LI65 : List OP := (1, 0, 15, 59) :: (0, 2, 3, 0) :: LI64
/-- the class, as its constructor leaves it -/
def LC1 : List OP := LI65
theorem uI_z {μ : mM} {a j : Nat} (h : μ.1 a j = 0) : uI μ a j 0 = μ := by
  obtain ⟨I, J, R, L⟩ := μ
  have h : I a j = 0 := h
  show ((fun b i => if b = a ∧ i = j then 0 else I b i), J, R, L) = (I, J, R, L)
  have : (fun b i => if b = a ∧ i = j then (0 : Int32) else I b i) = I := by
    funext b i
    by_cases e : b = a ∧ i = j
    · rw [if_pos e, e.1, e.2, h]
    · rw [if_neg e]
  rw [this]
/-- a row of zeros is laid over a row of zeros -/
theorem zCopy {s d N : Nat} {μ : mM} (hn : N < n) (hN : N < 2 ^ 31) (hs : μ.2.2.2[s]? = some (0, N)) (hd : μ.2.2.2[d]? = some (0, N)) (zs : ∀ j, μ.1 s j = 0) (zd : ∀ j, μ.1 d j = 0) : FX11_copyRow n [.ref s, .ref d] μ = some (none, μ) := by
  have key := mit_for (G := kX11_copyRow_2 n) (fun j => [some (.ref s), some (.ref d), some (.int (nI j))]) (fun _ => μ) (B := N) (fun j hj r => ?_) hn (v := some (none, μ)) (fun r => ?_)
  · rw [← key]
    simp only [eX11_copyRow, kX11_copyRow_0, x_no, x_cst, x_ldI, x_ldJ, x_ldA, x_stI, x_stJ, x_stA, x_inc, x_bin, x_un, x_i2l, x_bnJ, x_lshl, x_lcmp, x_dup, x_dp2, x_gI, x_gJ, x_gA, x_pI, x_pZ, x_pJ, x_pA, x_c0, x_c2, x_sw, x_cV, x_cS, x_rV, x_rI, x_rZ, x_rJ, x_mm, x_pop, x_dv, x_al, x_as, x_alJ, x_asJ, x_len, msel, mpl, mvr, mnw, List.getElem?_cons_zero, List.getElem?_cons_succ, List.set_cons_zero, List.set_cons_succ, List.length_cons, List.length_nil, List.drop_succ_cons, List.drop_zero, List.take_succ_cons, List.take_zero, List.reverse_cons, List.reverse_nil, List.nil_append, List.cons_append, List.append_nil, List.map_cons, List.map_nil, List.sum_cons, List.sum_nil, Option.toList_some, Option.toList_none, x_bs, Value.category, decide_eq_true_eq, decide_true, decide_false, if_true, if_false, Bool.false_eq_true, and_self, and_true, true_and, true_or, or_true, not_true_eq_false, not_false_eq_true, ↓reduceIte, reduceCtorEq, Nat.reduceEqDiff, Nat.reduceAdd, Nat.reduceSub, Nat.reduceMul, Nat.reduceLT, Nat.reduceLeDiff, Nat.reduceBEq, Nat.le_refl, Nat.zero_le, Nat.lt_irrefl, beq_self_eq_true, Nat.succ_ne_zero, Option.some.injEq, Prod.mk.injEq, Int32.reduceLT, Int32.reduceLE]
    rfl
  · have c1 : ¬ Int32.ofNat N ≤ nI j := by show ¬ nI N ≤ nI j; rw [nI_leI (by omega) (by omega)]; omega
    have c2 : (0 : Int32) ≤ nI j := nI_pos' (by omega)
    have c3 : (nI j).toNatClampNeg = j := nI_clamp (by omega)
    have u := uI_z (zd j)
    simp only [kX11_copyRow_2, x_no, x_cst, x_ldI, x_ldJ, x_ldA, x_stI, x_stJ, x_stA, x_inc, x_bin, x_un, x_i2l, x_bnJ, x_lshl, x_lcmp, x_dup, x_dp2, x_gI, x_gJ, x_gA, x_pI, x_pZ, x_pJ, x_pA, x_c0, x_c2, x_sw, x_cV, x_cS, x_rV, x_rI, x_rZ, x_rJ, x_mm, x_pop, x_dv, x_al, x_as, x_alJ, x_asJ, x_len, msel, mpl, mvr, mnw, List.getElem?_cons_zero, List.getElem?_cons_succ, List.set_cons_zero, List.set_cons_succ, List.length_cons, List.length_nil, List.drop_succ_cons, List.drop_zero, List.take_succ_cons, List.take_zero, List.reverse_cons, List.reverse_nil, List.nil_append, List.cons_append, List.append_nil, List.map_cons, List.map_nil, List.sum_cons, List.sum_nil, Option.toList_some, Option.toList_none, x_bs, Value.category, decide_eq_true_eq, decide_true, decide_false, if_true, if_false, Bool.false_eq_true, and_self, and_true, true_and, true_or, or_true, not_true_eq_false, not_false_eq_true, ↓reduceIte, reduceCtorEq, Nat.reduceEqDiff, Nat.reduceAdd, Nat.reduceSub, Nat.reduceMul, Nat.reduceLT, Nat.reduceLeDiff, Nat.reduceBEq, Nat.le_refl, Nat.zero_le, Nat.lt_irrefl, beq_self_eq_true, Nat.succ_ne_zero, Option.some.injEq, Prod.mk.injEq, Int32.reduceLT, Int32.reduceLE, hs, hd, c1, c2, c3, hj, zs, u, nI_1]
  · have c1 : Int32.ofNat N ≤ nI N := Int32.le_refl _
    simp only [kX11_copyRow_2, kX11_copyRow_26, x_no, x_cst, x_ldI, x_ldJ, x_ldA, x_stI, x_stJ, x_stA, x_inc, x_bin, x_un, x_i2l, x_bnJ, x_lshl, x_lcmp, x_dup, x_dp2, x_gI, x_gJ, x_gA, x_pI, x_pZ, x_pJ, x_pA, x_c0, x_c2, x_sw, x_cV, x_cS, x_rV, x_rI, x_rZ, x_rJ, x_mm, x_pop, x_dv, x_al, x_as, x_alJ, x_asJ, x_len, msel, mpl, mvr, mnw, List.getElem?_cons_zero, List.getElem?_cons_succ, List.set_cons_zero, List.set_cons_succ, List.length_cons, List.length_nil, List.drop_succ_cons, List.drop_zero, List.take_succ_cons, List.take_zero, List.reverse_cons, List.reverse_nil, List.nil_append, List.cons_append, List.append_nil, List.map_cons, List.map_nil, List.sum_cons, List.sum_nil, Option.toList_some, Option.toList_none, x_bs, Value.category, decide_eq_true_eq, decide_true, decide_false, if_true, if_false, Bool.false_eq_true, and_self, and_true, true_and, true_or, or_true, not_true_eq_false, not_false_eq_true, ↓reduceIte, reduceCtorEq, Nat.reduceEqDiff, Nat.reduceAdd, Nat.reduceSub, Nat.reduceMul, Nat.reduceLT, Nat.reduceLeDiff, Nat.reduceBEq, Nat.le_refl, Nat.zero_le, Nat.lt_irrefl, beq_self_eq_true, Nat.succ_ne_zero, Option.some.injEq, Prod.mk.injEq, Int32.reduceLT, Int32.reduceLE, hs, hd, c1]
theorem LCz (a : Nat) (h : (LC1.all fun o => decide (o.1 = 0) || decide (o.1 = 1) || !decide (a = o.2.1)) = true) (j : Nat) : (Mo LC1).1 a j = 0 := (iv_M LC1 a j).trans (iv_0 h j)
theorem LCs {a : Nat} {q : Nat × Nat} (h : shO LC1 a = some q) : (Mo LC1).2.2.2[a]? = some q := (sh_M LC1 a).trans h
theorem LCr {a j x : Nat} (h : rdO LC1 a j = some x) : (Mo LC1).2.2.1 a j = some x := (rd_M LC1 a j).trans h
set_option maxHeartbeats 4000000 in
theorem iLay (hn : 300 < n) : FX8_lay n [.ref 29] (Mo LC1) = some (none, Mo LC1) := by
  have c1 := zCopy (n := n) (s := 3) (d := 30) (N := 8) (by omega) (by decide) (LCs (by decide +kernel)) (LCs (by decide +kernel)) (LCz 3 (by decide +kernel)) (LCz 30 (by decide +kernel))
  have c2 := zCopy (n := n) (s := 4) (d := 31) (N := 8) (by omega) (by decide) (LCs (by decide +kernel)) (LCs (by decide +kernel)) (LCz 4 (by decide +kernel)) (LCz 31 (by decide +kernel))
  have c3 := zCopy (n := n) (s := 5) (d := 32) (N := 8) (by omega) (by decide) (LCs (by decide +kernel)) (LCs (by decide +kernel)) (LCz 5 (by decide +kernel)) (LCz 32 (by decide +kernel))
  have c4 := zCopy (n := n) (s := 6) (d := 33) (N := 8) (by omega) (by decide) (LCs (by decide +kernel)) (LCs (by decide +kernel)) (LCz 6 (by decide +kernel)) (LCz 33 (by decide +kernel))
  have s29 : (Mo LC1).2.2.2[29]? = some (4, 8) := LCs (by decide +kernel)
  have s2 : (Mo LC1).2.2.2[2]? = some (4, 4) := LCs (by decide +kernel)
  have r0 : (Mo LC1).2.2.1 29 0 = some 2 := LCr (by decide +kernel)
  have r1 : (Mo LC1).2.2.1 29 1 = some 30 := LCr (by decide +kernel)
  have r2 : (Mo LC1).2.2.1 29 2 = some 31 := LCr (by decide +kernel)
  have r3 : (Mo LC1).2.2.1 29 3 = some 32 := LCr (by decide +kernel)
  have r4 : (Mo LC1).2.2.1 29 4 = some 33 := LCr (by decide +kernel)
  have t6 : (Mo LC1).2.2.1 2 6 = some 3 := LCr (by decide +kernel)
  have t7 : (Mo LC1).2.2.1 2 7 = some 4 := LCr (by decide +kernel)
  have t8 : (Mo LC1).2.2.1 2 8 = some 5 := LCr (by decide +kernel)
  have t9 : (Mo LC1).2.2.1 2 9 = some 6 := LCr (by decide +kernel)
  have v4 : (Mo LC1).1 2 4 = 0 := (iv_M LC1 2 4).trans (by decide +kernel)
  have u5 := uI_z (LCz 29 (by decide +kernel) 5)
  have u6 := uI_z (LCz 29 (by decide +kernel) 6)
  generalize Mo LC1 = μ at *
  simp only [eX8_lay, kX8_lay_0, kX8_lay_56, x_no, x_cst, x_ldI, x_ldJ, x_ldA, x_stI, x_stJ, x_stA, x_inc, x_bin, x_un, x_i2l, x_bnJ, x_lshl, x_lcmp, x_dup, x_dp2, x_gI, x_gJ, x_gA, x_pI, x_pZ, x_pJ, x_pA, x_c0, x_c2, x_sw, x_cV, x_cS, x_rV, x_rI, x_rZ, x_rJ, x_mm, x_pop, x_dv, x_al, x_as, x_alJ, x_asJ, x_len, msel, mpl, mvr, mnw, List.getElem?_cons_zero, List.getElem?_cons_succ, List.set_cons_zero, List.set_cons_succ, List.length_cons, List.length_nil, List.drop_succ_cons, List.drop_zero, List.take_succ_cons, List.take_zero, List.reverse_cons, List.reverse_nil, List.nil_append, List.cons_append, List.append_nil, List.map_cons, List.map_nil, List.sum_cons, List.sum_nil, Option.toList_some, Option.toList_none, x_bs, Value.category, decide_eq_true_eq, decide_true, decide_false, if_true, if_false, Bool.false_eq_true, and_self, and_true, true_and, true_or, or_true, not_true_eq_false, not_false_eq_true, ↓reduceIte, reduceCtorEq, Nat.reduceEqDiff, Nat.reduceAdd, Nat.reduceSub, Nat.reduceMul, Nat.reduceLT, Nat.reduceLeDiff, Nat.reduceBEq, Nat.le_refl, Nat.zero_le, Nat.lt_irrefl, beq_self_eq_true, Nat.succ_ne_zero, Option.some.injEq, Prod.mk.injEq, Int32.reduceLT, Int32.reduceLE, s29, s2, r0, r1, r2, r3, r4, t6, t7, t8, t9, c1, c2, c3, c4, u5, v4, u6]
theorem zAt {μ : mM} {a N : Nat} (h : μ.2.2.2[a]? = some (0, N)) (z : ∀ j, μ.1 a j = 0) {j : Nat} (hj : j < N) (hN : N < 2 ^ 31) : FX11_at n [.ref a, .int (nI j)] μ = some (some (.int 0), μ) := by
  have c1 : ¬ nI j < 0 := nI_pos (by omega)
  have c2 : ¬ Int32.ofNat N ≤ nI j := by show ¬ nI N ≤ nI j; rw [nI_leI (by omega) (by omega)]; omega
  have c3 : (nI j).toNatClampNeg = j := nI_clamp (by omega)
  have c4 : (0 : Int32) ≤ nI j := nI_pos' (by omega)
  simp only [eX11_at, kX11_at_0, kX11_at_16, kX11_at_17, x_no, x_cst, x_ldI, x_ldJ, x_ldA, x_stI, x_stJ, x_stA, x_inc, x_bin, x_un, x_i2l, x_bnJ, x_lshl, x_lcmp, x_dup, x_dp2, x_gI, x_gJ, x_gA, x_pI, x_pZ, x_pJ, x_pA, x_c0, x_c2, x_sw, x_cV, x_cS, x_rV, x_rI, x_rZ, x_rJ, x_mm, x_pop, x_dv, x_al, x_as, x_alJ, x_asJ, x_len, msel, mpl, mvr, mnw, List.getElem?_cons_zero, List.getElem?_cons_succ, List.set_cons_zero, List.set_cons_succ, List.length_cons, List.length_nil, List.drop_succ_cons, List.drop_zero, List.take_succ_cons, List.take_zero, List.reverse_cons, List.reverse_nil, List.nil_append, List.cons_append, List.append_nil, List.map_cons, List.map_nil, List.sum_cons, List.sum_nil, Option.toList_some, Option.toList_none, x_bs, Value.category, decide_eq_true_eq, decide_true, decide_false, if_true, if_false, Bool.false_eq_true, and_self, and_true, true_and, true_or, or_true, not_true_eq_false, not_false_eq_true, ↓reduceIte, reduceCtorEq, Nat.reduceEqDiff, Nat.reduceAdd, Nat.reduceSub, Nat.reduceMul, Nat.reduceLT, Nat.reduceLeDiff, Nat.reduceBEq, Nat.le_refl, Nat.zero_le, Nat.lt_irrefl, beq_self_eq_true, Nat.succ_ne_zero, Option.some.injEq, Prod.mk.injEq, Int32.reduceLT, Int32.reduceLE, h, c1, c2, c3, c4, hj, z]
theorem zSet {μ : mM} {a N : Nat} (h : μ.2.2.2[a]? = some (0, N)) (z : ∀ j, μ.1 a j = 0) {j : Nat} (hj : j < N) (hN : N < 2 ^ 31) : FX11_set n [.ref a, .int (nI j), .int 0] μ = some (none, μ) := by
  have c1 : ¬ nI j < 0 := nI_pos (by omega)
  have c2 : ¬ Int32.ofNat N ≤ nI j := by show ¬ nI N ≤ nI j; rw [nI_leI (by omega) (by omega)]; omega
  have c3 : (nI j).toNatClampNeg = j := nI_clamp (by omega)
  have c4 : (0 : Int32) ≤ nI j := nI_pos' (by omega)
  have u := uI_z (z j)
  simp only [eX11_set, kX11_set_0, kX11_set_14, x_no, x_cst, x_ldI, x_ldJ, x_ldA, x_stI, x_stJ, x_stA, x_inc, x_bin, x_un, x_i2l, x_bnJ, x_lshl, x_lcmp, x_dup, x_dp2, x_gI, x_gJ, x_gA, x_pI, x_pZ, x_pJ, x_pA, x_c0, x_c2, x_sw, x_cV, x_cS, x_rV, x_rI, x_rZ, x_rJ, x_mm, x_pop, x_dv, x_al, x_as, x_alJ, x_asJ, x_len, msel, mpl, mvr, mnw, List.getElem?_cons_zero, List.getElem?_cons_succ, List.set_cons_zero, List.set_cons_succ, List.length_cons, List.length_nil, List.drop_succ_cons, List.drop_zero, List.take_succ_cons, List.take_zero, List.reverse_cons, List.reverse_nil, List.nil_append, List.cons_append, List.append_nil, List.map_cons, List.map_nil, List.sum_cons, List.sum_nil, Option.toList_some, Option.toList_none, x_bs, Value.category, decide_eq_true_eq, decide_true, decide_false, if_true, if_false, Bool.false_eq_true, and_self, and_true, true_and, true_or, or_true, not_true_eq_false, not_false_eq_true, ↓reduceIte, reduceCtorEq, Nat.reduceEqDiff, Nat.reduceAdd, Nat.reduceSub, Nat.reduceMul, Nat.reduceLT, Nat.reduceLeDiff, Nat.reduceBEq, Nat.le_refl, Nat.zero_le, Nat.lt_irrefl, beq_self_eq_true, Nat.succ_ne_zero, Option.some.injEq, Prod.mk.injEq, Int32.reduceLT, Int32.reduceLE, h, c1, c2, c3, c4, hj, u]
set_option maxHeartbeats 4000000 in
theorem iBeg (hn : 300 < n) : FX3_begin n [.ref 44] (Mo LC1) = some (none, Mo LC1) := by
  have s29 : (Mo LC1).2.2.2[29]? = some (4, 8) := LCs (by decide +kernel)
  have s44 : (Mo LC1).2.2.2[44]? = some (4, 3) := LCs (by decide +kernel)
  have s30 : (Mo LC1).2.2.2[30]? = some (0, 8) := LCs (by decide +kernel)
  have s31 : (Mo LC1).2.2.2[31]? = some (0, 8) := LCs (by decide +kernel)
  have s32 : (Mo LC1).2.2.2[32]? = some (0, 8) := LCs (by decide +kernel)
  have s33 : (Mo LC1).2.2.2[33]? = some (0, 8) := LCs (by decide +kernel)
  have s45 : (Mo LC1).2.2.2[45]? = some (0, 1394) := LCs (by decide +kernel)
  have r1 : (Mo LC1).2.2.1 29 1 = some 30 := LCr (by decide +kernel)
  have r2 : (Mo LC1).2.2.1 29 2 = some 31 := LCr (by decide +kernel)
  have r3 : (Mo LC1).2.2.1 29 3 = some 32 := LCr (by decide +kernel)
  have r4 : (Mo LC1).2.2.1 29 4 = some 33 := LCr (by decide +kernel)
  have r40 : (Mo LC1).2.2.1 44 0 = some 29 := LCr (by decide +kernel)
  have r41 : (Mo LC1).2.2.1 44 1 = some 45 := LCr (by decide +kernel)
  have z29 := LCz 29 (by decide +kernel)
  have z44 := LCz 44 (by decide +kernel)
  have z30 := LCz 30 (by decide +kernel)
  have z31 := LCz 31 (by decide +kernel)
  have z32 := LCz 32 (by decide +kernel)
  have z33 := LCz 33 (by decide +kernel)
  have z45 := LCz 45 (by decide +kernel)
  generalize Mo LC1 = μ at *
  have u2 := uI_z (z44 2)
  have u3 := uI_z (z44 3)
  have key := mit_for (G := kX8_save_2 n) (fun j => [some (.ref 29), some (.ref 45), some (.int 0), some (.int (nI j)), if j = 0 then none else some (.int (nI (4 * (j - 1))))]) (fun _ => μ) (B := 8) (fun j hj r => ?_) (by omega : 8 < n) (v := some (none, μ)) (fun r => ?_)
  · have sv : FX8_save n [.ref 29, .ref 45, .int 0] μ = some (none, μ) := by
      rw [← key]
      simp only [eX8_save, kX8_save_0, x_no, x_cst, x_ldI, x_ldJ, x_ldA, x_stI, x_stJ, x_stA, x_inc, x_bin, x_un, x_i2l, x_bnJ, x_lshl, x_lcmp, x_dup, x_dp2, x_gI, x_gJ, x_gA, x_pI, x_pZ, x_pJ, x_pA, x_c0, x_c2, x_sw, x_cV, x_cS, x_rV, x_rI, x_rZ, x_rJ, x_mm, x_pop, x_dv, x_al, x_as, x_alJ, x_asJ, x_len, msel, mpl, mvr, mnw, List.getElem?_cons_zero, List.getElem?_cons_succ, List.set_cons_zero, List.set_cons_succ, List.length_cons, List.length_nil, List.drop_succ_cons, List.drop_zero, List.take_succ_cons, List.take_zero, List.reverse_cons, List.reverse_nil, List.nil_append, List.cons_append, List.append_nil, List.map_cons, List.map_nil, List.sum_cons, List.sum_nil, Option.toList_some, Option.toList_none, x_bs, Value.category, decide_eq_true_eq, decide_true, decide_false, if_true, if_false, Bool.false_eq_true, and_self, and_true, true_and, true_or, or_true, not_true_eq_false, not_false_eq_true, ↓reduceIte, reduceCtorEq, Nat.reduceEqDiff, Nat.reduceAdd, Nat.reduceSub, Nat.reduceMul, Nat.reduceLT, Nat.reduceLeDiff, Nat.reduceBEq, Nat.le_refl, Nat.zero_le, Nat.lt_irrefl, beq_self_eq_true, Nat.succ_ne_zero, Option.some.injEq, Prod.mk.injEq, Int32.reduceLT, Int32.reduceLE]
      rfl
    simp only [eX3_begin, kX3_begin_0, x_no, x_cst, x_ldI, x_ldJ, x_ldA, x_stI, x_stJ, x_stA, x_inc, x_bin, x_un, x_i2l, x_bnJ, x_lshl, x_lcmp, x_dup, x_dp2, x_gI, x_gJ, x_gA, x_pI, x_pZ, x_pJ, x_pA, x_c0, x_c2, x_sw, x_cV, x_cS, x_rV, x_rI, x_rZ, x_rJ, x_mm, x_pop, x_dv, x_al, x_as, x_alJ, x_asJ, x_len, msel, mpl, mvr, mnw, List.getElem?_cons_zero, List.getElem?_cons_succ, List.set_cons_zero, List.set_cons_succ, List.length_cons, List.length_nil, List.drop_succ_cons, List.drop_zero, List.take_succ_cons, List.take_zero, List.reverse_cons, List.reverse_nil, List.nil_append, List.cons_append, List.append_nil, List.map_cons, List.map_nil, List.sum_cons, List.sum_nil, Option.toList_some, Option.toList_none, x_bs, Value.category, decide_eq_true_eq, decide_true, decide_false, if_true, if_false, Bool.false_eq_true, and_self, and_true, true_and, true_or, or_true, not_true_eq_false, not_false_eq_true, ↓reduceIte, reduceCtorEq, Nat.reduceEqDiff, Nat.reduceAdd, Nat.reduceSub, Nat.reduceMul, Nat.reduceLT, Nat.reduceLeDiff, Nat.reduceBEq, Nat.le_refl, Nat.zero_le, Nat.lt_irrefl, beq_self_eq_true, Nat.succ_ne_zero, Option.some.injEq, Prod.mk.injEq, Int32.reduceLT, Int32.reduceLE, s44, s29, r40, r41, u2, u3, sv]
  · have c1 : ¬ (8 : Int32) ≤ nI j := by rw [show (8 : Int32) = nI 8 from rfl, nI_leI (by decide) (by omega)]; omega
    have m4 : (4 : Int32) * nI j = nI (4 * j) := by rw [show (4 : Int32) = nI 4 from rfl, pk_mul]
    have p1 : nI (4 * j) + 1 = nI (4 * j + 1) := nI_1 _
    have p2 : nI (4 * j) + 2 = nI (4 * j + 2) := by rw [show (2 : Int32) = nI 2 from rfl, nI_add]
    have p3 : nI (4 * j) + 3 = nI (4 * j + 3) := by rw [show (3 : Int32) = nI 3 from rfl, nI_add]
    have a1 := zAt (n := n) s30 z30 hj (by decide)
    have a2 := zAt (n := n) s31 z31 hj (by decide)
    have a3 := zAt (n := n) s32 z32 hj (by decide)
    have a4 := zAt (n := n) s33 z33 hj (by decide)
    have b1 := zSet (n := n) s45 z45 (j := 4 * j) (by omega) (by decide)
    have b2 := zSet (n := n) s45 z45 (j := 4 * j + 1) (by omega) (by decide)
    have b3 := zSet (n := n) s45 z45 (j := 4 * j + 2) (by omega) (by decide)
    have b4 := zSet (n := n) s45 z45 (j := 4 * j + 3) (by omega) (by decide)
    have o0 : (0 : Int32) + nI (4 * j) = nI (4 * j) := Int32.zero_add _
    have je : (if j + 1 = 0 then none else some (Value.int (nI (4 * (j + 1 - 1))))) = some (Value.int (nI (4 * j))) := by rw [if_neg (by omega), Nat.add_sub_cancel]
    rw [je]
    generalize (if j = 0 then none else some (Value.int (nI (4 * (j - 1))))) = x4
    simp only [kX8_save_2, kX8_save_42, x_no, x_cst, x_ldI, x_ldJ, x_ldA, x_stI, x_stJ, x_stA, x_inc, x_bin, x_un, x_i2l, x_bnJ, x_lshl, x_lcmp, x_dup, x_dp2, x_gI, x_gJ, x_gA, x_pI, x_pZ, x_pJ, x_pA, x_c0, x_c2, x_sw, x_cV, x_cS, x_rV, x_rI, x_rZ, x_rJ, x_mm, x_pop, x_dv, x_al, x_as, x_alJ, x_asJ, x_len, msel, mpl, mvr, mnw, List.getElem?_cons_zero, List.getElem?_cons_succ, List.set_cons_zero, List.set_cons_succ, List.length_cons, List.length_nil, List.drop_succ_cons, List.drop_zero, List.take_succ_cons, List.take_zero, List.reverse_cons, List.reverse_nil, List.nil_append, List.cons_append, List.append_nil, List.map_cons, List.map_nil, List.sum_cons, List.sum_nil, Option.toList_some, Option.toList_none, x_bs, Value.category, decide_eq_true_eq, decide_true, decide_false, if_true, if_false, Bool.false_eq_true, and_self, and_true, true_and, true_or, or_true, not_true_eq_false, not_false_eq_true, ↓reduceIte, reduceCtorEq, Nat.reduceEqDiff, Nat.reduceAdd, Nat.reduceSub, Nat.reduceMul, Nat.reduceLT, Nat.reduceLeDiff, Nat.reduceBEq, Nat.le_refl, Nat.zero_le, Nat.lt_irrefl, beq_self_eq_true, Nat.succ_ne_zero, Option.some.injEq, Prod.mk.injEq, Int32.reduceLT, Int32.reduceLE, c1, m4, o0, s29, r1, r2, r3, r4, a1, a2, a3, a4, b1, b2, b3, b4, p1, p2, p3, nI_1]
  · have c1 : (8 : Int32) ≤ nI 8 := by decide
    have p1 : (0 : Int32) + 32 = nI 32 := by decide
    have p2 : nI 32 + 1 = nI 33 := by decide
    have b1 := zSet (n := n) s45 z45 (j := 32) (by omega) (by decide)
    have b2 := zSet (n := n) s45 z45 (j := 33) (by omega) (by decide)
    simp only [kX8_save_2, x_no, x_cst, x_ldI, x_ldJ, x_ldA, x_stI, x_stJ, x_stA, x_inc, x_bin, x_un, x_i2l, x_bnJ, x_lshl, x_lcmp, x_dup, x_dp2, x_gI, x_gJ, x_gA, x_pI, x_pZ, x_pJ, x_pA, x_c0, x_c2, x_sw, x_cV, x_cS, x_rV, x_rI, x_rZ, x_rJ, x_mm, x_pop, x_dv, x_al, x_as, x_alJ, x_asJ, x_len, msel, mpl, mvr, mnw, List.getElem?_cons_zero, List.getElem?_cons_succ, List.set_cons_zero, List.set_cons_succ, List.length_cons, List.length_nil, List.drop_succ_cons, List.drop_zero, List.take_succ_cons, List.take_zero, List.reverse_cons, List.reverse_nil, List.nil_append, List.cons_append, List.append_nil, List.map_cons, List.map_nil, List.sum_cons, List.sum_nil, Option.toList_some, Option.toList_none, x_bs, Value.category, decide_eq_true_eq, decide_true, decide_false, if_true, if_false, Bool.false_eq_true, and_self, and_true, true_and, true_or, or_true, not_true_eq_false, not_false_eq_true, ↓reduceIte, reduceCtorEq, Nat.reduceEqDiff, Nat.reduceAdd, Nat.reduceSub, Nat.reduceMul, Nat.reduceLT, Nat.reduceLeDiff, Nat.reduceBEq, Nat.le_refl, Nat.zero_le, Nat.lt_irrefl, beq_self_eq_true, Nat.succ_ne_zero, Option.some.injEq, Prod.mk.injEq, Int32.reduceLT, Int32.reduceLE, c1, s29, z29, p1, p2, b1, b2]

theorem iX11 (hn : 300 < n) : FX11_init n [.ref 0] (Mo [(0, 4, 11, 0)]) = some (none, Mo LC1) := by
  rw [eX11_init]
  refine Bob (a := 0) (by rfl) ?_
  refine Eq.trans (Bna (a := 0) (m := 1) (l := LI1) (by rfl) (by rfl) (by decide +kernel) (by decide +kernel)) ?_
  refine Eq.trans (Bn0 (a := 0) (m := 2) (l := LI2) (l' := LI19) (by rfl) (by decide +kernel) iX4_2 (by decide +kernel) (by decide +kernel)) ?_
  refine Eq.trans (Bn0 (a := 0) (m := 13) (l := LI20) (l' := LI37) (by rfl) (by decide +kernel) iX4_13 (by decide +kernel) (by decide +kernel)) ?_
  refine Eq.trans (Bn2 (a := 0) (b1 := 1) (b2 := 13) (m := 24) (l := LI38) (l' := LI45) (by rfl) (by decide +kernel) (by decide +kernel) (by decide +kernel) (by decide +kernel) iX5_24 (by decide +kernel) (by decide +kernel)) ?_
  refine Eq.trans (Bn1 (a := 0) (b := 2) (m := 29) (l := LI46) (l' := LI47) (by rfl) (by decide +kernel) (by decide +kernel) (by decide +kernel) (iX8 (m := 30) (by decide +kernel) (by decide +kernel)) (by decide +kernel) (by decide +kernel)) ?_
  refine Eq.trans (Bn1 (a := 0) (b := 2) (m := 34) (l := LI48) (l' := LI49) (by rfl) (by decide +kernel) (by decide +kernel) (by decide +kernel) (iX8 (m := 35) (by decide +kernel) (by decide +kernel)) (by decide +kernel) (by decide +kernel)) ?_
  refine Eq.trans (Bn1 (a := 0) (b := 29) (m := 39) (l := LI50) (l' := LI51) (by rfl) (by decide +kernel) (by decide +kernel) (by decide +kernel) (iX0 (m := 40) (by decide +kernel) (by decide +kernel)) (by decide +kernel) (by decide +kernel)) ?_
  refine Eq.trans (Bn1 (a := 0) (b := 29) (m := 41) (l := LI52) (l' := LI53) (by rfl) (by decide +kernel) (by decide +kernel) (by decide +kernel) (iX10 (m := 42) (by decide +kernel) (by decide +kernel)) (by decide +kernel) (by decide +kernel)) ?_
  refine Eq.trans (Bn1 (a := 0) (b := 29) (m := 44) (l := LI54) (l' := LI55) (by rfl) (by decide +kernel) (by decide +kernel) (by decide +kernel) (iX3 (m := 45) (by decide +kernel) (by decide +kernel)) (by decide +kernel) (by decide +kernel)) ?_
  refine Eq.trans (Bn1 (a := 0) (b := 2) (m := 46) (l := LI56) (l' := LI57) (by rfl) (by decide +kernel) (by decide +kernel) (by decide +kernel) (iX2 (m := 47) (by decide +kernel) (by decide +kernel)) (by decide +kernel) (by decide +kernel)) ?_
  refine Eq.trans (Bn0 (a := 0) (m := 54) (l := LI58) (l' := LI59) (by rfl) (by decide +kernel) (iX7 (m := 55) (by decide +kernel) (by decide +kernel)) (by decide +kernel) (by decide +kernel)) ?_
  refine Eq.trans (Bn0 (a := 0) (m := 55) (l := LI60) (l' := LI61) (by rfl) (by decide +kernel) (iX6 (m := 56) (by decide +kernel) (by decide +kernel)) (by decide +kernel) (by decide +kernel)) ?_
  refine Eq.trans (Bna (a := 0) (m := 57) (l := LI62) (by rfl) (by rfl) (by decide +kernel) (by decide +kernel)) ?_
  refine Eq.trans (Bna (a := 0) (m := 58) (l := LI63) (by rfl) (by rfl) (by decide +kernel) (by decide +kernel)) ?_
  refine Eq.trans (Bna (a := 0) (m := 59) (l := LI64) (by rfl) (by rfl) (by decide +kernel) (by decide +kernel)) ?_
  refine Eq.trans (Bgc (a := 0) (r := 29) (l := LC1) (l' := LC1) (by rfl) (by decide +kernel) (by decide +kernel) (by decide +kernel) (iLay hn)) ?_
  refine Eq.trans (Bgc (a := 0) (r := 44) (l := LC1) (l' := LC1) (by rfl) (by decide +kernel) (by decide +kernel) (by decide +kernel) (iBeg hn)) ?_
  exact x_rV _ _
end InitC2
