/-! PURE: the model's carHere, readCell -/
section MCar
variable {n : Nat} {I : Nat → Nat → Int32} {J : Nat → Nat → Int64} {tp : List Nat} {i rb lt : Nat} {D : DR}
set_option maxHeartbeats 4000000 in
theorem m_carHere (hn : 8 < n) (f : Nat) (h : RdM I J tp i) (hk : kn tp i = 3) (hd : DrM I J tp rb lt D) (hl : (dc D).length ≤ 8) : ∃ x : Int32, FX12_carHere n [.ref 60] (mm I J f) = some (some (.int x), mm I J f) ∧ (x < 0 ↔ (dc D).any (fun e => decide (wvt tp e.1 = wvt tp i)) = false) := by
  obtain ⟨⟨h2, h32⟩, ⟨-, -, h66, -, -, -⟩, -, -, hc, -⟩ := hd
  have h8 : I 60 8 = 2 := by rw [h.2.1.2.2.1, hk]; rfl
  have hJ : J 60 10 = jN (wvt tp i) := h.2.1.2.2.2.2 (Or.inl hk)
  have w63 := wvt_63 tp (i := i) (Or.inl hk)
  simp only [eX12_carHere, kX12_carHere_0, x_no, x_cst, x_ldI, x_ldJ, x_ldA, x_stI, x_stJ, x_stA, x_inc, x_bin, x_un, x_i2l, x_bnJ, x_lshl, x_lcmp, x_dup, x_dp2, x_gI, x_gJ, x_gA, x_pI, x_pZ, x_pJ, x_pA, x_c0, x_c2, x_sw, x_cV, x_cS, x_rV, x_rI, x_rZ, x_rJ, x_mm, x_pop, msel, mpl, mvr, mnw, List.getElem?_cons_zero, List.getElem?_cons_succ, List.set_cons_zero, List.set_cons_succ, List.length_cons, List.length_nil, List.drop_succ_cons, List.drop_zero, List.take_succ_cons, List.take_zero, List.reverse_cons, List.reverse_nil, List.nil_append, List.cons_append, List.append_nil, List.map_cons, List.map_nil, List.sum_cons, List.sum_nil, Option.toList_some, Option.toList_none, x_bs, Value.category, decide_eq_true_eq, decide_true, decide_false, if_true, if_false, Bool.false_eq_true, and_self, and_true, true_and, true_or, or_true, not_true_eq_false, not_false_eq_true, ↓reduceIte, reduceCtorEq, Nat.reduceEqDiff, Nat.reduceAdd, Nat.reduceSub, Nat.reduceMul, Nat.reduceLT, Nat.reduceLeDiff, Nat.reduceBEq, Nat.le_refl, Nat.zero_le, Nat.lt_irrefl, beq_self_eq_true, Nat.succ_ne_zero, Option.some.injEq, Prod.mk.injEq, Int32.reduceLT, Int32.reduceLE, y_60, rt_60_0, rt_60_1, rt_60_11, rt_60_12, rt_60_13, rt_60_14, rt_60_15, rt_60_16, rt_60_17, rt_60_18, rt_60_19, rt_60_20, rt_60_21, rt_60_22, rt_60_23, rt_60_24, rt_60_25, rt_60_26, rt_60_27, rt_60_28, rt_60_29, rt_60_30, rt_60_39, rt_60_41, rt_60_42, rt_60_45, rt_60_46, rt_60_47, rt_60_49, rt_60_50, rt_60_51, rt_60_52, rt_60_53, rt_60_54, rt_60_55, rt_60_56, rt_60_59, rt_60_61, rt_60_62, al_63, as_63, al_64, as_64, al_65, as_65, al_66, as_66, al_67, as_67, al_68, as_68, al_69, as_69, al_70, as_70, al_71, as_71, al_72, as_72, al_73, as_73, al_74, as_74, al_75, as_75, al_76, as_76, al_78, as_78, al_79, as_79, al_80, as_80, al_81, as_81, al_82, as_82, al_83, as_83, al_84, as_84, al_85, as_85, al_86, as_86, al_87, as_87, al_88, as_88, al_89, as_89, al_90, as_90, al_91, as_91, al_92, as_92, al_93, as_93, al_94, as_94, al_95, as_95, al_96, as_96, al_97, as_97, al_98, as_98, al_61, as_61, al_62, as_62, al_99, as_99, al_82_0, as_82_0, al_83_32, as_83_32, al_83_33, as_83_33, ad0, ad8, ad16, ad24, ad_0, mu2, mu8, mu34, nI_add, nI_1, uI_mm, dvN, dvM]
  refine mit_ind (G := kX12_carHere_2 n) (fun d L μ => ∃ k, k + d = (dc D).length ∧ (∀ j e, j < k → (dc D)[j]? = some e → ¬ wvt tp e.1 = wvt tp i) ∧ μ = mm I J f ∧ L = [some (.ref 60), some (.int (nI k))]) (fun v => ∃ x : Int32, v = some (some (.int x), mm I J f) ∧ (x < 0 ↔ (dc D).any (fun e => decide (wvt tp e.1 = wvt tp i)) = false)) ?_ ?_ (dc D).length n _ _ (by omega) ⟨0, by omega, fun j e hj => absurd hj (Nat.not_lt_zero _), rfl, rfl⟩
  · rintro L μ ⟨k, hkd, hno, rfl, rfl⟩
    have k1 : k = (dc D).length := by omega
    subst k1
    refine ⟨some (some (.int (-1)), mm I J f), fun r => ?_, -1, rfl, ?_⟩
    · have le := Int32.le_refl (nI (dc D).length)
      simp only [kX12_carHere_2, x_no, x_cst, x_ldI, x_ldJ, x_ldA, x_stI, x_stJ, x_stA, x_inc, x_bin, x_un, x_i2l, x_bnJ, x_lshl, x_lcmp, x_dup, x_dp2, x_gI, x_gJ, x_gA, x_pI, x_pZ, x_pJ, x_pA, x_c0, x_c2, x_sw, x_cV, x_cS, x_rV, x_rI, x_rZ, x_rJ, x_mm, x_pop, msel, mpl, mvr, mnw, List.getElem?_cons_zero, List.getElem?_cons_succ, List.set_cons_zero, List.set_cons_succ, List.length_cons, List.length_nil, List.drop_succ_cons, List.drop_zero, List.take_succ_cons, List.take_zero, List.reverse_cons, List.reverse_nil, List.nil_append, List.cons_append, List.append_nil, List.map_cons, List.map_nil, List.sum_cons, List.sum_nil, Option.toList_some, Option.toList_none, x_bs, Value.category, decide_eq_true_eq, decide_true, decide_false, if_true, if_false, Bool.false_eq_true, and_self, and_true, true_and, true_or, or_true, not_true_eq_false, not_false_eq_true, ↓reduceIte, reduceCtorEq, Nat.reduceEqDiff, Nat.reduceAdd, Nat.reduceSub, Nat.reduceMul, Nat.reduceLT, Nat.reduceLeDiff, Nat.reduceBEq, Nat.le_refl, Nat.zero_le, Nat.lt_irrefl, beq_self_eq_true, Nat.succ_ne_zero, Option.some.injEq, Prod.mk.injEq, Int32.reduceLT, Int32.reduceLE, y_60, rt_60_0, rt_60_1, rt_60_11, rt_60_12, rt_60_13, rt_60_14, rt_60_15, rt_60_16, rt_60_17, rt_60_18, rt_60_19, rt_60_20, rt_60_21, rt_60_22, rt_60_23, rt_60_24, rt_60_25, rt_60_26, rt_60_27, rt_60_28, rt_60_29, rt_60_30, rt_60_39, rt_60_41, rt_60_42, rt_60_45, rt_60_46, rt_60_47, rt_60_49, rt_60_50, rt_60_51, rt_60_52, rt_60_53, rt_60_54, rt_60_55, rt_60_56, rt_60_59, rt_60_61, rt_60_62, al_63, as_63, al_64, as_64, al_65, as_65, al_66, as_66, al_67, as_67, al_68, as_68, al_69, as_69, al_70, as_70, al_71, as_71, al_72, as_72, al_73, as_73, al_74, as_74, al_75, as_75, al_76, as_76, al_78, as_78, al_79, as_79, al_80, as_80, al_81, as_81, al_82, as_82, al_83, as_83, al_84, as_84, al_85, as_85, al_86, as_86, al_87, as_87, al_88, as_88, al_89, as_89, al_90, as_90, al_91, as_91, al_92, as_92, al_93, as_93, al_94, as_94, al_95, as_95, al_96, as_96, al_97, as_97, al_98, as_98, al_61, as_61, al_62, as_62, al_99, as_99, al_82_0, as_82_0, al_83_32, as_83_32, al_83_33, as_83_33, ad0, ad8, ad16, ad24, ad_0, mu2, mu8, mu34, nI_add, nI_1, uI_mm, dvN, dvM, h32, h2, h66, le]
    · refine ⟨fun _ => ?_, fun _ => by decide⟩
      rw [List.any_eq_false]
      intro e he
      obtain ⟨j, hj, hje⟩ := List.mem_iff_getElem.mp he
      have := hno j e hj (by rw [List.getElem?_eq_getElem hj, hje])
      simp [this]
  · rintro d L μ ⟨k, hkd, hno, rfl, rfl⟩
    have kl : k < (dc D).length := by omega
    have hge : (dc D)[k]? = some (dc D)[k] := List.getElem?_eq_getElem kl
    obtain ⟨c1, c2, -⟩ := hc k _ hge
    have nle : ¬ nI (dc D).length ≤ nI k := by rw [nI_leI (by omega) (by omega)]; omega
    have k16 : 8 * rb + k < 16 := by omega
    have e63 := wvt_63 tp (i := ((dc D)[k]).1) (Or.inl c1)
    have cc : lg_cmp (jN (wvt tp ((dc D)[k]).1)) (jN (wvt tp i)) = 0 ↔ wvt tp ((dc D)[k]).1 = wvt tp i := (lc0 _ _).trans (jN_inj e63 w63)
    by_cases e : wvt tp ((dc D)[k]).1 = wvt tp i
    · have c0 := cc.mpr e
      refine Or.inl ⟨some (some (.int (nI k)), mm I J f), fun r => ?_, nI k, rfl, ?_⟩
      · simp only [kX12_carHere_2, kX12_carHere_45, x_no, x_cst, x_ldI, x_ldJ, x_ldA, x_stI, x_stJ, x_stA, x_inc, x_bin, x_un, x_i2l, x_bnJ, x_lshl, x_lcmp, x_dup, x_dp2, x_gI, x_gJ, x_gA, x_pI, x_pZ, x_pJ, x_pA, x_c0, x_c2, x_sw, x_cV, x_cS, x_rV, x_rI, x_rZ, x_rJ, x_mm, x_pop, msel, mpl, mvr, mnw, List.getElem?_cons_zero, List.getElem?_cons_succ, List.set_cons_zero, List.set_cons_succ, List.length_cons, List.length_nil, List.drop_succ_cons, List.drop_zero, List.take_succ_cons, List.take_zero, List.reverse_cons, List.reverse_nil, List.nil_append, List.cons_append, List.append_nil, List.map_cons, List.map_nil, List.sum_cons, List.sum_nil, Option.toList_some, Option.toList_none, x_bs, Value.category, decide_eq_true_eq, decide_true, decide_false, if_true, if_false, Bool.false_eq_true, and_self, and_true, true_and, true_or, or_true, not_true_eq_false, not_false_eq_true, ↓reduceIte, reduceCtorEq, Nat.reduceEqDiff, Nat.reduceAdd, Nat.reduceSub, Nat.reduceMul, Nat.reduceLT, Nat.reduceLeDiff, Nat.reduceBEq, Nat.le_refl, Nat.zero_le, Nat.lt_irrefl, beq_self_eq_true, Nat.succ_ne_zero, Option.some.injEq, Prod.mk.injEq, Int32.reduceLT, Int32.reduceLE, y_60, rt_60_0, rt_60_1, rt_60_11, rt_60_12, rt_60_13, rt_60_14, rt_60_15, rt_60_16, rt_60_17, rt_60_18, rt_60_19, rt_60_20, rt_60_21, rt_60_22, rt_60_23, rt_60_24, rt_60_25, rt_60_26, rt_60_27, rt_60_28, rt_60_29, rt_60_30, rt_60_39, rt_60_41, rt_60_42, rt_60_45, rt_60_46, rt_60_47, rt_60_49, rt_60_50, rt_60_51, rt_60_52, rt_60_53, rt_60_54, rt_60_55, rt_60_56, rt_60_59, rt_60_61, rt_60_62, al_63, as_63, al_64, as_64, al_65, as_65, al_66, as_66, al_67, as_67, al_68, as_68, al_69, as_69, al_70, as_70, al_71, as_71, al_72, as_72, al_73, as_73, al_74, as_74, al_75, as_75, al_76, as_76, al_78, as_78, al_79, as_79, al_80, as_80, al_81, as_81, al_82, as_82, al_83, as_83, al_84, as_84, al_85, as_85, al_86, as_86, al_87, as_87, al_88, as_88, al_89, as_89, al_90, as_90, al_91, as_91, al_92, as_92, al_93, as_93, al_94, as_94, al_95, as_95, al_96, as_96, al_97, as_97, al_98, as_98, al_61, as_61, al_62, as_62, al_99, as_99, al_82_0, as_82_0, al_83_32, as_83_32, al_83_33, as_83_33, ad0, ad8, ad16, ad24, ad_0, mu2, mu8, mu34, nI_add, nI_1, uI_mm, dvN, dvM, h32, h2, h66, nle, h8, k16, alJ77 k16, c2, hJ, c0]
      · have t : (dc D).any (fun e => decide (wvt tp e.1 = wvt tp i)) = true := by
          rw [List.any_eq_true]
          exact ⟨_, List.getElem_mem kl, by simp [e]⟩
        rw [t]
        have : ¬ nI k < 0 := nI_pos (by omega)
        simp [this]
    · have c0 : ¬ lg_cmp (jN (wvt tp ((dc D)[k]).1)) (jN (wvt tp i)) = 0 := fun z => e (cc.mp z)
      refine Or.inr ⟨_, _, ⟨k + 1, by omega, fun j e' hj hje => ?_, rfl, rfl⟩, fun r => ?_⟩
      · by_cases ej : j = k
        · subst ej
          rw [hge] at hje
          cases hje
          exact e
        · exact hno j e' (by omega) hje
      · simp only [kX12_carHere_2, kX12_carHere_47, x_no, x_cst, x_ldI, x_ldJ, x_ldA, x_stI, x_stJ, x_stA, x_inc, x_bin, x_un, x_i2l, x_bnJ, x_lshl, x_lcmp, x_dup, x_dp2, x_gI, x_gJ, x_gA, x_pI, x_pZ, x_pJ, x_pA, x_c0, x_c2, x_sw, x_cV, x_cS, x_rV, x_rI, x_rZ, x_rJ, x_mm, x_pop, msel, mpl, mvr, mnw, List.getElem?_cons_zero, List.getElem?_cons_succ, List.set_cons_zero, List.set_cons_succ, List.length_cons, List.length_nil, List.drop_succ_cons, List.drop_zero, List.take_succ_cons, List.take_zero, List.reverse_cons, List.reverse_nil, List.nil_append, List.cons_append, List.append_nil, List.map_cons, List.map_nil, List.sum_cons, List.sum_nil, Option.toList_some, Option.toList_none, x_bs, Value.category, decide_eq_true_eq, decide_true, decide_false, if_true, if_false, Bool.false_eq_true, and_self, and_true, true_and, true_or, or_true, not_true_eq_false, not_false_eq_true, ↓reduceIte, reduceCtorEq, Nat.reduceEqDiff, Nat.reduceAdd, Nat.reduceSub, Nat.reduceMul, Nat.reduceLT, Nat.reduceLeDiff, Nat.reduceBEq, Nat.le_refl, Nat.zero_le, Nat.lt_irrefl, beq_self_eq_true, Nat.succ_ne_zero, Option.some.injEq, Prod.mk.injEq, Int32.reduceLT, Int32.reduceLE, y_60, rt_60_0, rt_60_1, rt_60_11, rt_60_12, rt_60_13, rt_60_14, rt_60_15, rt_60_16, rt_60_17, rt_60_18, rt_60_19, rt_60_20, rt_60_21, rt_60_22, rt_60_23, rt_60_24, rt_60_25, rt_60_26, rt_60_27, rt_60_28, rt_60_29, rt_60_30, rt_60_39, rt_60_41, rt_60_42, rt_60_45, rt_60_46, rt_60_47, rt_60_49, rt_60_50, rt_60_51, rt_60_52, rt_60_53, rt_60_54, rt_60_55, rt_60_56, rt_60_59, rt_60_61, rt_60_62, al_63, as_63, al_64, as_64, al_65, as_65, al_66, as_66, al_67, as_67, al_68, as_68, al_69, as_69, al_70, as_70, al_71, as_71, al_72, as_72, al_73, as_73, al_74, as_74, al_75, as_75, al_76, as_76, al_78, as_78, al_79, as_79, al_80, as_80, al_81, as_81, al_82, as_82, al_83, as_83, al_84, as_84, al_85, as_85, al_86, as_86, al_87, as_87, al_88, as_88, al_89, as_89, al_90, as_90, al_91, as_91, al_92, as_92, al_93, as_93, al_94, as_94, al_95, as_95, al_96, as_96, al_97, as_97, al_98, as_98, al_61, as_61, al_62, as_62, al_99, as_99, al_82_0, as_82_0, al_83_32, as_83_32, al_83_33, as_83_33, ad0, ad8, ad16, ad24, ad_0, mu2, mu8, mu34, nI_add, nI_1, uI_mm, dvN, dvM, h32, h2, h66, nle, h8, k16, alJ77 k16, c2, hJ, c0]
/-- the cell is taken? in a fault's state -/
theorem m_cellF (n f : Nat) {e : Nat × Nat} (h : FM I e) (h2 : rb < 2) (h32 : I 60 32 = nI rb) {len : Nat} (h66 : I 66 rb = nI len) (hl : len ≤ 8) (a b : Option Value) (its : Int32) : ∀ d k, k + d = len → ∀ m, mit (kX12_readCell_57 n) (m + d + 1) [some (.ref 60), a, b, some (.int its), some (.int (nI k))] [] (mm I J f) = some (some (.int its), mm I J f) := by
  have g := m_isGoodF (J := J) n f h
  intro d
  induction d with
  | zero =>
    intro k hk m
    have k1 : k = len := by omega
    subst k1
    have le := Int32.le_refl (nI k)
    rw [mit_succ]
    simp only [kX12_readCell_57, x_no, x_cst, x_ldI, x_ldJ, x_ldA, x_stI, x_stJ, x_stA, x_inc, x_bin, x_un, x_i2l, x_bnJ, x_lshl, x_lcmp, x_dup, x_dp2, x_gI, x_gJ, x_gA, x_pI, x_pZ, x_pJ, x_pA, x_c0, x_c2, x_sw, x_cV, x_cS, x_rV, x_rI, x_rZ, x_rJ, x_mm, x_pop, msel, mpl, mvr, mnw, List.getElem?_cons_zero, List.getElem?_cons_succ, List.set_cons_zero, List.set_cons_succ, List.length_cons, List.length_nil, List.drop_succ_cons, List.drop_zero, List.take_succ_cons, List.take_zero, List.reverse_cons, List.reverse_nil, List.nil_append, List.cons_append, List.append_nil, List.map_cons, List.map_nil, List.sum_cons, List.sum_nil, Option.toList_some, Option.toList_none, x_bs, Value.category, decide_eq_true_eq, decide_true, decide_false, if_true, if_false, Bool.false_eq_true, and_self, and_true, true_and, true_or, or_true, not_true_eq_false, not_false_eq_true, ↓reduceIte, reduceCtorEq, Nat.reduceEqDiff, Nat.reduceAdd, Nat.reduceSub, Nat.reduceMul, Nat.reduceLT, Nat.reduceLeDiff, Nat.reduceBEq, Nat.le_refl, Nat.zero_le, Nat.lt_irrefl, beq_self_eq_true, Nat.succ_ne_zero, Option.some.injEq, Prod.mk.injEq, Int32.reduceLT, Int32.reduceLE, y_60, rt_60_0, rt_60_1, rt_60_11, rt_60_12, rt_60_13, rt_60_14, rt_60_15, rt_60_16, rt_60_17, rt_60_18, rt_60_19, rt_60_20, rt_60_21, rt_60_22, rt_60_23, rt_60_24, rt_60_25, rt_60_26, rt_60_27, rt_60_28, rt_60_29, rt_60_30, rt_60_39, rt_60_41, rt_60_42, rt_60_45, rt_60_46, rt_60_47, rt_60_49, rt_60_50, rt_60_51, rt_60_52, rt_60_53, rt_60_54, rt_60_55, rt_60_56, rt_60_59, rt_60_61, rt_60_62, al_63, as_63, al_64, as_64, al_65, as_65, al_66, as_66, al_67, as_67, al_68, as_68, al_69, as_69, al_70, as_70, al_71, as_71, al_72, as_72, al_73, as_73, al_74, as_74, al_75, as_75, al_76, as_76, al_78, as_78, al_79, as_79, al_80, as_80, al_81, as_81, al_82, as_82, al_83, as_83, al_84, as_84, al_85, as_85, al_86, as_86, al_87, as_87, al_88, as_88, al_89, as_89, al_90, as_90, al_91, as_91, al_92, as_92, al_93, as_93, al_94, as_94, al_95, as_95, al_96, as_96, al_97, as_97, al_98, as_98, al_61, as_61, al_62, as_62, al_99, as_99, al_82_0, as_82_0, al_83_32, as_83_32, al_83_33, as_83_33, ad0, ad8, ad16, ad24, ad_0, mu2, mu8, mu34, nI_add, nI_1, uI_mm, dvN, dvM, h32, h2, h66, le]
  | succ d ih =>
    intro k hk m
    have nle : ¬ nI len ≤ nI k := by rw [nI_leI (by omega) (by omega)]; omega
    rw [← ih (k + 1) (by omega) m, show m + (d + 1) + 1 = (m + d + 1) + 1 by omega, mit_succ]
    generalize mit (kX12_readCell_57 n) (m + d + 1) = gg
    simp only [kX12_readCell_57, kX12_readCell_103, x_no, x_cst, x_ldI, x_ldJ, x_ldA, x_stI, x_stJ, x_stA, x_inc, x_bin, x_un, x_i2l, x_bnJ, x_lshl, x_lcmp, x_dup, x_dp2, x_gI, x_gJ, x_gA, x_pI, x_pZ, x_pJ, x_pA, x_c0, x_c2, x_sw, x_cV, x_cS, x_rV, x_rI, x_rZ, x_rJ, x_mm, x_pop, msel, mpl, mvr, mnw, List.getElem?_cons_zero, List.getElem?_cons_succ, List.set_cons_zero, List.set_cons_succ, List.length_cons, List.length_nil, List.drop_succ_cons, List.drop_zero, List.take_succ_cons, List.take_zero, List.reverse_cons, List.reverse_nil, List.nil_append, List.cons_append, List.append_nil, List.map_cons, List.map_nil, List.sum_cons, List.sum_nil, Option.toList_some, Option.toList_none, x_bs, Value.category, decide_eq_true_eq, decide_true, decide_false, if_true, if_false, Bool.false_eq_true, and_self, and_true, true_and, true_or, or_true, not_true_eq_false, not_false_eq_true, ↓reduceIte, reduceCtorEq, Nat.reduceEqDiff, Nat.reduceAdd, Nat.reduceSub, Nat.reduceMul, Nat.reduceLT, Nat.reduceLeDiff, Nat.reduceBEq, Nat.le_refl, Nat.zero_le, Nat.lt_irrefl, beq_self_eq_true, Nat.succ_ne_zero, Option.some.injEq, Prod.mk.injEq, Int32.reduceLT, Int32.reduceLE, y_60, rt_60_0, rt_60_1, rt_60_11, rt_60_12, rt_60_13, rt_60_14, rt_60_15, rt_60_16, rt_60_17, rt_60_18, rt_60_19, rt_60_20, rt_60_21, rt_60_22, rt_60_23, rt_60_24, rt_60_25, rt_60_26, rt_60_27, rt_60_28, rt_60_29, rt_60_30, rt_60_39, rt_60_41, rt_60_42, rt_60_45, rt_60_46, rt_60_47, rt_60_49, rt_60_50, rt_60_51, rt_60_52, rt_60_53, rt_60_54, rt_60_55, rt_60_56, rt_60_59, rt_60_61, rt_60_62, al_63, as_63, al_64, as_64, al_65, as_65, al_66, as_66, al_67, as_67, al_68, as_68, al_69, as_69, al_70, as_70, al_71, as_71, al_72, as_72, al_73, as_73, al_74, as_74, al_75, as_75, al_76, as_76, al_78, as_78, al_79, as_79, al_80, as_80, al_81, as_81, al_82, as_82, al_83, as_83, al_84, as_84, al_85, as_85, al_86, as_86, al_87, as_87, al_88, as_88, al_89, as_89, al_90, as_90, al_91, as_91, al_92, as_92, al_93, as_93, al_94, as_94, al_95, as_95, al_96, as_96, al_97, as_97, al_98, as_98, al_61, as_61, al_62, as_62, al_99, as_99, al_82_0, as_82_0, al_83_32, as_83_32, al_83_33, as_83_33, ad0, ad8, ad16, ad24, ad_0, mu2, mu8, mu34, nI_add, nI_1, uI_mm, dvN, dvM, h32, h2, h66, nle, g]
set_option maxHeartbeats 4000000 in
/-- the cell is taken? -/
theorem m_cellG (n f : Nat) (hd : DrM I J tp rb lt D) (h4 : I 60 4 = 0) (hl : (dc D).length ≤ 8) (hc64 : ∀ e ∈ dc D, e.2.1 < 2 ^ 30) (a : Option Value) {its pc : Nat} (hits : its < 2 ^ 30) : ∀ d k, k + d = (dc D).length → ∀ m,
    (((dc D).drop k).any (fun e => decide (e.2.1 = its)) = false → mit (kX12_readCell_57 n) (m + d + 1) [some (.ref 60), a, some (.int (nI pc)), some (.int (nI its)), some (.int (nI k))] [] (mm I J f) = some (some (.int (nI its)), mm I J f)) ∧
    (((dc D).drop k).any (fun e => decide (e.2.1 = its)) = true → mit (kX12_readCell_57 n) (m + d + 1) [some (.ref 60), a, some (.int (nI pc)), some (.int (nI its)), some (.int (nI k))] [] (mm I J f) = some (some (.int (nI its)), mm (fmI I 3 (nI pc)) J f)) := by
  obtain ⟨⟨h2, h32⟩, ⟨-, -, h66, -, -, -⟩, -, -, hc, -⟩ := hd
  have g : FX12_isGood n [.ref 60] (mm I J f) = some (some (.int 1), mm I J f) := by rw [m_isGood, b2i_1 h4]
  have q1 : ¬ (1 : Int32) = 0 := by decide
  intro d
  induction d with
  | zero =>
    intro k hk m
    have k1 : k = (dc D).length := by omega
    subst k1
    have le := Int32.le_refl (nI (dc D).length)
    rw [List.drop_length]
    refine ⟨fun _ => ?_, fun z => by simp at z⟩
    rw [mit_succ]
    simp only [kX12_readCell_57, x_no, x_cst, x_ldI, x_ldJ, x_ldA, x_stI, x_stJ, x_stA, x_inc, x_bin, x_un, x_i2l, x_bnJ, x_lshl, x_lcmp, x_dup, x_dp2, x_gI, x_gJ, x_gA, x_pI, x_pZ, x_pJ, x_pA, x_c0, x_c2, x_sw, x_cV, x_cS, x_rV, x_rI, x_rZ, x_rJ, x_mm, x_pop, msel, mpl, mvr, mnw, List.getElem?_cons_zero, List.getElem?_cons_succ, List.set_cons_zero, List.set_cons_succ, List.length_cons, List.length_nil, List.drop_succ_cons, List.drop_zero, List.take_succ_cons, List.take_zero, List.reverse_cons, List.reverse_nil, List.nil_append, List.cons_append, List.append_nil, List.map_cons, List.map_nil, List.sum_cons, List.sum_nil, Option.toList_some, Option.toList_none, x_bs, Value.category, decide_eq_true_eq, decide_true, decide_false, if_true, if_false, Bool.false_eq_true, and_self, and_true, true_and, true_or, or_true, not_true_eq_false, not_false_eq_true, ↓reduceIte, reduceCtorEq, Nat.reduceEqDiff, Nat.reduceAdd, Nat.reduceSub, Nat.reduceMul, Nat.reduceLT, Nat.reduceLeDiff, Nat.reduceBEq, Nat.le_refl, Nat.zero_le, Nat.lt_irrefl, beq_self_eq_true, Nat.succ_ne_zero, Option.some.injEq, Prod.mk.injEq, Int32.reduceLT, Int32.reduceLE, y_60, rt_60_0, rt_60_1, rt_60_11, rt_60_12, rt_60_13, rt_60_14, rt_60_15, rt_60_16, rt_60_17, rt_60_18, rt_60_19, rt_60_20, rt_60_21, rt_60_22, rt_60_23, rt_60_24, rt_60_25, rt_60_26, rt_60_27, rt_60_28, rt_60_29, rt_60_30, rt_60_39, rt_60_41, rt_60_42, rt_60_45, rt_60_46, rt_60_47, rt_60_49, rt_60_50, rt_60_51, rt_60_52, rt_60_53, rt_60_54, rt_60_55, rt_60_56, rt_60_59, rt_60_61, rt_60_62, al_63, as_63, al_64, as_64, al_65, as_65, al_66, as_66, al_67, as_67, al_68, as_68, al_69, as_69, al_70, as_70, al_71, as_71, al_72, as_72, al_73, as_73, al_74, as_74, al_75, as_75, al_76, as_76, al_78, as_78, al_79, as_79, al_80, as_80, al_81, as_81, al_82, as_82, al_83, as_83, al_84, as_84, al_85, as_85, al_86, as_86, al_87, as_87, al_88, as_88, al_89, as_89, al_90, as_90, al_91, as_91, al_92, as_92, al_93, as_93, al_94, as_94, al_95, as_95, al_96, as_96, al_97, as_97, al_98, as_98, al_61, as_61, al_62, as_62, al_99, as_99, al_82_0, as_82_0, al_83_32, as_83_32, al_83_33, as_83_33, ad0, ad8, ad16, ad24, ad_0, mu2, mu8, mu34, nI_add, nI_1, uI_mm, dvN, dvM, h32, h2, h66, le]
  | succ d ih =>
    intro k hk m
    have kl : k < (dc D).length := by omega
    have hge : (dc D)[k]? = some (dc D)[k] := List.getElem?_eq_getElem kl
    have hmem := List.getElem_mem kl
    obtain ⟨c1, c2, c3, -⟩ := hc k _ hge
    have nle : ¬ nI (dc D).length ≤ nI k := by rw [nI_leI (by omega) (by omega)]; omega
    have k16 : 8 * rb + k < 16 := by omega
    have b30 := hc64 _ hmem
    rw [List.drop_eq_getElem_cons kl, List.any_cons]
    rw [show m + (d + 1) + 1 = (m + d + 1) + 1 by omega, mit_succ]
    generalize he : (dc D)[k] = ee at *
    by_cases e : ee.2.1 = its
    · have d0 : nI ee.2.1 = nI its := by rw [e]
      have fl := m_fails0 (J := J) n f h4 3 (nI pc)
      have fm : FM (fmI I 3 (nI pc)) (3, pc) := fmI_FM (I := I) (e := (3, pc)) ⟨(by decide : 1 ≤ 3), (by decide : 3 ≤ 4)⟩
      have fmo : G5 I (fmI I 3 (nI pc)) := fmI_o
      have cf := m_cellF (J := J) n f fm h2 (by rw [fmo 60 32 (by omega)]; exact h32) (by rw [fmo 66 rb (by omega)]; exact h66) hl a (some (.int (nI pc))) (nI its) d (k + 1) (by omega) m
      refine ⟨fun z => by simp [e] at z, fun _ => ?_⟩
      rw [← cf]
      generalize mit (kX12_readCell_57 n) (m + d + 1) = gg
      generalize fmI I 3 (nI pc) = I9 at *
      simp only [kX12_readCell_57, kX12_readCell_100, kX12_readCell_103, x_no, x_cst, x_ldI, x_ldJ, x_ldA, x_stI, x_stJ, x_stA, x_inc, x_bin, x_un, x_i2l, x_bnJ, x_lshl, x_lcmp, x_dup, x_dp2, x_gI, x_gJ, x_gA, x_pI, x_pZ, x_pJ, x_pA, x_c0, x_c2, x_sw, x_cV, x_cS, x_rV, x_rI, x_rZ, x_rJ, x_mm, x_pop, msel, mpl, mvr, mnw, List.getElem?_cons_zero, List.getElem?_cons_succ, List.set_cons_zero, List.set_cons_succ, List.length_cons, List.length_nil, List.drop_succ_cons, List.drop_zero, List.take_succ_cons, List.take_zero, List.reverse_cons, List.reverse_nil, List.nil_append, List.cons_append, List.append_nil, List.map_cons, List.map_nil, List.sum_cons, List.sum_nil, Option.toList_some, Option.toList_none, x_bs, Value.category, decide_eq_true_eq, decide_true, decide_false, if_true, if_false, Bool.false_eq_true, and_self, and_true, true_and, true_or, or_true, not_true_eq_false, not_false_eq_true, ↓reduceIte, reduceCtorEq, Nat.reduceEqDiff, Nat.reduceAdd, Nat.reduceSub, Nat.reduceMul, Nat.reduceLT, Nat.reduceLeDiff, Nat.reduceBEq, Nat.le_refl, Nat.zero_le, Nat.lt_irrefl, beq_self_eq_true, Nat.succ_ne_zero, Option.some.injEq, Prod.mk.injEq, Int32.reduceLT, Int32.reduceLE, y_60, rt_60_0, rt_60_1, rt_60_11, rt_60_12, rt_60_13, rt_60_14, rt_60_15, rt_60_16, rt_60_17, rt_60_18, rt_60_19, rt_60_20, rt_60_21, rt_60_22, rt_60_23, rt_60_24, rt_60_25, rt_60_26, rt_60_27, rt_60_28, rt_60_29, rt_60_30, rt_60_39, rt_60_41, rt_60_42, rt_60_45, rt_60_46, rt_60_47, rt_60_49, rt_60_50, rt_60_51, rt_60_52, rt_60_53, rt_60_54, rt_60_55, rt_60_56, rt_60_59, rt_60_61, rt_60_62, al_63, as_63, al_64, as_64, al_65, as_65, al_66, as_66, al_67, as_67, al_68, as_68, al_69, as_69, al_70, as_70, al_71, as_71, al_72, as_72, al_73, as_73, al_74, as_74, al_75, as_75, al_76, as_76, al_78, as_78, al_79, as_79, al_80, as_80, al_81, as_81, al_82, as_82, al_83, as_83, al_84, as_84, al_85, as_85, al_86, as_86, al_87, as_87, al_88, as_88, al_89, as_89, al_90, as_90, al_91, as_91, al_92, as_92, al_93, as_93, al_94, as_94, al_95, as_95, al_96, as_96, al_97, as_97, al_98, as_98, al_61, as_61, al_62, as_62, al_99, as_99, al_82_0, as_82_0, al_83_32, as_83_32, al_83_33, as_83_33, ad0, ad8, ad16, ad24, ad_0, mu2, mu8, mu34, nI_add, nI_1, uI_mm, dvN, dvM, h32, h2, h66, nle, g, q1, k16, c3, d0, fl]
    · have d0 : ¬ nI ee.2.1 = nI its := fun z => e ((nI_eq (by omega) (by omega)).mp z)
      have dd : (decide (ee.2.1 = its) || List.any ((dc D).drop (k + 1)) fun e => decide (e.2.1 = its)) = List.any ((dc D).drop (k + 1)) fun e => decide (e.2.1 = its) := by simp [e]
      rw [dd]
      obtain ⟨i1, i2⟩ := ih (k + 1) (by omega) m
      generalize mit (kX12_readCell_57 n) (m + d + 1) = gg at *
      have st : kX12_readCell_57 n gg [some (.ref 60), a, some (.int (nI pc)), some (.int (nI its)), some (.int (nI k))] [] (mm I J f) = gg [some (.ref 60), a, some (.int (nI pc)), some (.int (nI its)), some (.int (nI (k + 1)))] [] (mm I J f) := by
        simp only [kX12_readCell_57, kX12_readCell_103, x_no, x_cst, x_ldI, x_ldJ, x_ldA, x_stI, x_stJ, x_stA, x_inc, x_bin, x_un, x_i2l, x_bnJ, x_lshl, x_lcmp, x_dup, x_dp2, x_gI, x_gJ, x_gA, x_pI, x_pZ, x_pJ, x_pA, x_c0, x_c2, x_sw, x_cV, x_cS, x_rV, x_rI, x_rZ, x_rJ, x_mm, x_pop, msel, mpl, mvr, mnw, List.getElem?_cons_zero, List.getElem?_cons_succ, List.set_cons_zero, List.set_cons_succ, List.length_cons, List.length_nil, List.drop_succ_cons, List.drop_zero, List.take_succ_cons, List.take_zero, List.reverse_cons, List.reverse_nil, List.nil_append, List.cons_append, List.append_nil, List.map_cons, List.map_nil, List.sum_cons, List.sum_nil, Option.toList_some, Option.toList_none, x_bs, Value.category, decide_eq_true_eq, decide_true, decide_false, if_true, if_false, Bool.false_eq_true, and_self, and_true, true_and, true_or, or_true, not_true_eq_false, not_false_eq_true, ↓reduceIte, reduceCtorEq, Nat.reduceEqDiff, Nat.reduceAdd, Nat.reduceSub, Nat.reduceMul, Nat.reduceLT, Nat.reduceLeDiff, Nat.reduceBEq, Nat.le_refl, Nat.zero_le, Nat.lt_irrefl, beq_self_eq_true, Nat.succ_ne_zero, Option.some.injEq, Prod.mk.injEq, Int32.reduceLT, Int32.reduceLE, y_60, rt_60_0, rt_60_1, rt_60_11, rt_60_12, rt_60_13, rt_60_14, rt_60_15, rt_60_16, rt_60_17, rt_60_18, rt_60_19, rt_60_20, rt_60_21, rt_60_22, rt_60_23, rt_60_24, rt_60_25, rt_60_26, rt_60_27, rt_60_28, rt_60_29, rt_60_30, rt_60_39, rt_60_41, rt_60_42, rt_60_45, rt_60_46, rt_60_47, rt_60_49, rt_60_50, rt_60_51, rt_60_52, rt_60_53, rt_60_54, rt_60_55, rt_60_56, rt_60_59, rt_60_61, rt_60_62, al_63, as_63, al_64, as_64, al_65, as_65, al_66, as_66, al_67, as_67, al_68, as_68, al_69, as_69, al_70, as_70, al_71, as_71, al_72, as_72, al_73, as_73, al_74, as_74, al_75, as_75, al_76, as_76, al_78, as_78, al_79, as_79, al_80, as_80, al_81, as_81, al_82, as_82, al_83, as_83, al_84, as_84, al_85, as_85, al_86, as_86, al_87, as_87, al_88, as_88, al_89, as_89, al_90, as_90, al_91, as_91, al_92, as_92, al_93, as_93, al_94, as_94, al_95, as_95, al_96, as_96, al_97, as_97, al_98, as_98, al_61, as_61, al_62, as_62, al_99, as_99, al_82_0, as_82_0, al_83_32, as_83_32, al_83_33, as_83_33, ad0, ad8, ad16, ad24, ad_0, mu2, mu8, mu34, nI_add, nI_1, uI_mm, dvN, dvM, h32, h2, h66, nle, g, q1, k16, c3, d0]
      exact ⟨fun z => st.trans (i1 z), fun z => st.trans (i2 z)⟩
set_option maxHeartbeats 8000000 in
theorem m_readCell (hn : 1700 < n) (f : Nat) (h : RdM I J tp i) (hd : DrM I J tp rb lt D) (hD : DOK D) :
    (∀ e, bnd (tkK tp 18 i) (fun i2 => celP tp i2 D) = .error e → ∃ x I' J', FX12_readCell n [.ref 60] (mm I J f) = some (some (.int x), mm I' J' f) ∧ FS tp I' e ∧ G5 I I') ∧
    (∀ p, bnd (tkK tp 18 i) (fun i2 => celP tp i2 D) = .ok p → ∃ I' J', FX12_readCell n [.ref 60] (mm I J f) = some (some (.int (nI p.1)), mm I' J' f) ∧ RdM I' J' tp p.2 ∧ GFr I I' J J') := by
  obtain ⟨d1, ⟨d2, d2'⟩, ⟨d3, d3'⟩, d4, d5, -⟩ := hD
  have h2 := hd.1.1
  have h32 := hd.1.2
  have h63 := hd.2.1.1
  have h64 := hd.2.1.2.1
  have h66 := hd.2.1.2.2.1
  have e63 : nI (dC D) - 1 = nI (dC D - 1) := by
    have := nI_pred (dC D - 1)
    rw [show dC D - 1 + 1 = dC D by omega] at this
    exact this
  have e64 : nI (dR D) - 1 = nI (dR D - 1) := by
    have := nI_pred (dR D - 1)
    rw [show dR D - 1 + 1 = dR D by omega] at this
    exact this
  have hcc : dC D * dR D ≤ 64 := Nat.mul_le_mul d2' d3'
  have c64 : ∀ e ∈ dc D, e.2.1 < 2 ^ 30 := fun e he => by have := (d5 e he).1; omega
  obtain ⟨a1, a2⟩ := m_afterL hn f h (w := 3) (by decide) (lo := 0) (hi := dC D - 1) (x := 24948) (l := 0) (m := nI (dC D - 1)) (by decide) (by omega) rfl rfl rfl
  have as : bnd (tkK tp 18 i) (fun i2 => celP tp i2 D) = bnd (bnd (tkK tp (15 + 3) i) fun i1 => tkN tp 0 (dC D - 1) i1) fun x => bnd (tkN tp 0 (dR D - 1) x.2) fun y => if (dc D).any (fun e => decide (e.2.1 = y.1 * dC D + x.1)) = true then .error (3, pl tp x.2) else .ok (y.1 * dC D + x.1, y.2) := by
    unfold celP
    show bnd (tkK tp 18 i) _ = bnd (bnd (tkK tp 18 i) _) _
    cases tkK tp 18 i <;> rfl
  rw [as]
  cases hr : bnd (tkK tp (15 + 3) i) fun i1 => tkN tp 0 (dC D - 1) i1 with
  | error e =>
    refine ⟨fun e' he => ?_, fun p hp => by cases hp⟩
    cases he
    obtain ⟨I1, J1, k1, k2, k3⟩ := a1 e hr
    have i32 : I1 60 32 = nI rb := by rw [k3 60 32 (by omega)]; exact h32
    have i63 : I1 63 rb = nI (dC D) := by rw [k3 63 rb (by omega)]; exact h63
    have i64 : I1 64 rb = nI (dR D) := by rw [k3 64 rb (by omega)]; exact h64
    have nf := m_numeralF (J := J1) n f k2.1 0 (nI (dR D - 1))
    have cf := m_cellF (J := J1) n f k2.1 h2 i32 (by rw [k3 66 rb (by omega)]; exact h66) d4 (some (.int 0)) (some (.int (I1 60 6))) (0 * nI (dC D) + 0) (dc D).length 0 (by omega) (n - (dc D).length - 1)
    rw [show n - (dc D).length - 1 + (dc D).length + 1 = n by omega] at cf
    refine ⟨0 * nI (dC D) + 0, I1, J1, ?_, k2, k3⟩
    have cf : mit (kX12_readCell_57 n) n [some (.ref 60), some (.int 0), some (.int (I1 60 6)), some (.int (0 * nI (dC D) + 0)), some (.int 0)] [] (mm I1 J1 f) = _ := cf
    rw [← cf]
    simp only [eX12_readCell, kX12_readCell_0, kX12_readCell_38, x_no, x_cst, x_ldI, x_ldJ, x_ldA, x_stI, x_stJ, x_stA, x_inc, x_bin, x_un, x_i2l, x_bnJ, x_lshl, x_lcmp, x_dup, x_dp2, x_gI, x_gJ, x_gA, x_pI, x_pZ, x_pJ, x_pA, x_c0, x_c2, x_sw, x_cV, x_cS, x_rV, x_rI, x_rZ, x_rJ, x_mm, x_pop, msel, mpl, mvr, mnw, List.getElem?_cons_zero, List.getElem?_cons_succ, List.set_cons_zero, List.set_cons_succ, List.length_cons, List.length_nil, List.drop_succ_cons, List.drop_zero, List.take_succ_cons, List.take_zero, List.reverse_cons, List.reverse_nil, List.nil_append, List.cons_append, List.append_nil, List.map_cons, List.map_nil, List.sum_cons, List.sum_nil, Option.toList_some, Option.toList_none, x_bs, Value.category, decide_eq_true_eq, decide_true, decide_false, if_true, if_false, Bool.false_eq_true, and_self, and_true, true_and, true_or, or_true, not_true_eq_false, not_false_eq_true, ↓reduceIte, reduceCtorEq, Nat.reduceEqDiff, Nat.reduceAdd, Nat.reduceSub, Nat.reduceMul, Nat.reduceLT, Nat.reduceLeDiff, Nat.reduceBEq, Nat.le_refl, Nat.zero_le, Nat.lt_irrefl, beq_self_eq_true, Nat.succ_ne_zero, Option.some.injEq, Prod.mk.injEq, Int32.reduceLT, Int32.reduceLE, y_60, rt_60_0, rt_60_1, rt_60_11, rt_60_12, rt_60_13, rt_60_14, rt_60_15, rt_60_16, rt_60_17, rt_60_18, rt_60_19, rt_60_20, rt_60_21, rt_60_22, rt_60_23, rt_60_24, rt_60_25, rt_60_26, rt_60_27, rt_60_28, rt_60_29, rt_60_30, rt_60_39, rt_60_41, rt_60_42, rt_60_45, rt_60_46, rt_60_47, rt_60_49, rt_60_50, rt_60_51, rt_60_52, rt_60_53, rt_60_54, rt_60_55, rt_60_56, rt_60_59, rt_60_61, rt_60_62, al_63, as_63, al_64, as_64, al_65, as_65, al_66, as_66, al_67, as_67, al_68, as_68, al_69, as_69, al_70, as_70, al_71, as_71, al_72, as_72, al_73, as_73, al_74, as_74, al_75, as_75, al_76, as_76, al_78, as_78, al_79, as_79, al_80, as_80, al_81, as_81, al_82, as_82, al_83, as_83, al_84, as_84, al_85, as_85, al_86, as_86, al_87, as_87, al_88, as_88, al_89, as_89, al_90, as_90, al_91, as_91, al_92, as_92, al_93, as_93, al_94, as_94, al_95, as_95, al_96, as_96, al_97, as_97, al_98, as_98, al_61, as_61, al_62, as_62, al_99, as_99, al_82_0, as_82_0, al_83_32, as_83_32, al_83_33, as_83_33, ad0, ad8, ad16, ad24, ad_0, mu2, mu8, mu34, nI_add, nI_1, uI_mm, dvN, dvM, h32, h2, h63, e63, k1, i32, i64, e64, nf, i63]
  | ok p =>
    obtain ⟨I1, J1, k1, k2, k3⟩ := a2 p hr
    have i32 : I1 60 32 = nI rb := by rw [k3.1 60 32 (by omega)]; exact h32
    have i64 : I1 64 rb = nI (dR D) := by rw [k3.1 64 rb (by omega)]; exact h64
    have i6 : I1 60 6 = nI (pl tp p.2) := k2.2.1.1
    obtain ⟨b1, b2⟩ := m_numeralL hn f k2 (lo := 0) (hi := dR D - 1) (l := 0) (m := nI (dR D - 1)) (by decide) (by omega) rfl rfl
    show (∀ e, bnd (tkN tp 0 (dR D - 1) p.2) (fun y => if (dc D).any (fun e => decide (e.2.1 = y.1 * dC D + p.1)) = true then .error (3, pl tp p.2) else .ok (y.1 * dC D + p.1, y.2)) = .error e → _) ∧ (∀ q, bnd (tkN tp 0 (dR D - 1) p.2) (fun y => if (dc D).any (fun e => decide (e.2.1 = y.1 * dC D + p.1)) = true then .error (3, pl tp p.2) else .ok (y.1 * dC D + p.1, y.2)) = .ok q → _)
    have px : p.1 ≤ dC D - 1 := by
      obtain ⟨i1, -, g2⟩ := bnd_ok hr
      unfold tkN at g2
      split at g2
      · split at g2
        · rename_i z; cases g2; exact z.2
        · cases g2
      · cases g2
    cases hN : tkN tp 0 (dR D - 1) p.2 with
    | error e =>
      refine ⟨fun e' he => ?_, fun p hp => by cases hp⟩
      cases he
      obtain ⟨I2, y1, y2, y3⟩ := b1 e hN
      have j32 : I2 60 32 = nI rb := by rw [y3 60 32 (by omega)]; exact i32
      have j63 : I2 63 rb = nI (dC D) := by rw [y3 63 rb (by omega), k3.1 63 rb (by omega)]; exact h63
      have cf := m_cellF (J := J1) n f y2.1 h2 j32 (by rw [y3 66 rb (by omega), k3.1 66 rb (by omega)]; exact h66) d4 (some (.int (nI p.1))) (some (.int (nI (pl tp p.2)))) (0 * nI (dC D) + nI p.1) (dc D).length 0 (by omega) (n - (dc D).length - 1)
      rw [show n - (dc D).length - 1 + (dc D).length + 1 = n by omega] at cf
      refine ⟨0 * nI (dC D) + nI p.1, I2, J1, ?_, y2, k3.g5.tr y3⟩
      have cf : mit (kX12_readCell_57 n) n [some (.ref 60), some (.int (nI p.1)), some (.int (nI (pl tp p.2))), some (.int (0 * nI (dC D) + nI p.1)), some (.int 0)] [] (mm I2 J1 f) = _ := cf
      rw [← cf]
      simp only [eX12_readCell, kX12_readCell_0, kX12_readCell_38, x_no, x_cst, x_ldI, x_ldJ, x_ldA, x_stI, x_stJ, x_stA, x_inc, x_bin, x_un, x_i2l, x_bnJ, x_lshl, x_lcmp, x_dup, x_dp2, x_gI, x_gJ, x_gA, x_pI, x_pZ, x_pJ, x_pA, x_c0, x_c2, x_sw, x_cV, x_cS, x_rV, x_rI, x_rZ, x_rJ, x_mm, x_pop, msel, mpl, mvr, mnw, List.getElem?_cons_zero, List.getElem?_cons_succ, List.set_cons_zero, List.set_cons_succ, List.length_cons, List.length_nil, List.drop_succ_cons, List.drop_zero, List.take_succ_cons, List.take_zero, List.reverse_cons, List.reverse_nil, List.nil_append, List.cons_append, List.append_nil, List.map_cons, List.map_nil, List.sum_cons, List.sum_nil, Option.toList_some, Option.toList_none, x_bs, Value.category, decide_eq_true_eq, decide_true, decide_false, if_true, if_false, Bool.false_eq_true, and_self, and_true, true_and, true_or, or_true, not_true_eq_false, not_false_eq_true, ↓reduceIte, reduceCtorEq, Nat.reduceEqDiff, Nat.reduceAdd, Nat.reduceSub, Nat.reduceMul, Nat.reduceLT, Nat.reduceLeDiff, Nat.reduceBEq, Nat.le_refl, Nat.zero_le, Nat.lt_irrefl, beq_self_eq_true, Nat.succ_ne_zero, Option.some.injEq, Prod.mk.injEq, Int32.reduceLT, Int32.reduceLE, y_60, rt_60_0, rt_60_1, rt_60_11, rt_60_12, rt_60_13, rt_60_14, rt_60_15, rt_60_16, rt_60_17, rt_60_18, rt_60_19, rt_60_20, rt_60_21, rt_60_22, rt_60_23, rt_60_24, rt_60_25, rt_60_26, rt_60_27, rt_60_28, rt_60_29, rt_60_30, rt_60_39, rt_60_41, rt_60_42, rt_60_45, rt_60_46, rt_60_47, rt_60_49, rt_60_50, rt_60_51, rt_60_52, rt_60_53, rt_60_54, rt_60_55, rt_60_56, rt_60_59, rt_60_61, rt_60_62, al_63, as_63, al_64, as_64, al_65, as_65, al_66, as_66, al_67, as_67, al_68, as_68, al_69, as_69, al_70, as_70, al_71, as_71, al_72, as_72, al_73, as_73, al_74, as_74, al_75, as_75, al_76, as_76, al_78, as_78, al_79, as_79, al_80, as_80, al_81, as_81, al_82, as_82, al_83, as_83, al_84, as_84, al_85, as_85, al_86, as_86, al_87, as_87, al_88, as_88, al_89, as_89, al_90, as_90, al_91, as_91, al_92, as_92, al_93, as_93, al_94, as_94, al_95, as_95, al_96, as_96, al_97, as_97, al_98, as_98, al_61, as_61, al_62, as_62, al_99, as_99, al_82_0, as_82_0, al_83_32, as_83_32, al_83_33, as_83_33, ad0, ad8, ad16, ad24, ad_0, mu2, mu8, mu34, nI_add, nI_1, uI_mm, dvN, dvM, h32, h2, h63, e63, k1, i32, i6, i64, e64, y1, j32, j63]
    | ok q =>
      obtain ⟨I2, J2, y1, y2, y3⟩ := b2 q hN
      have j32 : I2 60 32 = nI rb := by rw [y3.1 60 32 (by omega)]; exact i32
      have j63 : I2 63 rb = nI (dC D) := by rw [y3.1 63 rb (by omega), k3.1 63 rb (by omega)]; exact h63
      have qx : q.1 ≤ dR D - 1 := by
        unfold tkN at hN
        split at hN
        · split at hN
          · rename_i z; cases hN; exact z.2
          · cases hN
        · cases hN
      have hlt := cell_lt px qx d2 d3
      have ev : nI q.1 * nI (dC D) + nI p.1 = nI (q.1 * dC D + p.1) := by rw [pk_mul, nI_add]
      have gf : GFr I I2 J J2 := ⟨fun b j hb => (y3.1 b j hb).trans (k3.1 b j hb), fun b j hb => (y3.2 b j hb).trans (k3.2 b j hb)⟩
      have dd2 := DrM_g hd gf
      have cg := m_cellG n f dd2 y2.2.2.2 d4 c64 (some (.int (nI p.1))) (its := q.1 * dC D + p.1) (pc := pl tp p.2) (by omega) (dc D).length 0 (by omega) (n - (dc D).length - 1)
      rw [show n - (dc D).length - 1 + (dc D).length + 1 = n by omega, List.drop_zero] at cg
      have run : FX12_readCell n [.ref 60] (mm I J f) = mit (kX12_readCell_57 n) n [some (.ref 60), some (.int (nI p.1)), some (.int (nI (pl tp p.2))), some (.int (nI (q.1 * dC D + p.1))), some (.int (nI 0))] [] (mm I2 J2 f) := by
        show _ = mit (kX12_readCell_57 n) n [some (.ref 60), some (.int (nI p.1)), some (.int (nI (pl tp p.2))), some (.int (nI (q.1 * dC D + p.1))), some (.int 0)] [] (mm I2 J2 f)
        rw [← ev]
        simp only [eX12_readCell, kX12_readCell_0, kX12_readCell_38, x_no, x_cst, x_ldI, x_ldJ, x_ldA, x_stI, x_stJ, x_stA, x_inc, x_bin, x_un, x_i2l, x_bnJ, x_lshl, x_lcmp, x_dup, x_dp2, x_gI, x_gJ, x_gA, x_pI, x_pZ, x_pJ, x_pA, x_c0, x_c2, x_sw, x_cV, x_cS, x_rV, x_rI, x_rZ, x_rJ, x_mm, x_pop, msel, mpl, mvr, mnw, List.getElem?_cons_zero, List.getElem?_cons_succ, List.set_cons_zero, List.set_cons_succ, List.length_cons, List.length_nil, List.drop_succ_cons, List.drop_zero, List.take_succ_cons, List.take_zero, List.reverse_cons, List.reverse_nil, List.nil_append, List.cons_append, List.append_nil, List.map_cons, List.map_nil, List.sum_cons, List.sum_nil, Option.toList_some, Option.toList_none, x_bs, Value.category, decide_eq_true_eq, decide_true, decide_false, if_true, if_false, Bool.false_eq_true, and_self, and_true, true_and, true_or, or_true, not_true_eq_false, not_false_eq_true, ↓reduceIte, reduceCtorEq, Nat.reduceEqDiff, Nat.reduceAdd, Nat.reduceSub, Nat.reduceMul, Nat.reduceLT, Nat.reduceLeDiff, Nat.reduceBEq, Nat.le_refl, Nat.zero_le, Nat.lt_irrefl, beq_self_eq_true, Nat.succ_ne_zero, Option.some.injEq, Prod.mk.injEq, Int32.reduceLT, Int32.reduceLE, y_60, rt_60_0, rt_60_1, rt_60_11, rt_60_12, rt_60_13, rt_60_14, rt_60_15, rt_60_16, rt_60_17, rt_60_18, rt_60_19, rt_60_20, rt_60_21, rt_60_22, rt_60_23, rt_60_24, rt_60_25, rt_60_26, rt_60_27, rt_60_28, rt_60_29, rt_60_30, rt_60_39, rt_60_41, rt_60_42, rt_60_45, rt_60_46, rt_60_47, rt_60_49, rt_60_50, rt_60_51, rt_60_52, rt_60_53, rt_60_54, rt_60_55, rt_60_56, rt_60_59, rt_60_61, rt_60_62, al_63, as_63, al_64, as_64, al_65, as_65, al_66, as_66, al_67, as_67, al_68, as_68, al_69, as_69, al_70, as_70, al_71, as_71, al_72, as_72, al_73, as_73, al_74, as_74, al_75, as_75, al_76, as_76, al_78, as_78, al_79, as_79, al_80, as_80, al_81, as_81, al_82, as_82, al_83, as_83, al_84, as_84, al_85, as_85, al_86, as_86, al_87, as_87, al_88, as_88, al_89, as_89, al_90, as_90, al_91, as_91, al_92, as_92, al_93, as_93, al_94, as_94, al_95, as_95, al_96, as_96, al_97, as_97, al_98, as_98, al_61, as_61, al_62, as_62, al_99, as_99, al_82_0, as_82_0, al_83_32, as_83_32, al_83_33, as_83_33, ad0, ad8, ad16, ad24, ad_0, mu2, mu8, mu34, nI_add, nI_1, uI_mm, dvN, dvM, h32, h2, h63, e63, k1, i32, i6, i64, e64, y1, j32, j63]
      show (∀ e, (if (dc D).any (fun e => decide (e.2.1 = q.1 * dC D + p.1)) = true then (.error (3, pl tp p.2) : EX2 (Nat × Nat)) else .ok (q.1 * dC D + p.1, q.2)) = .error e → _) ∧ (∀ p', (if (dc D).any (fun e => decide (e.2.1 = q.1 * dC D + p.1)) = true then (.error (3, pl tp p.2) : EX2 (Nat × Nat)) else .ok (q.1 * dC D + p.1, q.2)) = .ok p' → _)
      by_cases ea : (dc D).any (fun e => decide (e.2.1 = q.1 * dC D + p.1)) = true
      · rw [if_pos ea]
        refine ⟨fun e' he => ?_, fun p hp => by cases hp⟩
        cases he
        exact ⟨_, _, J2, run.trans (cg.2 ea), fmI_FS y2 (e := (3, pl tp p.2)) ⟨(by decide : 1 ≤ 3), (by decide : 3 ≤ 4)⟩, gf.g5.tr fmI_o⟩
      · rw [if_neg ea]
        refine ⟨fun e' he => (by cases he), fun p' hp => ?_⟩
        cases hp
        exact ⟨I2, J2, run.trans (cg.1 ((Bool.not_eq_true _).mp ea)), y2, gf⟩
end MCar
