/-! PURE: the model: untell, later, end; what is kept, the history -/
def cq (I : Nat → Nat → Int32) (s d q k : Nat) : Nat → Nat → Int32 := fun b i => if b = d ∧ q ≤ i ∧ i < q + k then I s (i - q) else I b i
def cr (I : Nat → Nat → Int32) (s q d k : Nat) : Nat → Nat → Int32 := fun b i => if b = d ∧ i < k then I s (q + i) else I b i
def sw8 (I : Nat → Nat → Int32) (q k : Nat) : Nat → Nat → Int32 := fun b i => if b = 83 ∧ i < k then I 85 (q + i) else if b = 85 ∧ q ≤ i ∧ i < q + k then I 83 (i - q) else I b i
def dqI (I : Nat → Nat → Int32) (k : Nat) : Nat → Nat → Int32 := fun b i => if b = 85 ∧ i < k then I 85 (i + 34) else I b i
section MActs
variable {n : Nat} {I : Nat → Nat → Int32} {b : Nat} {A : AS} {T : TA} {S : SA}
theorem cq_o {s d q k c i : Nat} (h : c ≠ d) : cq I s d q k c i = I c i := by simp [cq, h]
theorem cq_0 (s d q : Nat) : cq I s d q 0 = I := by
  funext c i
  unfold cq
  rw [if_neg (by omega)]
theorem cq_at {s d q k t : Nat} (h : t < k) : cq I s d q k d (q + t) = I s t := by
  unfold cq
  rw [if_pos ⟨rfl, by omega, by omega⟩, Nat.add_sub_cancel_left]
theorem cq_out {s d q k c i : Nat} (h : i < q ∨ q + k ≤ i) : cq I s d q k c i = I c i := by
  unfold cq
  rw [if_neg (by omega)]
theorem cq_step (s d q k : Nat) : u2 (cq I s d q k) d (q + k) (I s k) = cq I s d q (k + 1) := by
  funext c i
  unfold u2 cq
  by_cases h : c = d ∧ i = q + k
  · rw [if_pos h, if_pos ⟨h.1, by omega, by omega⟩, h.2, Nat.add_sub_cancel_left]
  · rw [if_neg h]
    by_cases h2 : c = d ∧ q ≤ i ∧ i < q + k
    · rw [if_pos h2, if_pos ⟨h2.1, h2.2.1, by omega⟩]
    · rw [if_neg h2, if_neg (fun z => h2 ⟨z.1, z.2.1, by
        rcases Nat.lt_or_ge i (q + k) with w | w
        · exact w
        · exact absurd ⟨z.1, by omega⟩ h⟩)]
theorem cr_o {s d q k c i : Nat} (h : c ≠ d) : cr I s q d k c i = I c i := by simp [cr, h]
theorem cr_0 (s q d : Nat) : cr I s q d 0 = I := by
  funext c i
  unfold cr
  rw [if_neg (by omega)]
theorem cr_at {s d q k t : Nat} (h : t < k) : cr I s q d k d t = I s (q + t) := by simp [cr, h]
theorem cr_step (s q d k : Nat) : u2 (cr I s q d k) d k (I s (q + k)) = cr I s q d (k + 1) := by
  funext c i
  unfold u2 cr
  by_cases h : c = d ∧ i = k
  · rw [if_pos h, if_pos ⟨h.1, by omega⟩, h.2]
  · rw [if_neg h]
    by_cases h2 : c = d ∧ i < k
    · rw [if_pos h2, if_pos ⟨h2.1, by omega⟩]
    · rw [if_neg h2, if_neg (fun z => h2 ⟨z.1, by
        rcases Nat.lt_or_ge i k with w | w
        · exact w
        · exact absurd ⟨z.1, by omega⟩ h⟩)]
theorem sw8_o {q k c i : Nat} (h1 : c ≠ 83) (h2 : c ≠ 85) : sw8 I q k c i = I c i := by simp [sw8, h1, h2]
theorem sw8_0 (q : Nat) : sw8 I q 0 = I := by
  funext c i
  unfold sw8
  rw [if_neg (by omega), if_neg (by omega)]
theorem sw8_a {q k t : Nat} (h : t < k) : sw8 I q k 83 t = I 85 (q + t) := by simp [sw8, h]
theorem sw8_a' {q k t : Nat} (h : k ≤ t) : sw8 I q k 83 t = I 83 t := by
  unfold sw8
  rw [if_neg (by omega), if_neg (by omega)]
theorem sw8_w {q k t : Nat} (h : t < k) : sw8 I q k 85 (q + t) = I 83 t := by
  unfold sw8
  rw [if_neg (by omega), if_pos ⟨rfl, by omega, by omega⟩, Nat.add_sub_cancel_left]
theorem sw8_w' {q k i : Nat} (h : i < q ∨ q + k ≤ i) : sw8 I q k 85 i = I 85 i := by
  unfold sw8
  rw [if_neg (by omega), if_neg (by omega)]
theorem sw8_step (q k : Nat) : u2 (u2 (sw8 I q k) 85 (q + k) (I 83 k)) 83 k (I 85 (q + k)) = sw8 I q (k + 1) := by
  funext c i
  unfold u2 sw8
  by_cases h : c = 83
  · subst h
    by_cases h2 : i = k
    · subst h2
      rw [if_pos ⟨rfl, rfl⟩, if_pos ⟨rfl, by omega⟩]
    · rw [if_neg (by omega), if_neg (by omega)]
      by_cases h3 : i < k
      · rw [if_pos ⟨rfl, h3⟩, if_pos ⟨rfl, by omega⟩]
      · rw [if_neg (by omega), if_neg (by omega), if_neg (by omega), if_neg (by omega)]
  · rw [if_neg (by omega)]
    by_cases h4 : c = 85
    · subst h4
      by_cases h2 : i = q + k
      · subst h2
        rw [if_pos ⟨rfl, rfl⟩, if_neg (by omega), if_pos ⟨rfl, by omega, by omega⟩, Nat.add_sub_cancel_left]
      · rw [if_neg (by omega), if_neg (by omega)]
        by_cases h3 : q ≤ i ∧ i < q + k
        · rw [if_pos ⟨rfl, h3⟩, if_neg (by omega), if_pos ⟨rfl, by omega, by omega⟩]
        · rw [if_neg (by omega), if_neg (by omega), if_neg (by omega)]
    · rw [if_neg (by omega), if_neg (by omega), if_neg (by omega), if_neg (by omega), if_neg (by omega)]
theorem MSv_sh {I' : Nat → Nat → Int32} {d q d' q' k : Nat} (hk : k ≤ 8) (h : MSv I d q k S) (hI : ∀ t, t < 34 → I' d' (q' + t) = I d (q + t)) : MSv I' d' q' k S := by
  obtain ⟨h1, h2, h3⟩ := h
  refine ⟨fun j hj => ?_, ?_, ?_⟩
  · rw [hI _ (by omega), hI _ (by omega), hI _ (by omega), hI _ (by omega)]; exact h1 j hj
  · rw [hI _ (by omega)]; exact h2
  · rw [hI _ (by omega)]; exact h3
theorem MSv_MA {I' : Nat → Nat → Int32} {d q k : Nat} (hk : k ≤ 8) (h : MSv I d q k S) (hI : ∀ t, t < 34 → I' 83 t = I d (q + t)) : MA I' k S := by
  obtain ⟨h1, h2, h3⟩ := h
  refine ⟨fun j hj => ?_, ?_, ?_⟩
  · rw [hI _ (by omega), hI _ (by omega), hI _ (by omega), hI _ (by omega)]; exact h1 j hj
  · rw [hI _ (by omega)]; exact h2
  · rw [hI _ (by omega)]; exact h3
theorem MA_MSv {I' : Nat → Nat → Int32} {d q k : Nat} (hk : k ≤ 8) (h : MA I k S) (hI : ∀ t, t < 34 → I' d (q + t) = I 83 t) : MSv I' d q k S := by
  obtain ⟨h1, h2, h3⟩ := h
  refine ⟨fun j hj => ?_, ?_, ?_⟩
  · rw [hI _ (by omega), hI _ (by omega), hI _ (by omega), hI _ (by omega)]; exact h1 j hj
  · rw [hI _ (by omega)]; exact h2
  · rw [hI _ (by omega)]; exact h3
set_option maxHeartbeats 4000000 in
theorem m_untell (n : Nat) (J : Nat → Nat → Int64) (f : Nat) (h : RM I b A) (i : Int32) : ∃ I', FX12_untell n [.ref 60, .int i] (mm I J f) = some (some (.int (b2i (untB A i = true))), mm I' J f) ∧ RM I' b (sUntell A i) ∧ hiM I I' := by
  obtain ⟨hl, h6, ⟨h7, h7b⟩, hE⟩ := h.2.2.2.2.1
  have hle := le_m1 (show (aHd A).length < 2 ^ 30 by omega) i
  by_cases e : 0 ≤ i ∧ i ≤ nI (aHd A).length - 1
  · have e2 := hle.mp e
    simp only [Bool.and_eq_true, decide_eq_true_eq] at e2
    obtain ⟨j, hj, rfl⟩ := nI_of (x := i) (Int32.not_lt.mpr e2.1)
    have hjl := e2.2
    rw [nI_clamp hj] at hjl
    obtain ⟨⟨g1, g1b⟩, g2, g3, g4, g5, g6⟩ := hE j hjl
    cases eq : ((aHd A).getD j he0).2.2.2.2 with
    | none =>
      have hb : untB A (nI j) = true := by
        simp only [untB, nI_clamp hj, hjl, eq, nI_pos' hj, decide_true, Bool.true_and, Option.isNone_none]
      have e96 : I 96 j = -1 := by rw [g5, eq]; rfl
      have e96' : I 96 j < 0 := by rw [e96]; decide
      refine ⟨u2 I 96 j (nI (aTm A)), ?_, ?_, fun c i hc => u2_a (by omega)⟩
      · simp (disch := omega) only [eX12_untell, kX12_untell_0, kX12_untell_23, x_no, x_cst, x_ldI, x_ldJ, x_ldA, x_stI, x_stJ, x_stA, x_inc, x_bin, x_un, x_i2l, x_bnJ, x_lshl, x_lcmp, x_dup, x_dp2, x_gI, x_gJ, x_gA, x_pI, x_pZ, x_pJ, x_pA, x_c0, x_c2, x_sw, x_cV, x_cS, x_rV, x_rI, x_rZ, x_rJ, x_mm, x_pop, msel, mpl, mvr, mnw, List.getElem?_cons_zero, List.getElem?_cons_succ, List.set_cons_zero, List.set_cons_succ, List.length_cons, List.length_nil, List.drop_succ_cons, List.drop_zero, List.take_succ_cons, List.take_zero, List.reverse_cons, List.reverse_nil, List.nil_append, List.cons_append, List.append_nil, List.map_cons, List.map_nil, List.sum_cons, List.sum_nil, Option.toList_some, Option.toList_none, Option.bind_some, Value.category, decide_eq_true_eq, decide_true, decide_false, if_true, if_false, Bool.false_eq_true, and_self, and_true, true_and, true_or, or_true, not_true_eq_false, not_false_eq_true, ↓reduceIte, reduceCtorEq, Nat.reduceEqDiff, Nat.reduceAdd, Nat.reduceSub, Nat.reduceMul, Nat.reduceLT, Nat.reduceLeDiff, Nat.reduceBEq, Nat.le_refl, Nat.zero_le, Nat.lt_irrefl, beq_self_eq_true, Nat.succ_ne_zero, Option.some.injEq, Prod.mk.injEq, Int32.reduceLT, Int32.reduceLE, y_60, rt_60_0, rt_60_1, rt_60_11, rt_60_12, rt_60_13, rt_60_14, rt_60_15, rt_60_16, rt_60_17, rt_60_18, rt_60_19, rt_60_20, rt_60_21, rt_60_22, rt_60_23, rt_60_24, rt_60_25, rt_60_26, rt_60_27, rt_60_28, rt_60_29, rt_60_30, rt_60_39, rt_60_41, rt_60_42, rt_60_45, rt_60_46, rt_60_47, rt_60_49, rt_60_50, rt_60_51, rt_60_52, rt_60_53, rt_60_54, rt_60_55, rt_60_56, rt_60_59, rt_60_61, rt_60_62, al_63, as_63, al_64, as_64, al_65, as_65, al_66, as_66, al_67, as_67, al_68, as_68, al_69, as_69, al_70, as_70, al_71, as_71, al_72, as_72, al_73, as_73, al_74, as_74, al_75, as_75, al_76, as_76, al_78, as_78, al_79, as_79, al_80, as_80, al_81, as_81, al_82, as_82, al_83, as_83, al_84, as_84, al_85, as_85, al_86, as_86, al_87, as_87, al_88, as_88, al_89, as_89, al_90, as_90, al_91, as_91, al_92, as_92, al_93, as_93, al_94, as_94, al_95, as_95, al_96, as_96, al_97, as_97, al_98, as_98, al_61, as_61, al_62, as_62, al_99, as_99, al_82_0, as_82_0, al_83_32, as_83_32, al_83_33, as_83_33, ad0, ad8, ad16, ad24, ad_0, mu2, mu8, mu34, nI_add, nI_1, uI_mm, dvN, dvM, m_isIn, h6, h7, e, b2i_eq0, e96', hb]
        rfl
      · unfold sUntell
        rw [if_pos hb, nI_clamp hj]
        refine RM_hear h ⟨by simp; exact hl, by rw [u2_a (by decide)]; simpa using h6, ⟨by rw [u2_a (by decide)]; exact h7, h7b⟩, fun i hi => ?_⟩ (fun j _ _ => u2_a (by decide)) (fun c i _ hc => u2_a (by omega))
        rw [getD_setE hjl]
        simp only [List.length_set] at hi
        by_cases e2 : i = j
        · subst e2
          rw [if_pos rfl]
          refine ⟨?_, ?_, ?_, ?_, ?_, fun t ht => by cases ht; exact h7b⟩
          · rw [u2_a (by decide)]; exact ⟨g1, g1b⟩
          · rw [u2_a (by decide)]; exact g2
          · rw [u2_a (by decide)]; exact g3
          · rw [u2_a (by decide)]; exact g4
          · rw [u2_s]; rfl
        · rw [if_neg e2]
          obtain ⟨k1, k2, k3, k4, k5⟩ := hE i hi
          refine ⟨?_, ?_, ?_, ?_, ?_⟩ <;> rw [u2_j e2] <;> assumption
    | some t =>
      have hb : untB A (nI j) = false := by
        simp only [untB, nI_clamp hj, eq, Option.isNone_some, Bool.and_false]
      have ht := g6 t eq
      have e96 : ¬ I 96 j < 0 := by rw [g5, eq]; exact nI_pos (by omega)
      refine ⟨I, ?_, by unfold sUntell; rw [hb]; exact h, fun _ _ _ => rfl⟩
      simp (disch := omega) only [eX12_untell, kX12_untell_0, kX12_untell_23, x_no, x_cst, x_ldI, x_ldJ, x_ldA, x_stI, x_stJ, x_stA, x_inc, x_bin, x_un, x_i2l, x_bnJ, x_lshl, x_lcmp, x_dup, x_dp2, x_gI, x_gJ, x_gA, x_pI, x_pZ, x_pJ, x_pA, x_c0, x_c2, x_sw, x_cV, x_cS, x_rV, x_rI, x_rZ, x_rJ, x_mm, x_pop, msel, mpl, mvr, mnw, List.getElem?_cons_zero, List.getElem?_cons_succ, List.set_cons_zero, List.set_cons_succ, List.length_cons, List.length_nil, List.drop_succ_cons, List.drop_zero, List.take_succ_cons, List.take_zero, List.reverse_cons, List.reverse_nil, List.nil_append, List.cons_append, List.append_nil, List.map_cons, List.map_nil, List.sum_cons, List.sum_nil, Option.toList_some, Option.toList_none, Option.bind_some, Value.category, decide_eq_true_eq, decide_true, decide_false, if_true, if_false, Bool.false_eq_true, and_self, and_true, true_and, true_or, or_true, not_true_eq_false, not_false_eq_true, ↓reduceIte, reduceCtorEq, Nat.reduceEqDiff, Nat.reduceAdd, Nat.reduceSub, Nat.reduceMul, Nat.reduceLT, Nat.reduceLeDiff, Nat.reduceBEq, Nat.le_refl, Nat.zero_le, Nat.lt_irrefl, beq_self_eq_true, Nat.succ_ne_zero, Option.some.injEq, Prod.mk.injEq, Int32.reduceLT, Int32.reduceLE, y_60, rt_60_0, rt_60_1, rt_60_11, rt_60_12, rt_60_13, rt_60_14, rt_60_15, rt_60_16, rt_60_17, rt_60_18, rt_60_19, rt_60_20, rt_60_21, rt_60_22, rt_60_23, rt_60_24, rt_60_25, rt_60_26, rt_60_27, rt_60_28, rt_60_29, rt_60_30, rt_60_39, rt_60_41, rt_60_42, rt_60_45, rt_60_46, rt_60_47, rt_60_49, rt_60_50, rt_60_51, rt_60_52, rt_60_53, rt_60_54, rt_60_55, rt_60_56, rt_60_59, rt_60_61, rt_60_62, al_63, as_63, al_64, as_64, al_65, as_65, al_66, as_66, al_67, as_67, al_68, as_68, al_69, as_69, al_70, as_70, al_71, as_71, al_72, as_72, al_73, as_73, al_74, as_74, al_75, as_75, al_76, as_76, al_78, as_78, al_79, as_79, al_80, as_80, al_81, as_81, al_82, as_82, al_83, as_83, al_84, as_84, al_85, as_85, al_86, as_86, al_87, as_87, al_88, as_88, al_89, as_89, al_90, as_90, al_91, as_91, al_92, as_92, al_93, as_93, al_94, as_94, al_95, as_95, al_96, as_96, al_97, as_97, al_98, as_98, al_61, as_61, al_62, as_62, al_99, as_99, al_82_0, as_82_0, al_83_32, as_83_32, al_83_33, as_83_33, ad0, ad8, ad16, ad24, ad_0, mu2, mu8, mu34, nI_add, nI_1, uI_mm, dvN, dvM, m_isIn, h6, e, b2i_eq0, e96, hb]
      rfl
  · have hb : untB A i = false := by
      cases hc : untB A i
      · rfl
      · simp only [untB, Bool.and_eq_true] at hc
        exact absurd (hle.mpr (by rw [Bool.and_eq_true]; exact hc.1)) e
    refine ⟨I, ?_, by unfold sUntell; rw [hb]; exact h, fun _ _ _ => rfl⟩
    simp (disch := omega) only [eX12_untell, kX12_untell_0, kX12_untell_23, x_no, x_cst, x_ldI, x_ldJ, x_ldA, x_stI, x_stJ, x_stA, x_inc, x_bin, x_un, x_i2l, x_bnJ, x_lshl, x_lcmp, x_dup, x_dp2, x_gI, x_gJ, x_gA, x_pI, x_pZ, x_pJ, x_pA, x_c0, x_c2, x_sw, x_cV, x_cS, x_rV, x_rI, x_rZ, x_rJ, x_mm, x_pop, msel, mpl, mvr, mnw, List.getElem?_cons_zero, List.getElem?_cons_succ, List.set_cons_zero, List.set_cons_succ, List.length_cons, List.length_nil, List.drop_succ_cons, List.drop_zero, List.take_succ_cons, List.take_zero, List.reverse_cons, List.reverse_nil, List.nil_append, List.cons_append, List.append_nil, List.map_cons, List.map_nil, List.sum_cons, List.sum_nil, Option.toList_some, Option.toList_none, Option.bind_some, Value.category, decide_eq_true_eq, decide_true, decide_false, if_true, if_false, Bool.false_eq_true, and_self, and_true, true_and, true_or, or_true, not_true_eq_false, not_false_eq_true, ↓reduceIte, reduceCtorEq, Nat.reduceEqDiff, Nat.reduceAdd, Nat.reduceSub, Nat.reduceMul, Nat.reduceLT, Nat.reduceLeDiff, Nat.reduceBEq, Nat.le_refl, Nat.zero_le, Nat.lt_irrefl, beq_self_eq_true, Nat.succ_ne_zero, Option.some.injEq, Prod.mk.injEq, Int32.reduceLT, Int32.reduceLE, y_60, rt_60_0, rt_60_1, rt_60_11, rt_60_12, rt_60_13, rt_60_14, rt_60_15, rt_60_16, rt_60_17, rt_60_18, rt_60_19, rt_60_20, rt_60_21, rt_60_22, rt_60_23, rt_60_24, rt_60_25, rt_60_26, rt_60_27, rt_60_28, rt_60_29, rt_60_30, rt_60_39, rt_60_41, rt_60_42, rt_60_45, rt_60_46, rt_60_47, rt_60_49, rt_60_50, rt_60_51, rt_60_52, rt_60_53, rt_60_54, rt_60_55, rt_60_56, rt_60_59, rt_60_61, rt_60_62, al_63, as_63, al_64, as_64, al_65, as_65, al_66, as_66, al_67, as_67, al_68, as_68, al_69, as_69, al_70, as_70, al_71, as_71, al_72, as_72, al_73, as_73, al_74, as_74, al_75, as_75, al_76, as_76, al_78, as_78, al_79, as_79, al_80, as_80, al_81, as_81, al_82, as_82, al_83, as_83, al_84, as_84, al_85, as_85, al_86, as_86, al_87, as_87, al_88, as_88, al_89, as_89, al_90, as_90, al_91, as_91, al_92, as_92, al_93, as_93, al_94, as_94, al_95, as_95, al_96, as_96, al_97, as_97, al_98, as_98, al_61, as_61, al_62, as_62, al_99, as_99, al_82_0, as_82_0, al_83_32, as_83_32, al_83_33, as_83_33, ad0, ad8, ad16, ad24, ad_0, mu2, mu8, mu34, nI_add, nI_1, uI_mm, dvN, dvM, m_isIn, h6, e, b2i_eq0, hb]
    rfl
set_option maxHeartbeats 4000000 in
theorem m_later (n : Nat) (J : Nat → Nat → Int64) (f : Nat) (h : RM I b A) (x : Int32) : ∃ I', FX12_later n [.ref 60, .int x] (mm I J f) = some (some (.int (aLater A x)), mm I' J f) ∧ RM I' b (sLater A x) ∧ hiM I I' := by
  obtain ⟨hl, h6, ⟨h7, h7b⟩, hE⟩ := h.2.2.2.2.1
  by_cases e : 0 ≤ x ∧ x ≤ 1000
  · obtain ⟨j, hj, rfl⟩ := le_ex (k := 1000) rfl (by decide) e
    have hc : nI (aTm A + j) ≤ 100000 ↔ aTm A + j ≤ 100000 := nI_leI (b := 100000) (by omega) (by decide)
    have hcl := nI_clamp (show j < 2 ^ 31 by omega)
    by_cases c3 : aTm A + j ≤ 100000
    · have hb : latB A (nI j) = true := by unfold latB; rw [hcl]; simp [e, c3]
      refine ⟨u2 I 60 58 (nI (aTm A + j)), ?_, ?_, fun c i hc => u2_a (by omega)⟩
      · have ea : aLater A (nI j) = nI (aTm A + j) := by unfold aLater; rw [if_pos hb, hcl]
        simp (disch := omega) only [eX12_later, kX12_later_0, kX12_later_23, x_no, x_cst, x_ldI, x_ldJ, x_ldA, x_stI, x_stJ, x_stA, x_inc, x_bin, x_un, x_i2l, x_bnJ, x_lshl, x_lcmp, x_dup, x_dp2, x_gI, x_gJ, x_gA, x_pI, x_pZ, x_pJ, x_pA, x_c0, x_c2, x_sw, x_cV, x_cS, x_rV, x_rI, x_rZ, x_rJ, x_mm, x_pop, msel, mpl, mvr, mnw, List.getElem?_cons_zero, List.getElem?_cons_succ, List.set_cons_zero, List.set_cons_succ, List.length_cons, List.length_nil, List.drop_succ_cons, List.drop_zero, List.take_succ_cons, List.take_zero, List.reverse_cons, List.reverse_nil, List.nil_append, List.cons_append, List.append_nil, List.map_cons, List.map_nil, List.sum_cons, List.sum_nil, Option.toList_some, Option.toList_none, Option.bind_some, Value.category, decide_eq_true_eq, decide_true, decide_false, if_true, if_false, Bool.false_eq_true, and_self, and_true, true_and, true_or, or_true, not_true_eq_false, not_false_eq_true, ↓reduceIte, reduceCtorEq, Nat.reduceEqDiff, Nat.reduceAdd, Nat.reduceSub, Nat.reduceMul, Nat.reduceLT, Nat.reduceLeDiff, Nat.reduceBEq, Nat.le_refl, Nat.zero_le, Nat.lt_irrefl, beq_self_eq_true, Nat.succ_ne_zero, Option.some.injEq, Prod.mk.injEq, Int32.reduceLT, Int32.reduceLE, y_60, rt_60_0, rt_60_1, rt_60_11, rt_60_12, rt_60_13, rt_60_14, rt_60_15, rt_60_16, rt_60_17, rt_60_18, rt_60_19, rt_60_20, rt_60_21, rt_60_22, rt_60_23, rt_60_24, rt_60_25, rt_60_26, rt_60_27, rt_60_28, rt_60_29, rt_60_30, rt_60_39, rt_60_41, rt_60_42, rt_60_45, rt_60_46, rt_60_47, rt_60_49, rt_60_50, rt_60_51, rt_60_52, rt_60_53, rt_60_54, rt_60_55, rt_60_56, rt_60_59, rt_60_61, rt_60_62, al_63, as_63, al_64, as_64, al_65, as_65, al_66, as_66, al_67, as_67, al_68, as_68, al_69, as_69, al_70, as_70, al_71, as_71, al_72, as_72, al_73, as_73, al_74, as_74, al_75, as_75, al_76, as_76, al_78, as_78, al_79, as_79, al_80, as_80, al_81, as_81, al_82, as_82, al_83, as_83, al_84, as_84, al_85, as_85, al_86, as_86, al_87, as_87, al_88, as_88, al_89, as_89, al_90, as_90, al_91, as_91, al_92, as_92, al_93, as_93, al_94, as_94, al_95, as_95, al_96, as_96, al_97, as_97, al_98, as_98, al_61, as_61, al_62, as_62, al_99, as_99, al_82_0, as_82_0, al_83_32, as_83_32, al_83_33, as_83_33, ad0, ad8, ad16, ad24, ad_0, mu2, mu8, mu34, nI_add, nI_1, uI_mm, dvN, dvM, m_isIn, e, b2i_eq0, h7, hc, c3, u2_s, ea]
      · unfold sLater
        rw [if_pos hb, hcl]
        refine RM_hear h ⟨hl, by rw [u2_j (by decide)]; exact h6, ⟨u2_s, c3⟩, fun i hi => ?_⟩ (fun j _ j2 => u2_j j2) (fun c i c1 _ => u2_a c1)
        obtain ⟨k1, k2, k3, k4, k5⟩ := hE i hi
        refine ⟨?_, ?_, ?_, ?_, ?_⟩ <;> rw [u2_a (by decide)] <;> assumption
    · have hb : latB A (nI j) = false := by unfold latB; rw [hcl]; simp [c3]
      refine ⟨I, ?_, by unfold sLater; rw [hb]; exact h, fun _ _ _ => rfl⟩
      have ea : aLater A (nI j) = -1 := by unfold aLater; rw [hb]; rfl
      simp (disch := omega) only [eX12_later, kX12_later_0, kX12_later_23, x_no, x_cst, x_ldI, x_ldJ, x_ldA, x_stI, x_stJ, x_stA, x_inc, x_bin, x_un, x_i2l, x_bnJ, x_lshl, x_lcmp, x_dup, x_dp2, x_gI, x_gJ, x_gA, x_pI, x_pZ, x_pJ, x_pA, x_c0, x_c2, x_sw, x_cV, x_cS, x_rV, x_rI, x_rZ, x_rJ, x_mm, x_pop, msel, mpl, mvr, mnw, List.getElem?_cons_zero, List.getElem?_cons_succ, List.set_cons_zero, List.set_cons_succ, List.length_cons, List.length_nil, List.drop_succ_cons, List.drop_zero, List.take_succ_cons, List.take_zero, List.reverse_cons, List.reverse_nil, List.nil_append, List.cons_append, List.append_nil, List.map_cons, List.map_nil, List.sum_cons, List.sum_nil, Option.toList_some, Option.toList_none, Option.bind_some, Value.category, decide_eq_true_eq, decide_true, decide_false, if_true, if_false, Bool.false_eq_true, and_self, and_true, true_and, true_or, or_true, not_true_eq_false, not_false_eq_true, ↓reduceIte, reduceCtorEq, Nat.reduceEqDiff, Nat.reduceAdd, Nat.reduceSub, Nat.reduceMul, Nat.reduceLT, Nat.reduceLeDiff, Nat.reduceBEq, Nat.le_refl, Nat.zero_le, Nat.lt_irrefl, beq_self_eq_true, Nat.succ_ne_zero, Option.some.injEq, Prod.mk.injEq, Int32.reduceLT, Int32.reduceLE, y_60, rt_60_0, rt_60_1, rt_60_11, rt_60_12, rt_60_13, rt_60_14, rt_60_15, rt_60_16, rt_60_17, rt_60_18, rt_60_19, rt_60_20, rt_60_21, rt_60_22, rt_60_23, rt_60_24, rt_60_25, rt_60_26, rt_60_27, rt_60_28, rt_60_29, rt_60_30, rt_60_39, rt_60_41, rt_60_42, rt_60_45, rt_60_46, rt_60_47, rt_60_49, rt_60_50, rt_60_51, rt_60_52, rt_60_53, rt_60_54, rt_60_55, rt_60_56, rt_60_59, rt_60_61, rt_60_62, al_63, as_63, al_64, as_64, al_65, as_65, al_66, as_66, al_67, as_67, al_68, as_68, al_69, as_69, al_70, as_70, al_71, as_71, al_72, as_72, al_73, as_73, al_74, as_74, al_75, as_75, al_76, as_76, al_78, as_78, al_79, as_79, al_80, as_80, al_81, as_81, al_82, as_82, al_83, as_83, al_84, as_84, al_85, as_85, al_86, as_86, al_87, as_87, al_88, as_88, al_89, as_89, al_90, as_90, al_91, as_91, al_92, as_92, al_93, as_93, al_94, as_94, al_95, as_95, al_96, as_96, al_97, as_97, al_98, as_98, al_61, as_61, al_62, as_62, al_99, as_99, al_82_0, as_82_0, al_83_32, as_83_32, al_83_33, as_83_33, ad0, ad8, ad16, ad24, ad_0, mu2, mu8, mu34, nI_add, nI_1, uI_mm, dvN, dvM, m_isIn, e, b2i_eq0, h7, hc, c3, ea]
  · have hb : latB A x = false := by unfold latB; simp only [e, decide_false, Bool.false_and]
    refine ⟨I, ?_, by unfold sLater; rw [hb]; exact h, fun _ _ _ => rfl⟩
    have ea : aLater A x = -1 := by unfold aLater; rw [hb]; rfl
    simp (disch := omega) only [eX12_later, kX12_later_0, kX12_later_23, x_no, x_cst, x_ldI, x_ldJ, x_ldA, x_stI, x_stJ, x_stA, x_inc, x_bin, x_un, x_i2l, x_bnJ, x_lshl, x_lcmp, x_dup, x_dp2, x_gI, x_gJ, x_gA, x_pI, x_pZ, x_pJ, x_pA, x_c0, x_c2, x_sw, x_cV, x_cS, x_rV, x_rI, x_rZ, x_rJ, x_mm, x_pop, msel, mpl, mvr, mnw, List.getElem?_cons_zero, List.getElem?_cons_succ, List.set_cons_zero, List.set_cons_succ, List.length_cons, List.length_nil, List.drop_succ_cons, List.drop_zero, List.take_succ_cons, List.take_zero, List.reverse_cons, List.reverse_nil, List.nil_append, List.cons_append, List.append_nil, List.map_cons, List.map_nil, List.sum_cons, List.sum_nil, Option.toList_some, Option.toList_none, Option.bind_some, Value.category, decide_eq_true_eq, decide_true, decide_false, if_true, if_false, Bool.false_eq_true, and_self, and_true, true_and, true_or, or_true, not_true_eq_false, not_false_eq_true, ↓reduceIte, reduceCtorEq, Nat.reduceEqDiff, Nat.reduceAdd, Nat.reduceSub, Nat.reduceMul, Nat.reduceLT, Nat.reduceLeDiff, Nat.reduceBEq, Nat.le_refl, Nat.zero_le, Nat.lt_irrefl, beq_self_eq_true, Nat.succ_ne_zero, Option.some.injEq, Prod.mk.injEq, Int32.reduceLT, Int32.reduceLE, y_60, rt_60_0, rt_60_1, rt_60_11, rt_60_12, rt_60_13, rt_60_14, rt_60_15, rt_60_16, rt_60_17, rt_60_18, rt_60_19, rt_60_20, rt_60_21, rt_60_22, rt_60_23, rt_60_24, rt_60_25, rt_60_26, rt_60_27, rt_60_28, rt_60_29, rt_60_30, rt_60_39, rt_60_41, rt_60_42, rt_60_45, rt_60_46, rt_60_47, rt_60_49, rt_60_50, rt_60_51, rt_60_52, rt_60_53, rt_60_54, rt_60_55, rt_60_56, rt_60_59, rt_60_61, rt_60_62, al_63, as_63, al_64, as_64, al_65, as_65, al_66, as_66, al_67, as_67, al_68, as_68, al_69, as_69, al_70, as_70, al_71, as_71, al_72, as_72, al_73, as_73, al_74, as_74, al_75, as_75, al_76, as_76, al_78, as_78, al_79, as_79, al_80, as_80, al_81, as_81, al_82, as_82, al_83, as_83, al_84, as_84, al_85, as_85, al_86, as_86, al_87, as_87, al_88, as_88, al_89, as_89, al_90, as_90, al_91, as_91, al_92, as_92, al_93, as_93, al_94, as_94, al_95, as_95, al_96, as_96, al_97, as_97, al_98, as_98, al_61, as_61, al_62, as_62, al_99, as_99, al_82_0, as_82_0, al_83_32, as_83_32, al_83_33, as_83_33, ad0, ad8, ad16, ad24, ad_0, mu2, mu8, mu34, nI_add, nI_1, uI_mm, dvN, dvM, m_isIn, e, b2i_eq0, ea]
theorem RM_tp {I' : Nat → Nat → Int32} {tp : List Nat} (h : RM I b A) (ht : TpM I' tp) (f60 : ∀ j, j ≠ 2 → I' 60 j = I 60 j) (fo : ∀ c j, c ≠ 60 → c ≠ 61 → I' c j = I c j) : RM I' b (setT A tp) := by
  obtain ⟨h1, h2, h3, h4, h5, h6, h7, h8, h9⟩ := h
  have k8 := h1.k8
  exact ⟨MO_of h1 (f60 31 (by decide)) (fun c j hc => fo c j (by omega) (by omega)), h2, HiM_of k8 h3 (f60 43 (by decide)) (f60 44 (by decide)) (fun j => fo 85 j (by decide) (by decide)), RowM_of h4 (f60 48 (by decide)) (fun j => fo 87 j (by decide) (by decide)), HM_of h5 (f60 57 (by decide)) (f60 58 (by decide)) (fun c j c1 c2 => fo c j (by omega) (by omega)), BxM_of k8 h6 (fun j => fo 98 j (by decide) (by decide)) (fun j => fo 99 j (by decide) (by decide)), ht, FtM_of h8 (f60 4 (by decide)) (f60 5 (by decide)), (f60 40 (by decide)).trans h9⟩
set_option maxHeartbeats 4000000 in
theorem m_end (n : Nat) (J : Nat → Nat → Int64) (f : Nat) (h : RM I b A) (x : Int32) : ∃ I', FX12_end n [.ref 60, .int x] (mm I J f) = some (some (.int (aEnd A x)), mm I' J f) ∧ RM I' b (sEnd A x) ∧ hiM I I' := by
  obtain ⟨t1, t2, t3⟩ := h.2.2.2.2.2.2.1
  rcases cI x with h0 | ⟨j, hj, rfl⟩
  · have hb : endB A x = false := by simp [endB, nn0 h0]
    refine ⟨I, ?_, by unfold sEnd; rw [hb]; exact h, fun _ _ _ => rfl⟩
    have ea : aEnd A x = -1 := by unfold aEnd; rw [hb]; rfl
    simp (disch := omega) only [eX12_end, kX12_end_0, kX12_end_12, x_no, x_cst, x_ldI, x_ldJ, x_ldA, x_stI, x_stJ, x_stA, x_inc, x_bin, x_un, x_i2l, x_bnJ, x_lshl, x_lcmp, x_dup, x_dp2, x_gI, x_gJ, x_gA, x_pI, x_pZ, x_pJ, x_pA, x_c0, x_c2, x_sw, x_cV, x_cS, x_rV, x_rI, x_rZ, x_rJ, x_mm, x_pop, msel, mpl, mvr, mnw, List.getElem?_cons_zero, List.getElem?_cons_succ, List.set_cons_zero, List.set_cons_succ, List.length_cons, List.length_nil, List.drop_succ_cons, List.drop_zero, List.take_succ_cons, List.take_zero, List.reverse_cons, List.reverse_nil, List.nil_append, List.cons_append, List.append_nil, List.map_cons, List.map_nil, List.sum_cons, List.sum_nil, Option.toList_some, Option.toList_none, Option.bind_some, Value.category, decide_eq_true_eq, decide_true, decide_false, if_true, if_false, Bool.false_eq_true, and_self, and_true, true_and, true_or, or_true, not_true_eq_false, not_false_eq_true, ↓reduceIte, reduceCtorEq, Nat.reduceEqDiff, Nat.reduceAdd, Nat.reduceSub, Nat.reduceMul, Nat.reduceLT, Nat.reduceLeDiff, Nat.reduceBEq, Nat.le_refl, Nat.zero_le, Nat.lt_irrefl, beq_self_eq_true, Nat.succ_ne_zero, Option.some.injEq, Prod.mk.injEq, Int32.reduceLT, Int32.reduceLE, y_60, rt_60_0, rt_60_1, rt_60_11, rt_60_12, rt_60_13, rt_60_14, rt_60_15, rt_60_16, rt_60_17, rt_60_18, rt_60_19, rt_60_20, rt_60_21, rt_60_22, rt_60_23, rt_60_24, rt_60_25, rt_60_26, rt_60_27, rt_60_28, rt_60_29, rt_60_30, rt_60_39, rt_60_41, rt_60_42, rt_60_45, rt_60_46, rt_60_47, rt_60_49, rt_60_50, rt_60_51, rt_60_52, rt_60_53, rt_60_54, rt_60_55, rt_60_56, rt_60_59, rt_60_61, rt_60_62, al_63, as_63, al_64, as_64, al_65, as_65, al_66, as_66, al_67, as_67, al_68, as_68, al_69, as_69, al_70, as_70, al_71, as_71, al_72, as_72, al_73, as_73, al_74, as_74, al_75, as_75, al_76, as_76, al_78, as_78, al_79, as_79, al_80, as_80, al_81, as_81, al_82, as_82, al_83, as_83, al_84, as_84, al_85, as_85, al_86, as_86, al_87, as_87, al_88, as_88, al_89, as_89, al_90, as_90, al_91, as_91, al_92, as_92, al_93, as_93, al_94, as_94, al_95, as_95, al_96, as_96, al_97, as_97, al_98, as_98, al_61, as_61, al_62, as_62, al_99, as_99, al_82_0, as_82_0, al_83_32, as_83_32, al_83_33, as_83_33, ad0, ad8, ad16, ad24, ad_0, mu2, mu8, mu34, nI_add, nI_1, uI_mm, dvN, dvM, h0, ea]
  · have c1 : ¬ nI j < 0 := nI_pos hj
    by_cases e : j ≤ (aTp A).length
    · have hb : endB A (nI j) = true := by simp [endB, nI_pos' hj, nI_clamp hj, e]
      have c2 : nI j ≤ nI (aTp A).length := by rw [nI_leI hj (by omega)]; exact e
      have ea : aEnd A (nI j) = nI j := by unfold aEnd; rw [hb]; rfl
      refine ⟨u2 I 60 2 (nI j), ?_, ?_, fun c i hb => u2_a (by omega)⟩
      · simp (disch := omega) only [eX12_end, kX12_end_0, kX12_end_12, x_no, x_cst, x_ldI, x_ldJ, x_ldA, x_stI, x_stJ, x_stA, x_inc, x_bin, x_un, x_i2l, x_bnJ, x_lshl, x_lcmp, x_dup, x_dp2, x_gI, x_gJ, x_gA, x_pI, x_pZ, x_pJ, x_pA, x_c0, x_c2, x_sw, x_cV, x_cS, x_rV, x_rI, x_rZ, x_rJ, x_mm, x_pop, msel, mpl, mvr, mnw, List.getElem?_cons_zero, List.getElem?_cons_succ, List.set_cons_zero, List.set_cons_succ, List.length_cons, List.length_nil, List.drop_succ_cons, List.drop_zero, List.take_succ_cons, List.take_zero, List.reverse_cons, List.reverse_nil, List.nil_append, List.cons_append, List.append_nil, List.map_cons, List.map_nil, List.sum_cons, List.sum_nil, Option.toList_some, Option.toList_none, Option.bind_some, Value.category, decide_eq_true_eq, decide_true, decide_false, if_true, if_false, Bool.false_eq_true, and_self, and_true, true_and, true_or, or_true, not_true_eq_false, not_false_eq_true, ↓reduceIte, reduceCtorEq, Nat.reduceEqDiff, Nat.reduceAdd, Nat.reduceSub, Nat.reduceMul, Nat.reduceLT, Nat.reduceLeDiff, Nat.reduceBEq, Nat.le_refl, Nat.zero_le, Nat.lt_irrefl, beq_self_eq_true, Nat.succ_ne_zero, Option.some.injEq, Prod.mk.injEq, Int32.reduceLT, Int32.reduceLE, y_60, rt_60_0, rt_60_1, rt_60_11, rt_60_12, rt_60_13, rt_60_14, rt_60_15, rt_60_16, rt_60_17, rt_60_18, rt_60_19, rt_60_20, rt_60_21, rt_60_22, rt_60_23, rt_60_24, rt_60_25, rt_60_26, rt_60_27, rt_60_28, rt_60_29, rt_60_30, rt_60_39, rt_60_41, rt_60_42, rt_60_45, rt_60_46, rt_60_47, rt_60_49, rt_60_50, rt_60_51, rt_60_52, rt_60_53, rt_60_54, rt_60_55, rt_60_56, rt_60_59, rt_60_61, rt_60_62, al_63, as_63, al_64, as_64, al_65, as_65, al_66, as_66, al_67, as_67, al_68, as_68, al_69, as_69, al_70, as_70, al_71, as_71, al_72, as_72, al_73, as_73, al_74, as_74, al_75, as_75, al_76, as_76, al_78, as_78, al_79, as_79, al_80, as_80, al_81, as_81, al_82, as_82, al_83, as_83, al_84, as_84, al_85, as_85, al_86, as_86, al_87, as_87, al_88, as_88, al_89, as_89, al_90, as_90, al_91, as_91, al_92, as_92, al_93, as_93, al_94, as_94, al_95, as_95, al_96, as_96, al_97, as_97, al_98, as_98, al_61, as_61, al_62, as_62, al_99, as_99, al_82_0, as_82_0, al_83_32, as_83_32, al_83_33, as_83_33, ad0, ad8, ad16, ad24, ad_0, mu2, mu8, mu34, nI_add, nI_1, uI_mm, dvN, dvM, c1, t1, c2, ea]
      · unfold sEnd
        rw [if_pos hb, nI_clamp hj]
        refine RM_tp h ⟨?_, ?_, fun i hi => ?_⟩ (fun i i1 => u2_j i1) (fun c i b1 _ => u2_a b1)
        · rw [u2_s]; simp [Nat.min_eq_left e]
        · simp; omega
        · rw [u2_a (by decide)]
          simp only [List.length_take] at hi
          have : ((aTp A).take j).getD i 0 = (aTp A).getD i 0 := by
            rw [List.getD_eq_getElem?_getD, List.getD_eq_getElem?_getD, List.getElem?_take_of_lt (by omega)]
          rw [this]
          exact t3 i (by omega)
    · have hb : endB A (nI j) = false := by simp [endB, nI_clamp hj, e]
      have c2 : ¬ nI j ≤ nI (aTp A).length := by rw [nI_leI hj (by omega)]; exact e
      have ea : aEnd A (nI j) = -1 := by unfold aEnd; rw [hb]; rfl
      refine ⟨I, ?_, by unfold sEnd; rw [hb]; exact h, fun _ _ _ => rfl⟩
      simp (disch := omega) only [eX12_end, kX12_end_0, kX12_end_12, x_no, x_cst, x_ldI, x_ldJ, x_ldA, x_stI, x_stJ, x_stA, x_inc, x_bin, x_un, x_i2l, x_bnJ, x_lshl, x_lcmp, x_dup, x_dp2, x_gI, x_gJ, x_gA, x_pI, x_pZ, x_pJ, x_pA, x_c0, x_c2, x_sw, x_cV, x_cS, x_rV, x_rI, x_rZ, x_rJ, x_mm, x_pop, msel, mpl, mvr, mnw, List.getElem?_cons_zero, List.getElem?_cons_succ, List.set_cons_zero, List.set_cons_succ, List.length_cons, List.length_nil, List.drop_succ_cons, List.drop_zero, List.take_succ_cons, List.take_zero, List.reverse_cons, List.reverse_nil, List.nil_append, List.cons_append, List.append_nil, List.map_cons, List.map_nil, List.sum_cons, List.sum_nil, Option.toList_some, Option.toList_none, Option.bind_some, Value.category, decide_eq_true_eq, decide_true, decide_false, if_true, if_false, Bool.false_eq_true, and_self, and_true, true_and, true_or, or_true, not_true_eq_false, not_false_eq_true, ↓reduceIte, reduceCtorEq, Nat.reduceEqDiff, Nat.reduceAdd, Nat.reduceSub, Nat.reduceMul, Nat.reduceLT, Nat.reduceLeDiff, Nat.reduceBEq, Nat.le_refl, Nat.zero_le, Nat.lt_irrefl, beq_self_eq_true, Nat.succ_ne_zero, Option.some.injEq, Prod.mk.injEq, Int32.reduceLT, Int32.reduceLE, y_60, rt_60_0, rt_60_1, rt_60_11, rt_60_12, rt_60_13, rt_60_14, rt_60_15, rt_60_16, rt_60_17, rt_60_18, rt_60_19, rt_60_20, rt_60_21, rt_60_22, rt_60_23, rt_60_24, rt_60_25, rt_60_26, rt_60_27, rt_60_28, rt_60_29, rt_60_30, rt_60_39, rt_60_41, rt_60_42, rt_60_45, rt_60_46, rt_60_47, rt_60_49, rt_60_50, rt_60_51, rt_60_52, rt_60_53, rt_60_54, rt_60_55, rt_60_56, rt_60_59, rt_60_61, rt_60_62, al_63, as_63, al_64, as_64, al_65, as_65, al_66, as_66, al_67, as_67, al_68, as_68, al_69, as_69, al_70, as_70, al_71, as_71, al_72, as_72, al_73, as_73, al_74, as_74, al_75, as_75, al_76, as_76, al_78, as_78, al_79, as_79, al_80, as_80, al_81, as_81, al_82, as_82, al_83, as_83, al_84, as_84, al_85, as_85, al_86, as_86, al_87, as_87, al_88, as_88, al_89, as_89, al_90, as_90, al_91, as_91, al_92, as_92, al_93, as_93, al_94, as_94, al_95, as_95, al_96, as_96, al_97, as_97, al_98, as_98, al_61, as_61, al_62, as_62, al_99, as_99, al_82_0, as_82_0, al_83_32, as_83_32, al_83_33, as_83_33, ad0, ad8, ad16, ad24, ad_0, mu2, mu8, mu34, nI_add, nI_1, uI_mm, dvN, dvM, c1, t1, c2, ea]
set_option maxHeartbeats 4000000 in
theorem m_ka49 (hn : 1400 < n) (J : Nat → Nat → Int64) (f : Nat) (I : Nat → Nat → Int32) {q : Nat} (hq : q ≤ 40) (h43 : I 60 43 = nI q) (x1 : Option Value) : kX12_keepAct_49 n [some (.ref 60), x1] [] (mm I J f) = some (none, mm (u2 (u2 (cq I 83 85 (34 * q) 34) 60 43 (nI (q + 1))) 60 44 0) J f) := by
  simp only [kX12_keepAct_49, x_no, x_cst, x_ldI, x_ldJ, x_ldA, x_stI, x_stJ, x_stA, x_inc, x_bin, x_un, x_i2l, x_bnJ, x_lshl, x_lcmp, x_dup, x_dp2, x_gI, x_gJ, x_gA, x_pI, x_pZ, x_pJ, x_pA, x_c0, x_c2, x_sw, x_cV, x_cS, x_rV, x_rI, x_rZ, x_rJ, x_mm, x_pop, msel, mpl, mvr, mnw, List.getElem?_cons_zero, List.getElem?_cons_succ, List.set_cons_zero, List.set_cons_succ, List.length_cons, List.length_nil, List.drop_succ_cons, List.drop_zero, List.take_succ_cons, List.take_zero, List.reverse_cons, List.reverse_nil, List.nil_append, List.cons_append, List.append_nil, List.map_cons, List.map_nil, List.sum_cons, List.sum_nil, Option.toList_some, Option.toList_none, Option.bind_some, Value.category, decide_eq_true_eq, decide_true, decide_false, if_true, if_false, Bool.false_eq_true, and_self, and_true, true_and, true_or, or_true, not_true_eq_false, not_false_eq_true, ↓reduceIte, reduceCtorEq, Nat.reduceEqDiff, Nat.reduceAdd, Nat.reduceSub, Nat.reduceMul, Nat.reduceLT, Nat.reduceLeDiff, Nat.reduceBEq, Nat.le_refl, Nat.zero_le, Nat.lt_irrefl, beq_self_eq_true, Nat.succ_ne_zero, Option.some.injEq, Prod.mk.injEq, Int32.reduceLT, Int32.reduceLE, y_60, rt_60_0, rt_60_1, rt_60_11, rt_60_12, rt_60_13, rt_60_14, rt_60_15, rt_60_16, rt_60_17, rt_60_18, rt_60_19, rt_60_20, rt_60_21, rt_60_22, rt_60_23, rt_60_24, rt_60_25, rt_60_26, rt_60_27, rt_60_28, rt_60_29, rt_60_30, rt_60_39, rt_60_41, rt_60_42, rt_60_45, rt_60_46, rt_60_47, rt_60_49, rt_60_50, rt_60_51, rt_60_52, rt_60_53, rt_60_54, rt_60_55, rt_60_56, rt_60_59, rt_60_61, rt_60_62, al_63, as_63, al_64, as_64, al_65, as_65, al_66, as_66, al_67, as_67, al_68, as_68, al_69, as_69, al_70, as_70, al_71, as_71, al_72, as_72, al_73, as_73, al_74, as_74, al_75, as_75, al_76, as_76, al_78, as_78, al_79, as_79, al_80, as_80, al_81, as_81, al_82, as_82, al_83, as_83, al_84, as_84, al_85, as_85, al_86, as_86, al_87, as_87, al_88, as_88, al_89, as_89, al_90, as_90, al_91, as_91, al_92, as_92, al_93, as_93, al_94, as_94, al_95, as_95, al_96, as_96, al_97, as_97, al_98, as_98, al_61, as_61, al_62, as_62, al_99, as_99, al_82_0, as_82_0, al_83_32, as_83_32, al_83_33, as_83_33, ad0, ad8, ad16, ad24, ad_0, mu2, mu8, mu34, nI_add, nI_1, uI_mm, dvN, dvM]
  have key := mit_for (G := kX12_keepAct_51 n) (fun j => [some (.ref 60), some (.int (nI j))]) (fun j => mm (cq I 83 85 (34 * q) j) J f) (B := 34) (fun j hj r => ?_) (show 34 < n by omega) (v := some (none, mm (u2 (u2 (cq I 83 85 (34 * q) 34) 60 43 (nI (q + 1))) 60 44 0) J f)) (fun r => ?_)
  · rw [cq_0] at key
    exact key
  · have e1 : cq I 83 85 (34 * q) j 60 43 = nI q := by rw [cq_o (by decide)]; exact h43
    have e2 : cq I 83 85 (34 * q) j 83 j = I 83 j := cq_o (by decide)
    simp (disch := omega) only [kX12_keepAct_51, x_no, x_cst, x_ldI, x_ldJ, x_ldA, x_stI, x_stJ, x_stA, x_inc, x_bin, x_un, x_i2l, x_bnJ, x_lshl, x_lcmp, x_dup, x_dp2, x_gI, x_gJ, x_gA, x_pI, x_pZ, x_pJ, x_pA, x_c0, x_c2, x_sw, x_cV, x_cS, x_rV, x_rI, x_rZ, x_rJ, x_mm, x_pop, msel, mpl, mvr, mnw, List.getElem?_cons_zero, List.getElem?_cons_succ, List.set_cons_zero, List.set_cons_succ, List.length_cons, List.length_nil, List.drop_succ_cons, List.drop_zero, List.take_succ_cons, List.take_zero, List.reverse_cons, List.reverse_nil, List.nil_append, List.cons_append, List.append_nil, List.map_cons, List.map_nil, List.sum_cons, List.sum_nil, Option.toList_some, Option.toList_none, Option.bind_some, Value.category, decide_eq_true_eq, decide_true, decide_false, if_true, if_false, Bool.false_eq_true, and_self, and_true, true_and, true_or, or_true, not_true_eq_false, not_false_eq_true, ↓reduceIte, reduceCtorEq, Nat.reduceEqDiff, Nat.reduceAdd, Nat.reduceSub, Nat.reduceMul, Nat.reduceLT, Nat.reduceLeDiff, Nat.reduceBEq, Nat.le_refl, Nat.zero_le, Nat.lt_irrefl, beq_self_eq_true, Nat.succ_ne_zero, Option.some.injEq, Prod.mk.injEq, Int32.reduceLT, Int32.reduceLE, y_60, rt_60_0, rt_60_1, rt_60_11, rt_60_12, rt_60_13, rt_60_14, rt_60_15, rt_60_16, rt_60_17, rt_60_18, rt_60_19, rt_60_20, rt_60_21, rt_60_22, rt_60_23, rt_60_24, rt_60_25, rt_60_26, rt_60_27, rt_60_28, rt_60_29, rt_60_30, rt_60_39, rt_60_41, rt_60_42, rt_60_45, rt_60_46, rt_60_47, rt_60_49, rt_60_50, rt_60_51, rt_60_52, rt_60_53, rt_60_54, rt_60_55, rt_60_56, rt_60_59, rt_60_61, rt_60_62, al_63, as_63, al_64, as_64, al_65, as_65, al_66, as_66, al_67, as_67, al_68, as_68, al_69, as_69, al_70, as_70, al_71, as_71, al_72, as_72, al_73, as_73, al_74, as_74, al_75, as_75, al_76, as_76, al_78, as_78, al_79, as_79, al_80, as_80, al_81, as_81, al_82, as_82, al_83, as_83, al_84, as_84, al_85, as_85, al_86, as_86, al_87, as_87, al_88, as_88, al_89, as_89, al_90, as_90, al_91, as_91, al_92, as_92, al_93, as_93, al_94, as_94, al_95, as_95, al_96, as_96, al_97, as_97, al_98, as_98, al_61, as_61, al_62, as_62, al_99, as_99, al_82_0, as_82_0, al_83_32, as_83_32, al_83_33, as_83_33, ad0, ad8, ad16, ad24, ad_0, mu2, mu8, mu34, nI_add, nI_1, uI_mm, dvN, dvM, nle34 hj, e1, e2, cq_step]
  · have e1 : cq I 83 85 (34 * q) 34 60 43 = nI q := by rw [cq_o (by decide)]; exact h43
    simp (disch := omega) only [kX12_keepAct_51, x_no, x_cst, x_ldI, x_ldJ, x_ldA, x_stI, x_stJ, x_stA, x_inc, x_bin, x_un, x_i2l, x_bnJ, x_lshl, x_lcmp, x_dup, x_dp2, x_gI, x_gJ, x_gA, x_pI, x_pZ, x_pJ, x_pA, x_c0, x_c2, x_sw, x_cV, x_cS, x_rV, x_rI, x_rZ, x_rJ, x_mm, x_pop, msel, mpl, mvr, mnw, List.getElem?_cons_zero, List.getElem?_cons_succ, List.set_cons_zero, List.set_cons_succ, List.length_cons, List.length_nil, List.drop_succ_cons, List.drop_zero, List.take_succ_cons, List.take_zero, List.reverse_cons, List.reverse_nil, List.nil_append, List.cons_append, List.append_nil, List.map_cons, List.map_nil, List.sum_cons, List.sum_nil, Option.toList_some, Option.toList_none, Option.bind_some, Value.category, decide_eq_true_eq, decide_true, decide_false, if_true, if_false, Bool.false_eq_true, and_self, and_true, true_and, true_or, or_true, not_true_eq_false, not_false_eq_true, ↓reduceIte, reduceCtorEq, Nat.reduceEqDiff, Nat.reduceAdd, Nat.reduceSub, Nat.reduceMul, Nat.reduceLT, Nat.reduceLeDiff, Nat.reduceBEq, Nat.le_refl, Nat.zero_le, Nat.lt_irrefl, beq_self_eq_true, Nat.succ_ne_zero, Option.some.injEq, Prod.mk.injEq, Int32.reduceLT, Int32.reduceLE, y_60, rt_60_0, rt_60_1, rt_60_11, rt_60_12, rt_60_13, rt_60_14, rt_60_15, rt_60_16, rt_60_17, rt_60_18, rt_60_19, rt_60_20, rt_60_21, rt_60_22, rt_60_23, rt_60_24, rt_60_25, rt_60_26, rt_60_27, rt_60_28, rt_60_29, rt_60_30, rt_60_39, rt_60_41, rt_60_42, rt_60_45, rt_60_46, rt_60_47, rt_60_49, rt_60_50, rt_60_51, rt_60_52, rt_60_53, rt_60_54, rt_60_55, rt_60_56, rt_60_59, rt_60_61, rt_60_62, al_63, as_63, al_64, as_64, al_65, as_65, al_66, as_66, al_67, as_67, al_68, as_68, al_69, as_69, al_70, as_70, al_71, as_71, al_72, as_72, al_73, as_73, al_74, as_74, al_75, as_75, al_76, as_76, al_78, as_78, al_79, as_79, al_80, as_80, al_81, as_81, al_82, as_82, al_83, as_83, al_84, as_84, al_85, as_85, al_86, as_86, al_87, as_87, al_88, as_88, al_89, as_89, al_90, as_90, al_91, as_91, al_92, as_92, al_93, as_93, al_94, as_94, al_95, as_95, al_96, as_96, al_97, as_97, al_98, as_98, al_61, as_61, al_62, as_62, al_99, as_99, al_82_0, as_82_0, al_83_32, as_83_32, al_83_33, as_83_33, ad0, ad8, ad16, ad24, ad_0, mu2, mu8, mu34, nI_add, nI_1, uI_mm, dvN, dvM, le34, e1]
/-- what is kept ahead of an ACT -/
def KA (I : Nat → Nat → Int32) (A : AS) : Prop := I 60 43 = nI (aN A + 1 - (aN A + 1 - 40)) ∧ I 60 44 = 0 ∧ ∀ i, i < aN A + 1 - (aN A + 1 - 40) → MSv I 85 (34 * i) (tk (aT A)) ((aH A).getD (i + (aN A + 1 - 40)) sa0)
set_option maxHeartbeats 8000000 in
theorem m_keepAct (hn : 1400 < n) (J : Nat → Nat → Int64) (f : Nat) (h : RM I b A) : ∃ I', FX12_keepAct n [.ref 60] (mm I J f) = some (none, mm I' J f) ∧ KA I' A ∧ (∀ c j, c ≠ 60 → c ≠ 85 → I' c j = I c j) ∧ ∀ j, j ≠ 43 → j ≠ 44 → I' 60 j = I 60 j := by
  have hk8 := h.1.k8
  obtain ⟨⟨a1, a2⟩, ⟨a3, a4⟩, a5, a6, a7, a8⟩ := h.2.2.1
  have key : ∀ (I0 : Nat → Nat → Int32) (q : Nat) (x1 : Option Value), q < 40 → q = aN A - (aN A + 1 - 40) → I0 60 43 = nI q → (∀ j, I0 83 j = I 83 j) → (∀ i, i < q → MSv I0 85 (34 * i) (tk (aT A)) ((aH A).getD (i + (aN A + 1 - 40)) sa0)) → (∀ c j, c ≠ 60 → c ≠ 85 → I0 c j = I c j) → (∀ j, j ≠ 43 → j ≠ 44 → I0 60 j = I 60 j) → ∃ I', kX12_keepAct_49 n [some (.ref 60), x1] [] (mm I0 J f) = some (none, mm I' J f) ∧ KA I' A ∧ (∀ c j, c ≠ 60 → c ≠ 85 → I' c j = I c j) ∧ ∀ j, j ≠ 43 → j ≠ 44 → I' 60 j = I 60 j := by
    intro I0 q x1 hq hqn g1 g2 g3 g4 g5
    refine ⟨_, m_ka49 hn J f I0 (by omega) g1 x1, ⟨?_, ?_, fun i hi => ?_⟩, fun c j c1 c2 => ?_, fun j j1 j2 => ?_⟩
    · rw [u2_j (by decide), u2_s]; congr 1; omega
    · rw [u2_s]
    · by_cases e : i = q
      · have e2 : i + (aN A + 1 - 40) = aN A := by omega
        rw [e2, ← a7, e]
        exact MA_MSv hk8 h.1.2.2.2 (fun t ht => by rw [u2_a (by decide), u2_a (by decide), cq_at ht]; exact g2 t)
      · exact MSv_of hk8 (g3 i (by omega)) (fun t ht => by rw [u2_a (by decide), u2_a (by decide), cq_out (by omega)])
    · rw [u2_a c1, u2_a c1, cq_o c2]; exact g4 c j c1 c2
    · rw [u2_j j2, u2_j j1, cq_o (by decide)]; exact g5 j j1 j2
  have e40 : nI (aN A) = 40 ↔ aN A = 40 := nI_eq (by omega) (by decide)
  by_cases hc : aN A = 40
  · obtain ⟨I', k1, k2, k3, k4⟩ := key (u2 (dqI I 1360) 60 43 (nI 39)) 39 (some (.int (nI 1360))) (by decide) (by omega) u2_s (fun j => by rw [u2_a (by decide)]; simp [dqI]) (fun i hi => by
      have := a5 (i + 1) (by omega)
      rw [show i + (aN A + 1 - 40) = i + 1 by omega]
      refine MSv_sh hk8 this (fun t ht => ?_)
      rw [u2_a (by decide)]
      simp only [dqI, true_and]
      rw [if_pos (by omega)]
      congr 1
      omega) (fun c j c1 c2 => by rw [u2_a c1]; simp [dqI, c2]) (fun j j1 j2 => by rw [u2_j j1]; simp [dqI])
    refine ⟨I', ?_, k2, k3, k4⟩
    rw [← k1]
    simp (disch := omega) only [eX12_keepAct, kX12_keepAct_0, x_no, x_cst, x_ldI, x_ldJ, x_ldA, x_stI, x_stJ, x_stA, x_inc, x_bin, x_un, x_i2l, x_bnJ, x_lshl, x_lcmp, x_dup, x_dp2, x_gI, x_gJ, x_gA, x_pI, x_pZ, x_pJ, x_pA, x_c0, x_c2, x_sw, x_cV, x_cS, x_rV, x_rI, x_rZ, x_rJ, x_mm, x_pop, msel, mpl, mvr, mnw, List.getElem?_cons_zero, List.getElem?_cons_succ, List.set_cons_zero, List.set_cons_succ, List.length_cons, List.length_nil, List.drop_succ_cons, List.drop_zero, List.take_succ_cons, List.take_zero, List.reverse_cons, List.reverse_nil, List.nil_append, List.cons_append, List.append_nil, List.map_cons, List.map_nil, List.sum_cons, List.sum_nil, Option.toList_some, Option.toList_none, Option.bind_some, Value.category, decide_eq_true_eq, decide_true, decide_false, if_true, if_false, Bool.false_eq_true, and_self, and_true, true_and, true_or, or_true, not_true_eq_false, not_false_eq_true, ↓reduceIte, reduceCtorEq, Nat.reduceEqDiff, Nat.reduceAdd, Nat.reduceSub, Nat.reduceMul, Nat.reduceLT, Nat.reduceLeDiff, Nat.reduceBEq, Nat.le_refl, Nat.zero_le, Nat.lt_irrefl, beq_self_eq_true, Nat.succ_ne_zero, Option.some.injEq, Prod.mk.injEq, Int32.reduceLT, Int32.reduceLE, y_60, rt_60_0, rt_60_1, rt_60_11, rt_60_12, rt_60_13, rt_60_14, rt_60_15, rt_60_16, rt_60_17, rt_60_18, rt_60_19, rt_60_20, rt_60_21, rt_60_22, rt_60_23, rt_60_24, rt_60_25, rt_60_26, rt_60_27, rt_60_28, rt_60_29, rt_60_30, rt_60_39, rt_60_41, rt_60_42, rt_60_45, rt_60_46, rt_60_47, rt_60_49, rt_60_50, rt_60_51, rt_60_52, rt_60_53, rt_60_54, rt_60_55, rt_60_56, rt_60_59, rt_60_61, rt_60_62, al_63, as_63, al_64, as_64, al_65, as_65, al_66, as_66, al_67, as_67, al_68, as_68, al_69, as_69, al_70, as_70, al_71, as_71, al_72, as_72, al_73, as_73, al_74, as_74, al_75, as_75, al_76, as_76, al_78, as_78, al_79, as_79, al_80, as_80, al_81, as_81, al_82, as_82, al_83, as_83, al_84, as_84, al_85, as_85, al_86, as_86, al_87, as_87, al_88, as_88, al_89, as_89, al_90, as_90, al_91, as_91, al_92, as_92, al_93, as_93, al_94, as_94, al_95, as_95, al_96, as_96, al_97, as_97, al_98, as_98, al_61, as_61, al_62, as_62, al_99, as_99, al_82_0, as_82_0, al_83_32, as_83_32, al_83_33, as_83_33, ad0, ad8, ad16, ad24, ad_0, mu2, mu8, mu34, nI_add, nI_1, uI_mm, dvN, dvM, a3, e40, hc]
    have key2 := mit_for (G := kX12_keepAct_11 n) (fun j => [some (.ref 60), some (.int (nI j))]) (fun j => mm (dqI I j) J f) (B := 1360) (fun j hj r => ?_) (show 1360 < n by omega) (v := kX12_keepAct_49 n [some (.ref 60), some (.int (nI 1360))] [] (mm (u2 (dqI I 1360) 60 43 (nI 39)) J f)) (fun r => ?_)
    · have : dqI I 0 = I := by funext c i; simp [dqI]
      rw [this] at key2
      exact key2
    · have c1 : ¬ (1360 : Int32) ≤ nI j := lit_nle (k := 1360) rfl (by decide) hj
      have e2 : dqI I j 85 (j + 34) = I 85 (j + 34) := by simp [dqI, show ¬ j + 34 < j by omega]
      have e1 : u2 (dqI I j) 85 j (I 85 (j + 34)) = dqI I (j + 1) := by
        funext c i
        unfold u2 dqI
        by_cases h1 : c = 85
        · by_cases h2 : i = j
          · subst h2; simp [h1]
          · have : (i < j) = (i < j + 1) := by apply propext; omega
            simp [h1, h2, this]
        · simp [h1]
      simp (disch := omega) only [kX12_keepAct_11, x_no, x_cst, x_ldI, x_ldJ, x_ldA, x_stI, x_stJ, x_stA, x_inc, x_bin, x_un, x_i2l, x_bnJ, x_lshl, x_lcmp, x_dup, x_dp2, x_gI, x_gJ, x_gA, x_pI, x_pZ, x_pJ, x_pA, x_c0, x_c2, x_sw, x_cV, x_cS, x_rV, x_rI, x_rZ, x_rJ, x_mm, x_pop, msel, mpl, mvr, mnw, List.getElem?_cons_zero, List.getElem?_cons_succ, List.set_cons_zero, List.set_cons_succ, List.length_cons, List.length_nil, List.drop_succ_cons, List.drop_zero, List.take_succ_cons, List.take_zero, List.reverse_cons, List.reverse_nil, List.nil_append, List.cons_append, List.append_nil, List.map_cons, List.map_nil, List.sum_cons, List.sum_nil, Option.toList_some, Option.toList_none, Option.bind_some, Value.category, decide_eq_true_eq, decide_true, decide_false, if_true, if_false, Bool.false_eq_true, and_self, and_true, true_and, true_or, or_true, not_true_eq_false, not_false_eq_true, ↓reduceIte, reduceCtorEq, Nat.reduceEqDiff, Nat.reduceAdd, Nat.reduceSub, Nat.reduceMul, Nat.reduceLT, Nat.reduceLeDiff, Nat.reduceBEq, Nat.le_refl, Nat.zero_le, Nat.lt_irrefl, beq_self_eq_true, Nat.succ_ne_zero, Option.some.injEq, Prod.mk.injEq, Int32.reduceLT, Int32.reduceLE, y_60, rt_60_0, rt_60_1, rt_60_11, rt_60_12, rt_60_13, rt_60_14, rt_60_15, rt_60_16, rt_60_17, rt_60_18, rt_60_19, rt_60_20, rt_60_21, rt_60_22, rt_60_23, rt_60_24, rt_60_25, rt_60_26, rt_60_27, rt_60_28, rt_60_29, rt_60_30, rt_60_39, rt_60_41, rt_60_42, rt_60_45, rt_60_46, rt_60_47, rt_60_49, rt_60_50, rt_60_51, rt_60_52, rt_60_53, rt_60_54, rt_60_55, rt_60_56, rt_60_59, rt_60_61, rt_60_62, al_63, as_63, al_64, as_64, al_65, as_65, al_66, as_66, al_67, as_67, al_68, as_68, al_69, as_69, al_70, as_70, al_71, as_71, al_72, as_72, al_73, as_73, al_74, as_74, al_75, as_75, al_76, as_76, al_78, as_78, al_79, as_79, al_80, as_80, al_81, as_81, al_82, as_82, al_83, as_83, al_84, as_84, al_85, as_85, al_86, as_86, al_87, as_87, al_88, as_88, al_89, as_89, al_90, as_90, al_91, as_91, al_92, as_92, al_93, as_93, al_94, as_94, al_95, as_95, al_96, as_96, al_97, as_97, al_98, as_98, al_61, as_61, al_62, as_62, al_99, as_99, al_82_0, as_82_0, al_83_32, as_83_32, al_83_33, as_83_33, ad0, ad8, ad16, ad24, ad_0, mu2, mu8, mu34, nI_add, nI_1, uI_mm, dvN, dvM, c1, addL 34 34 _ rfl, e2, e1]
    · have c1 : (1360 : Int32) ≤ nI 1360 := by decide
      have e2 : dqI I 1360 60 43 = nI 40 := by simp [dqI, a3, hc]
      have e3 : nI 40 - 1 = nI 39 := by decide
      simp (disch := omega) only [kX12_keepAct_11, x_no, x_cst, x_ldI, x_ldJ, x_ldA, x_stI, x_stJ, x_stA, x_inc, x_bin, x_un, x_i2l, x_bnJ, x_lshl, x_lcmp, x_dup, x_dp2, x_gI, x_gJ, x_gA, x_pI, x_pZ, x_pJ, x_pA, x_c0, x_c2, x_sw, x_cV, x_cS, x_rV, x_rI, x_rZ, x_rJ, x_mm, x_pop, msel, mpl, mvr, mnw, List.getElem?_cons_zero, List.getElem?_cons_succ, List.set_cons_zero, List.set_cons_succ, List.length_cons, List.length_nil, List.drop_succ_cons, List.drop_zero, List.take_succ_cons, List.take_zero, List.reverse_cons, List.reverse_nil, List.nil_append, List.cons_append, List.append_nil, List.map_cons, List.map_nil, List.sum_cons, List.sum_nil, Option.toList_some, Option.toList_none, Option.bind_some, Value.category, decide_eq_true_eq, decide_true, decide_false, if_true, if_false, Bool.false_eq_true, and_self, and_true, true_and, true_or, or_true, not_true_eq_false, not_false_eq_true, ↓reduceIte, reduceCtorEq, Nat.reduceEqDiff, Nat.reduceAdd, Nat.reduceSub, Nat.reduceMul, Nat.reduceLT, Nat.reduceLeDiff, Nat.reduceBEq, Nat.le_refl, Nat.zero_le, Nat.lt_irrefl, beq_self_eq_true, Nat.succ_ne_zero, Option.some.injEq, Prod.mk.injEq, Int32.reduceLT, Int32.reduceLE, y_60, rt_60_0, rt_60_1, rt_60_11, rt_60_12, rt_60_13, rt_60_14, rt_60_15, rt_60_16, rt_60_17, rt_60_18, rt_60_19, rt_60_20, rt_60_21, rt_60_22, rt_60_23, rt_60_24, rt_60_25, rt_60_26, rt_60_27, rt_60_28, rt_60_29, rt_60_30, rt_60_39, rt_60_41, rt_60_42, rt_60_45, rt_60_46, rt_60_47, rt_60_49, rt_60_50, rt_60_51, rt_60_52, rt_60_53, rt_60_54, rt_60_55, rt_60_56, rt_60_59, rt_60_61, rt_60_62, al_63, as_63, al_64, as_64, al_65, as_65, al_66, as_66, al_67, as_67, al_68, as_68, al_69, as_69, al_70, as_70, al_71, as_71, al_72, as_72, al_73, as_73, al_74, as_74, al_75, as_75, al_76, as_76, al_78, as_78, al_79, as_79, al_80, as_80, al_81, as_81, al_82, as_82, al_83, as_83, al_84, as_84, al_85, as_85, al_86, as_86, al_87, as_87, al_88, as_88, al_89, as_89, al_90, as_90, al_91, as_91, al_92, as_92, al_93, as_93, al_94, as_94, al_95, as_95, al_96, as_96, al_97, as_97, al_98, as_98, al_61, as_61, al_62, as_62, al_99, as_99, al_82_0, as_82_0, al_83_32, as_83_32, al_83_33, as_83_33, ad0, ad8, ad16, ad24, ad_0, mu2, mu8, mu34, nI_add, nI_1, uI_mm, dvN, dvM, c1, e2, e3]
  · obtain ⟨I', k1, k2, k3, k4⟩ := key I (aN A) none (by omega) (by omega) a3 (fun _ => rfl) (fun i hi => by
      rw [show i + (aN A + 1 - 40) = i by omega]; exact a5 i hi) (fun _ _ _ _ => rfl) (fun _ _ _ => rfl)
    refine ⟨I', ?_, k2, k3, k4⟩
    rw [← k1]
    simp (disch := omega) only [eX12_keepAct, kX12_keepAct_0, x_no, x_cst, x_ldI, x_ldJ, x_ldA, x_stI, x_stJ, x_stA, x_inc, x_bin, x_un, x_i2l, x_bnJ, x_lshl, x_lcmp, x_dup, x_dp2, x_gI, x_gJ, x_gA, x_pI, x_pZ, x_pJ, x_pA, x_c0, x_c2, x_sw, x_cV, x_cS, x_rV, x_rI, x_rZ, x_rJ, x_mm, x_pop, msel, mpl, mvr, mnw, List.getElem?_cons_zero, List.getElem?_cons_succ, List.set_cons_zero, List.set_cons_succ, List.length_cons, List.length_nil, List.drop_succ_cons, List.drop_zero, List.take_succ_cons, List.take_zero, List.reverse_cons, List.reverse_nil, List.nil_append, List.cons_append, List.append_nil, List.map_cons, List.map_nil, List.sum_cons, List.sum_nil, Option.toList_some, Option.toList_none, Option.bind_some, Value.category, decide_eq_true_eq, decide_true, decide_false, if_true, if_false, Bool.false_eq_true, and_self, and_true, true_and, true_or, or_true, not_true_eq_false, not_false_eq_true, ↓reduceIte, reduceCtorEq, Nat.reduceEqDiff, Nat.reduceAdd, Nat.reduceSub, Nat.reduceMul, Nat.reduceLT, Nat.reduceLeDiff, Nat.reduceBEq, Nat.le_refl, Nat.zero_le, Nat.lt_irrefl, beq_self_eq_true, Nat.succ_ne_zero, Option.some.injEq, Prod.mk.injEq, Int32.reduceLT, Int32.reduceLE, y_60, rt_60_0, rt_60_1, rt_60_11, rt_60_12, rt_60_13, rt_60_14, rt_60_15, rt_60_16, rt_60_17, rt_60_18, rt_60_19, rt_60_20, rt_60_21, rt_60_22, rt_60_23, rt_60_24, rt_60_25, rt_60_26, rt_60_27, rt_60_28, rt_60_29, rt_60_30, rt_60_39, rt_60_41, rt_60_42, rt_60_45, rt_60_46, rt_60_47, rt_60_49, rt_60_50, rt_60_51, rt_60_52, rt_60_53, rt_60_54, rt_60_55, rt_60_56, rt_60_59, rt_60_61, rt_60_62, al_63, as_63, al_64, as_64, al_65, as_65, al_66, as_66, al_67, as_67, al_68, as_68, al_69, as_69, al_70, as_70, al_71, as_71, al_72, as_72, al_73, as_73, al_74, as_74, al_75, as_75, al_76, as_76, al_78, as_78, al_79, as_79, al_80, as_80, al_81, as_81, al_82, as_82, al_83, as_83, al_84, as_84, al_85, as_85, al_86, as_86, al_87, as_87, al_88, as_88, al_89, as_89, al_90, as_90, al_91, as_91, al_92, as_92, al_93, as_93, al_94, as_94, al_95, as_95, al_96, as_96, al_97, as_97, al_98, as_98, al_61, as_61, al_62, as_62, al_99, as_99, al_82_0, as_82_0, al_83_32, as_83_32, al_83_33, as_83_33, ad0, ad8, ad16, ad24, ad_0, mu2, mu8, mu34, nI_add, nI_1, uI_mm, dvN, dvM, a3, e40, hc]
theorem RM_act {I1 I2 : Nat → Nat → Int32} {S' : SA} (h : RM I b A) (ka : KA I1 A) (k1 : ∀ c j, c ≠ 60 → c ≠ 85 → I1 c j = I c j) (k2 : ∀ j, j ≠ 43 → j ≠ 44 → I1 60 j = I 60 j) (o : MO I2 b (aT A) S') (g : GF I1 I2) (hy : syr S' ≤ 999) : RM I2 b (act A S') := by
  obtain ⟨h1, h2, h3, h4, h5, h6, h7, h8, h9⟩ := h
  have hk8 := h1.k8
  obtain ⟨⟨a1, a2⟩, ⟨a3, a4⟩, a5, a6, a7, a8⟩ := h3
  obtain ⟨q1, q2, q3⟩ := ka
  have hS : SOk (aT A) S' := ⟨o.2.2.1, hy⟩
  have hlen := pushH_len (S := S') a1
  have fc : ∀ c j, c ≠ 60 → c ≠ 82 → c ≠ 83 → c ≠ 84 → c ≠ 85 → I2 c j = I c j := fun c j c1 c2 c3 c4 c5 => (g.1 c j c1 c2 c3 c4).trans (k1 c j c1 c5)
  have f60 : ∀ j, j ≠ 37 → j ≠ 38 → j ≠ 43 → j ≠ 44 → I2 60 j = I 60 j := fun j c1 c2 c3 c4 => (g.2 j c1 c2).trans (k2 j c3 c4)
  refine ⟨o, hS, ⟨⟨?_, ?_⟩, ⟨?_, ?_⟩, fun i hi => ?_, fun i i1 i2 => ?_, ?_, fun i hi => ?_⟩, RowM_of h4 (f60 48 (by decide) (by decide) (by decide) (by decide)) (fun j => fc 87 j (by decide) (by decide) (by decide) (by decide) (by decide)), HM_of h5 (f60 57 (by decide) (by decide) (by decide) (by decide)) (f60 58 (by decide) (by decide) (by decide) (by decide)) (fun c j c1 c2 => fc c j (by omega) (by omega) (by omega) (by omega) (by omega)), BxM_of hk8 h6 (fun j => fc 98 j (by decide) (by decide) (by decide) (by decide) (by decide)) (fun j => fc 99 j (by decide) (by decide) (by decide) (by decide) (by decide)), TpM_of h7 (f60 2 (by decide) (by decide) (by decide) (by decide)) (fun j => fc 61 j (by decide) (by decide) (by decide) (by decide) (by decide)), FtM_of h8 (f60 4 (by decide) (by decide) (by decide) (by decide)) (f60 5 (by decide) (by decide) (by decide) (by decide)), (f60 40 (by decide) (by decide) (by decide) (by decide)).trans h9⟩
  · show aN A + 1 - (aN A + 1 - 40) < (pushH (aH A) (aN A) S').length
    omega
  · show (pushH (aH A) (aN A) S').length ≤ 41
    omega
  · exact (g.2 43 (by decide) (by decide)).trans q1
  · show I2 60 44 = nI ((pushH (aH A) (aN A) S').length - 1 - (aN A + 1 - (aN A + 1 - 40)))
    rw [g.2 44 (by decide) (by decide), q2, hlen, show aN A + 1 - (aN A + 1 - 40) + 1 - 1 - (aN A + 1 - (aN A + 1 - 40)) = 0 by omega]
    rfl
  · have hi : i < aN A + 1 - (aN A + 1 - 40) := hi
    show MSv I2 85 (34 * i) (tk (aT A)) ((pushH (aH A) (aN A) S').getD i sa0)
    rw [pushH_at a1, if_neg (by omega), if_pos hi]
    exact MSv_of hk8 (q3 i hi) (fun t ht => g.1 85 _ (by decide) (by decide) (by decide) (by decide))
  · have i1 : aN A + 1 - (aN A + 1 - 40) ≤ i := i1
    have i2 : i + 1 < (pushH (aH A) (aN A) S').length := i2
    omega
  · show S' = (pushH (aH A) (aN A) S').getD (aN A + 1 - (aN A + 1 - 40)) sa0
    rw [pushH_at a1, if_pos rfl]
  · have hi : i < (pushH (aH A) (aN A) S').length := hi
    show SOk (aT A) ((pushH (aH A) (aN A) S').getD i sa0)
    rw [pushH_at a1]
    by_cases e : i = aN A + 1 - (aN A + 1 - 40)
    · rw [if_pos e]; exact hS
    · rw [if_neg e, if_pos (by omega)]; exact a8 _ (by omega)
end MActs
