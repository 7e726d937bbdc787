/-! PURE: the model's behindUnit, whole -/
section MBeh4
variable {n : Nat} {I : Nat → Nat → Int32} {J : Nat → Nat → Int64} {tp : List Nat} {i u rb lo U : Nat} {cs : List (Nat × Nat)} {P : List Nat}
theorem wi_pop {r : Nat} : ∀ P : List Nat, wi (pop1 r P).2 ≤ wi P := by
  intro P
  induction P with
  | nil => exact Nat.le_refl _
  | cons a P ih =>
    rw [pop1]
    split
    · show wi (pop1 r P).2 ≤ (if a = 28 ∨ a = 5 then 1 else 0) + wi P
      omega
    · exact Nat.le_refl _
set_option maxHeartbeats 8000000 in
theorem m_behind (hn : 1700 < n) (f : Nat) (h : XM I J tp rb lo U (i, u, cs, P, false)) (h99 : 99 ∈ P) (hl : P.length < 89) (hw : wi P ≤ 100) (hlo : 560 * rb ≤ lo ∧ lo + cs.length + P.length < 560 * rb + 560) :
    (∀ j, qB tp i u cs P = .error j → ∃ I' b, FX12_behindUnit n [.ref 60] (mm I J f) = some (some (.int b), mm I' J f) ∧ FS tp I' (rf tp j) ∧ XG rb lo I I') ∧
    (∀ q', qB tp i u cs P = .ok q' → UR n f I J tp rb lo U (FX12_behindUnit n [.ref 60] (mm I J f)) q') := by
  obtain ⟨t1, t2, t3, -⟩ := rkT_lev _ (kn_rg tp i)
  have mr := m_rankHere n f h.1
  have mr : FX12_rankHere n [.ref 60] (mm I J f) = some (some (.int (nI (rkT (kn tp i)))), mm I J f) := mr
  have mc := m_isCompared (J := J) (by omega : 100 < n) f h.2.2.2.2.2.1 h.2.2.2.2.2.2.1 (show P.length < 90 by omega) h99
  have mc : FX12_isCompared n [.ref 60] (mm I J f) = some (some (.int (b2i (cmpd P = true))), mm I J f) := mc
  have c4 : nI (rkT (kn tp i)) = 4 ↔ rkT (kn tp i) = 4 := nI_eq (b := 4) (by omega) (by decide)
  have q1 : ¬ (1 : Int32) = 0 := by decide
  unfold qB
  by_cases cc : lev (kn tp i) = 2 ∧ cmpd P = true
  · rw [if_pos cc]
    refine ⟨fun j hj => ?_, fun q' hq => by cases hq⟩
    cases hj
    have mp := m_misplaced n f h.1
    have mp : FX12_misplaced n [.ref 60] (mm I J f) = some (none, mm (fmI I (nI (rf tp i).1) (nI (rf tp i).2)) J f) := mp
    have d4 := c4.mpr (t1.mpr cc.1)
    refine ⟨fmI I (nI (rf tp i).1) (nI (rf tp i).2), 1, ?_, fmI_FS h.1 (rf_rg tp i), XG.g5 fmI_o⟩
    rw [b2i_1 cc.2] at mc
    simp only [eX12_behindUnit, kX12_behindUnit_0, x_no, x_cst, x_ldI, x_ldJ, x_ldA, x_stI, x_stJ, x_stA, x_inc, x_bin, x_un, x_i2l, x_bnJ, x_lshl, x_lcmp, x_dup, x_dp2, x_gI, x_gJ, x_gA, x_pI, x_pZ, x_pJ, x_pA, x_c0, x_c2, x_sw, x_cV, x_cS, x_rV, x_rI, x_rZ, x_rJ, x_mm, x_pop, msel, mpl, mvr, mnw, List.getElem?_cons_zero, List.getElem?_cons_succ, List.set_cons_zero, List.set_cons_succ, List.length_cons, List.length_nil, List.drop_succ_cons, List.drop_zero, List.take_succ_cons, List.take_zero, List.reverse_cons, List.reverse_nil, List.nil_append, List.cons_append, List.append_nil, List.map_cons, List.map_nil, List.sum_cons, List.sum_nil, Option.toList_some, Option.toList_none, x_bs, Value.category, decide_eq_true_eq, decide_true, decide_false, if_true, if_false, Bool.false_eq_true, and_self, and_true, true_and, true_or, or_true, not_true_eq_false, not_false_eq_true, ↓reduceIte, reduceCtorEq, Nat.reduceEqDiff, Nat.reduceAdd, Nat.reduceSub, Nat.reduceMul, Nat.reduceLT, Nat.reduceLeDiff, Nat.reduceBEq, Nat.le_refl, Nat.zero_le, Nat.lt_irrefl, beq_self_eq_true, Nat.succ_ne_zero, Option.some.injEq, Prod.mk.injEq, Int32.reduceLT, Int32.reduceLE, y_60, rt_60_0, rt_60_1, rt_60_11, rt_60_12, rt_60_13, rt_60_14, rt_60_15, rt_60_16, rt_60_17, rt_60_18, rt_60_19, rt_60_20, rt_60_21, rt_60_22, rt_60_23, rt_60_24, rt_60_25, rt_60_26, rt_60_27, rt_60_28, rt_60_29, rt_60_30, rt_60_39, rt_60_41, rt_60_42, rt_60_45, rt_60_46, rt_60_47, rt_60_49, rt_60_50, rt_60_51, rt_60_52, rt_60_53, rt_60_54, rt_60_55, rt_60_56, rt_60_59, rt_60_61, rt_60_62, al_63, as_63, al_64, as_64, al_65, as_65, al_66, as_66, al_67, as_67, al_68, as_68, al_69, as_69, al_70, as_70, al_71, as_71, al_72, as_72, al_73, as_73, al_74, as_74, al_75, as_75, al_76, as_76, al_78, as_78, al_79, as_79, al_80, as_80, al_81, as_81, al_82, as_82, al_83, as_83, al_84, as_84, al_85, as_85, al_86, as_86, al_87, as_87, al_88, as_88, al_89, as_89, al_90, as_90, al_91, as_91, al_92, as_92, al_93, as_93, al_94, as_94, al_95, as_95, al_96, as_96, al_97, as_97, al_98, as_98, al_61, as_61, al_62, as_62, al_99, as_99, al_82_0, as_82_0, al_83_32, as_83_32, al_83_33, as_83_33, ad0, ad8, ad16, ad24, ad_0, mu2, mu8, mu34, nI_add, nI_1, uI_mm, dvN, dvM, mr, d4, mc, q1, mp]
  · rw [if_neg cc]
    obtain ⟨I1, k1, k2, k3⟩ := m_pops (J := J) (tp := tp) (i := i) (u := u) (rb := rb) (lo := lo) (U := U) (w := false) n f (r := rkT (kn tp i)) (by omega) P I cs h h99 (by omega) hw hlo (n - P.length - 1)
    rw [show n - P.length - 1 + P.length + 1 = n by omega] at k1
    have run : FX12_behindUnit n [.ref 60] (mm I J f) = kX12_behindUnit_104 n [some (.ref 60), some (.int (nI (rkT (kn tp i))))] [] (mm I1 J f) := by
      rw [← k1]
      by_cases e4 : lev (kn tp i) = 2
      · have d4 := c4.mpr (t1.mpr e4)
        have nc : ¬ cmpd P = true := fun z => cc ⟨e4, z⟩
        rw [b2i_0 nc] at mc
        rw [d4] at mr ⊢
        simp only [eX12_behindUnit, kX12_behindUnit_0, x_no, x_cst, x_ldI, x_ldJ, x_ldA, x_stI, x_stJ, x_stA, x_inc, x_bin, x_un, x_i2l, x_bnJ, x_lshl, x_lcmp, x_dup, x_dp2, x_gI, x_gJ, x_gA, x_pI, x_pZ, x_pJ, x_pA, x_c0, x_c2, x_sw, x_cV, x_cS, x_rV, x_rI, x_rZ, x_rJ, x_mm, x_pop, msel, mpl, mvr, mnw, List.getElem?_cons_zero, List.getElem?_cons_succ, List.set_cons_zero, List.set_cons_succ, List.length_cons, List.length_nil, List.drop_succ_cons, List.drop_zero, List.take_succ_cons, List.take_zero, List.reverse_cons, List.reverse_nil, List.nil_append, List.cons_append, List.append_nil, List.map_cons, List.map_nil, List.sum_cons, List.sum_nil, Option.toList_some, Option.toList_none, x_bs, Value.category, decide_eq_true_eq, decide_true, decide_false, if_true, if_false, Bool.false_eq_true, and_self, and_true, true_and, true_or, or_true, not_true_eq_false, not_false_eq_true, ↓reduceIte, reduceCtorEq, Nat.reduceEqDiff, Nat.reduceAdd, Nat.reduceSub, Nat.reduceMul, Nat.reduceLT, Nat.reduceLeDiff, Nat.reduceBEq, Nat.le_refl, Nat.zero_le, Nat.lt_irrefl, beq_self_eq_true, Nat.succ_ne_zero, Option.some.injEq, Prod.mk.injEq, Int32.reduceLT, Int32.reduceLE, y_60, rt_60_0, rt_60_1, rt_60_11, rt_60_12, rt_60_13, rt_60_14, rt_60_15, rt_60_16, rt_60_17, rt_60_18, rt_60_19, rt_60_20, rt_60_21, rt_60_22, rt_60_23, rt_60_24, rt_60_25, rt_60_26, rt_60_27, rt_60_28, rt_60_29, rt_60_30, rt_60_39, rt_60_41, rt_60_42, rt_60_45, rt_60_46, rt_60_47, rt_60_49, rt_60_50, rt_60_51, rt_60_52, rt_60_53, rt_60_54, rt_60_55, rt_60_56, rt_60_59, rt_60_61, rt_60_62, al_63, as_63, al_64, as_64, al_65, as_65, al_66, as_66, al_67, as_67, al_68, as_68, al_69, as_69, al_70, as_70, al_71, as_71, al_72, as_72, al_73, as_73, al_74, as_74, al_75, as_75, al_76, as_76, al_78, as_78, al_79, as_79, al_80, as_80, al_81, as_81, al_82, as_82, al_83, as_83, al_84, as_84, al_85, as_85, al_86, as_86, al_87, as_87, al_88, as_88, al_89, as_89, al_90, as_90, al_91, as_91, al_92, as_92, al_93, as_93, al_94, as_94, al_95, as_95, al_96, as_96, al_97, as_97, al_98, as_98, al_61, as_61, al_62, as_62, al_99, as_99, al_82_0, as_82_0, al_83_32, as_83_32, al_83_33, as_83_33, ad0, ad8, ad16, ad24, ad_0, mu2, mu8, mu34, nI_add, nI_1, uI_mm, dvN, dvM, mr, mc]
      · have d4 : ¬ nI (rkT (kn tp i)) = 4 := fun z => e4 (t1.mp (c4.mp z))
        simp only [eX12_behindUnit, kX12_behindUnit_0, x_no, x_cst, x_ldI, x_ldJ, x_ldA, x_stI, x_stJ, x_stA, x_inc, x_bin, x_un, x_i2l, x_bnJ, x_lshl, x_lcmp, x_dup, x_dp2, x_gI, x_gJ, x_gA, x_pI, x_pZ, x_pJ, x_pA, x_c0, x_c2, x_sw, x_cV, x_cS, x_rV, x_rI, x_rZ, x_rJ, x_mm, x_pop, msel, mpl, mvr, mnw, List.getElem?_cons_zero, List.getElem?_cons_succ, List.set_cons_zero, List.set_cons_succ, List.length_cons, List.length_nil, List.drop_succ_cons, List.drop_zero, List.take_succ_cons, List.take_zero, List.reverse_cons, List.reverse_nil, List.nil_append, List.cons_append, List.append_nil, List.map_cons, List.map_nil, List.sum_cons, List.sum_nil, Option.toList_some, Option.toList_none, x_bs, Value.category, decide_eq_true_eq, decide_true, decide_false, if_true, if_false, Bool.false_eq_true, and_self, and_true, true_and, true_or, or_true, not_true_eq_false, not_false_eq_true, ↓reduceIte, reduceCtorEq, Nat.reduceEqDiff, Nat.reduceAdd, Nat.reduceSub, Nat.reduceMul, Nat.reduceLT, Nat.reduceLeDiff, Nat.reduceBEq, Nat.le_refl, Nat.zero_le, Nat.lt_irrefl, beq_self_eq_true, Nat.succ_ne_zero, Option.some.injEq, Prod.mk.injEq, Int32.reduceLT, Int32.reduceLE, y_60, rt_60_0, rt_60_1, rt_60_11, rt_60_12, rt_60_13, rt_60_14, rt_60_15, rt_60_16, rt_60_17, rt_60_18, rt_60_19, rt_60_20, rt_60_21, rt_60_22, rt_60_23, rt_60_24, rt_60_25, rt_60_26, rt_60_27, rt_60_28, rt_60_29, rt_60_30, rt_60_39, rt_60_41, rt_60_42, rt_60_45, rt_60_46, rt_60_47, rt_60_49, rt_60_50, rt_60_51, rt_60_52, rt_60_53, rt_60_54, rt_60_55, rt_60_56, rt_60_59, rt_60_61, rt_60_62, al_63, as_63, al_64, as_64, al_65, as_65, al_66, as_66, al_67, as_67, al_68, as_68, al_69, as_69, al_70, as_70, al_71, as_71, al_72, as_72, al_73, as_73, al_74, as_74, al_75, as_75, al_76, as_76, al_78, as_78, al_79, as_79, al_80, as_80, al_81, as_81, al_82, as_82, al_83, as_83, al_84, as_84, al_85, as_85, al_86, as_86, al_87, as_87, al_88, as_88, al_89, as_89, al_90, as_90, al_91, as_91, al_92, as_92, al_93, as_93, al_94, as_94, al_95, as_95, al_96, as_96, al_97, as_97, al_98, as_98, al_61, as_61, al_62, as_62, al_99, as_99, al_82_0, as_82_0, al_83_32, as_83_32, al_83_33, as_83_33, ad0, ad8, ad16, ad24, ad_0, mu2, mu8, mu34, nI_add, nI_1, uI_mm, dvN, dvM, mr, d4]
    rw [run]
    have p99 := pop1_99 (r := rkT (kn tp i)) P h99
    have plen := pop1_len (r := rkT (kn tp i)) P
    have pwi := wi_pop (r := rkT (kn tp i)) P
    have phd := fun k Q => pop1_hd (r := rkT (kn tp i)) (k := k) (Q := Q) P
    generalize hpp : pop1 (rkT (kn tp i)) P = pp at k2 p99 plen pwi phd
    obtain ⟨out, P1⟩ := pp
    simp only at k2 p99 plen pwi phd ⊢
    by_cases cv : lev (kn tp i) ≤ 4
    · rw [if_pos cv]
      refine ⟨fun j hj => (by cases hj), fun q' hq => ?_⟩
      cases hq
      obtain ⟨I2, J2, r1, r2, r3, r4⟩ := m_beh104 hn f k2 (by omega) cv
      exact ⟨I2, J2, r1, r2, k3.tr r3, r4⟩
    · rw [if_neg cv]
      have z : rkT (kn tp i) = 0 := t2.mpr cv
      have zz : nI (rkT (kn tp i)) = 0 := by rw [z]; rfl
      rw [zz]
      cases P1 with
      | nil => simp at p99
      | cons k Q =>
        have hk := phd k Q rfl
        simp only [List.length_cons] at plen
        have hwi : wi Q ≤ wi (k :: Q) := by show wi Q ≤ (if k = 28 ∨ k = 5 then 1 else 0) + wi Q; omega
        obtain ⟨b1, b2, b3⟩ := m_beh104b hn f k2 (by omega) (by omega) (by omega)
        by_cases c5 : k = 5
        · rw [if_pos (show (k :: Q).headD 99 = 5 from c5)]
          by_cases c6 : kn tp i = 6
          · rw [if_pos c6]
            refine ⟨fun j hj => (by cases hj), fun q' hq => ?_⟩
            cases hq
            obtain ⟨I2, J2, r1, r2, r3, r4⟩ := b2 c5 c6
            exact ⟨I2, J2, r1, r2, k3.tr r3, r4⟩
          · rw [if_neg c6]
            refine ⟨fun j hj => ?_, fun q' hq => by cases hq⟩
            cases hj
            obtain ⟨I2, r1, r2, r3⟩ := b3 c5 c6
            exact ⟨I2, 0, r1, r2, k3.tr r3⟩
        · rw [if_neg (show ¬ (k :: Q).headD 99 = 5 from c5)]
          refine ⟨fun j hj => (by cases hj), fun q' hq => ?_⟩
          cases hq
          obtain ⟨I2, J2, r1, r2, r3, r4⟩ := b1 c5
          exact ⟨I2, J2, r1, r2, k3.tr r3, r4⟩
end MBeh4
