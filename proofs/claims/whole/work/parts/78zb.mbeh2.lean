/-! PURE: the model's behindUnit does what the pile's does -/
theorem rkT_lev : ∀ k, k ≤ 33 → (rkT k = 4 ↔ lev k = 2) ∧ (rkT k = 0 ↔ ¬ lev k ≤ 4) ∧ rkT k ≤ 6 ∧ (lev k ≤ 4 → rkT k = rk k ∧ ¬ k = 28 ∧ ¬ k = 5 ∧ 2 ≤ k) ∧ (rkT k = 2 ↔ k = 27) ∧ (rkT k = 1 ↔ k = 26) ∧ (lev k ≤ 4 → k = 26 ∨ k = 27 ∨ (7 ≤ k ∧ k ≤ 14)) := by
  intro k hk
  refine ⟨?_, ?_, ?_, ?_, ?_, ?_, ?_⟩ <;> revert k <;> decide +kernel
theorem pop1_99 {r : Nat} : ∀ P : List Nat, 99 ∈ P → 99 ∈ (pop1 r P).2 := by
  intro P
  induction P with
  | nil => intro h; simp at h
  | cons k P ih =>
    intro h
    rw [pop1]
    split
    · rename_i c
      rcases List.mem_cons.mp h with z | z
      · rw [← z] at c; exact absurd c.1 (by decide)
      · exact ih z
    · exact h
theorem pop1_hd {r k : Nat} {Q : List Nat} : ∀ P : List Nat, (pop1 r P).2 = k :: Q → ¬ (rk k ≤ 6 ∧ r ≤ rk k) := by
  intro P
  induction P with
  | nil => intro h; cases h
  | cons a P ih =>
    intro h
    rw [pop1] at h
    split at h
    · exact ih h
    · rename_i c
      cases h
      exact c
theorem pop1_len {r : Nat} : ∀ P : List Nat, (pop1 r P).1.length + (pop1 r P).2.length = P.length := by
  intro P
  induction P with
  | nil => rfl
  | cons a P ih =>
    rw [pop1]
    split
    · simp only [List.length_cons]; omega
    · simp
theorem rk_7 {k : Nat} : rk k = 7 ↔ k = 5 := by
  unfold rk
  constructor
  · intro h
    repeat' split at h
    all_goals omega
  · rintro rfl; decide
theorem mch_sg : ∀ m, m < 8 → mch (7 + m) = nI (SGl.getD (3 + m) 0) := by decide +kernel
section MBeh2
variable {n : Nat} {I : Nat → Nat → Int32} {J : Nat → Nat → Int64} {tp : List Nat} {i u rb lo U : Nat} {cs : List (Nat × Nat)} {P : List Nat} {w : Bool}
set_option maxHeartbeats 8000000 in
theorem m_beh104 (hn : 1700 < n) (f : Nat) (h : XM I J tp rb lo U (i, u, cs, P, w)) (hl : P.length < 89) :
    (lev (kn tp i) ≤ 4 → UR n f I J tp rb lo U (kX12_behindUnit_104 n [some (.ref 60), some (.int (nI (rkT (kn tp i))))] [] (mm I J f)) (i + 1, u, cs, kn tp i :: P, true)) := by
  intro hv
  obtain ⟨t1, t2, t3, t4, t5, t6, t7⟩ := rkT_lev _ (kn_rg tp i)
  obtain ⟨v1, v2, v3, v4⟩ := t4 hv
  have h35 : I 60 35 = nI P.length := h.2.2.2.2.2.2.1
  have h34 : I 60 34 = nI (wi P) := h.2.2.2.2.2.2.2
  have hwi : wi (kn tp i :: P) = wi P := by show (if kn tp i = 28 ∨ kn tp i = 5 then 1 else 0) + wi P = wi P; rw [if_neg (by omega), Nat.zero_add]
  obtain ⟨x1, x2⟩ := XM_push h (k := kn tp i) (v := wi P) (x := mch (kn tp i)) (fun _ => rfl) hwi true
  have hid : u2 (u2 (u2 (u2 I 80 P.length (nI (rk (kn tp i)))) 81 P.length (mch (kn tp i))) 60 35 (nI (P.length + 1))) 60 34 (nI (wi P)) = u2 (u2 (u2 I 80 P.length (nI (rk (kn tp i)))) 81 P.length (mch (kn tp i))) 60 35 (nI (P.length + 1)) := u2_id (by rw [u2_j (by decide), u2_a (by decide), u2_a (by decide)]; exact h34)
  rw [hid] at x1 x2
  have pu := m_pushE (J := J) n f h35 (by omega) (nI (rk (kn tp i))) (mch (kn tp i))
  generalize u2 (u2 (u2 I 80 P.length (nI (rk (kn tp i)))) 81 P.length (mch (kn tp i))) 60 35 (nI (P.length + 1)) = I1 at x1 x2 pu
  obtain ⟨I2, J2, k1, k2, k3⟩ := m_goOnR hn f x1.1 v4
  obtain ⟨y1, y2⟩ := XM_goOn x1 k2 k3
  refine ⟨I2, J2, ?_, y1, x2.tr y2, fun b j hb => k3.2 b j (Or.inl hb)⟩
  have r0 : ¬ nI (rkT (kn tp i)) ≤ 0 := by rw [show (0 : Int32) = nI 0 from rfl, nI_leI (by omega) (by decide)]; have := mt t2.mp (by omega); omega
  have rb1 : b2i ((true : Bool) = true) = 1 := rfl
  show _ = some (some (Value.int (b2i ((true : Bool) = true))), mm I2 J2 f)
  rw [rb1]
  rw [← v1] at pu
  by_cases c27 : kn tp i = 27
  · have d2 : nI (rkT (kn tp i)) = 2 := by rw [t5.mpr c27]; rfl
    have em : mch (kn tp i) = 38 := by rw [c27]; rfl
    have z : ¬ (2 : Int32) ≤ 0 := by decide
    rw [d2, em] at pu
    rw [d2]
    simp only [kX12_behindUnit_104, kX12_behindUnit_138, x_no, x_cst, x_ldI, x_ldJ, x_ldA, x_stI, x_stJ, x_stA, x_inc, x_bin, x_un, x_i2l, x_bnJ, x_lshl, x_lcmp, x_dup, x_dp2, x_gI, x_gJ, x_gA, x_pI, x_pZ, x_pJ, x_pA, x_c0, x_c2, x_sw, x_cV, x_cS, x_rV, x_rI, x_rZ, x_rJ, x_mm, x_pop, msel, mpl, mvr, mnw, List.getElem?_cons_zero, List.getElem?_cons_succ, List.set_cons_zero, List.set_cons_succ, List.length_cons, List.length_nil, List.drop_succ_cons, List.drop_zero, List.take_succ_cons, List.take_zero, List.reverse_cons, List.reverse_nil, List.nil_append, List.cons_append, List.append_nil, List.map_cons, List.map_nil, List.sum_cons, List.sum_nil, Option.toList_some, Option.toList_none, x_bs, Value.category, decide_eq_true_eq, decide_true, decide_false, if_true, if_false, Bool.false_eq_true, and_self, and_true, true_and, true_or, or_true, not_true_eq_false, not_false_eq_true, ↓reduceIte, reduceCtorEq, Nat.reduceEqDiff, Nat.reduceAdd, Nat.reduceSub, Nat.reduceMul, Nat.reduceLT, Nat.reduceLeDiff, Nat.reduceBEq, Nat.le_refl, Nat.zero_le, Nat.lt_irrefl, beq_self_eq_true, Nat.succ_ne_zero, Option.some.injEq, Prod.mk.injEq, Int32.reduceLT, Int32.reduceLE, y_60, rt_60_0, rt_60_1, rt_60_11, rt_60_12, rt_60_13, rt_60_14, rt_60_15, rt_60_16, rt_60_17, rt_60_18, rt_60_19, rt_60_20, rt_60_21, rt_60_22, rt_60_23, rt_60_24, rt_60_25, rt_60_26, rt_60_27, rt_60_28, rt_60_29, rt_60_30, rt_60_39, rt_60_41, rt_60_42, rt_60_45, rt_60_46, rt_60_47, rt_60_49, rt_60_50, rt_60_51, rt_60_52, rt_60_53, rt_60_54, rt_60_55, rt_60_56, rt_60_59, rt_60_61, rt_60_62, al_63, as_63, al_64, as_64, al_65, as_65, al_66, as_66, al_67, as_67, al_68, as_68, al_69, as_69, al_70, as_70, al_71, as_71, al_72, as_72, al_73, as_73, al_74, as_74, al_75, as_75, al_76, as_76, al_78, as_78, al_79, as_79, al_80, as_80, al_81, as_81, al_82, as_82, al_83, as_83, al_84, as_84, al_85, as_85, al_86, as_86, al_87, as_87, al_88, as_88, al_89, as_89, al_90, as_90, al_91, as_91, al_92, as_92, al_93, as_93, al_94, as_94, al_95, as_95, al_96, as_96, al_97, as_97, al_98, as_98, al_61, as_61, al_62, as_62, al_99, as_99, al_82_0, as_82_0, al_83_32, as_83_32, al_83_33, as_83_33, ad0, ad8, ad16, ad24, ad_0, mu2, mu8, mu34, nI_add, nI_1, uI_mm, dvN, dvM, z, pu, k1]
  · have d2 : ¬ nI (rkT (kn tp i)) = 2 := fun z => c27 (t5.mp ((nI_eq (b := 2) (by omega) (by decide)).mp z))
    by_cases c26 : kn tp i = 26
    · have d1 : nI (rkT (kn tp i)) = 1 := by rw [t6.mpr c26]; rfl
      have em : mch (kn tp i) = 124 := by rw [c26]; rfl
      have z : ¬ (1 : Int32) ≤ 0 := by decide
      have z2 : ¬ (1 : Int32) = 2 := by decide
      rw [d1, em] at pu
      rw [d1]
      simp only [kX12_behindUnit_104, kX12_behindUnit_138, x_no, x_cst, x_ldI, x_ldJ, x_ldA, x_stI, x_stJ, x_stA, x_inc, x_bin, x_un, x_i2l, x_bnJ, x_lshl, x_lcmp, x_dup, x_dp2, x_gI, x_gJ, x_gA, x_pI, x_pZ, x_pJ, x_pA, x_c0, x_c2, x_sw, x_cV, x_cS, x_rV, x_rI, x_rZ, x_rJ, x_mm, x_pop, msel, mpl, mvr, mnw, List.getElem?_cons_zero, List.getElem?_cons_succ, List.set_cons_zero, List.set_cons_succ, List.length_cons, List.length_nil, List.drop_succ_cons, List.drop_zero, List.take_succ_cons, List.take_zero, List.reverse_cons, List.reverse_nil, List.nil_append, List.cons_append, List.append_nil, List.map_cons, List.map_nil, List.sum_cons, List.sum_nil, Option.toList_some, Option.toList_none, x_bs, Value.category, decide_eq_true_eq, decide_true, decide_false, if_true, if_false, Bool.false_eq_true, and_self, and_true, true_and, true_or, or_true, not_true_eq_false, not_false_eq_true, ↓reduceIte, reduceCtorEq, Nat.reduceEqDiff, Nat.reduceAdd, Nat.reduceSub, Nat.reduceMul, Nat.reduceLT, Nat.reduceLeDiff, Nat.reduceBEq, Nat.le_refl, Nat.zero_le, Nat.lt_irrefl, beq_self_eq_true, Nat.succ_ne_zero, Option.some.injEq, Prod.mk.injEq, Int32.reduceLT, Int32.reduceLE, y_60, rt_60_0, rt_60_1, rt_60_11, rt_60_12, rt_60_13, rt_60_14, rt_60_15, rt_60_16, rt_60_17, rt_60_18, rt_60_19, rt_60_20, rt_60_21, rt_60_22, rt_60_23, rt_60_24, rt_60_25, rt_60_26, rt_60_27, rt_60_28, rt_60_29, rt_60_30, rt_60_39, rt_60_41, rt_60_42, rt_60_45, rt_60_46, rt_60_47, rt_60_49, rt_60_50, rt_60_51, rt_60_52, rt_60_53, rt_60_54, rt_60_55, rt_60_56, rt_60_59, rt_60_61, rt_60_62, al_63, as_63, al_64, as_64, al_65, as_65, al_66, as_66, al_67, as_67, al_68, as_68, al_69, as_69, al_70, as_70, al_71, as_71, al_72, as_72, al_73, as_73, al_74, as_74, al_75, as_75, al_76, as_76, al_78, as_78, al_79, as_79, al_80, as_80, al_81, as_81, al_82, as_82, al_83, as_83, al_84, as_84, al_85, as_85, al_86, as_86, al_87, as_87, al_88, as_88, al_89, as_89, al_90, as_90, al_91, as_91, al_92, as_92, al_93, as_93, al_94, as_94, al_95, as_95, al_96, as_96, al_97, as_97, al_98, as_98, al_61, as_61, al_62, as_62, al_99, as_99, al_82_0, as_82_0, al_83_32, as_83_32, al_83_33, as_83_33, ad0, ad8, ad16, ad24, ad_0, mu2, mu8, mu34, nI_add, nI_1, uI_mm, dvN, dvM, z, z2, pu, k1]
    · have d1 : ¬ nI (rkT (kn tp i)) = 1 := fun z => c26 (t6.mp ((nI_eq (b := 1) (by omega) (by decide)).mp z))
      have k714 : 7 ≤ kn tp i ∧ kn tp i ≤ 14 := by rcases t7 hv with z | z | z; exact absurd z c26; exact absurd z c27; exact z
      have hpl : pl tp i ≤ tp.length := (pl_rg tp h.1.2.2.1).2.1
      have hl16 := h.1.1.2.1
      have ms := m_sign n J f h.1.1 (show pl tp i < 2 ^ 31 by omega)
      have sg := sg_tok tp (i := i) (by omega)
      have sa := (sgk_at (kn tp i) (by omega) k714.2 _ (bt_ltM h.1.1 (pl tp i))).mp sg.symm
      have em : nI (bt tp (pl tp i)) = mch (kn tp i) := by
        have := mch_sg (kn tp i - 7) (by omega)
        rw [show 7 + (kn tp i - 7) = kn tp i by omega, show 3 + (kn tp i - 7) = kn tp i - 4 by omega] at this
        rw [this, ← sa]
      have h6 : I 60 6 = nI (pl tp i) := h.1.2.1.1
      rw [em] at ms
      simp only [kX12_behindUnit_104, kX12_behindUnit_138, x_no, x_cst, x_ldI, x_ldJ, x_ldA, x_stI, x_stJ, x_stA, x_inc, x_bin, x_un, x_i2l, x_bnJ, x_lshl, x_lcmp, x_dup, x_dp2, x_gI, x_gJ, x_gA, x_pI, x_pZ, x_pJ, x_pA, x_c0, x_c2, x_sw, x_cV, x_cS, x_rV, x_rI, x_rZ, x_rJ, x_mm, x_pop, msel, mpl, mvr, mnw, List.getElem?_cons_zero, List.getElem?_cons_succ, List.set_cons_zero, List.set_cons_succ, List.length_cons, List.length_nil, List.drop_succ_cons, List.drop_zero, List.take_succ_cons, List.take_zero, List.reverse_cons, List.reverse_nil, List.nil_append, List.cons_append, List.append_nil, List.map_cons, List.map_nil, List.sum_cons, List.sum_nil, Option.toList_some, Option.toList_none, x_bs, Value.category, decide_eq_true_eq, decide_true, decide_false, if_true, if_false, Bool.false_eq_true, and_self, and_true, true_and, true_or, or_true, not_true_eq_false, not_false_eq_true, ↓reduceIte, reduceCtorEq, Nat.reduceEqDiff, Nat.reduceAdd, Nat.reduceSub, Nat.reduceMul, Nat.reduceLT, Nat.reduceLeDiff, Nat.reduceBEq, Nat.le_refl, Nat.zero_le, Nat.lt_irrefl, beq_self_eq_true, Nat.succ_ne_zero, Option.some.injEq, Prod.mk.injEq, Int32.reduceLT, Int32.reduceLE, y_60, rt_60_0, rt_60_1, rt_60_11, rt_60_12, rt_60_13, rt_60_14, rt_60_15, rt_60_16, rt_60_17, rt_60_18, rt_60_19, rt_60_20, rt_60_21, rt_60_22, rt_60_23, rt_60_24, rt_60_25, rt_60_26, rt_60_27, rt_60_28, rt_60_29, rt_60_30, rt_60_39, rt_60_41, rt_60_42, rt_60_45, rt_60_46, rt_60_47, rt_60_49, rt_60_50, rt_60_51, rt_60_52, rt_60_53, rt_60_54, rt_60_55, rt_60_56, rt_60_59, rt_60_61, rt_60_62, al_63, as_63, al_64, as_64, al_65, as_65, al_66, as_66, al_67, as_67, al_68, as_68, al_69, as_69, al_70, as_70, al_71, as_71, al_72, as_72, al_73, as_73, al_74, as_74, al_75, as_75, al_76, as_76, al_78, as_78, al_79, as_79, al_80, as_80, al_81, as_81, al_82, as_82, al_83, as_83, al_84, as_84, al_85, as_85, al_86, as_86, al_87, as_87, al_88, as_88, al_89, as_89, al_90, as_90, al_91, as_91, al_92, as_92, al_93, as_93, al_94, as_94, al_95, as_95, al_96, as_96, al_97, as_97, al_98, as_98, al_61, as_61, al_62, as_62, al_99, as_99, al_82_0, as_82_0, al_83_32, as_83_32, al_83_33, as_83_33, ad0, ad8, ad16, ad24, ad_0, mu2, mu8, mu34, nI_add, nI_1, uI_mm, dvN, dvM, r0, d2, d1, h6, ms, pu, k1]
end MBeh2
