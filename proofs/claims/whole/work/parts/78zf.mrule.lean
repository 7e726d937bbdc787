/-! PURE: the model's e and readRule -/
theorem fom_q {tp : List Nat} {i U : Nat} (hz : i ≤ zl tp) (hU : U ≤ 60) : (∀ j, qRun tp U (zl tp + 2 - i) (i, 0, [], [99], true) = .error j → fomP tp i U = .error (rf tp j)) ∧ (∀ s', qRun tp U (zl tp + 2 - i) (i, 0, [], [99], true) = .ok s' → fomP tp i U = bnd (tkK tp 4 s'.1) fun i1 => .ok (i1, s'.2.1, s'.2.2)) := by
  rw [form_sim tp U i hz hU (zl tp + 2 - i) (by omega)]
  unfold fomP
  cases hq : pP tp U 80 0 0 (i, 0, []) with
  | error j =>
    refine ⟨fun j' hj => ?_, fun s' hs => by cases hs⟩
    cases hj; rfl
  | ok s =>
    simp only
    by_cases e : lev (kn tp s.1) = 2
    · rw [if_pos e]
      refine ⟨fun j' hj => ?_, fun s' hs => by cases hs⟩
      cases hj
      have h4 : ¬ kn tp s.1 = 4 := fun z => by rw [z] at e; exact absurd e (by decide)
      rw [tkK_bool.2 h4]; rfl
    · rw [if_neg e]
      refine ⟨fun j' hj => (by cases hj), fun s' hs => ?_⟩
      cases hs; rfl
/-- what a rule may change -/
def RG (rb lo r : Nat) (I I' : Nat → Nat → Int32) : Prop := ∀ b j, (b = 60 → j < 4 ∨ 36 < j ∨ (9 < j ∧ j < 33)) → ¬ (b = 67 ∧ j = rb) → ¬ (b = 70 ∧ j = rb) → ¬ ((b = 75 ∨ b = 76) ∧ j = 2 * rb + r) → ¬ ((b = 78 ∨ b = 79) ∧ lo ≤ j ∧ j < 560 * rb + 560) → b ≠ 80 → b ≠ 81 → I' b j = I b j
theorem or16 : ∀ t, t < 16 → nI t ||| 1 = nI (t ||| 1) ∧ nI t ||| 2 = nI (t ||| 2) ∧ nI t ||| 4 = nI (t ||| 4) ∧ nI t ||| 8 = nI (t ||| 8) := by decide +kernel
section MRule
variable {n : Nat} {I : Nat → Nat → Int32} {J : Nat → Nat → Int64} {tp : List Nat} {i rb lo U r : Nat}
set_option maxHeartbeats 4000000 in
theorem m_e (hn : 1700 < n) (f : Nat) (h : RdM I J tp i) (hrb : rb < 2 ∧ I 60 32 = nI rb) (h5 : I 60 5 = -1) (h36 : I 60 36 = 0) (h67 : I 67 rb = nI U) (h33 : I 60 33 = nI lo) (hU : U ≤ 60) (hlo : 560 * rb ≤ lo ∧ lo ≤ 560 * rb + 9 * U) :
    (∀ j, qRun tp U (zl tp + 2 - i) (i, 0, [], [99], true) = .error j → ∃ I' J', FX12_e n [.ref 60] (mm I J f) = some (none, mm I' J' f) ∧ FS tp I' (rf tp j) ∧ XG rb lo I I' ∧ ∀ b j, b ≠ 60 → J' b j = J b j) ∧
    (∀ s', qRun tp U (zl tp + 2 - i) (i, 0, [], [99], true) = .ok s' → ∃ I' J', FX12_e n [.ref 60] (mm I J f) = some (none, mm I' J' f) ∧ XM I' J' tp rb lo U (s'.1, s'.2.1, s'.2.2, [], false) ∧ XG rb lo I I' ∧ ∀ b j, b ≠ 60 → J' b j = J b j) := by
  have hp0 : (u2 (u2 I 60 35 0) 60 34 0) 60 35 = nI 0 := by rw [u2_j (by decide), u2_s]; rfl
  have pu := m_pushE (J := J) n f hp0 (by decide) 8 0
  obtain ⟨I1, hI1⟩ : ∃ I1, I1 = u2 (u2 (u2 (u2 (u2 I 60 35 0) 60 34 0) 80 0 8) 81 0 0) 60 35 (nI (0 + 1)) := ⟨_, rfl⟩
  rw [← hI1] at pu
  have f60 : ∀ j, j ≠ 34 → j ≠ 35 → I1 60 j = I 60 j := fun j j1 j2 => by rw [hI1, u2_j j2, u2_a (by decide), u2_a (by decide), u2_j j1, u2_j j2]
  have fo : ∀ b j, b ≠ 60 → b ≠ 80 → b ≠ 81 → I1 b j = I b j := fun b j b1 b2 b3 => by rw [hI1, u2_a b1, u2_a b3, u2_a b2, u2_a b1, u2_a b1]
  have hx : XM I1 J tp rb lo U (i, 0, [], [99], true) := by
    refine ⟨RdM_of h (fun j hj => f60 j (by omega) (by omega)) (fun j => fo 62 j (by decide) (by decide) (by decide)), ⟨⟨hrb.1, by rw [f60 5 (by decide) (by decide)]; exact h5⟩, by rw [f60 32 (by decide) (by decide)]; exact hrb.2⟩, by rw [f60 36 (by decide) (by decide)]; exact h36, by rw [fo 67 rb (by decide) (by decide) (by decide)]; exact h67, ⟨by rw [f60 33 (by decide) (by decide)]; exact h33, fun k hk => absurd hk (Nat.not_lt_zero _)⟩, ⟨⟨?_, fun z => absurd z (by decide)⟩, trivial⟩, ?_, ?_⟩
    · show I1 80 0 = 8
      rw [hI1, u2_a (by decide), u2_a (by decide), u2_s]
    · rw [hI1, u2_s]; rfl
    · show I1 60 34 = 0
      rw [hI1, u2_j (by decide), u2_a (by decide), u2_a (by decide), u2_s]
  have hg : XG rb lo I I1 := fun b j a1 a2 a3 a4 a5 => by
    by_cases e : b = 60
    · subst e
      have := a1 rfl
      exact f60 j (by omega) (by omega)
    · exact fo b j e a4 a5
  have hz := h.2.2.1
  have hl := (zl_ok tp).1
  have hl16 := h.1.2.1
  obtain ⟨r1, r2⟩ := m_eLoop hn f hlo (zl tp + 2 - i) I1 J _ hx (QI_0 hU) (fun _ => by omega) (fun _ => by simp only; omega) (n - (zl tp + 2 - i) - 1)
  rw [show n - (zl tp + 2 - i) - 1 + (zl tp + 2 - i) + 1 = n by omega] at r1 r2
  have run : FX12_e n [.ref 60] (mm I J f) = mit (kX12_e_19 n) n [some (.ref 60), some (.int 1)] [] (mm I1 J f) := by
    simp only [eX12_e, kX12_e_0, x_no, x_cst, x_ldI, x_ldJ, x_ldA, x_stI, x_stJ, x_stA, x_inc, x_bin, x_un, x_i2l, x_bnJ, x_lshl, x_lcmp, x_dup, x_dp2, x_gI, x_gJ, x_gA, x_pI, x_pZ, x_pJ, x_pA, x_c0, x_c2, x_sw, x_cV, x_cS, x_rV, x_rI, x_rZ, x_rJ, x_mm, x_pop, msel, mpl, mvr, mnw, List.getElem?_cons_zero, List.getElem?_cons_succ, List.set_cons_zero, List.set_cons_succ, List.length_cons, List.length_nil, List.drop_succ_cons, List.drop_zero, List.take_succ_cons, List.take_zero, List.reverse_cons, List.reverse_nil, List.nil_append, List.cons_append, List.append_nil, List.map_cons, List.map_nil, List.sum_cons, List.sum_nil, Option.toList_some, Option.toList_none, x_bs, Value.category, decide_eq_true_eq, decide_true, decide_false, if_true, if_false, Bool.false_eq_true, and_self, and_true, true_and, true_or, or_true, not_true_eq_false, not_false_eq_true, ↓reduceIte, reduceCtorEq, Nat.reduceEqDiff, Nat.reduceAdd, Nat.reduceSub, Nat.reduceMul, Nat.reduceLT, Nat.reduceLeDiff, Nat.reduceBEq, Nat.le_refl, Nat.zero_le, Nat.lt_irrefl, beq_self_eq_true, Nat.succ_ne_zero, Option.some.injEq, Prod.mk.injEq, Int32.reduceLT, Int32.reduceLE, y_60, rt_60_0, rt_60_1, rt_60_11, rt_60_12, rt_60_13, rt_60_14, rt_60_15, rt_60_16, rt_60_17, rt_60_18, rt_60_19, rt_60_20, rt_60_21, rt_60_22, rt_60_23, rt_60_24, rt_60_25, rt_60_26, rt_60_27, rt_60_28, rt_60_29, rt_60_30, rt_60_39, rt_60_41, rt_60_42, rt_60_45, rt_60_46, rt_60_47, rt_60_49, rt_60_50, rt_60_51, rt_60_52, rt_60_53, rt_60_54, rt_60_55, rt_60_56, rt_60_59, rt_60_61, rt_60_62, al_63, as_63, al_64, as_64, al_65, as_65, al_66, as_66, al_67, as_67, al_68, as_68, al_69, as_69, al_70, as_70, al_71, as_71, al_72, as_72, al_73, as_73, al_74, as_74, al_75, as_75, al_76, as_76, al_78, as_78, al_79, as_79, al_80, as_80, al_81, as_81, al_82, as_82, al_83, as_83, al_84, as_84, al_85, as_85, al_86, as_86, al_87, as_87, al_88, as_88, al_89, as_89, al_90, as_90, al_91, as_91, al_92, as_92, al_93, as_93, al_94, as_94, al_95, as_95, al_96, as_96, al_97, as_97, al_98, as_98, al_61, as_61, al_62, as_62, al_99, as_99, al_82_0, as_82_0, al_83_32, as_83_32, al_83_33, as_83_33, ad0, ad8, ad16, ad24, ad_0, mu2, mu8, mu34, nI_add, nI_1, uI_mm, dvN, dvM, pu]
  refine ⟨fun j hj => ?_, fun s' hs => ?_⟩
  · obtain ⟨I2, J2, k1, k2, k3, k4⟩ := r1 j hj
    exact ⟨I2, J2, run.trans k1, k2, hg.tr k3, k4⟩
  · obtain ⟨I2, J2, k1, k2, k3, k4⟩ := r2 s' hs
    exact ⟨I2, J2, run.trans k1, k2, hg.tr k3, k4⟩
theorem FS_of {I' : Nat → Nat → Int32} {e : Nat × Nat} (h : FS tp I e) (h60 : ∀ j, 3 ≤ j → j ≤ 6 → I' 60 j = I 60 j) (h62 : ∀ j, I' 62 j = I 62 j) : FS tp I' e := by
  obtain ⟨⟨h1, h2, h3⟩, h4, q, h5, h6⟩ := h
  exact ⟨⟨by rw [h60 4 (by decide) (by decide)]; exact h1, by rw [h60 5 (by decide) (by decide)]; exact h2, h3⟩, TxM_of h4 (h60 3 (by decide) (by decide)) h62, q, h5, by rw [h60 6 (by decide) (by decide)]; exact h6⟩
theorem FS_u2 {e : Nat × Nat} (h : FS tp I e) {b j : Nat} {x : Int32} (hb : b ≠ 60) (hb2 : b ≠ 62) : FS tp (u2 I b j x) e := FS_of h (fun j _ _ => u2_a (Ne.symm hb)) (fun j => u2_a (Ne.symm hb2))
theorem RdM_u2 (h : RdM I J tp i) {b j : Nat} {x : Int32} (hb : b ≠ 60) (hb2 : b ≠ 62) : RdM (u2 I b j x) J tp i := RdM_of h (fun j _ => u2_a (Ne.symm hb)) (fun j => u2_a (Ne.symm hb2))
theorem m_rr1 (f : Nat) (h2 : rb < 2) (h32 : I 60 32 = nI rb) {t r : Nat} (h70 : I 70 rb = nI t) (K : mK) : (i_ldA 0 (i_gA 12 18 (i_ldA 0 (i_gI 12 32 (i_dp2 (i_al 0 (i_cst (.int (1)) (i_ldI 1 K)))))))) [some (.ref 60), some (.int (nI r))] [] (mm I J f) = K [some (.ref 60), some (.int (nI r))] [.int (nI r), .int 1, .int (nI t), .int (nI rb), .ref 70] (mm I J f) := by
  simp only [x_no, x_cst, x_ldI, x_ldJ, x_ldA, x_stI, x_stJ, x_stA, x_inc, x_bin, x_un, x_i2l, x_bnJ, x_lshl, x_lcmp, x_dup, x_dp2, x_gI, x_gJ, x_gA, x_pI, x_pZ, x_pJ, x_pA, x_c0, x_c2, x_sw, x_cV, x_cS, x_rV, x_rI, x_rZ, x_rJ, x_mm, x_pop, msel, mpl, mvr, mnw, List.getElem?_cons_zero, List.getElem?_cons_succ, List.set_cons_zero, List.set_cons_succ, List.length_cons, List.length_nil, List.drop_succ_cons, List.drop_zero, List.take_succ_cons, List.take_zero, List.reverse_cons, List.reverse_nil, List.nil_append, List.cons_append, List.append_nil, List.map_cons, List.map_nil, List.sum_cons, List.sum_nil, Option.toList_some, Option.toList_none, x_bs, Value.category, decide_eq_true_eq, decide_true, decide_false, if_true, if_false, Bool.false_eq_true, and_self, and_true, true_and, true_or, or_true, not_true_eq_false, not_false_eq_true, ↓reduceIte, reduceCtorEq, Nat.reduceEqDiff, Nat.reduceAdd, Nat.reduceSub, Nat.reduceMul, Nat.reduceLT, Nat.reduceLeDiff, Nat.reduceBEq, Nat.le_refl, Nat.zero_le, Nat.lt_irrefl, beq_self_eq_true, Nat.succ_ne_zero, Option.some.injEq, Prod.mk.injEq, Int32.reduceLT, Int32.reduceLE, y_60, rt_60_0, rt_60_1, rt_60_11, rt_60_12, rt_60_13, rt_60_14, rt_60_15, rt_60_16, rt_60_17, rt_60_18, rt_60_19, rt_60_20, rt_60_21, rt_60_22, rt_60_23, rt_60_24, rt_60_25, rt_60_26, rt_60_27, rt_60_28, rt_60_29, rt_60_30, rt_60_39, rt_60_41, rt_60_42, rt_60_45, rt_60_46, rt_60_47, rt_60_49, rt_60_50, rt_60_51, rt_60_52, rt_60_53, rt_60_54, rt_60_55, rt_60_56, rt_60_59, rt_60_61, rt_60_62, al_63, as_63, al_64, as_64, al_65, as_65, al_66, as_66, al_67, as_67, al_68, as_68, al_69, as_69, al_70, as_70, al_71, as_71, al_72, as_72, al_73, as_73, al_74, as_74, al_75, as_75, al_76, as_76, al_78, as_78, al_79, as_79, al_80, as_80, al_81, as_81, al_82, as_82, al_83, as_83, al_84, as_84, al_85, as_85, al_86, as_86, al_87, as_87, al_88, as_88, al_89, as_89, al_90, as_90, al_91, as_91, al_92, as_92, al_93, as_93, al_94, as_94, al_95, as_95, al_96, as_96, al_97, as_97, al_98, as_98, al_61, as_61, al_62, as_62, al_99, as_99, al_82_0, as_82_0, al_83_32, as_83_32, al_83_33, as_83_33, ad0, ad8, ad16, ad24, ad_0, mu2, mu8, mu34, nI_add, nI_1, uI_mm, dvN, dvM, h32, h2, h70]
theorem m_rr2 (f : Nat) (h2 : rb < 2) {t r : Nat} (K : mK) : (i_bin (fun x y => x <<< (y &&& 31)) (i_bin (fun x y => x ||| y) (i_as 0 K))) [some (.ref 60), some (.int (nI r))] [.int (nI r), .int 1, .int (nI t), .int (nI rb), .ref 70] (mm I J f) = K [some (.ref 60), some (.int (nI r))] [] (mm (u2 I 70 rb (nI t ||| 1 <<< (nI r &&& 31))) J f) := by
  simp only [x_no, x_cst, x_ldI, x_ldJ, x_ldA, x_stI, x_stJ, x_stA, x_inc, x_bin, x_un, x_i2l, x_bnJ, x_lshl, x_lcmp, x_dup, x_dp2, x_gI, x_gJ, x_gA, x_pI, x_pZ, x_pJ, x_pA, x_c0, x_c2, x_sw, x_cV, x_cS, x_rV, x_rI, x_rZ, x_rJ, x_mm, x_pop, msel, mpl, mvr, mnw, List.getElem?_cons_zero, List.getElem?_cons_succ, List.set_cons_zero, List.set_cons_succ, List.length_cons, List.length_nil, List.drop_succ_cons, List.drop_zero, List.take_succ_cons, List.take_zero, List.reverse_cons, List.reverse_nil, List.nil_append, List.cons_append, List.append_nil, List.map_cons, List.map_nil, List.sum_cons, List.sum_nil, Option.toList_some, Option.toList_none, x_bs, Value.category, decide_eq_true_eq, decide_true, decide_false, if_true, if_false, Bool.false_eq_true, and_self, and_true, true_and, true_or, or_true, not_true_eq_false, not_false_eq_true, ↓reduceIte, reduceCtorEq, Nat.reduceEqDiff, Nat.reduceAdd, Nat.reduceSub, Nat.reduceMul, Nat.reduceLT, Nat.reduceLeDiff, Nat.reduceBEq, Nat.le_refl, Nat.zero_le, Nat.lt_irrefl, beq_self_eq_true, Nat.succ_ne_zero, Option.some.injEq, Prod.mk.injEq, Int32.reduceLT, Int32.reduceLE, y_60, rt_60_0, rt_60_1, rt_60_11, rt_60_12, rt_60_13, rt_60_14, rt_60_15, rt_60_16, rt_60_17, rt_60_18, rt_60_19, rt_60_20, rt_60_21, rt_60_22, rt_60_23, rt_60_24, rt_60_25, rt_60_26, rt_60_27, rt_60_28, rt_60_29, rt_60_30, rt_60_39, rt_60_41, rt_60_42, rt_60_45, rt_60_46, rt_60_47, rt_60_49, rt_60_50, rt_60_51, rt_60_52, rt_60_53, rt_60_54, rt_60_55, rt_60_56, rt_60_59, rt_60_61, rt_60_62, al_63, as_63, al_64, as_64, al_65, as_65, al_66, as_66, al_67, as_67, al_68, as_68, al_69, as_69, al_70, as_70, al_71, as_71, al_72, as_72, al_73, as_73, al_74, as_74, al_75, as_75, al_76, as_76, al_78, as_78, al_79, as_79, al_80, as_80, al_81, as_81, al_82, as_82, al_83, as_83, al_84, as_84, al_85, as_85, al_86, as_86, al_87, as_87, al_88, as_88, al_89, as_89, al_90, as_90, al_91, as_91, al_92, as_92, al_93, as_93, al_94, as_94, al_95, as_95, al_96, as_96, al_97, as_97, al_98, as_98, al_61, as_61, al_62, as_62, al_99, as_99, al_82_0, as_82_0, al_83_32, as_83_32, al_83_33, as_83_33, ad0, ad8, ad16, ad24, ad_0, mu2, mu8, mu34, nI_add, nI_1, uI_mm, dvN, dvM, h2]
theorem m_rr3 (f : Nat) (h32 : I 60 32 = nI rb) (h33 : I 60 33 = nI lo) (K : mK) : (i_ldA 0 (i_cst (.int (0)) (i_pI 12 36 (i_ldA 0 (i_gA 12 23 (i_cst (.int (2)) (i_ldA 0 (i_gI 12 32 (i_bin (fun x y => x * y) (i_ldI 1 (i_bin (fun x y => x + y) (i_ldA 0 (i_gI 12 33 K))))))))))))) [some (.ref 60), some (.int (nI r))] [] (mm I J f) = K [some (.ref 60), some (.int (nI r))] [.int (nI lo), .int (nI (2 * rb + r)), .ref 75] (mm (u2 I 60 36 0) J f) := by
  have e1 : u2 I 60 36 0 60 32 = nI rb := by rw [u2_j (by decide)]; exact h32
  have e2 : u2 I 60 36 0 60 33 = nI lo := by rw [u2_j (by decide)]; exact h33
  simp only [x_no, x_cst, x_ldI, x_ldJ, x_ldA, x_stI, x_stJ, x_stA, x_inc, x_bin, x_un, x_i2l, x_bnJ, x_lshl, x_lcmp, x_dup, x_dp2, x_gI, x_gJ, x_gA, x_pI, x_pZ, x_pJ, x_pA, x_c0, x_c2, x_sw, x_cV, x_cS, x_rV, x_rI, x_rZ, x_rJ, x_mm, x_pop, msel, mpl, mvr, mnw, List.getElem?_cons_zero, List.getElem?_cons_succ, List.set_cons_zero, List.set_cons_succ, List.length_cons, List.length_nil, List.drop_succ_cons, List.drop_zero, List.take_succ_cons, List.take_zero, List.reverse_cons, List.reverse_nil, List.nil_append, List.cons_append, List.append_nil, List.map_cons, List.map_nil, List.sum_cons, List.sum_nil, Option.toList_some, Option.toList_none, x_bs, Value.category, decide_eq_true_eq, decide_true, decide_false, if_true, if_false, Bool.false_eq_true, and_self, and_true, true_and, true_or, or_true, not_true_eq_false, not_false_eq_true, ↓reduceIte, reduceCtorEq, Nat.reduceEqDiff, Nat.reduceAdd, Nat.reduceSub, Nat.reduceMul, Nat.reduceLT, Nat.reduceLeDiff, Nat.reduceBEq, Nat.le_refl, Nat.zero_le, Nat.lt_irrefl, beq_self_eq_true, Nat.succ_ne_zero, Option.some.injEq, Prod.mk.injEq, Int32.reduceLT, Int32.reduceLE, y_60, rt_60_0, rt_60_1, rt_60_11, rt_60_12, rt_60_13, rt_60_14, rt_60_15, rt_60_16, rt_60_17, rt_60_18, rt_60_19, rt_60_20, rt_60_21, rt_60_22, rt_60_23, rt_60_24, rt_60_25, rt_60_26, rt_60_27, rt_60_28, rt_60_29, rt_60_30, rt_60_39, rt_60_41, rt_60_42, rt_60_45, rt_60_46, rt_60_47, rt_60_49, rt_60_50, rt_60_51, rt_60_52, rt_60_53, rt_60_54, rt_60_55, rt_60_56, rt_60_59, rt_60_61, rt_60_62, al_63, as_63, al_64, as_64, al_65, as_65, al_66, as_66, al_67, as_67, al_68, as_68, al_69, as_69, al_70, as_70, al_71, as_71, al_72, as_72, al_73, as_73, al_74, as_74, al_75, as_75, al_76, as_76, al_78, as_78, al_79, as_79, al_80, as_80, al_81, as_81, al_82, as_82, al_83, as_83, al_84, as_84, al_85, as_85, al_86, as_86, al_87, as_87, al_88, as_88, al_89, as_89, al_90, as_90, al_91, as_91, al_92, as_92, al_93, as_93, al_94, as_94, al_95, as_95, al_96, as_96, al_97, as_97, al_98, as_98, al_61, as_61, al_62, as_62, al_99, as_99, al_82_0, as_82_0, al_83_32, as_83_32, al_83_33, as_83_33, ad0, ad8, ad16, ad24, ad_0, mu2, mu8, mu34, nI_add, nI_1, uI_mm, dvN, dvM, e1, e2]
theorem m_rrun1 (n f : Nat) (h2 : rb < 2) (h32 : I 60 32 = nI rb) {t s r : Nat} (h70 : I 70 rb = nI t) (hs : (1 : Int32) <<< (nI r &&& 31) = nI s) (hor : nI t ||| nI s = nI (t ||| s)) (h33 : I 60 33 = nI lo) : FX12_readRule n [.ref 60, .int (nI r)] (mm I J f) = kX12_readRule_36 n [some (.ref 60), some (.int (nI r))] [.int (nI lo), .int (nI (2 * rb + r)), .ref 75] (mm (u2 (u2 I 70 rb (nI (t ||| s))) 60 36 0) J f) := by
  rw [← hor, ← hs, eX12_readRule]
  exact (m_rr1 f h2 h32 h70 _).trans ((m_rr2 f h2 _).trans (m_rr3 f (by rw [u2_a (by decide)]; exact h32) (by rw [u2_a (by decide)]; exact h33) _))
theorem m_rrun2 (n f : Nat) (h2r : 2 * rb + r < 4) {I2 : Nat → Nat → Int32} {J2 : Nat → Nat → Int64} (he : FX12_e n [.ref 60] (mm (u2 I 75 (2 * rb + r) (nI lo)) J f) = some (none, mm I2 J2 f)) (i32 : I2 60 32 = nI rb) : kX12_readRule_36 n [some (.ref 60), some (.int (nI r))] [.int (nI lo), .int (nI (2 * rb + r)), .ref 75] (mm I J f) = some (none, mm (u2 I2 76 (2 * rb + r) (I2 60 33)) J2 f) := by
  simp only [kX12_readRule_36, x_no, x_cst, x_ldI, x_ldJ, x_ldA, x_stI, x_stJ, x_stA, x_inc, x_bin, x_un, x_i2l, x_bnJ, x_lshl, x_lcmp, x_dup, x_dp2, x_gI, x_gJ, x_gA, x_pI, x_pZ, x_pJ, x_pA, x_c0, x_c2, x_sw, x_cV, x_cS, x_rV, x_rI, x_rZ, x_rJ, x_mm, x_pop, msel, mpl, mvr, mnw, List.getElem?_cons_zero, List.getElem?_cons_succ, List.set_cons_zero, List.set_cons_succ, List.length_cons, List.length_nil, List.drop_succ_cons, List.drop_zero, List.take_succ_cons, List.take_zero, List.reverse_cons, List.reverse_nil, List.nil_append, List.cons_append, List.append_nil, List.map_cons, List.map_nil, List.sum_cons, List.sum_nil, Option.toList_some, Option.toList_none, x_bs, Value.category, decide_eq_true_eq, decide_true, decide_false, if_true, if_false, Bool.false_eq_true, and_self, and_true, true_and, true_or, or_true, not_true_eq_false, not_false_eq_true, ↓reduceIte, reduceCtorEq, Nat.reduceEqDiff, Nat.reduceAdd, Nat.reduceSub, Nat.reduceMul, Nat.reduceLT, Nat.reduceLeDiff, Nat.reduceBEq, Nat.le_refl, Nat.zero_le, Nat.lt_irrefl, beq_self_eq_true, Nat.succ_ne_zero, Option.some.injEq, Prod.mk.injEq, Int32.reduceLT, Int32.reduceLE, y_60, rt_60_0, rt_60_1, rt_60_11, rt_60_12, rt_60_13, rt_60_14, rt_60_15, rt_60_16, rt_60_17, rt_60_18, rt_60_19, rt_60_20, rt_60_21, rt_60_22, rt_60_23, rt_60_24, rt_60_25, rt_60_26, rt_60_27, rt_60_28, rt_60_29, rt_60_30, rt_60_39, rt_60_41, rt_60_42, rt_60_45, rt_60_46, rt_60_47, rt_60_49, rt_60_50, rt_60_51, rt_60_52, rt_60_53, rt_60_54, rt_60_55, rt_60_56, rt_60_59, rt_60_61, rt_60_62, al_63, as_63, al_64, as_64, al_65, as_65, al_66, as_66, al_67, as_67, al_68, as_68, al_69, as_69, al_70, as_70, al_71, as_71, al_72, as_72, al_73, as_73, al_74, as_74, al_75, as_75, al_76, as_76, al_78, as_78, al_79, as_79, al_80, as_80, al_81, as_81, al_82, as_82, al_83, as_83, al_84, as_84, al_85, as_85, al_86, as_86, al_87, as_87, al_88, as_88, al_89, as_89, al_90, as_90, al_91, as_91, al_92, as_92, al_93, as_93, al_94, as_94, al_95, as_95, al_96, as_96, al_97, as_97, al_98, as_98, al_61, as_61, al_62, as_62, al_99, as_99, al_82_0, as_82_0, al_83_32, as_83_32, al_83_33, as_83_33, ad0, ad8, ad16, ad24, ad_0, mu2, mu8, mu34, nI_add, nI_1, uI_mm, dvN, dvM, h2r, he, i32]
theorem m_rrun (n f : Nat) (h2 : rb < 2) (h32 : I 60 32 = nI rb) {t s r : Nat} (h70 : I 70 rb = nI t) (hs : (1 : Int32) <<< (nI r &&& 31) = nI s) (hor : nI t ||| nI s = nI (t ||| s)) (h33 : I 60 33 = nI lo) (h2r : 2 * rb + r < 4) {I1 I2 : Nat → Nat → Int32} {J2 : Nat → Nat → Int64} (hI1 : I1 = u2 (u2 (u2 I 70 rb (nI (t ||| s))) 60 36 0) 75 (2 * rb + r) (nI lo)) (he : FX12_e n [.ref 60] (mm I1 J f) = some (none, mm I2 J2 f)) (i32 : I2 60 32 = nI rb) : FX12_readRule n [.ref 60, .int (nI r)] (mm I J f) = some (none, mm (u2 I2 76 (2 * rb + r) (I2 60 33)) J2 f) := by
  subst hI1
  exact (m_rrun1 n f h2 h32 h70 hs hor h33).trans (m_rrun2 n f h2r he i32)
set_option maxHeartbeats 4000000 in
theorem m_readRule (hn : 1700 < n) (f : Nat) (h : RdM I J tp i) (hrb : rb < 2 ∧ I 60 32 = nI rb) (h5 : I 60 5 = -1) (h67 : I 67 rb = nI U) (h33 : I 60 33 = nI lo) {t s r : Nat} (h70 : I 70 rb = nI t) (hr : r < 2) (hs : (1 : Int32) <<< (nI r &&& 31) = nI s) (hor : nI t ||| nI s = nI (t ||| s)) (hU : U ≤ 60) (hlo : 560 * rb ≤ lo ∧ lo ≤ 560 * rb + 9 * U) :
    (∀ j, qRun tp U (zl tp + 2 - i) (i, 0, [], [99], true) = .error j → ∃ I' J', FX12_readRule n [.ref 60, .int (nI r)] (mm I J f) = some (none, mm I' J' f) ∧ FS tp I' (rf tp j) ∧ RG rb lo r I I' ∧ ∀ b j, b ≠ 60 → J' b j = J b j) ∧
    (∀ s', qRun tp U (zl tp + 2 - i) (i, 0, [], [99], true) = .ok s' → ∃ I' J', FX12_readRule n [.ref 60, .int (nI r)] (mm I J f) = some (none, mm I' J' f) ∧ RdM I' J' tp s'.1 ∧ I' 67 rb = nI (U + s'.2.1) ∧ MCd I' lo s'.2.2 ∧ I' 70 rb = nI (t ||| s) ∧ I' 75 (2 * rb + r) = nI lo ∧ I' 76 (2 * rb + r) = nI (lo + s'.2.2.length) ∧ I' 60 5 = -1 ∧ RG rb lo r I I' ∧ ∀ b j, b ≠ 60 → J' b j = J b j) := by
  obtain ⟨h2, h32⟩ := hrb
  have h2r : 2 * rb + r < 4 := by omega
  obtain ⟨I1, hI1⟩ : ∃ I1, I1 = u2 (u2 (u2 I 70 rb (nI (t ||| s))) 60 36 0) 75 (2 * rb + r) (nI lo) := ⟨_, rfl⟩
  have e1 : ∀ x, u2 (u2 I 70 rb x) 60 36 0 60 32 = nI rb := fun x => by rw [u2_j (by decide), u2_a (by decide)]; exact h32
  have e2 : ∀ x, u2 (u2 I 70 rb x) 60 36 0 60 33 = nI lo := fun x => by rw [u2_j (by decide), u2_a (by decide)]; exact h33
  have f60 : ∀ j, j ≠ 36 → I1 60 j = I 60 j := fun j j1 => by rw [hI1, u2_a (by decide), u2_j j1, u2_a (by decide)]
  have fo : ∀ b j, b ≠ 60 → b ≠ 70 → b ≠ 75 → I1 b j = I b j := fun b j b1 b2 b3 => by rw [hI1, u2_a b3, u2_a b1, u2_a b2]
  have h1 : RdM I1 J tp i := RdM_of h (fun j hj => f60 j (by omega)) (fun j => fo 62 j (by decide) (by decide) (by decide))
  have g32 : I1 60 32 = nI rb := by rw [f60 32 (by decide)]; exact h32
  have g36 : I1 60 36 = 0 := by rw [hI1, u2_a (by decide), u2_s]
  have g70 : I1 70 rb = nI (t ||| s) := by rw [hI1, u2_a (by decide), u2_a (by decide), u2_s]
  have g75 : I1 75 (2 * rb + r) = nI lo := by rw [hI1, u2_s]
  obtain ⟨r1, r2⟩ := m_e hn f h1 ⟨h2, g32⟩ (by rw [f60 5 (by decide)]; exact h5) g36 (by rw [fo 67 rb (by decide) (by decide) (by decide)]; exact h67) (by rw [f60 33 (by decide)]; exact h33) hU hlo
  have rg : ∀ I2 x, XG rb lo I1 I2 → RG rb lo r I (u2 I2 76 (2 * rb + r) x) := fun I2 x hx b j a1 a2 a3 a4 a5 a6 a7 => by
    have k1 : u2 I2 76 (2 * rb + r) x b j = I2 b j := by
      by_cases e : b = 76
      · exact u2_j (fun z => a4 ⟨Or.inr e, z⟩)
      · exact u2_a e
    rw [k1, hx b j a1 a2 a5 a6 a7, hI1]
    have k2 : u2 (u2 (u2 I 70 rb (nI (t ||| s))) 60 36 0) 75 (2 * rb + r) (nI lo) b j = u2 (u2 I 70 rb (nI (t ||| s))) 60 36 0 b j := by
      by_cases e : b = 75
      · exact u2_j (fun z => a4 ⟨Or.inl e, z⟩)
      · exact u2_a e
    have k3 : u2 (u2 I 70 rb (nI (t ||| s))) 60 36 0 b j = u2 I 70 rb (nI (t ||| s)) b j := by
      by_cases e : b = 60
      · exact u2_j (by have := a1 e; omega)
      · exact u2_a e
    rw [k2, k3]
    by_cases e : b = 70
    · exact u2_j (fun z => a3 ⟨e, z⟩)
    · exact u2_a e
  have run := fun I2 J2 he i32 => m_rrun (J := J) n f h2 h32 h70 hs hor h33 h2r hI1 (I2 := I2) (J2 := J2) he i32
  refine ⟨fun j hj => ?_, fun s' hs' => ?_⟩
  · obtain ⟨I2, J2, k1, k2, k3, k4⟩ := r1 j hj
    have i32 : I2 60 32 = nI rb := by rw [k3 60 32 (fun _ => by omega) (by omega) (by omega) (by decide) (by decide)]; exact g32
    exact ⟨_, J2, run I2 J2 k1 i32, FS_u2 k2 (by decide) (by decide), rg I2 _ k3, k4⟩
  · obtain ⟨I2, J2, k1, k2, k3, k4⟩ := r2 s' hs'
    obtain ⟨x1, ⟨⟨x2, x25⟩, x2'⟩, x3, x4, x5, -⟩ := k2
    have i33 : I2 60 33 = nI (lo + s'.2.2.length) := x5.1
    refine ⟨_, J2, run I2 J2 k1 x2', RdM_u2 x1 (by decide) (by decide), by rw [u2_a (by decide)]; exact x4, MCd_of x5 (u2_a (by decide)) (fun b j hb _ => u2_a (by omega)), ?_, ?_, by rw [u2_s]; exact i33, by rw [u2_a (by decide)]; exact x25, rg I2 _ k3, k4⟩
    · rw [u2_a (by decide), k3 70 rb (fun z => absurd z (by decide)) (by omega) (by omega) (by decide) (by decide)]; exact g70
    · rw [u2_a (by decide), k3 75 (2 * rb + r) (fun z => absurd z (by decide)) (by omega) (by omega) (by decide) (by decide)]; exact g75
end MRule
