/-! PURE: the model's behindUnit: signs come off the pile -/
theorem rk_3 {k : Nat} : rk k = 3 ↔ k = 28 := by
  unfold rk
  constructor
  · intro h
    repeat' split at h
    all_goals omega
  · rintro rfl; decide
theorem rk_5 {k : Nat} (h : rk k ≤ 6) : ¬ k = 5 := by
  rintro rfl
  exact absurd h (by decide)
theorem u2_id {I : Nat → Nat → Int32} {b j : Nat} {x : Int32} (h : I b j = x) : u2 I b j x = I := by
  funext c k
  unfold u2
  split
  · rename_i e; rw [e.1, e.2]; exact h.symm
  · rfl
section MBeh
variable {n : Nat} {I : Nat → Nat → Int32} {J : Nat → Nat → Int64} {tp : List Nat} {i u rb lo U : Nat} {cs : List (Nat × Nat)} {P : List Nat} {w : Bool}
theorem XM_pop {k : Nat} (h : XM I J tp rb lo U (i, u, cs, k :: P, w)) (w' : Bool) : XM (u2 (u2 I 60 35 (nI P.length)) 60 34 (nI (wi P))) J tp rb lo U (i, u, cs, P, w') ∧ XG rb lo I (u2 (u2 I 60 35 (nI P.length)) 60 34 (nI (wi P))) := by
  obtain ⟨h1, ⟨⟨h2, h25⟩, h2'⟩, h3, h4, h5, h6, h7, h8⟩ := h
  generalize hI' : u2 (u2 I 60 35 (nI P.length)) 60 34 (nI (wi P)) = I'
  have f60 : ∀ j, j ≠ 34 → j ≠ 35 → I' 60 j = I 60 j := fun j j1 j2 => by rw [← hI', u2_j j1, u2_j j2]
  have fo : ∀ b j, b ≠ 60 → I' b j = I b j := fun b j b1 => by rw [← hI', u2_a b1, u2_a b1]
  refine ⟨⟨RdM_of h1 (fun j hj => f60 j (by omega) (by omega)) (fun j => fo 62 j (by decide)), ⟨⟨h2, by rw [f60 5 (by decide) (by decide)]; exact h25⟩, by rw [f60 32 (by decide) (by decide)]; exact h2'⟩, by rw [f60 36 (by decide) (by decide)]; exact h3, by rw [fo 67 rb (by decide)]; exact h4, MCd_of h5 (f60 33 (by decide) (by decide)) (fun b j hb _ => fo b j (by omega)), PiM_of _ h6.2 (fun j _ => ⟨fo 80 j (by decide), fo 81 j (by decide)⟩), ?_, ?_⟩, fun b j a1 a2 a3 a4 a5 => ?_⟩
  · rw [← hI', u2_j (by decide), u2_s]
  · rw [← hI', u2_s]
  · by_cases e : b = 60
    · subst e
      have := a1 rfl
      exact f60 j (by omega) (by omega)
    · exact fo b j e
set_option maxHeartbeats 8000000 in
theorem m_pop (n : Nat) (f : Nat) {k r : Nat} (h : XM I J tp rb lo U (i, u, cs, k :: P, w)) (hl : P.length < 89) (hr : r ≤ 8) (hlo : 560 * rb ≤ lo ∧ lo + cs.length < 560 * rb + 560) (hw : wi P ≤ 100) :
    (rk k ≤ 6 ∧ r ≤ rk k → ∃ I', (∀ g : mK, kX12_behindUnit_23 n g [some (.ref 60), some (.int (nI r))] [] (mm I J f) = g [some (.ref 60), some (.int (nI r))] [] (mm I' J f)) ∧ XM I' J tp rb lo U (i, u, cs ++ [(k, 0)], P, w) ∧ XG rb lo I I') ∧
    (¬ (rk k ≤ 6 ∧ r ≤ rk k) → ∀ g : mK, kX12_behindUnit_23 n g [some (.ref 60), some (.int (nI r))] [] (mm I J f) = kX12_behindUnit_104 n [some (.ref 60), some (.int (nI r))] [] (mm I J f)) := by
  have hk8 := rk_8 k
  have h35 : I 60 35 = nI (P.length + 1) := h.2.2.2.2.2.2.1
  have h34 : I 60 34 = nI (wi (k :: P)) := h.2.2.2.2.2.2.2
  have em : nI (P.length + 1) - 1 = nI P.length := nI_pred _
  have e8 : I 80 P.length = nI (rk k) := h.2.2.2.2.2.1.1.1
  have l0 : P.length < 90 := by omega
  refine ⟨fun hh => ?_, fun hh g => ?_⟩
  · have d6 : ¬ (6 : Int32) < nI (rk k) := by rw [show (6 : Int32) = nI 6 from rfl, nI_ltI (by decide) (by omega)]; omega
    have dr : ¬ nI (rk k) < nI r := by rw [nI_ltI (by omega) (by omega)]; omega
    have e81 : I 81 P.length = mch k := h.2.2.2.2.2.1.1.2 hh.1
    obtain ⟨x1, x2⟩ := XM_pop h w
    have hwi : wi (k :: P) = (if k = 28 ∨ k = 5 then 1 else 0) + wi P := rfl
    have r35 : u2 I 60 35 (nI P.length) 60 35 = nI P.length := u2_s
    have r80 : ∀ x, u2 I 60 35 x 80 P.length = nI (rk k) := fun x => by rw [u2_a (by decide)]; exact e8
    obtain ⟨I1, hI1⟩ : ∃ I1, I1 = u2 (u2 I 60 35 (nI P.length)) 60 34 (nI (wi P)) := ⟨_, rfl⟩
    rw [← hI1] at x1 x2
    have s35 : I1 60 35 = nI P.length := x1.2.2.2.2.2.2.1
    have s33 : I1 60 33 = nI (lo + cs.length) := x1.2.2.2.2.1.1
    have s80 : I1 80 P.length = nI (rk k) := by rw [hI1, u2_a (by decide), u2_a (by decide)]; exact e8
    have s81 : I1 81 P.length = mch k := by rw [hI1, u2_a (by decide), u2_a (by decide)]; exact e81
    have he := m_emit (J := J) n f s33 (by have := h.2.1.1.1; omega) (mch k) 0
    obtain ⟨y1, y2⟩ := XM_emit x1 (t := (k, 0)) (a := mch k) (c := 0) rfl (fun _ => rfl) hlo w
    refine ⟨_, fun g => ?_, y1, x2.tr y2⟩
    by_cases c3 : rk k = 3
    · have d3 : nI (rk k) = 3 := by rw [c3]; rfl
      have c28 := rk_3.mp c3
      have r34 : ∀ x, u2 I 60 35 x 60 34 = nI (wi P + 1) := fun x => by rw [u2_j (by decide), h34, hwi, if_pos (Or.inl c28), Nat.add_comm]
      have em2 : nI (wi P + 1) - 1 = nI (wi P) := nI_pred _
      have z1 : ¬ (6 : Int32) < 3 := by decide
      rw [d3] at e8 r80 dr
      simp only [kX12_behindUnit_23, kX12_behindUnit_64, kX12_behindUnit_87, x_no, x_cst, x_ldI, x_ldJ, x_ldA, x_stI, x_stJ, x_stA, x_inc, x_bin, x_un, x_i2l, x_bnJ, x_lshl, x_lcmp, x_dup, x_dp2, x_gI, x_gJ, x_gA, x_pI, x_pZ, x_pJ, x_pA, x_c0, x_c2, x_sw, x_cV, x_cS, x_rV, x_rI, x_rZ, x_rJ, x_mm, x_pop, msel, mpl, mvr, mnw, List.getElem?_cons_zero, List.getElem?_cons_succ, List.set_cons_zero, List.set_cons_succ, List.length_cons, List.length_nil, List.drop_succ_cons, List.drop_zero, List.take_succ_cons, List.take_zero, List.reverse_cons, List.reverse_nil, List.nil_append, List.cons_append, List.append_nil, List.map_cons, List.map_nil, List.sum_cons, List.sum_nil, Option.toList_some, Option.toList_none, x_bs, Value.category, decide_eq_true_eq, decide_true, decide_false, if_true, if_false, Bool.false_eq_true, and_self, and_true, true_and, true_or, or_true, not_true_eq_false, not_false_eq_true, ↓reduceIte, reduceCtorEq, Nat.reduceEqDiff, Nat.reduceAdd, Nat.reduceSub, Nat.reduceMul, Nat.reduceLT, Nat.reduceLeDiff, Nat.reduceBEq, Nat.le_refl, Nat.zero_le, Nat.lt_irrefl, beq_self_eq_true, Nat.succ_ne_zero, Option.some.injEq, Prod.mk.injEq, Int32.reduceLT, Int32.reduceLE, y_60, rt_60_0, rt_60_1, rt_60_11, rt_60_12, rt_60_13, rt_60_14, rt_60_15, rt_60_16, rt_60_17, rt_60_18, rt_60_19, rt_60_20, rt_60_21, rt_60_22, rt_60_23, rt_60_24, rt_60_25, rt_60_26, rt_60_27, rt_60_28, rt_60_29, rt_60_30, rt_60_39, rt_60_41, rt_60_42, rt_60_45, rt_60_46, rt_60_47, rt_60_49, rt_60_50, rt_60_51, rt_60_52, rt_60_53, rt_60_54, rt_60_55, rt_60_56, rt_60_59, rt_60_61, rt_60_62, al_63, as_63, al_64, as_64, al_65, as_65, al_66, as_66, al_67, as_67, al_68, as_68, al_69, as_69, al_70, as_70, al_71, as_71, al_72, as_72, al_73, as_73, al_74, as_74, al_75, as_75, al_76, as_76, al_78, as_78, al_79, as_79, al_80, as_80, al_81, as_81, al_82, as_82, al_83, as_83, al_84, as_84, al_85, as_85, al_86, as_86, al_87, as_87, al_88, as_88, al_89, as_89, al_90, as_90, al_91, as_91, al_92, as_92, al_93, as_93, al_94, as_94, al_95, as_95, al_96, as_96, al_97, as_97, al_98, as_98, al_61, as_61, al_62, as_62, al_99, as_99, al_82_0, as_82_0, al_83_32, as_83_32, al_83_33, as_83_33, ad0, ad8, ad16, ad24, ad_0, mu2, mu8, mu34, nI_add, nI_1, uI_mm, dvN, dvM, h35, em, al_80 l0, e8, z1, dr, r35, r80, r34, em2, ← hI1, s35, al_81 l0, s81, he]
    · have d3 : ¬ nI (rk k) = 3 := fun z => c3 ((nI_eq (b := 3) (by omega) (by decide)).mp z)
      have hid : I1 = u2 I 60 35 (nI P.length) := by
        rw [hI1]
        refine u2_id ?_
        rw [u2_j (by decide), h34, hwi, if_neg (by intro z; rcases z with z | z; exact c3 (rk_3.mpr z); exact rk_5 hh.1 z), Nat.zero_add]
      simp only [kX12_behindUnit_23, kX12_behindUnit_64, kX12_behindUnit_87, x_no, x_cst, x_ldI, x_ldJ, x_ldA, x_stI, x_stJ, x_stA, x_inc, x_bin, x_un, x_i2l, x_bnJ, x_lshl, x_lcmp, x_dup, x_dp2, x_gI, x_gJ, x_gA, x_pI, x_pZ, x_pJ, x_pA, x_c0, x_c2, x_sw, x_cV, x_cS, x_rV, x_rI, x_rZ, x_rJ, x_mm, x_pop, msel, mpl, mvr, mnw, List.getElem?_cons_zero, List.getElem?_cons_succ, List.set_cons_zero, List.set_cons_succ, List.length_cons, List.length_nil, List.drop_succ_cons, List.drop_zero, List.take_succ_cons, List.take_zero, List.reverse_cons, List.reverse_nil, List.nil_append, List.cons_append, List.append_nil, List.map_cons, List.map_nil, List.sum_cons, List.sum_nil, Option.toList_some, Option.toList_none, x_bs, Value.category, decide_eq_true_eq, decide_true, decide_false, if_true, if_false, Bool.false_eq_true, and_self, and_true, true_and, true_or, or_true, not_true_eq_false, not_false_eq_true, ↓reduceIte, reduceCtorEq, Nat.reduceEqDiff, Nat.reduceAdd, Nat.reduceSub, Nat.reduceMul, Nat.reduceLT, Nat.reduceLeDiff, Nat.reduceBEq, Nat.le_refl, Nat.zero_le, Nat.lt_irrefl, beq_self_eq_true, Nat.succ_ne_zero, Option.some.injEq, Prod.mk.injEq, Int32.reduceLT, Int32.reduceLE, y_60, rt_60_0, rt_60_1, rt_60_11, rt_60_12, rt_60_13, rt_60_14, rt_60_15, rt_60_16, rt_60_17, rt_60_18, rt_60_19, rt_60_20, rt_60_21, rt_60_22, rt_60_23, rt_60_24, rt_60_25, rt_60_26, rt_60_27, rt_60_28, rt_60_29, rt_60_30, rt_60_39, rt_60_41, rt_60_42, rt_60_45, rt_60_46, rt_60_47, rt_60_49, rt_60_50, rt_60_51, rt_60_52, rt_60_53, rt_60_54, rt_60_55, rt_60_56, rt_60_59, rt_60_61, rt_60_62, al_63, as_63, al_64, as_64, al_65, as_65, al_66, as_66, al_67, as_67, al_68, as_68, al_69, as_69, al_70, as_70, al_71, as_71, al_72, as_72, al_73, as_73, al_74, as_74, al_75, as_75, al_76, as_76, al_78, as_78, al_79, as_79, al_80, as_80, al_81, as_81, al_82, as_82, al_83, as_83, al_84, as_84, al_85, as_85, al_86, as_86, al_87, as_87, al_88, as_88, al_89, as_89, al_90, as_90, al_91, as_91, al_92, as_92, al_93, as_93, al_94, as_94, al_95, as_95, al_96, as_96, al_97, as_97, al_98, as_98, al_61, as_61, al_62, as_62, al_99, as_99, al_82_0, as_82_0, al_83_32, as_83_32, al_83_33, as_83_33, ad0, ad8, ad16, ad24, ad_0, mu2, mu8, mu34, nI_add, nI_1, uI_mm, dvN, dvM, h35, em, al_80 l0, e8, d6, dr, r35, r80, s80, d3, ← hid, s35, al_81 l0, s81, he]
  · by_cases c6 : 6 < rk k
    · have d6 : (6 : Int32) < nI (rk k) := by rw [show (6 : Int32) = nI 6 from rfl, nI_ltI (by decide) (by omega)]; omega
      simp only [kX12_behindUnit_23, x_no, x_cst, x_ldI, x_ldJ, x_ldA, x_stI, x_stJ, x_stA, x_inc, x_bin, x_un, x_i2l, x_bnJ, x_lshl, x_lcmp, x_dup, x_dp2, x_gI, x_gJ, x_gA, x_pI, x_pZ, x_pJ, x_pA, x_c0, x_c2, x_sw, x_cV, x_cS, x_rV, x_rI, x_rZ, x_rJ, x_mm, x_pop, msel, mpl, mvr, mnw, List.getElem?_cons_zero, List.getElem?_cons_succ, List.set_cons_zero, List.set_cons_succ, List.length_cons, List.length_nil, List.drop_succ_cons, List.drop_zero, List.take_succ_cons, List.take_zero, List.reverse_cons, List.reverse_nil, List.nil_append, List.cons_append, List.append_nil, List.map_cons, List.map_nil, List.sum_cons, List.sum_nil, Option.toList_some, Option.toList_none, x_bs, Value.category, decide_eq_true_eq, decide_true, decide_false, if_true, if_false, Bool.false_eq_true, and_self, and_true, true_and, true_or, or_true, not_true_eq_false, not_false_eq_true, ↓reduceIte, reduceCtorEq, Nat.reduceEqDiff, Nat.reduceAdd, Nat.reduceSub, Nat.reduceMul, Nat.reduceLT, Nat.reduceLeDiff, Nat.reduceBEq, Nat.le_refl, Nat.zero_le, Nat.lt_irrefl, beq_self_eq_true, Nat.succ_ne_zero, Option.some.injEq, Prod.mk.injEq, Int32.reduceLT, Int32.reduceLE, y_60, rt_60_0, rt_60_1, rt_60_11, rt_60_12, rt_60_13, rt_60_14, rt_60_15, rt_60_16, rt_60_17, rt_60_18, rt_60_19, rt_60_20, rt_60_21, rt_60_22, rt_60_23, rt_60_24, rt_60_25, rt_60_26, rt_60_27, rt_60_28, rt_60_29, rt_60_30, rt_60_39, rt_60_41, rt_60_42, rt_60_45, rt_60_46, rt_60_47, rt_60_49, rt_60_50, rt_60_51, rt_60_52, rt_60_53, rt_60_54, rt_60_55, rt_60_56, rt_60_59, rt_60_61, rt_60_62, al_63, as_63, al_64, as_64, al_65, as_65, al_66, as_66, al_67, as_67, al_68, as_68, al_69, as_69, al_70, as_70, al_71, as_71, al_72, as_72, al_73, as_73, al_74, as_74, al_75, as_75, al_76, as_76, al_78, as_78, al_79, as_79, al_80, as_80, al_81, as_81, al_82, as_82, al_83, as_83, al_84, as_84, al_85, as_85, al_86, as_86, al_87, as_87, al_88, as_88, al_89, as_89, al_90, as_90, al_91, as_91, al_92, as_92, al_93, as_93, al_94, as_94, al_95, as_95, al_96, as_96, al_97, as_97, al_98, as_98, al_61, as_61, al_62, as_62, al_99, as_99, al_82_0, as_82_0, al_83_32, as_83_32, al_83_33, as_83_33, ad0, ad8, ad16, ad24, ad_0, mu2, mu8, mu34, nI_add, nI_1, uI_mm, dvN, dvM, h35, em, al_80 l0, e8, d6]
    · have d6 : ¬ (6 : Int32) < nI (rk k) := by rw [show (6 : Int32) = nI 6 from rfl, nI_ltI (by decide) (by omega)]; omega
      have dr : nI (rk k) < nI r := by rw [nI_ltI (by omega) (by omega)]; omega
      simp only [kX12_behindUnit_23, x_no, x_cst, x_ldI, x_ldJ, x_ldA, x_stI, x_stJ, x_stA, x_inc, x_bin, x_un, x_i2l, x_bnJ, x_lshl, x_lcmp, x_dup, x_dp2, x_gI, x_gJ, x_gA, x_pI, x_pZ, x_pJ, x_pA, x_c0, x_c2, x_sw, x_cV, x_cS, x_rV, x_rI, x_rZ, x_rJ, x_mm, x_pop, msel, mpl, mvr, mnw, List.getElem?_cons_zero, List.getElem?_cons_succ, List.set_cons_zero, List.set_cons_succ, List.length_cons, List.length_nil, List.drop_succ_cons, List.drop_zero, List.take_succ_cons, List.take_zero, List.reverse_cons, List.reverse_nil, List.nil_append, List.cons_append, List.append_nil, List.map_cons, List.map_nil, List.sum_cons, List.sum_nil, Option.toList_some, Option.toList_none, x_bs, Value.category, decide_eq_true_eq, decide_true, decide_false, if_true, if_false, Bool.false_eq_true, and_self, and_true, true_and, true_or, or_true, not_true_eq_false, not_false_eq_true, ↓reduceIte, reduceCtorEq, Nat.reduceEqDiff, Nat.reduceAdd, Nat.reduceSub, Nat.reduceMul, Nat.reduceLT, Nat.reduceLeDiff, Nat.reduceBEq, Nat.le_refl, Nat.zero_le, Nat.lt_irrefl, beq_self_eq_true, Nat.succ_ne_zero, Option.some.injEq, Prod.mk.injEq, Int32.reduceLT, Int32.reduceLE, y_60, rt_60_0, rt_60_1, rt_60_11, rt_60_12, rt_60_13, rt_60_14, rt_60_15, rt_60_16, rt_60_17, rt_60_18, rt_60_19, rt_60_20, rt_60_21, rt_60_22, rt_60_23, rt_60_24, rt_60_25, rt_60_26, rt_60_27, rt_60_28, rt_60_29, rt_60_30, rt_60_39, rt_60_41, rt_60_42, rt_60_45, rt_60_46, rt_60_47, rt_60_49, rt_60_50, rt_60_51, rt_60_52, rt_60_53, rt_60_54, rt_60_55, rt_60_56, rt_60_59, rt_60_61, rt_60_62, al_63, as_63, al_64, as_64, al_65, as_65, al_66, as_66, al_67, as_67, al_68, as_68, al_69, as_69, al_70, as_70, al_71, as_71, al_72, as_72, al_73, as_73, al_74, as_74, al_75, as_75, al_76, as_76, al_78, as_78, al_79, as_79, al_80, as_80, al_81, as_81, al_82, as_82, al_83, as_83, al_84, as_84, al_85, as_85, al_86, as_86, al_87, as_87, al_88, as_88, al_89, as_89, al_90, as_90, al_91, as_91, al_92, as_92, al_93, as_93, al_94, as_94, al_95, as_95, al_96, as_96, al_97, as_97, al_98, as_98, al_61, as_61, al_62, as_62, al_99, as_99, al_82_0, as_82_0, al_83_32, as_83_32, al_83_33, as_83_33, ad0, ad8, ad16, ad24, ad_0, mu2, mu8, mu34, nI_add, nI_1, uI_mm, dvN, dvM, h35, em, al_80 l0, e8, d6, dr]
/-- all that come off -/
theorem m_pops (n : Nat) (f : Nat) {r : Nat} (hr : r ≤ 8) : ∀ (P : List Nat) (I : Nat → Nat → Int32) (cs : List (Nat × Nat)), XM I J tp rb lo U (i, u, cs, P, w) → 99 ∈ P → P.length < 90 → wi P ≤ 100 → 560 * rb ≤ lo ∧ lo + cs.length + P.length < 560 * rb + 560 → ∀ m, ∃ I', mit (kX12_behindUnit_23 n) (m + P.length + 1) [some (.ref 60), some (.int (nI r))] [] (mm I J f) = kX12_behindUnit_104 n [some (.ref 60), some (.int (nI r))] [] (mm I' J f) ∧ XM I' J tp rb lo U (i, u, cs ++ (pop1 r P).1, (pop1 r P).2, w) ∧ XG rb lo I I' := by
  intro P
  induction P with
  | nil => intro I cs _ h99; simp at h99
  | cons k P ih =>
    intro I cs h h99 hl hw hlo m
    have hl' : P.length < 89 := by simp only [List.length_cons] at hl; omega
    have hwi : wi (k :: P) = (if k = 28 ∨ k = 5 then 1 else 0) + wi P := rfl
    simp only [List.length_cons] at hlo
    obtain ⟨p1, p2⟩ := m_pop n f h hl' hr ⟨hlo.1, by omega⟩ (by omega)
    rw [mit_succ]
    by_cases c : rk k ≤ 6 ∧ r ≤ rk k
    · obtain ⟨I1, k1, k2, k3⟩ := p1 c
      have h99' : 99 ∈ P := by
        rcases List.mem_cons.mp h99 with z | z
        · rw [← z] at c; exact absurd c.1 (by decide)
        · exact z
      have hl2 : lo + (cs ++ [(k, 0)]).length + P.length < 560 * rb + 560 := by
        rw [List.length_append]; simp only [List.length_cons, List.length_nil]; omega
      obtain ⟨I2, r1, r2, r3⟩ := ih I1 (cs ++ [(k, 0)]) k2 h99' (by omega) (by omega) ⟨hlo.1, hl2⟩ m
      refine ⟨I2, ?_, ?_, k3.tr r3⟩
      · rw [k1, show m + (k :: P).length = m + P.length + 1 by simp only [List.length_cons]; omega]
        exact r1
      · rw [pop1, if_pos c]
        rw [List.append_assoc] at r2
        exact r2
    · refine ⟨I, p2 c _, ?_, fun _ _ _ _ _ _ _ => rfl⟩
      rw [pop1, if_neg c]
      rw [List.append_nil]
      exact h
end MBeh
