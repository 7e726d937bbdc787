/-! PURE: the model's goOn, whole -/
section MGo3
variable {n : Nat} {I : Nat → Nat → Int32} {J : Nat → Nat → Int64} {tp : List Nat} {a e t v : Int32}
/-- what goOn comes to, from the place p on -/
def GoM (I I' : Nat → Nat → Int32) (J J' : Nat → Nat → Int64) (tp : List Nat) (p : Nat) : Prop :=
  (I' 60 6 = nI (sk tp p) ∧ (2 ≤ kd tp (sk tp p) (te tp (sk tp p)) → I' 60 7 = nI (te tp (sk tp p))) ∧ I' 60 8 = nI (mkk (kd tp (sk tp p) (te tp (sk tp p)))) ∧ (kd tp (sk tp p) (te tp (sk tp p)) = 2 → I' 60 9 = nI (nvl tp (sk tp p) (te tp (sk tp p) - sk tp p)))) ∧ ((kd tp (sk tp p) (te tp (sk tp p)) = 3 ∨ 15 ≤ kd tp (sk tp p) (te tp (sk tp p))) → J' 60 10 = jN (wvl 256 0 tp (sk tp p) (te tp (sk tp p) - sk tp p))) ∧ (∀ b j, b ≠ 60 ∨ (j ≠ 6 ∧ j ≠ 7 ∧ j ≠ 8 ∧ j ≠ 9) → I' b j = I b j) ∧ ∀ b j, b ≠ 60 ∨ j ≠ 10 → J' b j = J b j
theorem GoM_fr {a e t v : Int32} : ∀ b j, b ≠ 60 ∨ (j ≠ 6 ∧ j ≠ 7 ∧ j ≠ 8 ∧ j ≠ 9) → g4 I a e t v b j = I b j := by
  intro b j h
  by_cases hb : b = 60
  · subst hb
    rcases h with h | h
    · exact absurd rfl h
    · exact g4_j h.1 h.2.1 h.2.2.1 h.2.2.2
  · exact g4_o hb
theorem teL_next (tp : List Nat) {q : Nat} (hq : q < tp.length) (hL : isLt (bt tp q) = true) : teL tp (q + 1) = teL tp q := by
  unfold teL
  rw [show tp.length - q = (tp.length - (q + 1)) + 1 by omega]
  rw [wh, if_pos hL]
set_option maxHeartbeats 8000000 in
theorem m_goOn (hn : 1700 < n) (J : Nat → Nat → Int64) (f : Nat) (h : TxM I tp) {p : Nat} (hp : p ≤ tp.length) (h7 : I 60 7 = nI p) : ∃ I' J', FX12_goOn n [.ref 60] (mm I J f) = some (none, mm I' J' f) ∧ GoM I I' J J' tp p := by
  have hl := h.2.1
  obtain ⟨s1, s2⟩ := sk_rg tp hp
  have e0 : FX12_goOn n [.ref 60] (mm I J f) = kX12_goOn_58 n [some (.ref 60), none, none] [] (mm (g4 I (nI (sk tp p)) (nI p) (I 60 8) (I 60 9)) J f) := by
    rw [← m_blanks hn f h hp]
    conv => lhs; rw [← g4_id (I := I), h7]
    simp only [eX12_goOn, kX12_goOn_0, x_no, x_cst, x_ldI, x_ldJ, x_ldA, x_stI, x_stJ, x_stA, x_inc, x_bin, x_un, x_i2l, x_bnJ, x_lshl, x_lcmp, x_dup, x_dp2, x_gI, x_gJ, x_gA, x_pI, x_pZ, x_pJ, x_pA, x_c0, x_c2, x_sw, x_cV, x_cS, x_rV, x_rI, x_rZ, x_rJ, x_mm, x_pop, msel, mpl, mvr, mnw, List.getElem?_cons_zero, List.getElem?_cons_succ, List.set_cons_zero, List.set_cons_succ, List.length_cons, List.length_nil, List.drop_succ_cons, List.drop_zero, List.take_succ_cons, List.take_zero, List.reverse_cons, List.reverse_nil, List.nil_append, List.cons_append, List.append_nil, List.map_cons, List.map_nil, List.sum_cons, List.sum_nil, Option.toList_some, Option.toList_none, x_bs, Value.category, decide_eq_true_eq, decide_true, decide_false, if_true, if_false, Bool.false_eq_true, and_self, and_true, true_and, true_or, or_true, not_true_eq_false, not_false_eq_true, ↓reduceIte, reduceCtorEq, Nat.reduceEqDiff, Nat.reduceAdd, Nat.reduceSub, Nat.reduceMul, Nat.reduceLT, Nat.reduceLeDiff, Nat.reduceBEq, Nat.le_refl, Nat.zero_le, Nat.lt_irrefl, beq_self_eq_true, Nat.succ_ne_zero, Option.some.injEq, Prod.mk.injEq, Int32.reduceLT, Int32.reduceLE, y_60, rt_60_0, rt_60_1, rt_60_11, rt_60_12, rt_60_13, rt_60_14, rt_60_15, rt_60_16, rt_60_17, rt_60_18, rt_60_19, rt_60_20, rt_60_21, rt_60_22, rt_60_23, rt_60_24, rt_60_25, rt_60_26, rt_60_27, rt_60_28, rt_60_29, rt_60_30, rt_60_39, rt_60_41, rt_60_42, rt_60_45, rt_60_46, rt_60_47, rt_60_49, rt_60_50, rt_60_51, rt_60_52, rt_60_53, rt_60_54, rt_60_55, rt_60_56, rt_60_59, rt_60_61, rt_60_62, al_63, as_63, al_64, as_64, al_65, as_65, al_66, as_66, al_67, as_67, al_68, as_68, al_69, as_69, al_70, as_70, al_71, as_71, al_72, as_72, al_73, as_73, al_74, as_74, al_75, as_75, al_76, as_76, al_78, as_78, al_79, as_79, al_80, as_80, al_81, as_81, al_82, as_82, al_83, as_83, al_84, as_84, al_85, as_85, al_86, as_86, al_87, as_87, al_88, as_88, al_89, as_89, al_90, as_90, al_91, as_91, al_92, as_92, al_93, as_93, al_94, as_94, al_95, as_95, al_96, as_96, al_97, as_97, al_98, as_98, al_61, as_61, al_62, as_62, al_99, as_99, al_82_0, as_82_0, al_83_32, as_83_32, al_83_33, as_83_33, ad0, ad8, ad16, ad24, ad_0, mu2, mu8, mu34, nI_add, nI_1, uI_mm, dvN, dvM, g4_7, s4_6]
  rw [e0]
  generalize hq : sk tp p = q at s1 s2
  unfold GoM
  rw [hq]
  have hg := TxM_g4 (a := nI q) (e := nI p) (t := I 60 8) (v := I 60 9) h
  have ms := m_sign n J f hg (show q < 2 ^ 31 by omega)
  have ml := m_isLt n (mm (g4 I (nI q) (nI (q + 1)) (I 60 8) (I 60 9)) J f) (bt_ltM h q)
  have md := m_isDg n (mm (g4 I (nI q) (nI (q + 1)) (I 60 8) (I 60 9)) J f) (bt_ltM h q)
  have mg := m_isSg n (mm (g4 I (nI q) (nI (q + 1)) (I 60 8) (I 60 9)) J f) (bt_ltM h q)
  have h3 : ∀ a e t v, g4 I a e t v 60 3 = nI tp.length := fun a e t v => h.1
  by_cases c0 : q < tp.length
  · have d0 : nI q < nI tp.length := by rw [nI_ltI (by omega) (by omega)]; exact c0
    cases hL : isLt (bt tp q) with
    | true =>
      have hte : te tp q = teL tp q := by unfold te; rw [if_pos hL]
      obtain ⟨r1, r2, r3, r4⟩ := lt_run tp (show q ≤ tp.length by omega)
      have ha : ∀ j, j < teL tp q - q → 97 ≤ bt tp (q + j) ∧ bt tp (q + j) ≤ 122 := fun j hj => by
        have := r1 (q + j) (by omega) (by omega)
        simpa only [isLt, Bool.and_eq_true, decide_eq_true_eq] using this
      have lt := m_letters (J := J) (t := I 60 8) (v := I 60 9) hn f h (q := q) (p := q + 1) (by omega) (nI (bt tp q)) (by omega)
      rw [teL_next tp c0 hL] at lt
      obtain ⟨k, nm⟩ := m_name (J := J) (t := I 60 8) (v := I 60 9) hn f h (q := q) (p := teL tp q) r3 r4 ha (nI (bt tp q))
      have es : nI (teL tp q) - nI q = nI (teL tp q - q) := (Int32.ofNat_sub _ _ r3).symm
      have hkd : kd tp q (te tp q) = if 8 < teL tp q - q then 1 else kw tp q (teL tp q) := by
        unfold kd
        rw [if_neg (by omega), if_pos hL, hte]
      by_cases c8 : teL tp q - q ≤ 8
      · have d8 : nI (teL tp q - q) ≤ 8 := by rw [show (8 : Int32) = nI 8 from rfl, nI_leI (by omega) (by decide)]; exact c8
        have hm : min (teL tp q - q) 8 = teL tp q - q := by omega
        rw [hm] at nm
        rw [if_neg (by omega)] at hkd
        have mk := fun μ => m_isKept n μ (wvl_63 tp q c8 (fun j hj => (ha j hj).2))
        have kk := kept_kw (tp := tp) (p := q) (e := teL tp q) c8 ha
        have kr := kw_rg tp q (teL tp q)
        by_cases ck : keptB (wvl 256 0 tp q (teL tp q - q)) = true
        · have hk3 := kk.mp ck
          have hk15 : 15 ≤ kw tp q (teL tp q) := by
            unfold kw at hk3 ⊢
            cases z : ffd (isW8 tp q (teL tp q)) 0 19 with
            | none => rw [z] at hk3; exact absurd rfl hk3
            | some w => simp only; omega
          refine ⟨g4 I (nI q) (nI (teL tp q)) 3 (I 60 9), uJ2 J 60 10 (jN (wvl 256 0 tp q (teL tp q - q))), ?_, ⟨rfl, fun _ => by rw [hte]; rfl, ?_, fun z => ?_⟩, fun _ => by rw [hte]; exact uJ2_s, GoM_fr, fun b j hb => ?_⟩
          · simp only [kX12_goOn_58, kX12_goOn_199, kX12_goOn_233, kX12_goOn_377, x_no, x_cst, x_ldI, x_ldJ, x_ldA, x_stI, x_stJ, x_stA, x_inc, x_bin, x_un, x_i2l, x_bnJ, x_lshl, x_lcmp, x_dup, x_dp2, x_gI, x_gJ, x_gA, x_pI, x_pZ, x_pJ, x_pA, x_c0, x_c2, x_sw, x_cV, x_cS, x_rV, x_rI, x_rZ, x_rJ, x_mm, x_pop, msel, mpl, mvr, mnw, List.getElem?_cons_zero, List.getElem?_cons_succ, List.set_cons_zero, List.set_cons_succ, List.length_cons, List.length_nil, List.drop_succ_cons, List.drop_zero, List.take_succ_cons, List.take_zero, List.reverse_cons, List.reverse_nil, List.nil_append, List.cons_append, List.append_nil, List.map_cons, List.map_nil, List.sum_cons, List.sum_nil, Option.toList_some, Option.toList_none, x_bs, Value.category, decide_eq_true_eq, decide_true, decide_false, if_true, if_false, Bool.false_eq_true, and_self, and_true, true_and, true_or, or_true, not_true_eq_false, not_false_eq_true, ↓reduceIte, reduceCtorEq, Nat.reduceEqDiff, Nat.reduceAdd, Nat.reduceSub, Nat.reduceMul, Nat.reduceLT, Nat.reduceLeDiff, Nat.reduceBEq, Nat.le_refl, Nat.zero_le, Nat.lt_irrefl, beq_self_eq_true, Nat.succ_ne_zero, Option.some.injEq, Prod.mk.injEq, Int32.reduceLT, Int32.reduceLE, y_60, rt_60_0, rt_60_1, rt_60_11, rt_60_12, rt_60_13, rt_60_14, rt_60_15, rt_60_16, rt_60_17, rt_60_18, rt_60_19, rt_60_20, rt_60_21, rt_60_22, rt_60_23, rt_60_24, rt_60_25, rt_60_26, rt_60_27, rt_60_28, rt_60_29, rt_60_30, rt_60_39, rt_60_41, rt_60_42, rt_60_45, rt_60_46, rt_60_47, rt_60_49, rt_60_50, rt_60_51, rt_60_52, rt_60_53, rt_60_54, rt_60_55, rt_60_56, rt_60_59, rt_60_61, rt_60_62, al_63, as_63, al_64, as_64, al_65, as_65, al_66, as_66, al_67, as_67, al_68, as_68, al_69, as_69, al_70, as_70, al_71, as_71, al_72, as_72, al_73, as_73, al_74, as_74, al_75, as_75, al_76, as_76, al_78, as_78, al_79, as_79, al_80, as_80, al_81, as_81, al_82, as_82, al_83, as_83, al_84, as_84, al_85, as_85, al_86, as_86, al_87, as_87, al_88, as_88, al_89, as_89, al_90, as_90, al_91, as_91, al_92, as_92, al_93, as_93, al_94, as_94, al_95, as_95, al_96, as_96, al_97, as_97, al_98, as_98, al_61, as_61, al_62, as_62, al_99, as_99, al_82_0, as_82_0, al_83_32, as_83_32, al_83_33, as_83_33, ad0, ad8, ad16, ad24, ad_0, mu2, mu8, mu34, nI_add, nI_1, uI_mm, dvN, dvM, g4_6, g4_7, h3, ms, s4_7, d0, ml, b2i_eq0, hL, lt, nm, es, d8, uJ2_s, mk, ck, s4_8]
          · rw [g4_8, hkd]
            unfold mkk
            rw [if_neg (by omega), if_neg (by omega), if_neg (by omega), if_neg (by omega), if_neg (by omega)]; rfl
          · rw [hkd] at z; omega
          · simp only [uJ2]; rw [if_neg (by omega)]
        · have hk3 : kw tp q (teL tp q) = 3 := Classical.byContradiction (fun z => ck (kk.mpr z))
          refine ⟨g4 I (nI q) (nI (teL tp q)) 2 (I 60 9), uJ2 J 60 10 (jN (wvl 256 0 tp q (teL tp q - q))), ?_, ⟨rfl, fun _ => by rw [hte]; rfl, ?_, fun z => ?_⟩, fun _ => by rw [hte]; exact uJ2_s, GoM_fr, fun b j hb => ?_⟩
          · simp only [kX12_goOn_58, kX12_goOn_199, kX12_goOn_233, kX12_goOn_377, x_no, x_cst, x_ldI, x_ldJ, x_ldA, x_stI, x_stJ, x_stA, x_inc, x_bin, x_un, x_i2l, x_bnJ, x_lshl, x_lcmp, x_dup, x_dp2, x_gI, x_gJ, x_gA, x_pI, x_pZ, x_pJ, x_pA, x_c0, x_c2, x_sw, x_cV, x_cS, x_rV, x_rI, x_rZ, x_rJ, x_mm, x_pop, msel, mpl, mvr, mnw, List.getElem?_cons_zero, List.getElem?_cons_succ, List.set_cons_zero, List.set_cons_succ, List.length_cons, List.length_nil, List.drop_succ_cons, List.drop_zero, List.take_succ_cons, List.take_zero, List.reverse_cons, List.reverse_nil, List.nil_append, List.cons_append, List.append_nil, List.map_cons, List.map_nil, List.sum_cons, List.sum_nil, Option.toList_some, Option.toList_none, x_bs, Value.category, decide_eq_true_eq, decide_true, decide_false, if_true, if_false, Bool.false_eq_true, and_self, and_true, true_and, true_or, or_true, not_true_eq_false, not_false_eq_true, ↓reduceIte, reduceCtorEq, Nat.reduceEqDiff, Nat.reduceAdd, Nat.reduceSub, Nat.reduceMul, Nat.reduceLT, Nat.reduceLeDiff, Nat.reduceBEq, Nat.le_refl, Nat.zero_le, Nat.lt_irrefl, beq_self_eq_true, Nat.succ_ne_zero, Option.some.injEq, Prod.mk.injEq, Int32.reduceLT, Int32.reduceLE, y_60, rt_60_0, rt_60_1, rt_60_11, rt_60_12, rt_60_13, rt_60_14, rt_60_15, rt_60_16, rt_60_17, rt_60_18, rt_60_19, rt_60_20, rt_60_21, rt_60_22, rt_60_23, rt_60_24, rt_60_25, rt_60_26, rt_60_27, rt_60_28, rt_60_29, rt_60_30, rt_60_39, rt_60_41, rt_60_42, rt_60_45, rt_60_46, rt_60_47, rt_60_49, rt_60_50, rt_60_51, rt_60_52, rt_60_53, rt_60_54, rt_60_55, rt_60_56, rt_60_59, rt_60_61, rt_60_62, al_63, as_63, al_64, as_64, al_65, as_65, al_66, as_66, al_67, as_67, al_68, as_68, al_69, as_69, al_70, as_70, al_71, as_71, al_72, as_72, al_73, as_73, al_74, as_74, al_75, as_75, al_76, as_76, al_78, as_78, al_79, as_79, al_80, as_80, al_81, as_81, al_82, as_82, al_83, as_83, al_84, as_84, al_85, as_85, al_86, as_86, al_87, as_87, al_88, as_88, al_89, as_89, al_90, as_90, al_91, as_91, al_92, as_92, al_93, as_93, al_94, as_94, al_95, as_95, al_96, as_96, al_97, as_97, al_98, as_98, al_61, as_61, al_62, as_62, al_99, as_99, al_82_0, as_82_0, al_83_32, as_83_32, al_83_33, as_83_33, ad0, ad8, ad16, ad24, ad_0, mu2, mu8, mu34, nI_add, nI_1, uI_mm, dvN, dvM, g4_6, g4_7, h3, ms, s4_7, d0, ml, b2i_eq0, hL, lt, nm, es, d8, uJ2_s, mk, ck, s4_8]
          · rw [g4_8, hkd, hk3]; rfl
          · rw [hkd, hk3] at z; omega
          · simp only [uJ2]; rw [if_neg (by omega)]
      · have d8 : ¬ nI (teL tp q - q) ≤ 8 := by rw [show (8 : Int32) = nI 8 from rfl, nI_leI (by omega) (by decide)]; exact c8
        rw [if_pos (by omega)] at hkd
        refine ⟨g4 I (nI q) (nI (teL tp q)) 1 (I 60 9), uJ2 J 60 10 (jN (wvl 256 0 tp q (min (teL tp q - q) 8))), ?_, ⟨rfl, fun z => ?_, ?_, fun z => ?_⟩, fun z => ?_, GoM_fr, fun b j hb => ?_⟩
        · simp only [kX12_goOn_58, kX12_goOn_199, kX12_goOn_233, kX12_goOn_377, x_no, x_cst, x_ldI, x_ldJ, x_ldA, x_stI, x_stJ, x_stA, x_inc, x_bin, x_un, x_i2l, x_bnJ, x_lshl, x_lcmp, x_dup, x_dp2, x_gI, x_gJ, x_gA, x_pI, x_pZ, x_pJ, x_pA, x_c0, x_c2, x_sw, x_cV, x_cS, x_rV, x_rI, x_rZ, x_rJ, x_mm, x_pop, msel, mpl, mvr, mnw, List.getElem?_cons_zero, List.getElem?_cons_succ, List.set_cons_zero, List.set_cons_succ, List.length_cons, List.length_nil, List.drop_succ_cons, List.drop_zero, List.take_succ_cons, List.take_zero, List.reverse_cons, List.reverse_nil, List.nil_append, List.cons_append, List.append_nil, List.map_cons, List.map_nil, List.sum_cons, List.sum_nil, Option.toList_some, Option.toList_none, x_bs, Value.category, decide_eq_true_eq, decide_true, decide_false, if_true, if_false, Bool.false_eq_true, and_self, and_true, true_and, true_or, or_true, not_true_eq_false, not_false_eq_true, ↓reduceIte, reduceCtorEq, Nat.reduceEqDiff, Nat.reduceAdd, Nat.reduceSub, Nat.reduceMul, Nat.reduceLT, Nat.reduceLeDiff, Nat.reduceBEq, Nat.le_refl, Nat.zero_le, Nat.lt_irrefl, beq_self_eq_true, Nat.succ_ne_zero, Option.some.injEq, Prod.mk.injEq, Int32.reduceLT, Int32.reduceLE, y_60, rt_60_0, rt_60_1, rt_60_11, rt_60_12, rt_60_13, rt_60_14, rt_60_15, rt_60_16, rt_60_17, rt_60_18, rt_60_19, rt_60_20, rt_60_21, rt_60_22, rt_60_23, rt_60_24, rt_60_25, rt_60_26, rt_60_27, rt_60_28, rt_60_29, rt_60_30, rt_60_39, rt_60_41, rt_60_42, rt_60_45, rt_60_46, rt_60_47, rt_60_49, rt_60_50, rt_60_51, rt_60_52, rt_60_53, rt_60_54, rt_60_55, rt_60_56, rt_60_59, rt_60_61, rt_60_62, al_63, as_63, al_64, as_64, al_65, as_65, al_66, as_66, al_67, as_67, al_68, as_68, al_69, as_69, al_70, as_70, al_71, as_71, al_72, as_72, al_73, as_73, al_74, as_74, al_75, as_75, al_76, as_76, al_78, as_78, al_79, as_79, al_80, as_80, al_81, as_81, al_82, as_82, al_83, as_83, al_84, as_84, al_85, as_85, al_86, as_86, al_87, as_87, al_88, as_88, al_89, as_89, al_90, as_90, al_91, as_91, al_92, as_92, al_93, as_93, al_94, as_94, al_95, as_95, al_96, as_96, al_97, as_97, al_98, as_98, al_61, as_61, al_62, as_62, al_99, as_99, al_82_0, as_82_0, al_83_32, as_83_32, al_83_33, as_83_33, ad0, ad8, ad16, ad24, ad_0, mu2, mu8, mu34, nI_add, nI_1, uI_mm, dvN, dvM, g4_6, g4_7, h3, ms, s4_7, d0, ml, b2i_eq0, hL, lt, nm, es, d8, s4_8]
        · rw [hkd] at z; omega
        · rw [g4_8, hkd]; rfl
        · rw [hkd] at z; omega
        · rw [hkd] at z; omega
        · simp only [uJ2]; rw [if_neg (by omega)]
    | false =>
      cases hD : isDg (bt tp q) with
      | true =>
        have hte : te tp q = teD tp q := by unfold te; rw [if_neg (by rw [hL]; decide), if_pos hD]
        have dd := m_digits (J := J) (t := I 60 8) hn f h (q := q) (by omega) (nI (bt tp q))
        have hkd : kd tp q (te tp q) = if 4 < teD tp q - q ∨ isLt (bt tp (teD tp q)) = true then 1 else 2 := by
          unfold kd
          rw [if_neg (by omega), if_neg (by rw [hL]; decide), if_pos hD, hte]
        refine ⟨_, J, ?_, ⟨?_, fun z => ?_, ?_, fun z => ?_⟩, fun z => ?_, GoM_fr (a := nI q) (e := nI (teD tp q)) (t := (nI (if 4 < teD tp q - q ∨ isLt (bt tp (teD tp q)) = true then 1 else 4))) (v := (nI (nv4 tp q (teD tp q)))), fun b j hb => rfl⟩
        · simp only [kX12_goOn_58, kX12_goOn_248, x_no, x_cst, x_ldI, x_ldJ, x_ldA, x_stI, x_stJ, x_stA, x_inc, x_bin, x_un, x_i2l, x_bnJ, x_lshl, x_lcmp, x_dup, x_dp2, x_gI, x_gJ, x_gA, x_pI, x_pZ, x_pJ, x_pA, x_c0, x_c2, x_sw, x_cV, x_cS, x_rV, x_rI, x_rZ, x_rJ, x_mm, x_pop, msel, mpl, mvr, mnw, List.getElem?_cons_zero, List.getElem?_cons_succ, List.set_cons_zero, List.set_cons_succ, List.length_cons, List.length_nil, List.drop_succ_cons, List.drop_zero, List.take_succ_cons, List.take_zero, List.reverse_cons, List.reverse_nil, List.nil_append, List.cons_append, List.append_nil, List.map_cons, List.map_nil, List.sum_cons, List.sum_nil, Option.toList_some, Option.toList_none, x_bs, Value.category, decide_eq_true_eq, decide_true, decide_false, if_true, if_false, Bool.false_eq_true, and_self, and_true, true_and, true_or, or_true, not_true_eq_false, not_false_eq_true, ↓reduceIte, reduceCtorEq, Nat.reduceEqDiff, Nat.reduceAdd, Nat.reduceSub, Nat.reduceMul, Nat.reduceLT, Nat.reduceLeDiff, Nat.reduceBEq, Nat.le_refl, Nat.zero_le, Nat.lt_irrefl, beq_self_eq_true, Nat.succ_ne_zero, Option.some.injEq, Prod.mk.injEq, Int32.reduceLT, Int32.reduceLE, y_60, rt_60_0, rt_60_1, rt_60_11, rt_60_12, rt_60_13, rt_60_14, rt_60_15, rt_60_16, rt_60_17, rt_60_18, rt_60_19, rt_60_20, rt_60_21, rt_60_22, rt_60_23, rt_60_24, rt_60_25, rt_60_26, rt_60_27, rt_60_28, rt_60_29, rt_60_30, rt_60_39, rt_60_41, rt_60_42, rt_60_45, rt_60_46, rt_60_47, rt_60_49, rt_60_50, rt_60_51, rt_60_52, rt_60_53, rt_60_54, rt_60_55, rt_60_56, rt_60_59, rt_60_61, rt_60_62, al_63, as_63, al_64, as_64, al_65, as_65, al_66, as_66, al_67, as_67, al_68, as_68, al_69, as_69, al_70, as_70, al_71, as_71, al_72, as_72, al_73, as_73, al_74, as_74, al_75, as_75, al_76, as_76, al_78, as_78, al_79, as_79, al_80, as_80, al_81, as_81, al_82, as_82, al_83, as_83, al_84, as_84, al_85, as_85, al_86, as_86, al_87, as_87, al_88, as_88, al_89, as_89, al_90, as_90, al_91, as_91, al_92, as_92, al_93, as_93, al_94, as_94, al_95, as_95, al_96, as_96, al_97, as_97, al_98, as_98, al_61, as_61, al_62, as_62, al_99, as_99, al_82_0, as_82_0, al_83_32, as_83_32, al_83_33, as_83_33, ad0, ad8, ad16, ad24, ad_0, mu2, mu8, mu34, nI_add, nI_1, uI_mm, dvN, dvM, g4_6, g4_7, h3, ms, s4_7, d0, ml, md, b2i_eq0, hL, hD, s4_9, dd]
        · rfl
        · rw [hte]; rfl
        · rw [g4_8, hkd]
          by_cases c4 : 4 < teD tp q - q ∨ isLt (bt tp (teD tp q)) = true
          · rw [if_pos c4, if_pos c4]; rfl
          · rw [if_neg c4, if_neg c4]; rfl
        · rw [hkd] at z
          by_cases c4 : 4 < teD tp q - q ∨ isLt (bt tp (teD tp q)) = true
          · rw [if_pos c4] at z; omega
          · rw [g4_9, hte]
            unfold nv4
            rw [show min (teD tp q - q) 4 = teD tp q - q by omega]
        · rw [hkd] at z
          split at z <;> omega
      | false =>
        have hte : te tp q = q + 1 := by unfold te; rw [if_neg (by rw [hL]; decide), if_neg (by rw [hD]; decide)]
        have hkd : kd tp q (te tp q) = sgk (bt tp q) := by
          unfold kd
          rw [if_neg (by omega), if_neg (by rw [hL]; decide), if_neg (by rw [hD]; decide)]
        have sr := sgk_rg (bt tp q)
        by_cases cs : sgk (bt tp q) = 1
        · refine ⟨g4 I (nI q) (nI (q + 1)) 1 (I 60 9), J, ?_, ⟨rfl, fun z => by rw [hte]; rfl, ?_, fun z => ?_⟩, fun z => ?_, GoM_fr, fun b j hb => rfl⟩
          · simp only [kX12_goOn_58, kX12_goOn_363, kX12_goOn_374, kX12_goOn_377, x_no, x_cst, x_ldI, x_ldJ, x_ldA, x_stI, x_stJ, x_stA, x_inc, x_bin, x_un, x_i2l, x_bnJ, x_lshl, x_lcmp, x_dup, x_dp2, x_gI, x_gJ, x_gA, x_pI, x_pZ, x_pJ, x_pA, x_c0, x_c2, x_sw, x_cV, x_cS, x_rV, x_rI, x_rZ, x_rJ, x_mm, x_pop, msel, mpl, mvr, mnw, List.getElem?_cons_zero, List.getElem?_cons_succ, List.set_cons_zero, List.set_cons_succ, List.length_cons, List.length_nil, List.drop_succ_cons, List.drop_zero, List.take_succ_cons, List.take_zero, List.reverse_cons, List.reverse_nil, List.nil_append, List.cons_append, List.append_nil, List.map_cons, List.map_nil, List.sum_cons, List.sum_nil, Option.toList_some, Option.toList_none, x_bs, Value.category, decide_eq_true_eq, decide_true, decide_false, if_true, if_false, Bool.false_eq_true, and_self, and_true, true_and, true_or, or_true, not_true_eq_false, not_false_eq_true, ↓reduceIte, reduceCtorEq, Nat.reduceEqDiff, Nat.reduceAdd, Nat.reduceSub, Nat.reduceMul, Nat.reduceLT, Nat.reduceLeDiff, Nat.reduceBEq, Nat.le_refl, Nat.zero_le, Nat.lt_irrefl, beq_self_eq_true, Nat.succ_ne_zero, Option.some.injEq, Prod.mk.injEq, Int32.reduceLT, Int32.reduceLE, y_60, rt_60_0, rt_60_1, rt_60_11, rt_60_12, rt_60_13, rt_60_14, rt_60_15, rt_60_16, rt_60_17, rt_60_18, rt_60_19, rt_60_20, rt_60_21, rt_60_22, rt_60_23, rt_60_24, rt_60_25, rt_60_26, rt_60_27, rt_60_28, rt_60_29, rt_60_30, rt_60_39, rt_60_41, rt_60_42, rt_60_45, rt_60_46, rt_60_47, rt_60_49, rt_60_50, rt_60_51, rt_60_52, rt_60_53, rt_60_54, rt_60_55, rt_60_56, rt_60_59, rt_60_61, rt_60_62, al_63, as_63, al_64, as_64, al_65, as_65, al_66, as_66, al_67, as_67, al_68, as_68, al_69, as_69, al_70, as_70, al_71, as_71, al_72, as_72, al_73, as_73, al_74, as_74, al_75, as_75, al_76, as_76, al_78, as_78, al_79, as_79, al_80, as_80, al_81, as_81, al_82, as_82, al_83, as_83, al_84, as_84, al_85, as_85, al_86, as_86, al_87, as_87, al_88, as_88, al_89, as_89, al_90, as_90, al_91, as_91, al_92, as_92, al_93, as_93, al_94, as_94, al_95, as_95, al_96, as_96, al_97, as_97, al_98, as_98, al_61, as_61, al_62, as_62, al_99, as_99, al_82_0, as_82_0, al_83_32, as_83_32, al_83_33, as_83_33, ad0, ad8, ad16, ad24, ad_0, mu2, mu8, mu34, nI_add, nI_1, uI_mm, dvN, dvM, g4_6, g4_7, h3, ms, s4_7, d0, ml, md, mg, b2i_eq0, hL, hD, cs, s4_8]
          · rw [g4_8, hkd, cs]; rfl
          · rw [hkd] at z; omega
          · rw [hkd] at z; omega
        · refine ⟨g4 I (nI q) (nI (q + 1)) 5 (I 60 9), J, ?_, ⟨rfl, fun z => by rw [hte]; rfl, ?_, fun z => ?_⟩, fun z => ?_, GoM_fr, fun b j hb => rfl⟩
          · simp only [kX12_goOn_58, kX12_goOn_363, kX12_goOn_374, kX12_goOn_377, x_no, x_cst, x_ldI, x_ldJ, x_ldA, x_stI, x_stJ, x_stA, x_inc, x_bin, x_un, x_i2l, x_bnJ, x_lshl, x_lcmp, x_dup, x_dp2, x_gI, x_gJ, x_gA, x_pI, x_pZ, x_pJ, x_pA, x_c0, x_c2, x_sw, x_cV, x_cS, x_rV, x_rI, x_rZ, x_rJ, x_mm, x_pop, msel, mpl, mvr, mnw, List.getElem?_cons_zero, List.getElem?_cons_succ, List.set_cons_zero, List.set_cons_succ, List.length_cons, List.length_nil, List.drop_succ_cons, List.drop_zero, List.take_succ_cons, List.take_zero, List.reverse_cons, List.reverse_nil, List.nil_append, List.cons_append, List.append_nil, List.map_cons, List.map_nil, List.sum_cons, List.sum_nil, Option.toList_some, Option.toList_none, x_bs, Value.category, decide_eq_true_eq, decide_true, decide_false, if_true, if_false, Bool.false_eq_true, and_self, and_true, true_and, true_or, or_true, not_true_eq_false, not_false_eq_true, ↓reduceIte, reduceCtorEq, Nat.reduceEqDiff, Nat.reduceAdd, Nat.reduceSub, Nat.reduceMul, Nat.reduceLT, Nat.reduceLeDiff, Nat.reduceBEq, Nat.le_refl, Nat.zero_le, Nat.lt_irrefl, beq_self_eq_true, Nat.succ_ne_zero, Option.some.injEq, Prod.mk.injEq, Int32.reduceLT, Int32.reduceLE, y_60, rt_60_0, rt_60_1, rt_60_11, rt_60_12, rt_60_13, rt_60_14, rt_60_15, rt_60_16, rt_60_17, rt_60_18, rt_60_19, rt_60_20, rt_60_21, rt_60_22, rt_60_23, rt_60_24, rt_60_25, rt_60_26, rt_60_27, rt_60_28, rt_60_29, rt_60_30, rt_60_39, rt_60_41, rt_60_42, rt_60_45, rt_60_46, rt_60_47, rt_60_49, rt_60_50, rt_60_51, rt_60_52, rt_60_53, rt_60_54, rt_60_55, rt_60_56, rt_60_59, rt_60_61, rt_60_62, al_63, as_63, al_64, as_64, al_65, as_65, al_66, as_66, al_67, as_67, al_68, as_68, al_69, as_69, al_70, as_70, al_71, as_71, al_72, as_72, al_73, as_73, al_74, as_74, al_75, as_75, al_76, as_76, al_78, as_78, al_79, as_79, al_80, as_80, al_81, as_81, al_82, as_82, al_83, as_83, al_84, as_84, al_85, as_85, al_86, as_86, al_87, as_87, al_88, as_88, al_89, as_89, al_90, as_90, al_91, as_91, al_92, as_92, al_93, as_93, al_94, as_94, al_95, as_95, al_96, as_96, al_97, as_97, al_98, as_98, al_61, as_61, al_62, as_62, al_99, as_99, al_82_0, as_82_0, al_83_32, as_83_32, al_83_33, as_83_33, ad0, ad8, ad16, ad24, ad_0, mu2, mu8, mu34, nI_add, nI_1, uI_mm, dvN, dvM, g4_6, g4_7, h3, ms, s4_7, d0, ml, md, mg, b2i_eq0, hL, hD, cs, s4_8]
          · rw [g4_8, hkd]
            unfold mkk
            rw [if_neg (by omega), if_neg (by omega), if_neg (by omega), if_neg (by omega), if_pos (by omega)]; rfl
          · rw [hkd] at z; omega
          · rw [hkd] at z; omega
  · have hqe : q = tp.length := by omega
    have d0 : ¬ nI q < nI tp.length := by rw [nI_ltI (by omega) (by omega)]; omega
    have hkd : kd tp q (te tp q) = 0 := by unfold kd; rw [if_pos (by omega)]
    refine ⟨g4 I (nI tp.length) (nI tp.length) 0 (I 60 9), J, ?_, ⟨by rw [g4_6, hqe], fun z => by rw [hkd] at z; omega, ?_, fun z => by rw [hkd] at z; omega⟩, fun z => by rw [hkd] at z; omega, GoM_fr, fun b j hb => rfl⟩
    · simp only [kX12_goOn_58, kX12_goOn_102, kX12_goOn_377, x_no, x_cst, x_ldI, x_ldJ, x_ldA, x_stI, x_stJ, x_stA, x_inc, x_bin, x_un, x_i2l, x_bnJ, x_lshl, x_lcmp, x_dup, x_dp2, x_gI, x_gJ, x_gA, x_pI, x_pZ, x_pJ, x_pA, x_c0, x_c2, x_sw, x_cV, x_cS, x_rV, x_rI, x_rZ, x_rJ, x_mm, x_pop, msel, mpl, mvr, mnw, List.getElem?_cons_zero, List.getElem?_cons_succ, List.set_cons_zero, List.set_cons_succ, List.length_cons, List.length_nil, List.drop_succ_cons, List.drop_zero, List.take_succ_cons, List.take_zero, List.reverse_cons, List.reverse_nil, List.nil_append, List.cons_append, List.append_nil, List.map_cons, List.map_nil, List.sum_cons, List.sum_nil, Option.toList_some, Option.toList_none, x_bs, Value.category, decide_eq_true_eq, decide_true, decide_false, if_true, if_false, Bool.false_eq_true, and_self, and_true, true_and, true_or, or_true, not_true_eq_false, not_false_eq_true, ↓reduceIte, reduceCtorEq, Nat.reduceEqDiff, Nat.reduceAdd, Nat.reduceSub, Nat.reduceMul, Nat.reduceLT, Nat.reduceLeDiff, Nat.reduceBEq, Nat.le_refl, Nat.zero_le, Nat.lt_irrefl, beq_self_eq_true, Nat.succ_ne_zero, Option.some.injEq, Prod.mk.injEq, Int32.reduceLT, Int32.reduceLE, y_60, rt_60_0, rt_60_1, rt_60_11, rt_60_12, rt_60_13, rt_60_14, rt_60_15, rt_60_16, rt_60_17, rt_60_18, rt_60_19, rt_60_20, rt_60_21, rt_60_22, rt_60_23, rt_60_24, rt_60_25, rt_60_26, rt_60_27, rt_60_28, rt_60_29, rt_60_30, rt_60_39, rt_60_41, rt_60_42, rt_60_45, rt_60_46, rt_60_47, rt_60_49, rt_60_50, rt_60_51, rt_60_52, rt_60_53, rt_60_54, rt_60_55, rt_60_56, rt_60_59, rt_60_61, rt_60_62, al_63, as_63, al_64, as_64, al_65, as_65, al_66, as_66, al_67, as_67, al_68, as_68, al_69, as_69, al_70, as_70, al_71, as_71, al_72, as_72, al_73, as_73, al_74, as_74, al_75, as_75, al_76, as_76, al_78, as_78, al_79, as_79, al_80, as_80, al_81, as_81, al_82, as_82, al_83, as_83, al_84, as_84, al_85, as_85, al_86, as_86, al_87, as_87, al_88, as_88, al_89, as_89, al_90, as_90, al_91, as_91, al_92, as_92, al_93, as_93, al_94, as_94, al_95, as_95, al_96, as_96, al_97, as_97, al_98, as_98, al_61, as_61, al_62, as_62, al_99, as_99, al_82_0, as_82_0, al_83_32, as_83_32, al_83_33, as_83_33, ad0, ad8, ad16, ad24, ad_0, mu2, mu8, mu34, nI_add, nI_1, uI_mm, dvN, dvM, g4_6, g4_7, h3, ms, s4_6, s4_7, s4_8, d0]
    · rw [g4_8, hkd]; rfl
end MGo3
