/-! PURE: the model's readLine -/
theorem LR_pre {n f : Nat} {I I2 : Nat → Nat → Int32} {tp : List Nat} {rb lt : Nat} {v : Option mR} {r : EX2 (Nat × DR)} (h : LR n f I2 tp rb lt v r) (hg : LG rb I I2) : LR n f I tp rb lt v r := by
  refine ⟨fun e he => ?_, fun q hq => ?_⟩
  · obtain ⟨I', J', h1, h2, h3⟩ := h.1 e he
    exact ⟨I', J', h1, h2, hg.tr h3⟩
  · obtain ⟨I', J', h1, h2, h3, h4⟩ := h.2 q hq
    exact ⟨I', J', h1, h2, h3, hg.tr h4⟩
section MLine3
variable {n : Nat} {I : Nat → Nat → Int32} {J : Nat → Nat → Int64} {tp : List Nat} {i rb lt : Nat} {D : DR}
theorem m_carL (hn : 1700 < n) (f : Nat) (h : RdM I J tp i) (hd : DrM I J tp rb lt D) (hD : DOK D) (h8 : (dc D).length < 8) : LR n f I tp rb lt (kX12_readLine_92 n [some (.ref 60), some (.long 6513010), none] [] (mm I J f)) (carP tp i D) := by
  obtain ⟨m1, m2⟩ := m_readCar hn f h hd hD h8
  have c0 : lg_cmp 6513010 6513010 = 0 := by decide
  have tl : ∀ I' J', kX12_readLine_104 n [some (.ref 60), some (.long 6513010), none] [] (mm I' J' f) = kX12_readLine_206 n [some (.ref 60), some (.long 6513010), none] [] (mm I' J' f) := fun I' J' => by
    rw [sk104 n f (by decide), sk117 n f (by decide), sk130 n f (by decide), sk167 n f (by decide)]
  have run : ∀ I' J', FX12_readCar n [.ref 60] (mm I J f) = some (none, mm I' J' f) → kX12_readLine_92 n [some (.ref 60), some (.long 6513010), none] [] (mm I J f) = kX12_readLine_206 n [some (.ref 60), some (.long 6513010), none] [] (mm I' J' f) := fun I' J' hr => by
    rw [← tl]
    simp only [kX12_readLine_92, x_no, x_cst, x_ldI, x_ldJ, x_ldA, x_stI, x_stJ, x_stA, x_inc, x_bin, x_un, x_i2l, x_bnJ, x_lshl, x_lcmp, x_dup, x_dp2, x_gI, x_gJ, x_gA, x_pI, x_pZ, x_pJ, x_pA, x_c0, x_c2, x_sw, x_cV, x_cS, x_rV, x_rI, x_rZ, x_rJ, x_mm, x_pop, msel, mpl, mvr, mnw, List.getElem?_cons_zero, List.getElem?_cons_succ, List.set_cons_zero, List.set_cons_succ, List.length_cons, List.length_nil, List.drop_succ_cons, List.drop_zero, List.take_succ_cons, List.take_zero, List.reverse_cons, List.reverse_nil, List.nil_append, List.cons_append, List.append_nil, List.map_cons, List.map_nil, List.sum_cons, List.sum_nil, Option.toList_some, Option.toList_none, x_bs, Value.category, decide_eq_true_eq, decide_true, decide_false, if_true, if_false, Bool.false_eq_true, and_self, and_true, true_and, true_or, or_true, not_true_eq_false, not_false_eq_true, ↓reduceIte, reduceCtorEq, Nat.reduceEqDiff, Nat.reduceAdd, Nat.reduceSub, Nat.reduceMul, Nat.reduceLT, Nat.reduceLeDiff, Nat.reduceBEq, Nat.le_refl, Nat.zero_le, Nat.lt_irrefl, beq_self_eq_true, Nat.succ_ne_zero, Option.some.injEq, Prod.mk.injEq, Int32.reduceLT, Int32.reduceLE, y_60, rt_60_0, rt_60_1, rt_60_11, rt_60_12, rt_60_13, rt_60_14, rt_60_15, rt_60_16, rt_60_17, rt_60_18, rt_60_19, rt_60_20, rt_60_21, rt_60_22, rt_60_23, rt_60_24, rt_60_25, rt_60_26, rt_60_27, rt_60_28, rt_60_29, rt_60_30, rt_60_39, rt_60_41, rt_60_42, rt_60_45, rt_60_46, rt_60_47, rt_60_49, rt_60_50, rt_60_51, rt_60_52, rt_60_53, rt_60_54, rt_60_55, rt_60_56, rt_60_59, rt_60_61, rt_60_62, al_63, as_63, al_64, as_64, al_65, as_65, al_66, as_66, al_67, as_67, al_68, as_68, al_69, as_69, al_70, as_70, al_71, as_71, al_72, as_72, al_73, as_73, al_74, as_74, al_75, as_75, al_76, as_76, al_78, as_78, al_79, as_79, al_80, as_80, al_81, as_81, al_82, as_82, al_83, as_83, al_84, as_84, al_85, as_85, al_86, as_86, al_87, as_87, al_88, as_88, al_89, as_89, al_90, as_90, al_91, as_91, al_92, as_92, al_93, as_93, al_94, as_94, al_95, as_95, al_96, as_96, al_97, as_97, al_98, as_98, al_61, as_61, al_62, as_62, al_99, as_99, al_82_0, as_82_0, al_83_32, as_83_32, al_83_33, as_83_33, ad0, ad8, ad16, ad24, ad_0, mu2, mu8, mu34, nI_add, nI_1, uI_mm, dvN, dvM, c0, hr]
  rw [carP_Q]
  cases hq : carQ tp i D with
  | error e =>
    obtain ⟨I', J', h1, h2, h3⟩ := m1 e hq
    exact LR_er ((run I' J' h1).trans (m_206F n f h2 _)) h2 h3
  | ok q =>
    obtain ⟨I', J', h1, h2, h3, h4⟩ := m2 q hq
    exact LR_206 hn f h2 h3 h4 (w := 6513010) (run I' J' h1) (g := fun _ => q.2) (fun _ => rfl)
theorem WV_lit : jN (WV 0) = 126943972648308 ∧ jN (WV 2) = 6513010 ∧ jN (WV 7) = 32492108151877235 ∧ jN (WV 8) = 512970880104 ∧ jN (WV 9) = 108243466677107 ∧ jN (WV 10) = 1685217655 := by decide +kernel
set_option maxHeartbeats 8000000 in
theorem m_readLine (hn : 1700 < n) (f : Nat) (h : RdM I J tp i) (hd : DrM I J tp rb lt D) (hD : DOK D) (hlt : lt = 0 ↔ dt D = 0) (hb : lt < 2000) : LR n f I tp rb (lt + 1) (FX12_readLine n [.ref 60] (mm I J f)) (lineP tp i D) := by
  have h2 := hd.1.1
  have h32 := hd.1.2
  have h65 := hd.2.2.1.1
  have t8 := h.2.1.2.2.1
  have kk := (mkk_1 _ (kn_rg tp i)).2.2.1
  have q1 : ¬ (1 : Int32) = 0 := by decide
  have mp := m_misplaced n f h
  have fs := fmI_FS h (rf_rg tp i)
  have gF := m_isGoodF (J := J) n f fs.1
  have fg : G5 I (fmI I (nI (rf tp i).1) (nI (rf tp i).2)) := fmI_o
  generalize fmI I (nI (rf tp i).1) (nI (rf tp i).2) = I9 at mp fs gF fg
  by_cases c15 : 15 ≤ kn tp i
  · have d3 := kk.mpr c15
    have mf := m_isFull n f h hd hD hlt hb
    by_cases cf : fullB tp i D = true
    · rw [line_full cf]
      rw [b2i_1 cf] at mf
      refine LR_er (I' := I9) (J' := J) ?_ fs (LG.g5 fg)
      simp only [eX12_readLine, kX12_readLine_0, kX12_readLine_20, kX12_readLine_24, x_no, x_cst, x_ldI, x_ldJ, x_ldA, x_stI, x_stJ, x_stA, x_inc, x_bin, x_un, x_i2l, x_bnJ, x_lshl, x_lcmp, x_dup, x_dp2, x_gI, x_gJ, x_gA, x_pI, x_pZ, x_pJ, x_pA, x_c0, x_c2, x_sw, x_cV, x_cS, x_rV, x_rI, x_rZ, x_rJ, x_mm, x_pop, msel, mpl, mvr, mnw, List.getElem?_cons_zero, List.getElem?_cons_succ, List.set_cons_zero, List.set_cons_succ, List.length_cons, List.length_nil, List.drop_succ_cons, List.drop_zero, List.take_succ_cons, List.take_zero, List.reverse_cons, List.reverse_nil, List.nil_append, List.cons_append, List.append_nil, List.map_cons, List.map_nil, List.sum_cons, List.sum_nil, Option.toList_some, Option.toList_none, x_bs, Value.category, decide_eq_true_eq, decide_true, decide_false, if_true, if_false, Bool.false_eq_true, and_self, and_true, true_and, true_or, or_true, not_true_eq_false, not_false_eq_true, ↓reduceIte, reduceCtorEq, Nat.reduceEqDiff, Nat.reduceAdd, Nat.reduceSub, Nat.reduceMul, Nat.reduceLT, Nat.reduceLeDiff, Nat.reduceBEq, Nat.le_refl, Nat.zero_le, Nat.lt_irrefl, beq_self_eq_true, Nat.succ_ne_zero, Option.some.injEq, Prod.mk.injEq, Int32.reduceLT, Int32.reduceLE, y_60, rt_60_0, rt_60_1, rt_60_11, rt_60_12, rt_60_13, rt_60_14, rt_60_15, rt_60_16, rt_60_17, rt_60_18, rt_60_19, rt_60_20, rt_60_21, rt_60_22, rt_60_23, rt_60_24, rt_60_25, rt_60_26, rt_60_27, rt_60_28, rt_60_29, rt_60_30, rt_60_39, rt_60_41, rt_60_42, rt_60_45, rt_60_46, rt_60_47, rt_60_49, rt_60_50, rt_60_51, rt_60_52, rt_60_53, rt_60_54, rt_60_55, rt_60_56, rt_60_59, rt_60_61, rt_60_62, al_63, as_63, al_64, as_64, al_65, as_65, al_66, as_66, al_67, as_67, al_68, as_68, al_69, as_69, al_70, as_70, al_71, as_71, al_72, as_72, al_73, as_73, al_74, as_74, al_75, as_75, al_76, as_76, al_78, as_78, al_79, as_79, al_80, as_80, al_81, as_81, al_82, as_82, al_83, as_83, al_84, as_84, al_85, as_85, al_86, as_86, al_87, as_87, al_88, as_88, al_89, as_89, al_90, as_90, al_91, as_91, al_92, as_92, al_93, as_93, al_94, as_94, al_95, as_95, al_96, as_96, al_97, as_97, al_98, as_98, al_61, as_61, al_62, as_62, al_99, as_99, al_82_0, as_82_0, al_83_32, as_83_32, al_83_33, as_83_33, ad0, ad8, ad16, ad24, ad_0, mu2, mu8, mu34, nI_add, nI_1, uI_mm, dvN, dvM, t8, d3, mf, q1, mp, gF]
    · rw [b2i_0 cf] at mf
      have hJ : J 60 10 = jN (wvt tp i) := h.2.1.2.2.2.2 (Or.inr c15)
      have gG := m_isGoodG n f h
      have d1 := DrM_65 hd (lt + 1)
      have r1 := RdM_u2 h (b := 65) (j := rb) (x := nI (lt + 1)) (by decide) (by decide)
      have g1 : LG rb I (u2 I 65 rb (nI (lt + 1))) := LG.w (by decide) rfl
      generalize hI1 : u2 I 65 rb (nI (lt + 1)) = I1 at d1 r1 g1
      obtain ⟨I2, J2, k1, k2, k3⟩ := m_goOnR hn f r1 (by omega)
      have dm2 := DrM_g d1 k3
      have lg2 : LG rb I I2 := g1.tr (LG.gf k3)
      have e32 := dm2.1.2
      have od := or_dt (dt D) hD.1
      have o16 := or16 _ od.2.2.2.2.2.2
      obtain ⟨l0, l2, l7, l8, l9, l10⟩ := WV_lit
      -- what runs up to the words
      have run : ∀ {x : Int64}, J 60 10 = x → ¬ x = 126943972648308 → FX12_readLine n [.ref 60] (mm I J f) = kX12_readLine_92 n [some (.ref 60), some (.long x), none] [] (mm I2 J2 f) := fun {x} hx hne => by
        have c0 : ¬ lg_cmp x 126943972648308 = 0 := fun z => hne ((lc0 _ _).mp z)
        simp only [eX12_readLine, kX12_readLine_0, kX12_readLine_24, x_no, x_cst, x_ldI, x_ldJ, x_ldA, x_stI, x_stJ, x_stA, x_inc, x_bin, x_un, x_i2l, x_bnJ, x_lshl, x_lcmp, x_dup, x_dp2, x_gI, x_gJ, x_gA, x_pI, x_pZ, x_pJ, x_pA, x_c0, x_c2, x_sw, x_cV, x_cS, x_rV, x_rI, x_rZ, x_rJ, x_mm, x_pop, msel, mpl, mvr, mnw, List.getElem?_cons_zero, List.getElem?_cons_succ, List.set_cons_zero, List.set_cons_succ, List.length_cons, List.length_nil, List.drop_succ_cons, List.drop_zero, List.take_succ_cons, List.take_zero, List.reverse_cons, List.reverse_nil, List.nil_append, List.cons_append, List.append_nil, List.map_cons, List.map_nil, List.sum_cons, List.sum_nil, Option.toList_some, Option.toList_none, x_bs, Value.category, decide_eq_true_eq, decide_true, decide_false, if_true, if_false, Bool.false_eq_true, and_self, and_true, true_and, true_or, or_true, not_true_eq_false, not_false_eq_true, ↓reduceIte, reduceCtorEq, Nat.reduceEqDiff, Nat.reduceAdd, Nat.reduceSub, Nat.reduceMul, Nat.reduceLT, Nat.reduceLeDiff, Nat.reduceBEq, Nat.le_refl, Nat.zero_le, Nat.lt_irrefl, beq_self_eq_true, Nat.succ_ne_zero, Option.some.injEq, Prod.mk.injEq, Int32.reduceLT, Int32.reduceLE, y_60, rt_60_0, rt_60_1, rt_60_11, rt_60_12, rt_60_13, rt_60_14, rt_60_15, rt_60_16, rt_60_17, rt_60_18, rt_60_19, rt_60_20, rt_60_21, rt_60_22, rt_60_23, rt_60_24, rt_60_25, rt_60_26, rt_60_27, rt_60_28, rt_60_29, rt_60_30, rt_60_39, rt_60_41, rt_60_42, rt_60_45, rt_60_46, rt_60_47, rt_60_49, rt_60_50, rt_60_51, rt_60_52, rt_60_53, rt_60_54, rt_60_55, rt_60_56, rt_60_59, rt_60_61, rt_60_62, al_63, as_63, al_64, as_64, al_65, as_65, al_66, as_66, al_67, as_67, al_68, as_68, al_69, as_69, al_70, as_70, al_71, as_71, al_72, as_72, al_73, as_73, al_74, as_74, al_75, as_75, al_76, as_76, al_78, as_78, al_79, as_79, al_80, as_80, al_81, as_81, al_82, as_82, al_83, as_83, al_84, as_84, al_85, as_85, al_86, as_86, al_87, as_87, al_88, as_88, al_89, as_89, al_90, as_90, al_91, as_91, al_92, as_92, al_93, as_93, al_94, as_94, al_95, as_95, al_96, as_96, al_97, as_97, al_98, as_98, al_61, as_61, al_62, as_62, al_99, as_99, al_82_0, as_82_0, al_83_32, as_83_32, al_83_33, as_83_33, ad0, ad8, ad16, ad24, ad_0, mu2, mu8, mu34, nI_add, nI_1, uI_mm, dvN, dvM, t8, d3, mf, gG, q1, h32, h2, h65, hI1, k1, hx, c0]
      refine LR_pre ?_ lg2
      unfold fullB at cf
      unfold lineP
      by_cases c : kn tp i = 15
      · rw [if_pos c] at cf ⊢
        have c0 : dt D = 0 := by simpa using cf
        rw [if_pos c0]
        have hx : J 60 10 = 126943972648308 := by rw [hJ, (wv_iff tp (Or.inr c15) (w := 0) (by decide)).mpr c]; exact l0
        have cz : lg_cmp 126943972648308 126943972648308 = 0 := by decide
        have rs : FX12_readLine n [.ref 60] (mm I J f) = kX12_readLine_67 n [some (.ref 60), some (.long 126943972648308), none] [.int 1, .ref 60, .int (nI rb), .ref 63] (mm I2 J2 f) := by
          simp only [eX12_readLine, kX12_readLine_0, kX12_readLine_24, x_no, x_cst, x_ldI, x_ldJ, x_ldA, x_stI, x_stJ, x_stA, x_inc, x_bin, x_un, x_i2l, x_bnJ, x_lshl, x_lcmp, x_dup, x_dp2, x_gI, x_gJ, x_gA, x_pI, x_pZ, x_pJ, x_pA, x_c0, x_c2, x_sw, x_cV, x_cS, x_rV, x_rI, x_rZ, x_rJ, x_mm, x_pop, msel, mpl, mvr, mnw, List.getElem?_cons_zero, List.getElem?_cons_succ, List.set_cons_zero, List.set_cons_succ, List.length_cons, List.length_nil, List.drop_succ_cons, List.drop_zero, List.take_succ_cons, List.take_zero, List.reverse_cons, List.reverse_nil, List.nil_append, List.cons_append, List.append_nil, List.map_cons, List.map_nil, List.sum_cons, List.sum_nil, Option.toList_some, Option.toList_none, x_bs, Value.category, decide_eq_true_eq, decide_true, decide_false, if_true, if_false, Bool.false_eq_true, and_self, and_true, true_and, true_or, or_true, not_true_eq_false, not_false_eq_true, ↓reduceIte, reduceCtorEq, Nat.reduceEqDiff, Nat.reduceAdd, Nat.reduceSub, Nat.reduceMul, Nat.reduceLT, Nat.reduceLeDiff, Nat.reduceBEq, Nat.le_refl, Nat.zero_le, Nat.lt_irrefl, beq_self_eq_true, Nat.succ_ne_zero, Option.some.injEq, Prod.mk.injEq, Int32.reduceLT, Int32.reduceLE, y_60, rt_60_0, rt_60_1, rt_60_11, rt_60_12, rt_60_13, rt_60_14, rt_60_15, rt_60_16, rt_60_17, rt_60_18, rt_60_19, rt_60_20, rt_60_21, rt_60_22, rt_60_23, rt_60_24, rt_60_25, rt_60_26, rt_60_27, rt_60_28, rt_60_29, rt_60_30, rt_60_39, rt_60_41, rt_60_42, rt_60_45, rt_60_46, rt_60_47, rt_60_49, rt_60_50, rt_60_51, rt_60_52, rt_60_53, rt_60_54, rt_60_55, rt_60_56, rt_60_59, rt_60_61, rt_60_62, al_63, as_63, al_64, as_64, al_65, as_65, al_66, as_66, al_67, as_67, al_68, as_68, al_69, as_69, al_70, as_70, al_71, as_71, al_72, as_72, al_73, as_73, al_74, as_74, al_75, as_75, al_76, as_76, al_78, as_78, al_79, as_79, al_80, as_80, al_81, as_81, al_82, as_82, al_83, as_83, al_84, as_84, al_85, as_85, al_86, as_86, al_87, as_87, al_88, as_88, al_89, as_89, al_90, as_90, al_91, as_91, al_92, as_92, al_93, as_93, al_94, as_94, al_95, as_95, al_96, as_96, al_97, as_97, al_98, as_98, al_61, as_61, al_62, as_62, al_99, as_99, al_82_0, as_82_0, al_83_32, as_83_32, al_83_33, as_83_33, ad0, ad8, ad16, ad24, ad_0, mu2, mu8, mu34, nI_add, nI_1, uI_mm, dvN, dvM, t8, d3, mf, gG, q1, h32, h2, h65, hI1, k1, hx, cz, e32]
        rw [rs]
        exact m_street hn f k2 dm2 hD
      rw [if_neg c] at cf ⊢
      by_cases c : kn tp i = 17
      · rw [if_pos c] at cf ⊢
        have c0 : (dc D).length < 8 := by simpa using cf
        rw [if_pos c0]
        have hx : J 60 10 = 6513010 := by rw [hJ, (wv_iff tp (Or.inr c15) (w := 2) (by decide)).mpr c]; exact l2
        rw [run hx (by decide)]
        exact m_carL hn f k2 dm2 hD c0
      rw [if_neg c] at cf ⊢
      by_cases c : kn tp i = 22
      · rw [if_pos c] at cf ⊢
        rw [if_neg cf]
        have hx : J 60 10 = 32492108151877235 := by rw [hJ, (wv_iff tp (Or.inr c15) (w := 7) (by decide)).mpr c]; exact l7
        refine m_ruleL hn f k2 dm2 hD (r := 0) (s := 1) (t := dt D ||| 128) (by decide) (by decide) o16.1 od.2.2.1 (w := 32492108151877235) (fun I' J' hr => ?_) (G := fun s => (dt D ||| 128, dC D, dR D, dc D, dU D + s.2.1, dB D, dd D, s.2.2, dW D)) (fun _ => rfl)
        have hr : FX12_readRule n [.ref 60, .int 0] (mm I2 J2 f) = some (none, mm I' J' f) := hr
        have cz : lg_cmp 32492108151877235 32492108151877235 = 0 := by decide
        rw [run hx (by decide), sk92 n f (by decide), ← sk167 (I := I') (J := J') n f (by decide), ← sk130 (I := I') (J := J') n f (by decide), ← sk117 (I := I') (J := J') n f (by decide)]
        simp only [kX12_readLine_104, x_no, x_cst, x_ldI, x_ldJ, x_ldA, x_stI, x_stJ, x_stA, x_inc, x_bin, x_un, x_i2l, x_bnJ, x_lshl, x_lcmp, x_dup, x_dp2, x_gI, x_gJ, x_gA, x_pI, x_pZ, x_pJ, x_pA, x_c0, x_c2, x_sw, x_cV, x_cS, x_rV, x_rI, x_rZ, x_rJ, x_mm, x_pop, msel, mpl, mvr, mnw, List.getElem?_cons_zero, List.getElem?_cons_succ, List.set_cons_zero, List.set_cons_succ, List.length_cons, List.length_nil, List.drop_succ_cons, List.drop_zero, List.take_succ_cons, List.take_zero, List.reverse_cons, List.reverse_nil, List.nil_append, List.cons_append, List.append_nil, List.map_cons, List.map_nil, List.sum_cons, List.sum_nil, Option.toList_some, Option.toList_none, x_bs, Value.category, decide_eq_true_eq, decide_true, decide_false, if_true, if_false, Bool.false_eq_true, and_self, and_true, true_and, true_or, or_true, not_true_eq_false, not_false_eq_true, ↓reduceIte, reduceCtorEq, Nat.reduceEqDiff, Nat.reduceAdd, Nat.reduceSub, Nat.reduceMul, Nat.reduceLT, Nat.reduceLeDiff, Nat.reduceBEq, Nat.le_refl, Nat.zero_le, Nat.lt_irrefl, beq_self_eq_true, Nat.succ_ne_zero, Option.some.injEq, Prod.mk.injEq, Int32.reduceLT, Int32.reduceLE, y_60, rt_60_0, rt_60_1, rt_60_11, rt_60_12, rt_60_13, rt_60_14, rt_60_15, rt_60_16, rt_60_17, rt_60_18, rt_60_19, rt_60_20, rt_60_21, rt_60_22, rt_60_23, rt_60_24, rt_60_25, rt_60_26, rt_60_27, rt_60_28, rt_60_29, rt_60_30, rt_60_39, rt_60_41, rt_60_42, rt_60_45, rt_60_46, rt_60_47, rt_60_49, rt_60_50, rt_60_51, rt_60_52, rt_60_53, rt_60_54, rt_60_55, rt_60_56, rt_60_59, rt_60_61, rt_60_62, al_63, as_63, al_64, as_64, al_65, as_65, al_66, as_66, al_67, as_67, al_68, as_68, al_69, as_69, al_70, as_70, al_71, as_71, al_72, as_72, al_73, as_73, al_74, as_74, al_75, as_75, al_76, as_76, al_78, as_78, al_79, as_79, al_80, as_80, al_81, as_81, al_82, as_82, al_83, as_83, al_84, as_84, al_85, as_85, al_86, as_86, al_87, as_87, al_88, as_88, al_89, as_89, al_90, as_90, al_91, as_91, al_92, as_92, al_93, as_93, al_94, as_94, al_95, as_95, al_96, as_96, al_97, as_97, al_98, as_98, al_61, as_61, al_62, as_62, al_99, as_99, al_82_0, as_82_0, al_83_32, as_83_32, al_83_33, as_83_33, ad0, ad8, ad16, ad24, ad_0, mu2, mu8, mu34, nI_add, nI_1, uI_mm, dvN, dvM, cz, hr]
      rw [if_neg c] at cf ⊢
      by_cases c : kn tp i = 23
      · rw [if_pos c] at cf ⊢
        rw [if_neg cf]
        have hx : J 60 10 = 512970880104 := by rw [hJ, (wv_iff tp (Or.inr c15) (w := 8) (by decide)).mpr c]; exact l8
        refine m_ruleL hn f k2 dm2 hD (r := 1) (s := 2) (t := dt D ||| 256) (by decide) (by decide) o16.2.1 od.2.2.2.1 (w := 512970880104) (fun I' J' hr => ?_) (G := fun s => (dt D ||| 256, dC D, dR D, dc D, dU D + s.2.1, dB D, dd D, dF D, s.2.2)) (fun _ => rfl)
        have hr : FX12_readRule n [.ref 60, .int 1] (mm I2 J2 f) = some (none, mm I' J' f) := hr
        have cz : lg_cmp 512970880104 512970880104 = 0 := by decide
        rw [run hx (by decide), sk92 n f (by decide), sk104 n f (by decide), ← sk167 (I := I') (J := J') n f (by decide), ← sk130 (I := I') (J := J') n f (by decide)]
        simp only [kX12_readLine_117, x_no, x_cst, x_ldI, x_ldJ, x_ldA, x_stI, x_stJ, x_stA, x_inc, x_bin, x_un, x_i2l, x_bnJ, x_lshl, x_lcmp, x_dup, x_dp2, x_gI, x_gJ, x_gA, x_pI, x_pZ, x_pJ, x_pA, x_c0, x_c2, x_sw, x_cV, x_cS, x_rV, x_rI, x_rZ, x_rJ, x_mm, x_pop, msel, mpl, mvr, mnw, List.getElem?_cons_zero, List.getElem?_cons_succ, List.set_cons_zero, List.set_cons_succ, List.length_cons, List.length_nil, List.drop_succ_cons, List.drop_zero, List.take_succ_cons, List.take_zero, List.reverse_cons, List.reverse_nil, List.nil_append, List.cons_append, List.append_nil, List.map_cons, List.map_nil, List.sum_cons, List.sum_nil, Option.toList_some, Option.toList_none, x_bs, Value.category, decide_eq_true_eq, decide_true, decide_false, if_true, if_false, Bool.false_eq_true, and_self, and_true, true_and, true_or, or_true, not_true_eq_false, not_false_eq_true, ↓reduceIte, reduceCtorEq, Nat.reduceEqDiff, Nat.reduceAdd, Nat.reduceSub, Nat.reduceMul, Nat.reduceLT, Nat.reduceLeDiff, Nat.reduceBEq, Nat.le_refl, Nat.zero_le, Nat.lt_irrefl, beq_self_eq_true, Nat.succ_ne_zero, Option.some.injEq, Prod.mk.injEq, Int32.reduceLT, Int32.reduceLE, y_60, rt_60_0, rt_60_1, rt_60_11, rt_60_12, rt_60_13, rt_60_14, rt_60_15, rt_60_16, rt_60_17, rt_60_18, rt_60_19, rt_60_20, rt_60_21, rt_60_22, rt_60_23, rt_60_24, rt_60_25, rt_60_26, rt_60_27, rt_60_28, rt_60_29, rt_60_30, rt_60_39, rt_60_41, rt_60_42, rt_60_45, rt_60_46, rt_60_47, rt_60_49, rt_60_50, rt_60_51, rt_60_52, rt_60_53, rt_60_54, rt_60_55, rt_60_56, rt_60_59, rt_60_61, rt_60_62, al_63, as_63, al_64, as_64, al_65, as_65, al_66, as_66, al_67, as_67, al_68, as_68, al_69, as_69, al_70, as_70, al_71, as_71, al_72, as_72, al_73, as_73, al_74, as_74, al_75, as_75, al_76, as_76, al_78, as_78, al_79, as_79, al_80, as_80, al_81, as_81, al_82, as_82, al_83, as_83, al_84, as_84, al_85, as_85, al_86, as_86, al_87, as_87, al_88, as_88, al_89, as_89, al_90, as_90, al_91, as_91, al_92, as_92, al_93, as_93, al_94, as_94, al_95, as_95, al_96, as_96, al_97, as_97, al_98, as_98, al_61, as_61, al_62, as_62, al_99, as_99, al_82_0, as_82_0, al_83_32, as_83_32, al_83_33, as_83_33, ad0, ad8, ad16, ad24, ad_0, mu2, mu8, mu34, nI_add, nI_1, uI_mm, dvN, dvM, cz, hr]
      rw [if_neg c] at cf ⊢
      by_cases c : kn tp i = 24
      · rw [if_pos c] at cf ⊢
        rw [if_neg cf]
        have hx : J 60 10 = 108243466677107 := by rw [hJ, (wv_iff tp (Or.inr c15) (w := 9) (by decide)).mpr c]; exact l9
        rw [run hx (by decide), sk92 n f (by decide), sk104 n f (by decide), sk117 n f (by decide)]
        exact m_breaks hn f k2 dm2 hD
      rw [if_neg c] at cf ⊢
      by_cases c : kn tp i = 25
      · rw [if_pos c] at cf ⊢
        rw [if_neg cf]
        have hx : J 60 10 = 1685217655 := by rw [hJ, (wv_iff tp (Or.inr c15) (w := 10) (by decide)).mpr c]; exact l10
        rw [run hx (by decide), sk92 n f (by decide), sk104 n f (by decide), sk117 n f (by decide), sk130 n f (by decide)]
        exact m_draw hn f k2 dm2 hD
      rw [if_neg c] at cf
      exact absurd rfl cf
  · have d3 : ¬ nI (mkk (kn tp i)) = 3 := fun z => c15 (kk.mp z)
    have cf : fullB tp i D = true := by
      unfold fullB
      rw [if_neg (by omega), if_neg (by omega), if_neg (by omega), if_neg (by omega), if_neg (by omega), if_neg (by omega)]
    rw [line_full cf]
    refine LR_er (I' := I9) (J' := J) ?_ fs (LG.g5 fg)
    simp only [eX12_readLine, kX12_readLine_0, kX12_readLine_20, kX12_readLine_24, x_no, x_cst, x_ldI, x_ldJ, x_ldA, x_stI, x_stJ, x_stA, x_inc, x_bin, x_un, x_i2l, x_bnJ, x_lshl, x_lcmp, x_dup, x_dp2, x_gI, x_gJ, x_gA, x_pI, x_pZ, x_pJ, x_pA, x_c0, x_c2, x_sw, x_cV, x_cS, x_rV, x_rI, x_rZ, x_rJ, x_mm, x_pop, msel, mpl, mvr, mnw, List.getElem?_cons_zero, List.getElem?_cons_succ, List.set_cons_zero, List.set_cons_succ, List.length_cons, List.length_nil, List.drop_succ_cons, List.drop_zero, List.take_succ_cons, List.take_zero, List.reverse_cons, List.reverse_nil, List.nil_append, List.cons_append, List.append_nil, List.map_cons, List.map_nil, List.sum_cons, List.sum_nil, Option.toList_some, Option.toList_none, x_bs, Value.category, decide_eq_true_eq, decide_true, decide_false, if_true, if_false, Bool.false_eq_true, and_self, and_true, true_and, true_or, or_true, not_true_eq_false, not_false_eq_true, ↓reduceIte, reduceCtorEq, Nat.reduceEqDiff, Nat.reduceAdd, Nat.reduceSub, Nat.reduceMul, Nat.reduceLT, Nat.reduceLeDiff, Nat.reduceBEq, Nat.le_refl, Nat.zero_le, Nat.lt_irrefl, beq_self_eq_true, Nat.succ_ne_zero, Option.some.injEq, Prod.mk.injEq, Int32.reduceLT, Int32.reduceLE, y_60, rt_60_0, rt_60_1, rt_60_11, rt_60_12, rt_60_13, rt_60_14, rt_60_15, rt_60_16, rt_60_17, rt_60_18, rt_60_19, rt_60_20, rt_60_21, rt_60_22, rt_60_23, rt_60_24, rt_60_25, rt_60_26, rt_60_27, rt_60_28, rt_60_29, rt_60_30, rt_60_39, rt_60_41, rt_60_42, rt_60_45, rt_60_46, rt_60_47, rt_60_49, rt_60_50, rt_60_51, rt_60_52, rt_60_53, rt_60_54, rt_60_55, rt_60_56, rt_60_59, rt_60_61, rt_60_62, al_63, as_63, al_64, as_64, al_65, as_65, al_66, as_66, al_67, as_67, al_68, as_68, al_69, as_69, al_70, as_70, al_71, as_71, al_72, as_72, al_73, as_73, al_74, as_74, al_75, as_75, al_76, as_76, al_78, as_78, al_79, as_79, al_80, as_80, al_81, as_81, al_82, as_82, al_83, as_83, al_84, as_84, al_85, as_85, al_86, as_86, al_87, as_87, al_88, as_88, al_89, as_89, al_90, as_90, al_91, as_91, al_92, as_92, al_93, as_93, al_94, as_94, al_95, as_95, al_96, as_96, al_97, as_97, al_98, as_98, al_61, as_61, al_62, as_62, al_99, as_99, al_82_0, as_82_0, al_83_32, as_83_32, al_83_33, as_83_33, ad0, ad8, ad16, ad24, ad_0, mu2, mu8, mu34, nI_add, nI_1, uI_mm, dvN, dvM, t8, d3, mp, gF]
end MLine3
