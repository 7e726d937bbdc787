/-! PURE: the class's Reader: a formula, whole -/
section PartC2
variable {n : Nat} {I : Nat → Nat → Int32} {tp : List Nat} {U f : Nat}
set_option maxHeartbeats 8000000 in
theorem p_negation (J : Nat → Nat → Int64) (hf : f = 18 ∨ f = 21) {P : List Value → mM → Option mR} {d a : Nat} (ha : a ≤ 7) (hP : a ≤ 6 → PSp n P J f tp U 2 (a + 1) (pP tp U d 2 (a + 1))) {s : XS} (h : XC I tp U f s) (hu : s.2.1 ≤ 30) (hU : U + s.2.1 ≤ 60) (hl : s.2.2.length ≤ 9 * s.2.1) (h28 : kn tp s.1 = 28) : PRes J f tp U I (FX5_negation n P [.ref 24, .int (nI a)] (mm I J f)) (pP tp U (d + 1) 2 a s) := by
  have eU : FX5_negation n P [.ref 24, .int (nI a)] (mm I J f) = kX5_negation_0 n P [some (.ref 24), some (.int (nI a))] [] (mm I J f) := rfl
  obtain ⟨yf, -, -⟩ := fm_y hf
  have z10 : ¬ (1 : Int32) = 0 := by decide
  have c6 : nI a ≤ 6 ↔ a ≤ 6 := nI_leI (b := 6) (by omega) (by decide)
  unfold pP
  rw [if_neg (by decide), if_pos ⟨rfl, h28⟩, eU]
  by_cases e2 : a ≤ 6
  · rw [if_pos e2]
    obtain ⟨w1, w2⟩ := XC_av hf h (by omega)
    have pa := (p_adv n J f h.1 (by omega)).1
    obtain ⟨m1, m2⟩ := hP e2 _ _ w1 hu hU hl
    have h2' : (.int 2 : Value) = .int (nI 2) := rfl
    cases hq : pP tp U d 2 (a + 1) (s.1 + 1, s.2.1, s.2.2) with
    | error j =>
      obtain ⟨I', k1, k2, k3⟩ := m1 j hq
      refine ⟨fun j' hj => ?_, fun s' hs => by cases hs⟩
      simp only [Except.error.injEq] at hj
      subst hj
      refine ⟨I', ?_, k2, w2.1.tr k3⟩
      have k1' : P [.ref 24, .int 2, .int (nI (a + 1))] (mm (avI I tp (s.1 + 1)) J f) = some (some (.int 0), mm I' J f) := k1
      simp only [kX5_negation_0, x_no, x_cst, x_ldI, x_ldJ, x_ldA, x_stI, x_stJ, x_stA, x_inc, x_bin, x_un, x_i2l, x_bnJ, x_lshl, x_lcmp, x_dup, x_dp2, x_gI, x_gJ, x_gA, x_pI, x_pZ, x_pJ, x_pA, x_c0, x_c2, x_sw, x_cV, x_cS, x_rV, x_rI, x_rZ, x_rJ, x_mm, x_pop, x_dv, x_al, x_as, x_alJ, x_asJ, x_len, msel, mpl, mvr, mnw, List.getElem?_cons_zero, List.getElem?_cons_succ, List.set_cons_zero, List.set_cons_succ, List.length_cons, List.length_nil, List.drop_succ_cons, List.drop_zero, List.take_succ_cons, List.take_zero, List.reverse_cons, List.reverse_nil, List.nil_append, List.cons_append, List.append_nil, List.map_cons, List.map_nil, List.sum_cons, List.sum_nil, Option.toList_some, Option.toList_none, x_bs, Value.category, decide_eq_true_eq, decide_true, decide_false, if_true, if_false, Bool.false_eq_true, and_self, and_true, true_and, true_or, or_true, not_true_eq_false, not_false_eq_true, ↓reduceIte, reduceCtorEq, Nat.reduceEqDiff, Nat.reduceAdd, Nat.reduceSub, Nat.reduceMul, Nat.reduceLT, Nat.reduceLeDiff, Nat.reduceBEq, Nat.le_refl, Nat.zero_le, Nat.lt_irrefl, beq_self_eq_true, Nat.succ_ne_zero, Option.some.injEq, Prod.mk.injEq, Int32.reduceLT, Int32.reduceLE, y_24, c6, e2, pa, nI_1, k1', not_true_eq_false]
    | ok s1 =>
      obtain ⟨I', k1, k2, k3⟩ := m2 s1 hq
      have hpo := pP_ok tp U d 2 (a + 1) _ _ (by omega) w1.1.2.2 hu hq
      obtain ⟨l1, l2⟩ := len_ok hpo hl
      obtain ⟨w3, w4⟩ := XC_ad hf k2 (by omega) (28, 0)
      refine ⟨fun j hj => (by cases hj), fun s' hs => ?_⟩
      cases hs
      refine ⟨_, ?_, w3, w2.tr (k3.tr w4)⟩
      have k1' : P [.ref 24, .int 2, .int (nI (a + 1))] (mm (avI I tp (s.1 + 1)) J f) = some (some (.int 1), mm I' J f) := k1
      have pad : FX1_add n [.ref f, .int (-28)] (mm I' J f) = some (none, mm (adI I' f s1.2.2.length (cc1 (28, 0))) J f) := p_addF n J hf k2.2.2.2.1 (by omega) (cc1 (28, 0))
      simp only [kX5_negation_0, x_no, x_cst, x_ldI, x_ldJ, x_ldA, x_stI, x_stJ, x_stA, x_inc, x_bin, x_un, x_i2l, x_bnJ, x_lshl, x_lcmp, x_dup, x_dp2, x_gI, x_gJ, x_gA, x_pI, x_pZ, x_pJ, x_pA, x_c0, x_c2, x_sw, x_cV, x_cS, x_rV, x_rI, x_rZ, x_rJ, x_mm, x_pop, x_dv, x_al, x_as, x_alJ, x_asJ, x_len, msel, mpl, mvr, mnw, List.getElem?_cons_zero, List.getElem?_cons_succ, List.set_cons_zero, List.set_cons_succ, List.length_cons, List.length_nil, List.drop_succ_cons, List.drop_zero, List.take_succ_cons, List.take_zero, List.reverse_cons, List.reverse_nil, List.nil_append, List.cons_append, List.append_nil, List.map_cons, List.map_nil, List.sum_cons, List.sum_nil, Option.toList_some, Option.toList_none, x_bs, Value.category, decide_eq_true_eq, decide_true, decide_false, if_true, if_false, Bool.false_eq_true, and_self, and_true, true_and, true_or, or_true, not_true_eq_false, not_false_eq_true, ↓reduceIte, reduceCtorEq, Nat.reduceEqDiff, Nat.reduceAdd, Nat.reduceSub, Nat.reduceMul, Nat.reduceLT, Nat.reduceLeDiff, Nat.reduceBEq, Nat.le_refl, Nat.zero_le, Nat.lt_irrefl, beq_self_eq_true, Nat.succ_ne_zero, Option.some.injEq, Prod.mk.injEq, Int32.reduceLT, Int32.reduceLE, y_24, rt_24_3, yf, c6, e2, pa, nI_1, k1', z10, pad]
  · rw [if_neg e2]
    refine ⟨fun j hj => ?_, fun s' hs => by cases hs⟩
    simp only [Except.error.injEq] at hj
    subst hj
    refine ⟨ftI I (rf tp s.1), ?_, ftI_ft _, XFe_ft⟩
    simp only [kX5_negation_0, x_no, x_cst, x_ldI, x_ldJ, x_ldA, x_stI, x_stJ, x_stA, x_inc, x_bin, x_un, x_i2l, x_bnJ, x_lshl, x_lcmp, x_dup, x_dp2, x_gI, x_gJ, x_gA, x_pI, x_pZ, x_pJ, x_pA, x_c0, x_c2, x_sw, x_cV, x_cS, x_rV, x_rI, x_rZ, x_rJ, x_mm, x_pop, x_dv, x_al, x_as, x_alJ, x_asJ, x_len, msel, mpl, mvr, mnw, List.getElem?_cons_zero, List.getElem?_cons_succ, List.set_cons_zero, List.set_cons_succ, List.length_cons, List.length_nil, List.drop_succ_cons, List.drop_zero, List.take_succ_cons, List.take_zero, List.reverse_cons, List.reverse_nil, List.nil_append, List.cons_append, List.append_nil, List.map_cons, List.map_nil, List.sum_cons, List.sum_nil, Option.toList_some, Option.toList_none, x_bs, Value.category, decide_eq_true_eq, decide_true, decide_false, if_true, if_false, Bool.false_eq_true, and_self, and_true, true_and, true_or, or_true, not_true_eq_false, not_false_eq_true, ↓reduceIte, reduceCtorEq, Nat.reduceEqDiff, Nat.reduceAdd, Nat.reduceSub, Nat.reduceMul, Nat.reduceLT, Nat.reduceLeDiff, Nat.reduceBEq, Nat.le_refl, Nat.zero_le, Nat.lt_irrefl, beq_self_eq_true, Nat.succ_ne_zero, Option.some.injEq, Prod.mk.injEq, Int32.reduceLT, Int32.reduceLE, y_24, c6, e2, p_refuse n J f h.1]
set_option maxHeartbeats 8000000 in
theorem p_ploop (hn : 300 < n) (J : Nat → Nat → Int64) (hf : f = 18 ∨ f = 21) {P : List Value → mM → Option mR} {l a : Nat} {g : XS → Except Nat XS} (hl4 : l ≤ 4) (ha : a ≤ 7) (hok : ∀ s s', s.1 ≤ zl tp → s.2.1 ≤ 30 → g s = .ok s' → POk tp U a s s') (hP : PSp n P J f tp U (l + 1) a g) : ∀ c m I s x4, c < m → c ≤ 60 → XC I tp U f s → s.2.1 ≤ 30 → U + s.2.1 ≤ 60 → s.2.2.length ≤ 9 * s.2.1 → PRes J f tp U I (mit (kX5_part_46 n P) m [some (.ref 24), some (.int (nI l)), some (.int (nI a)), some (.int (nI (60 - c))), x4] [] (mm I J f)) (pLoop tp g l c s) := by
  obtain ⟨yf, -, -⟩ := fm_y hf
  have z10 : ¬ (1 : Int32) = 0 := by decide
  intro c
  induction c with
  | zero =>
    intro m I s x4 hm _ h hu hU hl
    rw [show m = (m - 1) + 1 by omega, mit_succ]
    refine ⟨fun j hj => (by cases hj), fun s' hs => ?_⟩
    cases hs
    refine ⟨I, ?_, h, XFo.rf⟩
    have c1 : (60 : Int32) ≤ nI (60 - 0) := by decide
    simp only [kX5_part_46, kX5_part_109, x_no, x_cst, x_ldI, x_ldJ, x_ldA, x_stI, x_stJ, x_stA, x_inc, x_bin, x_un, x_i2l, x_bnJ, x_lshl, x_lcmp, x_dup, x_dp2, x_gI, x_gJ, x_gA, x_pI, x_pZ, x_pJ, x_pA, x_c0, x_c2, x_sw, x_cV, x_cS, x_rV, x_rI, x_rZ, x_rJ, x_mm, x_pop, x_dv, x_al, x_as, x_alJ, x_asJ, x_len, msel, mpl, mvr, mnw, List.getElem?_cons_zero, List.getElem?_cons_succ, List.set_cons_zero, List.set_cons_succ, List.length_cons, List.length_nil, List.drop_succ_cons, List.drop_zero, List.take_succ_cons, List.take_zero, List.reverse_cons, List.reverse_nil, List.nil_append, List.cons_append, List.append_nil, List.map_cons, List.map_nil, List.sum_cons, List.sum_nil, Option.toList_some, Option.toList_none, x_bs, Value.category, decide_eq_true_eq, decide_true, decide_false, if_true, if_false, Bool.false_eq_true, and_self, and_true, true_and, true_or, or_true, not_true_eq_false, not_false_eq_true, ↓reduceIte, reduceCtorEq, Nat.reduceEqDiff, Nat.reduceAdd, Nat.reduceSub, Nat.reduceMul, Nat.reduceLT, Nat.reduceLeDiff, Nat.reduceBEq, Nat.le_refl, Nat.zero_le, Nat.lt_irrefl, beq_self_eq_true, Nat.succ_ne_zero, Option.some.injEq, Prod.mk.injEq, Int32.reduceLT, Int32.reduceLE, c1]
  | succ c ih =>
    intro m I s x4 hm hc h hu hU hl
    rw [show m = (m - 1) + 1 by omega, mit_succ]
    have c1 : ¬ (60 : Int32) ≤ nI (60 - (c + 1)) := lit_nle (k := 60) rfl (by decide) (by omega)
    have h5 := h.1.2.1.2.1
    have hk33 := kn_rg tp s.1
    have plv := p_levelOf n hk33 (mm I J f)
    unfold pLoop
    by_cases e : lev (kn tp s.1) = l
    · rw [if_pos e]
      have hk2 : 2 ≤ kn tp s.1 ∧ ¬ kn tp s.1 = 0 := by have := lev_b (k := kn tp s.1) (by omega); unfold isB at this; omega
      rw [if_neg (by omega), e] at plv
      obtain ⟨w1, w2⟩ := XC_av hf h hk2.1
      have pa := (p_adv n J f h.1 hk2.1).1
      obtain ⟨m1, m2⟩ := hP _ _ w1 hu hU hl
      cases hq : g (s.1 + 1, s.2.1, s.2.2) with
      | error j =>
        obtain ⟨I', k1, k2, k3⟩ := m1 j hq
        refine ⟨fun j' hj => ?_, fun s' hs => by cases hs⟩
        simp only [Except.error.injEq] at hj
        subst hj
        refine ⟨I', ?_, k2, w2.1.tr k3⟩
        simp only [kX5_part_46, x_no, x_cst, x_ldI, x_ldJ, x_ldA, x_stI, x_stJ, x_stA, x_inc, x_bin, x_un, x_i2l, x_bnJ, x_lshl, x_lcmp, x_dup, x_dp2, x_gI, x_gJ, x_gA, x_pI, x_pZ, x_pJ, x_pA, x_c0, x_c2, x_sw, x_cV, x_cS, x_rV, x_rI, x_rZ, x_rJ, x_mm, x_pop, x_dv, x_al, x_as, x_alJ, x_asJ, x_len, msel, mpl, mvr, mnw, List.getElem?_cons_zero, List.getElem?_cons_succ, List.set_cons_zero, List.set_cons_succ, List.length_cons, List.length_nil, List.drop_succ_cons, List.drop_zero, List.take_succ_cons, List.take_zero, List.reverse_cons, List.reverse_nil, List.nil_append, List.cons_append, List.append_nil, List.map_cons, List.map_nil, List.sum_cons, List.sum_nil, Option.toList_some, Option.toList_none, x_bs, Value.category, decide_eq_true_eq, decide_true, decide_false, if_true, if_false, Bool.false_eq_true, and_self, and_true, true_and, true_or, or_true, not_true_eq_false, not_false_eq_true, ↓reduceIte, reduceCtorEq, Nat.reduceEqDiff, Nat.reduceAdd, Nat.reduceSub, Nat.reduceMul, Nat.reduceLT, Nat.reduceLeDiff, Nat.reduceBEq, Nat.le_refl, Nat.zero_le, Nat.lt_irrefl, beq_self_eq_true, Nat.succ_ne_zero, Option.some.injEq, Prod.mk.injEq, Int32.reduceLT, Int32.reduceLE, y_24, c1, h5, plv, pa, nI_1, k1, not_true_eq_false]
      | ok s1 =>
        obtain ⟨I', k1, k2, k3⟩ := m2 s1 hq
        have hpo := hok _ _ w1.1.2.2 hu hq
        obtain ⟨l1, l2⟩ := len_ok hpo hl
        obtain ⟨w3, w4⟩ := XC_ad hf k2 (by omega) (kn tp s.1, 0)
        have pad := p_addF n J hf k2.2.2.2.1 (show s1.2.2.length < 300 by omega) (cc1 (kn tp s.1, 0))
        have ec := cc1_neg hk2.2
        have e2c : nI l = 2 ↔ l = 2 := nI_eq (b := 2) (by omega) (by decide)
        by_cases e2 : l = 2
        · have e2' := e2c.mpr e2
          simp only [e2, if_true]
          refine ⟨fun j hj => (by cases hj), fun s' hs => ?_⟩
          cases hs
          refine ⟨_, ?_, w3, w2.tr (k3.tr w4)⟩
          rw [e2] at k1 plv
          have k1' : P [.ref 24, .int 3, .int (nI a)] (mm (avI I tp (s.1 + 1)) J f) = some (some (.int 1), mm I' J f) := k1
          simp only [kX5_part_46, kX5_part_93, x_no, x_cst, x_ldI, x_ldJ, x_ldA, x_stI, x_stJ, x_stA, x_inc, x_bin, x_un, x_i2l, x_bnJ, x_lshl, x_lcmp, x_dup, x_dp2, x_gI, x_gJ, x_gA, x_pI, x_pZ, x_pJ, x_pA, x_c0, x_c2, x_sw, x_cV, x_cS, x_rV, x_rI, x_rZ, x_rJ, x_mm, x_pop, x_dv, x_al, x_as, x_alJ, x_asJ, x_len, msel, mpl, mvr, mnw, List.getElem?_cons_zero, List.getElem?_cons_succ, List.set_cons_zero, List.set_cons_succ, List.length_cons, List.length_nil, List.drop_succ_cons, List.drop_zero, List.take_succ_cons, List.take_zero, List.reverse_cons, List.reverse_nil, List.nil_append, List.cons_append, List.append_nil, List.map_cons, List.map_nil, List.sum_cons, List.sum_nil, Option.toList_some, Option.toList_none, x_bs, Value.category, decide_eq_true_eq, decide_true, decide_false, if_true, if_false, Bool.false_eq_true, and_self, and_true, true_and, true_or, or_true, not_true_eq_false, not_false_eq_true, ↓reduceIte, reduceCtorEq, Nat.reduceEqDiff, Nat.reduceAdd, Nat.reduceSub, Nat.reduceMul, Nat.reduceLT, Nat.reduceLeDiff, Nat.reduceBEq, Nat.le_refl, Nat.zero_le, Nat.lt_irrefl, beq_self_eq_true, Nat.succ_ne_zero, Option.some.injEq, Prod.mk.injEq, Int32.reduceLT, Int32.reduceLE, y_24, rt_24_3, yf, c1, h5, plv, pa, show nI 2 = 2 from rfl, show (2 : Int32) + 1 = 3 by decide, k1', z10, ec, pad]
        · simp only [e2, if_false]
          have hrec := ih (m - 1) (adI I' f s1.2.2.length (cc1 (kn tp s.1, 0))) (s1.1, s1.2.1, s1.2.2 ++ [(kn tp s.1, 0)]) (some (.int (nI (kn tp s.1)))) (by omega) (by omega) w3 hpo.2.2.2.1 hpo.2.2.2.2.1 (by simp only [List.length_append, List.length_cons, List.length_nil]; omega)
          have estep : kX5_part_46 n P (mit (kX5_part_46 n P) (m - 1)) [some (.ref 24), some (.int (nI l)), some (.int (nI a)), some (.int (nI (60 - (c + 1)))), x4] [] (mm I J f) = mit (kX5_part_46 n P) (m - 1) [some (.ref 24), some (.int (nI l)), some (.int (nI a)), some (.int (nI (60 - c))), some (.int (nI (kn tp s.1)))] [] (mm (adI I' f s1.2.2.length (cc1 (kn tp s.1, 0))) J f) := by
            have e60 : 60 - (c + 1) + 1 = 60 - c := by omega
            simp only [kX5_part_46, kX5_part_93, x_no, x_cst, x_ldI, x_ldJ, x_ldA, x_stI, x_stJ, x_stA, x_inc, x_bin, x_un, x_i2l, x_bnJ, x_lshl, x_lcmp, x_dup, x_dp2, x_gI, x_gJ, x_gA, x_pI, x_pZ, x_pJ, x_pA, x_c0, x_c2, x_sw, x_cV, x_cS, x_rV, x_rI, x_rZ, x_rJ, x_mm, x_pop, x_dv, x_al, x_as, x_alJ, x_asJ, x_len, msel, mpl, mvr, mnw, List.getElem?_cons_zero, List.getElem?_cons_succ, List.set_cons_zero, List.set_cons_succ, List.length_cons, List.length_nil, List.drop_succ_cons, List.drop_zero, List.take_succ_cons, List.take_zero, List.reverse_cons, List.reverse_nil, List.nil_append, List.cons_append, List.append_nil, List.map_cons, List.map_nil, List.sum_cons, List.sum_nil, Option.toList_some, Option.toList_none, x_bs, Value.category, decide_eq_true_eq, decide_true, decide_false, if_true, if_false, Bool.false_eq_true, and_self, and_true, true_and, true_or, or_true, not_true_eq_false, not_false_eq_true, ↓reduceIte, reduceCtorEq, Nat.reduceEqDiff, Nat.reduceAdd, Nat.reduceSub, Nat.reduceMul, Nat.reduceLT, Nat.reduceLeDiff, Nat.reduceBEq, Nat.le_refl, Nat.zero_le, Nat.lt_irrefl, beq_self_eq_true, Nat.succ_ne_zero, Option.some.injEq, Prod.mk.injEq, Int32.reduceLT, Int32.reduceLE, y_24, rt_24_3, yf, c1, h5, plv, pa, nI_1, k1, z10, ec, pad, e2c, e2, e60]
          rw [estep]
          obtain ⟨r1, r2⟩ := hrec
          refine ⟨fun j hj => ?_, fun s' hs => ?_⟩
          · obtain ⟨I2, q1, q2, q3⟩ := r1 j hj
            exact ⟨I2, q1, q2, w2.1.tr (k3.1.tr (w4.1.tr q3))⟩
          · obtain ⟨I2, q1, q2, q3⟩ := r2 s' hs
            exact ⟨I2, q1, q2, w2.tr (k3.tr (w4.tr q3))⟩
    · rw [if_neg e]
      refine ⟨fun j hj => (by cases hj), fun s' hs => ?_⟩
      cases hs
      refine ⟨I, ?_, h, XFo.rf⟩
      have hne : ¬ (if lev (kn tp s.1) = 9 then (-1 : Int32) else nI (lev (kn tp s.1))) = nI l := by
        split
        · intro z
          exact nI_n1 (show l < 2 ^ 31 by omega) z.symm
        · rename_i h9
          have hlv : lev (kn tp s.1) ≤ 9 := by
            unfold lev
            split
            · omega
            split
            · omega
            split
            · omega
            split
            · omega
            split <;> omega
          rw [nI_eq (by omega) (by omega)]; exact e
      simp only [kX5_part_46, kX5_part_109, x_no, x_cst, x_ldI, x_ldJ, x_ldA, x_stI, x_stJ, x_stA, x_inc, x_bin, x_un, x_i2l, x_bnJ, x_lshl, x_lcmp, x_dup, x_dp2, x_gI, x_gJ, x_gA, x_pI, x_pZ, x_pJ, x_pA, x_c0, x_c2, x_sw, x_cV, x_cS, x_rV, x_rI, x_rZ, x_rJ, x_mm, x_pop, x_dv, x_al, x_as, x_alJ, x_asJ, x_len, msel, mpl, mvr, mnw, List.getElem?_cons_zero, List.getElem?_cons_succ, List.set_cons_zero, List.set_cons_succ, List.length_cons, List.length_nil, List.drop_succ_cons, List.drop_zero, List.take_succ_cons, List.take_zero, List.reverse_cons, List.reverse_nil, List.nil_append, List.cons_append, List.append_nil, List.map_cons, List.map_nil, List.sum_cons, List.sum_nil, Option.toList_some, Option.toList_none, x_bs, Value.category, decide_eq_true_eq, decide_true, decide_false, if_true, if_false, Bool.false_eq_true, and_self, and_true, true_and, true_or, or_true, not_true_eq_false, not_false_eq_true, ↓reduceIte, reduceCtorEq, Nat.reduceEqDiff, Nat.reduceAdd, Nat.reduceSub, Nat.reduceMul, Nat.reduceLT, Nat.reduceLeDiff, Nat.reduceBEq, Nat.le_refl, Nat.zero_le, Nat.lt_irrefl, beq_self_eq_true, Nat.succ_ne_zero, Option.some.injEq, Prod.mk.injEq, Int32.reduceLT, Int32.reduceLE, y_24, c1, h5, plv, hne]
set_option maxHeartbeats 8000000 in
theorem p_part (hn : 300 < n) (J : Nat → Nat → Int64) (hf : f = 18 ∨ f = 21) : ∀ d l a, l ≤ 5 → a ≤ 7 → 6 * (8 - a) ≤ d + l → PSp n (FX5_partD n d) J f tp U l a (pP tp U d l a) := by
  have z10 : ¬ (1 : Int32) = 0 := by decide
  intro d
  induction d with
  | zero => intro l a hl ha hd; omega
  | succ d ih =>
    intro l a hl ha hd I s h hu hU hlen
    have eP : FX5_partD n (d + 1) [.ref 24, .int (nI l), .int (nI a)] (mm I J f) = kX5_part_0 n (FX5_partD n d) [some (.ref 24), some (.int (nI l)), some (.int (nI a)), none, none] [] (mm I J f) := rfl
    rw [eP]
    have c5 : nI l < 5 ↔ l < 5 := nI_ltI (b := 5) (by omega) (by decide)
    have c2 : nI l = 2 ↔ l = 2 := nI_eq (b := 2) (by omega) (by decide)
    have h5 := h.1.2.1.2.1
    have hk33 := kn_rg tp s.1
    have c28 : nI (kn tp s.1) = 28 ↔ kn tp s.1 = 28 := nI_eq (b := 28) (by omega) (by decide)
    have rz : ∀ x : Int32, (x = 0 ∨ x = 1) → ∀ L μ, i_rZ L [.int x] μ = some (some (.int x), μ) := fun x hx L μ => by rw [x_rZ, if_pos hx]
    by_cases e5 : l < 5
    · by_cases e1 : l = 2 ∧ kn tp s.1 = 28
      · obtain ⟨rfl, e28⟩ := e1
        have hneg := p_negation (n := n) J hf ha (fun h6 => ih 2 (a + 1) (by omega) (by omega) (by omega)) h hu hU hlen e28
        have e28' := c28.mpr e28
        have h22 : nI 2 = 2 := rfl
        have z25 : (2 : Int32) < 5 := by decide
        have head : kX5_part_0 n (FX5_partD n d) [some (.ref 24), some (.int (nI 2)), some (.int (nI a)), none, none] [] (mm I J f) = (FX5_negation n (FX5_partD n d) [.ref 24, .int (nI a)] (mm I J f)).bind (fun q => i_rZ [some (.ref 24), some (.int 2), some (.int (nI a)), none, none] (q.1.toList ++ []) q.2) := by
          simp only [kX5_part_0, x_no, x_cst, x_ldI, x_ldJ, x_ldA, x_stI, x_stJ, x_stA, x_inc, x_bin, x_un, x_i2l, x_bnJ, x_lshl, x_lcmp, x_dup, x_dp2, x_gI, x_gJ, x_gA, x_pI, x_pZ, x_pJ, x_pA, x_c0, x_c2, x_sw, x_cV, x_cS, x_rV, x_rI, x_rZ, x_rJ, x_mm, x_pop, x_dv, x_al, x_as, x_alJ, x_asJ, x_len, msel, mpl, mvr, mnw, List.getElem?_cons_zero, List.getElem?_cons_succ, List.set_cons_zero, List.set_cons_succ, List.length_cons, List.length_nil, List.drop_succ_cons, List.drop_zero, List.take_succ_cons, List.take_zero, List.reverse_cons, List.reverse_nil, List.nil_append, List.cons_append, List.append_nil, List.map_cons, List.map_nil, List.sum_cons, List.sum_nil, Option.toList_some, Option.toList_none, x_bs, Value.category, decide_eq_true_eq, decide_true, decide_false, if_true, if_false, Bool.false_eq_true, and_self, and_true, true_and, true_or, or_true, not_true_eq_false, not_false_eq_true, ↓reduceIte, reduceCtorEq, Nat.reduceEqDiff, Nat.reduceAdd, Nat.reduceSub, Nat.reduceMul, Nat.reduceLT, Nat.reduceLeDiff, Nat.reduceBEq, Nat.le_refl, Nat.zero_le, Nat.lt_irrefl, beq_self_eq_true, Nat.succ_ne_zero, Option.some.injEq, Prod.mk.injEq, Int32.reduceLT, Int32.reduceLE, y_24, h22, z25, h5, e28']
        rw [head]
        obtain ⟨m1, m2⟩ := hneg
        refine ⟨fun j hj => ?_, fun s' hs => ?_⟩
        · obtain ⟨I', k1, k2, k3⟩ := m1 j hj
          exact ⟨I', by rw [k1]; simp only [x_bs, Option.toList_some, List.append_nil, x_rZ, true_or, or_true, ↓reduceIte], k2, k3⟩
        · obtain ⟨I', k1, k2, k3⟩ := m2 s' hs
          exact ⟨I', by rw [k1]; simp only [x_bs, Option.toList_some, List.append_nil, x_rZ, true_or, or_true, ↓reduceIte], k2, k3⟩
      · have head : kX5_part_0 n (FX5_partD n d) [some (.ref 24), some (.int (nI l)), some (.int (nI a)), none, none] [] (mm I J f) = kX5_part_31 n (FX5_partD n d) [some (.ref 24), some (.int (nI l)), some (.int (nI a)), none, none] [] (mm I J f) := by
          by_cases e2 : l = 2
          · have e3 : ¬ kn tp s.1 = 28 := fun z => e1 ⟨e2, z⟩
            have e2' := c2.mpr e2
            simp only [kX5_part_0, x_no, x_cst, x_ldI, x_ldJ, x_ldA, x_stI, x_stJ, x_stA, x_inc, x_bin, x_un, x_i2l, x_bnJ, x_lshl, x_lcmp, x_dup, x_dp2, x_gI, x_gJ, x_gA, x_pI, x_pZ, x_pJ, x_pA, x_c0, x_c2, x_sw, x_cV, x_cS, x_rV, x_rI, x_rZ, x_rJ, x_mm, x_pop, x_dv, x_al, x_as, x_alJ, x_asJ, x_len, msel, mpl, mvr, mnw, List.getElem?_cons_zero, List.getElem?_cons_succ, List.set_cons_zero, List.set_cons_succ, List.length_cons, List.length_nil, List.drop_succ_cons, List.drop_zero, List.take_succ_cons, List.take_zero, List.reverse_cons, List.reverse_nil, List.nil_append, List.cons_append, List.append_nil, List.map_cons, List.map_nil, List.sum_cons, List.sum_nil, Option.toList_some, Option.toList_none, x_bs, Value.category, decide_eq_true_eq, decide_true, decide_false, if_true, if_false, Bool.false_eq_true, and_self, and_true, true_and, true_or, or_true, not_true_eq_false, not_false_eq_true, ↓reduceIte, reduceCtorEq, Nat.reduceEqDiff, Nat.reduceAdd, Nat.reduceSub, Nat.reduceMul, Nat.reduceLT, Nat.reduceLeDiff, Nat.reduceBEq, Nat.le_refl, Nat.zero_le, Nat.lt_irrefl, beq_self_eq_true, Nat.succ_ne_zero, Option.some.injEq, Prod.mk.injEq, Int32.reduceLT, Int32.reduceLE, y_24, c5, e5, e2', h5, c28, e3]
          · simp only [kX5_part_0, x_no, x_cst, x_ldI, x_ldJ, x_ldA, x_stI, x_stJ, x_stA, x_inc, x_bin, x_un, x_i2l, x_bnJ, x_lshl, x_lcmp, x_dup, x_dp2, x_gI, x_gJ, x_gA, x_pI, x_pZ, x_pJ, x_pA, x_c0, x_c2, x_sw, x_cV, x_cS, x_rV, x_rI, x_rZ, x_rJ, x_mm, x_pop, x_dv, x_al, x_as, x_alJ, x_asJ, x_len, msel, mpl, mvr, mnw, List.getElem?_cons_zero, List.getElem?_cons_succ, List.set_cons_zero, List.set_cons_succ, List.length_cons, List.length_nil, List.drop_succ_cons, List.drop_zero, List.take_succ_cons, List.take_zero, List.reverse_cons, List.reverse_nil, List.nil_append, List.cons_append, List.append_nil, List.map_cons, List.map_nil, List.sum_cons, List.sum_nil, Option.toList_some, Option.toList_none, x_bs, Value.category, decide_eq_true_eq, decide_true, decide_false, if_true, if_false, Bool.false_eq_true, and_self, and_true, true_and, true_or, or_true, not_true_eq_false, not_false_eq_true, ↓reduceIte, reduceCtorEq, Nat.reduceEqDiff, Nat.reduceAdd, Nat.reduceSub, Nat.reduceMul, Nat.reduceLT, Nat.reduceLeDiff, Nat.reduceBEq, Nat.le_refl, Nat.zero_le, Nat.lt_irrefl, beq_self_eq_true, Nat.succ_ne_zero, Option.some.injEq, Prod.mk.injEq, Int32.reduceLT, Int32.reduceLE, y_24, c5, e5, c2, e2]
        rw [head]
        have hrec := ih (l + 1) a (by omega) ha (by omega)
        obtain ⟨m1, m2⟩ := hrec I s h hu hU hlen
        have en : ∀ d', pP tp U (d' + 1) l a s = match pP tp U d' (l + 1) a s with
            | .error j => .error j
            | .ok s' => pLoop tp (pP tp U d' (l + 1) a) l 60 s' := fun d' => by
          rw [pP, if_neg (by omega), if_neg e1]
          cases pP tp U d' (l + 1) a s <;> rfl
        rw [en]
        cases hq : pP tp U d (l + 1) a s with
        | error j =>
          obtain ⟨I', k1, k2, k3⟩ := m1 j hq
          refine ⟨fun j' hj => ?_, fun s' hs => by cases hs⟩
          simp only [Except.error.injEq] at hj
          subst hj
          refine ⟨I', ?_, k2, k3⟩
          simp only [kX5_part_31, x_no, x_cst, x_ldI, x_ldJ, x_ldA, x_stI, x_stJ, x_stA, x_inc, x_bin, x_un, x_i2l, x_bnJ, x_lshl, x_lcmp, x_dup, x_dp2, x_gI, x_gJ, x_gA, x_pI, x_pZ, x_pJ, x_pA, x_c0, x_c2, x_sw, x_cV, x_cS, x_rV, x_rI, x_rZ, x_rJ, x_mm, x_pop, x_dv, x_al, x_as, x_alJ, x_asJ, x_len, msel, mpl, mvr, mnw, List.getElem?_cons_zero, List.getElem?_cons_succ, List.set_cons_zero, List.set_cons_succ, List.length_cons, List.length_nil, List.drop_succ_cons, List.drop_zero, List.take_succ_cons, List.take_zero, List.reverse_cons, List.reverse_nil, List.nil_append, List.cons_append, List.append_nil, List.map_cons, List.map_nil, List.sum_cons, List.sum_nil, Option.toList_some, Option.toList_none, x_bs, Value.category, decide_eq_true_eq, decide_true, decide_false, if_true, if_false, Bool.false_eq_true, and_self, and_true, true_and, true_or, or_true, not_true_eq_false, not_false_eq_true, ↓reduceIte, reduceCtorEq, Nat.reduceEqDiff, Nat.reduceAdd, Nat.reduceSub, Nat.reduceMul, Nat.reduceLT, Nat.reduceLeDiff, Nat.reduceBEq, Nat.le_refl, Nat.zero_le, Nat.lt_irrefl, beq_self_eq_true, Nat.succ_ne_zero, Option.some.injEq, Prod.mk.injEq, Int32.reduceLT, Int32.reduceLE, y_24, nI_1, k1, not_true_eq_false]
        | ok s1 =>
          obtain ⟨I', k1, k2, k3⟩ := m2 s1 hq
          have hpo := pP_ok tp U d (l + 1) a _ _ ha h.1.2.2 hu hq
          obtain ⟨l1, l2⟩ := len_ok hpo hlen
          have hlp := p_ploop hn J hf (g := pP tp U d (l + 1) a) (l := l) (by omega) ha (fun s s' h1 h2 h3 => pP_ok tp U d (l + 1) a s s' ha h1 h2 h3) hrec 60 n I' s1 none (by omega) (Nat.le_refl _) k2 hpo.2.2.2.1 hpo.2.2.2.2.1 (by omega)
          have estep : kX5_part_31 n (FX5_partD n d) [some (.ref 24), some (.int (nI l)), some (.int (nI a)), none, none] [] (mm I J f) = mit (kX5_part_46 n (FX5_partD n d)) n [some (.ref 24), some (.int (nI l)), some (.int (nI a)), some (.int (nI (60 - 60))), none] [] (mm I' J f) := by
            have e0 : nI (60 - 60) = 0 := rfl
            rw [e0]
            simp only [kX5_part_31, x_no, x_cst, x_ldI, x_ldJ, x_ldA, x_stI, x_stJ, x_stA, x_inc, x_bin, x_un, x_i2l, x_bnJ, x_lshl, x_lcmp, x_dup, x_dp2, x_gI, x_gJ, x_gA, x_pI, x_pZ, x_pJ, x_pA, x_c0, x_c2, x_sw, x_cV, x_cS, x_rV, x_rI, x_rZ, x_rJ, x_mm, x_pop, x_dv, x_al, x_as, x_alJ, x_asJ, x_len, msel, mpl, mvr, mnw, List.getElem?_cons_zero, List.getElem?_cons_succ, List.set_cons_zero, List.set_cons_succ, List.length_cons, List.length_nil, List.drop_succ_cons, List.drop_zero, List.take_succ_cons, List.take_zero, List.reverse_cons, List.reverse_nil, List.nil_append, List.cons_append, List.append_nil, List.map_cons, List.map_nil, List.sum_cons, List.sum_nil, Option.toList_some, Option.toList_none, x_bs, Value.category, decide_eq_true_eq, decide_true, decide_false, if_true, if_false, Bool.false_eq_true, and_self, and_true, true_and, true_or, or_true, not_true_eq_false, not_false_eq_true, ↓reduceIte, reduceCtorEq, Nat.reduceEqDiff, Nat.reduceAdd, Nat.reduceSub, Nat.reduceMul, Nat.reduceLT, Nat.reduceLeDiff, Nat.reduceBEq, Nat.le_refl, Nat.zero_le, Nat.lt_irrefl, beq_self_eq_true, Nat.succ_ne_zero, Option.some.injEq, Prod.mk.injEq, Int32.reduceLT, Int32.reduceLE, y_24, nI_1, k1, z10]
          rw [estep]
          obtain ⟨r1, r2⟩ := hlp
          refine ⟨fun j hj => ?_, fun s' hs => ?_⟩
          · obtain ⟨I2, q1, q2, q3⟩ := r1 j hj
            exact ⟨I2, q1, q2, k3.1.tr q3⟩
          · obtain ⟨I2, q1, q2, q3⟩ := r2 s' hs
            exact ⟨I2, q1, q2, k3.tr q3⟩
    · have el : l = 5 := by omega
      subst el
      have hun := p_unit hn J hf ha (fun h6 => ih 0 (a + 1) (by omega) (by omega) (by omega)) h hu hU hlen
      have h55 : ¬ nI 5 < 5 := by decide
      have head : kX5_part_0 n (FX5_partD n d) [some (.ref 24), some (.int (nI 5)), some (.int (nI a)), none, none] [] (mm I J f) = (FX5_unit n (FX5_partD n d) [.ref 24, .int (nI a)] (mm I J f)).bind (fun q => i_rZ [some (.ref 24), some (.int (nI 5)), some (.int (nI a)), none, none] (q.1.toList ++ []) q.2) := by
        simp only [kX5_part_0, x_no, x_cst, x_ldI, x_ldJ, x_ldA, x_stI, x_stJ, x_stA, x_inc, x_bin, x_un, x_i2l, x_bnJ, x_lshl, x_lcmp, x_dup, x_dp2, x_gI, x_gJ, x_gA, x_pI, x_pZ, x_pJ, x_pA, x_c0, x_c2, x_sw, x_cV, x_cS, x_rV, x_rI, x_rZ, x_rJ, x_mm, x_pop, x_dv, x_al, x_as, x_alJ, x_asJ, x_len, msel, mpl, mvr, mnw, List.getElem?_cons_zero, List.getElem?_cons_succ, List.set_cons_zero, List.set_cons_succ, List.length_cons, List.length_nil, List.drop_succ_cons, List.drop_zero, List.take_succ_cons, List.take_zero, List.reverse_cons, List.reverse_nil, List.nil_append, List.cons_append, List.append_nil, List.map_cons, List.map_nil, List.sum_cons, List.sum_nil, Option.toList_some, Option.toList_none, x_bs, Value.category, decide_eq_true_eq, decide_true, decide_false, if_true, if_false, Bool.false_eq_true, and_self, and_true, true_and, true_or, or_true, not_true_eq_false, not_false_eq_true, ↓reduceIte, reduceCtorEq, Nat.reduceEqDiff, Nat.reduceAdd, Nat.reduceSub, Nat.reduceMul, Nat.reduceLT, Nat.reduceLeDiff, Nat.reduceBEq, Nat.le_refl, Nat.zero_le, Nat.lt_irrefl, beq_self_eq_true, Nat.succ_ne_zero, Option.some.injEq, Prod.mk.injEq, Int32.reduceLT, Int32.reduceLE, y_24, h55]
      rw [head]
      obtain ⟨m1, m2⟩ := hun
      refine ⟨fun j hj => ?_, fun s' hs => ?_⟩
      · obtain ⟨I', k1, k2, k3⟩ := m1 j hj
        exact ⟨I', by rw [k1]; simp only [x_bs, Option.toList_some, List.append_nil, x_rZ, true_or, or_true, ↓reduceIte], k2, k3⟩
      · obtain ⟨I', k1, k2, k3⟩ := m2 s' hs
        exact ⟨I', by rw [k1]; simp only [x_bs, Option.toList_some, List.append_nil, x_rZ, true_or, or_true, ↓reduceIte], k2, k3⟩
end PartC2
