/-! PURE: the class: heir, finest, fullest, odds, law -/
section Best
variable {n : Nat} {I : Nat → Nat → Int32} {T : TA} {S : SA}
def heiP (T : TA) (S : SA) (g : Nat) : Int32 := priceM T S (nI (manyA T S) - 1) (fun j => decide (¬ j = g) && inA T S j)
/-- whose going leaves least, among those below k, and how much -/
def hei (T : TA) (S : SA) : Nat → Option Nat × Int32
  | 0 => (none, 0)
  | j + 1 => if inA T S j = true ∧ ((hei T S j).1 = none ∨ heiP T S j < (hei T S j).2) then (some j, heiP T S j) else hei T S j
theorem ffI_s (j : Nat) : ffI (some j) = nI j := rfl
theorem ffI_n1 {x : Option Nat} {k : Nat} (h : ∀ v, x = some v → v < k) (hk : k < 2 ^ 31) : ffI x = -1 ↔ x = none := by
  cases x with
  | none => simp [ffI]
  | some v =>
    have := h v rfl
    simp only [ffI, reduceCtorEq, iff_false]
    exact nI_n1 (by omega)
theorem hei_lt (T : TA) (S : SA) : ∀ k v, (hei T S k).1 = some v → v < k := by
  intro k
  induction k with
  | zero => intro v h; cases h
  | succ k ih =>
    intro v h
    unfold hei at h
    split at h
    · cases h; omega
    · have := ih v h; omega
set_option maxHeartbeats 4000000 in
theorem c_heir (hn : 300 < n) (J : Nat → Nat → Int64) (f : Nat) (o : SO I 29 T S) : ∃ I', FX11_heir n [.ref 0] (mm I J f) = some (some (.int (ffI (hei T S 8).1)), mm I' J f) ∧ FrO I I' := by
  simp only [eX11_heir, kX11_heir_0, i_cst, i_ldI, i_ldJ, i_ldA, i_stI, i_stJ, i_stA, i_inc, i_bin, i_dv, i_un, i_i2l, i_bnJ, i_lshl, i_lcmp, i_dup, i_dp2, i_gI, i_gJ, i_gA, i_pI, i_pZ, i_pJ, i_pA, i_al, i_as, i_alJ, i_asJ, i_len, i_c0, i_c2, i_sw, msel, i_cV, i_cS, i_rV, i_rI, i_rZ, i_rJ, i_mm, i_pop, i_no, mpl, mvr, mnw, List.getElem?_cons_zero, List.getElem?_cons_succ, List.set_cons_zero, List.set_cons_succ, List.length_cons, List.length_nil, List.drop_succ_cons, List.drop_zero, List.take_succ_cons, List.take_zero, List.reverse_cons, List.reverse_nil, List.nil_append, List.cons_append, List.append_nil, List.map_cons, List.map_nil, List.sum_cons, List.sum_nil, Option.toList_some, Option.toList_none, Option.bind_some, Value.category, decide_eq_true_eq, decide_true, decide_false, if_true, if_false, Bool.false_eq_true, and_self, and_true, true_and, true_or, or_true, not_true_eq_false, not_false_eq_true, ↓reduceIte, reduceCtorEq, Nat.reduceEqDiff, Nat.reduceAdd, Nat.reduceSub, Nat.reduceMul, Nat.reduceLT, Nat.reduceLeDiff, Nat.reduceBEq, Nat.le_refl, Nat.zero_le, Nat.lt_irrefl, beq_self_eq_true, Nat.succ_ne_zero, Option.some.injEq, Prod.mk.injEq, Int32.reduceLT, Int32.reduceLE]
  refine mit_ind (G := kX11_heir_6 n) (fun d L μ => ∃ (j : Nat) (I' : Nat → Nat → Int32) (x4 : Option Value), j + d = 8 ∧ μ = mm I' J f ∧ FrO I I' ∧ L = [some (.ref 0), some (.int (ffI (hei T S j).1)), some (.int (hei T S j).2), some (.int (nI j)), x4]) (fun v => ∃ I', v = some (some (.int (ffI (hei T S 8).1)), mm I' J f) ∧ FrO I I') ?_ ?_ 8 n _ _ (by omega) ⟨0, I, none, rfl, rfl, FrO.rf, rfl⟩
  · rintro L μ ⟨j, I', x4, hj, rfl, hI, rfl⟩
    have : j = 8 := by omega
    subst this
    refine ⟨_, fun r => ?_, I', rfl, hI⟩
    simp only [kX11_heir_6, i_cst, i_ldI, i_ldJ, i_ldA, i_stI, i_stJ, i_stA, i_inc, i_bin, i_dv, i_un, i_i2l, i_bnJ, i_lshl, i_lcmp, i_dup, i_dp2, i_gI, i_gJ, i_gA, i_pI, i_pZ, i_pJ, i_pA, i_al, i_as, i_alJ, i_asJ, i_len, i_c0, i_c2, i_sw, msel, i_cV, i_cS, i_rV, i_rI, i_rZ, i_rJ, i_mm, i_pop, i_no, mpl, mvr, mnw, List.getElem?_cons_zero, List.getElem?_cons_succ, List.set_cons_zero, List.set_cons_succ, List.length_cons, List.length_nil, List.drop_succ_cons, List.drop_zero, List.take_succ_cons, List.take_zero, List.reverse_cons, List.reverse_nil, List.nil_append, List.cons_append, List.append_nil, List.map_cons, List.map_nil, List.sum_cons, List.sum_nil, Option.toList_some, Option.toList_none, Option.bind_some, Value.category, decide_eq_true_eq, decide_true, decide_false, if_true, if_false, Bool.false_eq_true, and_self, and_true, true_and, true_or, or_true, not_true_eq_false, not_false_eq_true, ↓reduceIte, reduceCtorEq, Nat.reduceEqDiff, Nat.reduceAdd, Nat.reduceSub, Nat.reduceMul, Nat.reduceLT, Nat.reduceLeDiff, Nat.reduceBEq, Nat.le_refl, Nat.zero_le, Nat.lt_irrefl, beq_self_eq_true, Nat.succ_ne_zero, Option.some.injEq, Prod.mk.injEq, Int32.reduceLT, Int32.reduceLE, le88]
  · rintro d L μ ⟨j, I', x4, hj, rfl, hI, rfl⟩
    refine Or.inr ?_
    have o' := SO_FrO o hI
    have hj8 : j < 8 := by omega
    have hn1 := ffI_n1 (hei_lt T S j) (show j < 2 ^ 31 by omega)
    by_cases h : inA T S j = true
    · obtain ⟨I2, g1, g2⟩ := p_priceWithout hn J f o' hj8
      by_cases h2 : (hei T S j).1 = none ∨ heiP T S j < (hei T S j).2
      · have ev : hei T S (j + 1) = (some j, heiP T S j) := by rw [hei, if_pos ⟨h, h2⟩]
        refine ⟨_, _, ⟨j + 1, I2, some (.int (heiP T S j)), by omega, rfl, hI.tr g2, rfl⟩, fun r => ?_⟩
        simp only [kX11_heir_6, kX11_heir_44, kX11_heir_49, i_cst, i_ldI, i_ldJ, i_ldA, i_stI, i_stJ, i_stA, i_inc, i_bin, i_dv, i_un, i_i2l, i_bnJ, i_lshl, i_lcmp, i_dup, i_dp2, i_gI, i_gJ, i_gA, i_pI, i_pZ, i_pJ, i_pA, i_al, i_as, i_alJ, i_asJ, i_len, i_c0, i_c2, i_sw, msel, i_cV, i_cS, i_rV, i_rI, i_rZ, i_rJ, i_mm, i_pop, i_no, mpl, mvr, mnw, List.getElem?_cons_zero, List.getElem?_cons_succ, List.set_cons_zero, List.set_cons_succ, List.length_cons, List.length_nil, List.drop_succ_cons, List.drop_zero, List.take_succ_cons, List.take_zero, List.reverse_cons, List.reverse_nil, List.nil_append, List.cons_append, List.append_nil, List.map_cons, List.map_nil, List.sum_cons, List.sum_nil, Option.toList_some, Option.toList_none, Option.bind_some, Value.category, decide_eq_true_eq, decide_true, decide_false, if_true, if_false, Bool.false_eq_true, and_self, and_true, true_and, true_or, or_true, not_true_eq_false, not_false_eq_true, ↓reduceIte, reduceCtorEq, Nat.reduceEqDiff, Nat.reduceAdd, Nat.reduceSub, Nat.reduceMul, Nat.reduceLT, Nat.reduceLeDiff, Nat.reduceBEq, Nat.le_refl, Nat.zero_le, Nat.lt_irrefl, beq_self_eq_true, Nat.succ_ne_zero, Option.some.injEq, Prod.mk.injEq, Int32.reduceLT, Int32.reduceLE, nle8 hj8, y_0, y_29, rt_0_5, p_isInA n J f o' (show j < 2 ^ 31 by omega), b2i_eq0, h, g1, hn1, nI_1, ev, ffI_s]
        rcases h2 with h2 | h2
        · simp only [h2, if_true]; rfl
        · by_cases h3 : (hei T S j).1 = none
          · simp only [h3, if_true]; rfl
          · have h4 : ¬ (hei T S j).2 ≤ heiP T S j := Int32.not_le.mpr h2
            unfold heiP at h4 ⊢
            simp only [h3, h4, if_false]
      · have ev : hei T S (j + 1) = hei T S j := by rw [hei, if_neg (fun q => h2 q.2)]
        refine ⟨_, _, ⟨j + 1, I2, some (.int (heiP T S j)), by omega, rfl, hI.tr g2, rfl⟩, fun r => ?_⟩
        have h3 : ¬ (hei T S j).1 = none := fun q => h2 (Or.inl q)
        have h4 : (hei T S j).2 ≤ heiP T S j := Int32.not_lt.mp (fun q => h2 (Or.inr q))
        unfold heiP at h4
        simp only [kX11_heir_6, kX11_heir_44, kX11_heir_49, i_cst, i_ldI, i_ldJ, i_ldA, i_stI, i_stJ, i_stA, i_inc, i_bin, i_dv, i_un, i_i2l, i_bnJ, i_lshl, i_lcmp, i_dup, i_dp2, i_gI, i_gJ, i_gA, i_pI, i_pZ, i_pJ, i_pA, i_al, i_as, i_alJ, i_asJ, i_len, i_c0, i_c2, i_sw, msel, i_cV, i_cS, i_rV, i_rI, i_rZ, i_rJ, i_mm, i_pop, i_no, mpl, mvr, mnw, List.getElem?_cons_zero, List.getElem?_cons_succ, List.set_cons_zero, List.set_cons_succ, List.length_cons, List.length_nil, List.drop_succ_cons, List.drop_zero, List.take_succ_cons, List.take_zero, List.reverse_cons, List.reverse_nil, List.nil_append, List.cons_append, List.append_nil, List.map_cons, List.map_nil, List.sum_cons, List.sum_nil, Option.toList_some, Option.toList_none, Option.bind_some, Value.category, decide_eq_true_eq, decide_true, decide_false, if_true, if_false, Bool.false_eq_true, and_self, and_true, true_and, true_or, or_true, not_true_eq_false, not_false_eq_true, ↓reduceIte, reduceCtorEq, Nat.reduceEqDiff, Nat.reduceAdd, Nat.reduceSub, Nat.reduceMul, Nat.reduceLT, Nat.reduceLeDiff, Nat.reduceBEq, Nat.le_refl, Nat.zero_le, Nat.lt_irrefl, beq_self_eq_true, Nat.succ_ne_zero, Option.some.injEq, Prod.mk.injEq, Int32.reduceLT, Int32.reduceLE, nle8 hj8, y_0, y_29, rt_0_5, p_isInA n J f o' (show j < 2 ^ 31 by omega), b2i_eq0, h, g1, hn1, nI_1, ev, h3, h4, heiP]
    · have ev : hei T S (j + 1) = hei T S j := by rw [hei, if_neg (fun q => h q.1)]
      refine ⟨_, _, ⟨j + 1, I', x4, by omega, rfl, hI, rfl⟩, fun r => ?_⟩
      simp only [kX11_heir_6, kX11_heir_49, i_cst, i_ldI, i_ldJ, i_ldA, i_stI, i_stJ, i_stA, i_inc, i_bin, i_dv, i_un, i_i2l, i_bnJ, i_lshl, i_lcmp, i_dup, i_dp2, i_gI, i_gJ, i_gA, i_pI, i_pZ, i_pJ, i_pA, i_al, i_as, i_alJ, i_asJ, i_len, i_c0, i_c2, i_sw, msel, i_cV, i_cS, i_rV, i_rI, i_rZ, i_rJ, i_mm, i_pop, i_no, mpl, mvr, mnw, List.getElem?_cons_zero, List.getElem?_cons_succ, List.set_cons_zero, List.set_cons_succ, List.length_cons, List.length_nil, List.drop_succ_cons, List.drop_zero, List.take_succ_cons, List.take_zero, List.reverse_cons, List.reverse_nil, List.nil_append, List.cons_append, List.append_nil, List.map_cons, List.map_nil, List.sum_cons, List.sum_nil, Option.toList_some, Option.toList_none, Option.bind_some, Value.category, decide_eq_true_eq, decide_true, decide_false, if_true, if_false, Bool.false_eq_true, and_self, and_true, true_and, true_or, or_true, not_true_eq_false, not_false_eq_true, ↓reduceIte, reduceCtorEq, Nat.reduceEqDiff, Nat.reduceAdd, Nat.reduceSub, Nat.reduceMul, Nat.reduceLT, Nat.reduceLeDiff, Nat.reduceBEq, Nat.le_refl, Nat.zero_le, Nat.lt_irrefl, beq_self_eq_true, Nat.succ_ne_zero, Option.some.injEq, Prod.mk.injEq, Int32.reduceLT, Int32.reduceLE, nle8 hj8, y_0, y_29, rt_0_5, p_isInA n J f o' (show j < 2 ^ 31 by omega), b2i_eq0, h, nI_1, ev]
/-- who is worth most -/
def fin1 (T : TA) (S : SA) : Nat → Option Nat × Int32
  | 0 => (none, 0)
  | j + 1 => if inA T S j = true ∧ ((fin1 T S j).1 = none ∨ (fin1 T S j).2 < worthC T S j (nI (manyA T S))) then (some j, worthC T S j (nI (manyA T S))) else fin1 T S j
theorem fin1_lt (T : TA) (S : SA) : ∀ k v, (fin1 T S k).1 = some v → v < k := by
  intro k
  induction k with
  | zero => intro v h; cases h
  | succ k ih =>
    intro v h
    unfold fin1 at h
    split at h
    · cases h; omega
    · have := ih v h; omega
set_option maxHeartbeats 4000000 in
theorem c_finest (hn : 300 < n) (J : Nat → Nat → Int64) (f : Nat) (o : SO I 29 T S) : ∃ I', FX11_finest n [.ref 0] (mm I J f) = some (some (.int (ffI (fin1 T S 8).1)), mm I' J f) ∧ FrO I I' := by
  simp only [eX11_finest, kX11_finest_0, i_cst, i_ldI, i_ldJ, i_ldA, i_stI, i_stJ, i_stA, i_inc, i_bin, i_dv, i_un, i_i2l, i_bnJ, i_lshl, i_lcmp, i_dup, i_dp2, i_gI, i_gJ, i_gA, i_pI, i_pZ, i_pJ, i_pA, i_al, i_as, i_alJ, i_asJ, i_len, i_c0, i_c2, i_sw, msel, i_cV, i_cS, i_rV, i_rI, i_rZ, i_rJ, i_mm, i_pop, i_no, mpl, mvr, mnw, List.getElem?_cons_zero, List.getElem?_cons_succ, List.set_cons_zero, List.set_cons_succ, List.length_cons, List.length_nil, List.drop_succ_cons, List.drop_zero, List.take_succ_cons, List.take_zero, List.reverse_cons, List.reverse_nil, List.nil_append, List.cons_append, List.append_nil, List.map_cons, List.map_nil, List.sum_cons, List.sum_nil, Option.toList_some, Option.toList_none, Option.bind_some, Value.category, decide_eq_true_eq, decide_true, decide_false, if_true, if_false, Bool.false_eq_true, and_self, and_true, true_and, true_or, or_true, not_true_eq_false, not_false_eq_true, ↓reduceIte, reduceCtorEq, Nat.reduceEqDiff, Nat.reduceAdd, Nat.reduceSub, Nat.reduceMul, Nat.reduceLT, Nat.reduceLeDiff, Nat.reduceBEq, Nat.le_refl, Nat.zero_le, Nat.lt_irrefl, beq_self_eq_true, Nat.succ_ne_zero, Option.some.injEq, Prod.mk.injEq, Int32.reduceLT, Int32.reduceLE, y_0, y_29, rt_0_5, p_howMany (show 8 < n by omega) J f o]
  refine mit_ind (G := kX11_finest_15 n) (fun d L μ => ∃ (j : Nat) (I' : Nat → Nat → Int32) (x5 : Option Value), j + d = 8 ∧ μ = mm I' J f ∧ FrO I I' ∧ L = [some (.ref 0), some (.int (ffI (fin1 T S j).1)), some (.int (fin1 T S j).2), some (.int (nI (manyA T S))), some (.int (nI j)), x5]) (fun v => ∃ I', v = some (some (.int (ffI (fin1 T S 8).1)), mm I' J f) ∧ FrO I I') ?_ ?_ 8 n _ _ (by omega) ⟨0, I, none, rfl, rfl, FrO.rf, rfl⟩
  · rintro L μ ⟨j, I', x5, hj, rfl, hI, rfl⟩
    have : j = 8 := by omega
    subst this
    refine ⟨_, fun r => ?_, I', rfl, hI⟩
    simp only [kX11_finest_15, i_cst, i_ldI, i_ldJ, i_ldA, i_stI, i_stJ, i_stA, i_inc, i_bin, i_dv, i_un, i_i2l, i_bnJ, i_lshl, i_lcmp, i_dup, i_dp2, i_gI, i_gJ, i_gA, i_pI, i_pZ, i_pJ, i_pA, i_al, i_as, i_alJ, i_asJ, i_len, i_c0, i_c2, i_sw, msel, i_cV, i_cS, i_rV, i_rI, i_rZ, i_rJ, i_mm, i_pop, i_no, mpl, mvr, mnw, List.getElem?_cons_zero, List.getElem?_cons_succ, List.set_cons_zero, List.set_cons_succ, List.length_cons, List.length_nil, List.drop_succ_cons, List.drop_zero, List.take_succ_cons, List.take_zero, List.reverse_cons, List.reverse_nil, List.nil_append, List.cons_append, List.append_nil, List.map_cons, List.map_nil, List.sum_cons, List.sum_nil, Option.toList_some, Option.toList_none, Option.bind_some, Value.category, decide_eq_true_eq, decide_true, decide_false, if_true, if_false, Bool.false_eq_true, and_self, and_true, true_and, true_or, or_true, not_true_eq_false, not_false_eq_true, ↓reduceIte, reduceCtorEq, Nat.reduceEqDiff, Nat.reduceAdd, Nat.reduceSub, Nat.reduceMul, Nat.reduceLT, Nat.reduceLeDiff, Nat.reduceBEq, Nat.le_refl, Nat.zero_le, Nat.lt_irrefl, beq_self_eq_true, Nat.succ_ne_zero, Option.some.injEq, Prod.mk.injEq, Int32.reduceLT, Int32.reduceLE, le88]
  · rintro d L μ ⟨j, I', x5, hj, rfl, hI, rfl⟩
    refine Or.inr ?_
    have o' := SO_FrO o hI
    have hj8 : j < 8 := by omega
    have hn1 := ffI_n1 (fin1_lt T S j) (show j < 2 ^ 31 by omega)
    by_cases h : inA T S j = true
    · obtain ⟨I2, g1, g2⟩ := p_worthAmong hn J f o' h (nI (manyA T S))
      by_cases h2 : (fin1 T S j).1 = none ∨ (fin1 T S j).2 < worthC T S j (nI (manyA T S))
      · have ev : fin1 T S (j + 1) = (some j, worthC T S j (nI (manyA T S))) := by rw [fin1, if_pos ⟨h, h2⟩]
        refine ⟨_, _, ⟨j + 1, I2, some (.int (worthC T S j (nI (manyA T S)))), by omega, rfl, hI.tr g2, rfl⟩, fun r => ?_⟩
        simp only [kX11_finest_15, kX11_finest_57, kX11_finest_63, i_cst, i_ldI, i_ldJ, i_ldA, i_stI, i_stJ, i_stA, i_inc, i_bin, i_dv, i_un, i_i2l, i_bnJ, i_lshl, i_lcmp, i_dup, i_dp2, i_gI, i_gJ, i_gA, i_pI, i_pZ, i_pJ, i_pA, i_al, i_as, i_alJ, i_asJ, i_len, i_c0, i_c2, i_sw, msel, i_cV, i_cS, i_rV, i_rI, i_rZ, i_rJ, i_mm, i_pop, i_no, mpl, mvr, mnw, List.getElem?_cons_zero, List.getElem?_cons_succ, List.set_cons_zero, List.set_cons_succ, List.length_cons, List.length_nil, List.drop_succ_cons, List.drop_zero, List.take_succ_cons, List.take_zero, List.reverse_cons, List.reverse_nil, List.nil_append, List.cons_append, List.append_nil, List.map_cons, List.map_nil, List.sum_cons, List.sum_nil, Option.toList_some, Option.toList_none, Option.bind_some, Value.category, decide_eq_true_eq, decide_true, decide_false, if_true, if_false, Bool.false_eq_true, and_self, and_true, true_and, true_or, or_true, not_true_eq_false, not_false_eq_true, ↓reduceIte, reduceCtorEq, Nat.reduceEqDiff, Nat.reduceAdd, Nat.reduceSub, Nat.reduceMul, Nat.reduceLT, Nat.reduceLeDiff, Nat.reduceBEq, Nat.le_refl, Nat.zero_le, Nat.lt_irrefl, beq_self_eq_true, Nat.succ_ne_zero, Option.some.injEq, Prod.mk.injEq, Int32.reduceLT, Int32.reduceLE, nle8 hj8, y_0, y_29, rt_0_5, p_isInA n J f o' (show j < 2 ^ 31 by omega), b2i_eq0, h, g1, hn1, nI_1, ev, ffI_s]
        rcases h2 with h2 | h2
        · simp only [h2, if_true]
        · by_cases h3 : (fin1 T S j).1 = none
          · simp only [h3, if_true]
          · simp only [h3, Int32.not_le.mpr h2, if_false]
      · have ev : fin1 T S (j + 1) = fin1 T S j := by rw [fin1, if_neg (fun q => h2 q.2)]
        refine ⟨_, _, ⟨j + 1, I2, some (.int (worthC T S j (nI (manyA T S)))), by omega, rfl, hI.tr g2, rfl⟩, fun r => ?_⟩
        have h3 : ¬ (fin1 T S j).1 = none := fun q => h2 (Or.inl q)
        have h4 : worthC T S j (nI (manyA T S)) ≤ (fin1 T S j).2 := Int32.not_lt.mp (fun q => h2 (Or.inr q))
        simp only [kX11_finest_15, kX11_finest_57, kX11_finest_63, i_cst, i_ldI, i_ldJ, i_ldA, i_stI, i_stJ, i_stA, i_inc, i_bin, i_dv, i_un, i_i2l, i_bnJ, i_lshl, i_lcmp, i_dup, i_dp2, i_gI, i_gJ, i_gA, i_pI, i_pZ, i_pJ, i_pA, i_al, i_as, i_alJ, i_asJ, i_len, i_c0, i_c2, i_sw, msel, i_cV, i_cS, i_rV, i_rI, i_rZ, i_rJ, i_mm, i_pop, i_no, mpl, mvr, mnw, List.getElem?_cons_zero, List.getElem?_cons_succ, List.set_cons_zero, List.set_cons_succ, List.length_cons, List.length_nil, List.drop_succ_cons, List.drop_zero, List.take_succ_cons, List.take_zero, List.reverse_cons, List.reverse_nil, List.nil_append, List.cons_append, List.append_nil, List.map_cons, List.map_nil, List.sum_cons, List.sum_nil, Option.toList_some, Option.toList_none, Option.bind_some, Value.category, decide_eq_true_eq, decide_true, decide_false, if_true, if_false, Bool.false_eq_true, and_self, and_true, true_and, true_or, or_true, not_true_eq_false, not_false_eq_true, ↓reduceIte, reduceCtorEq, Nat.reduceEqDiff, Nat.reduceAdd, Nat.reduceSub, Nat.reduceMul, Nat.reduceLT, Nat.reduceLeDiff, Nat.reduceBEq, Nat.le_refl, Nat.zero_le, Nat.lt_irrefl, beq_self_eq_true, Nat.succ_ne_zero, Option.some.injEq, Prod.mk.injEq, Int32.reduceLT, Int32.reduceLE, nle8 hj8, y_0, y_29, rt_0_5, p_isInA n J f o' (show j < 2 ^ 31 by omega), b2i_eq0, h, g1, hn1, nI_1, ev, h3, h4]
    · have ev : fin1 T S (j + 1) = fin1 T S j := by rw [fin1, if_neg (fun q => h q.1)]
      refine ⟨_, _, ⟨j + 1, I', x5, by omega, rfl, hI, rfl⟩, fun r => ?_⟩
      simp only [kX11_finest_15, kX11_finest_63, i_cst, i_ldI, i_ldJ, i_ldA, i_stI, i_stJ, i_stA, i_inc, i_bin, i_dv, i_un, i_i2l, i_bnJ, i_lshl, i_lcmp, i_dup, i_dp2, i_gI, i_gJ, i_gA, i_pI, i_pZ, i_pJ, i_pA, i_al, i_as, i_alJ, i_asJ, i_len, i_c0, i_c2, i_sw, msel, i_cV, i_cS, i_rV, i_rI, i_rZ, i_rJ, i_mm, i_pop, i_no, mpl, mvr, mnw, List.getElem?_cons_zero, List.getElem?_cons_succ, List.set_cons_zero, List.set_cons_succ, List.length_cons, List.length_nil, List.drop_succ_cons, List.drop_zero, List.take_succ_cons, List.take_zero, List.reverse_cons, List.reverse_nil, List.nil_append, List.cons_append, List.append_nil, List.map_cons, List.map_nil, List.sum_cons, List.sum_nil, Option.toList_some, Option.toList_none, Option.bind_some, Value.category, decide_eq_true_eq, decide_true, decide_false, if_true, if_false, Bool.false_eq_true, and_self, and_true, true_and, true_or, or_true, not_true_eq_false, not_false_eq_true, ↓reduceIte, reduceCtorEq, Nat.reduceEqDiff, Nat.reduceAdd, Nat.reduceSub, Nat.reduceMul, Nat.reduceLT, Nat.reduceLeDiff, Nat.reduceBEq, Nat.le_refl, Nat.zero_le, Nat.lt_irrefl, beq_self_eq_true, Nat.succ_ne_zero, Option.some.injEq, Prod.mk.injEq, Int32.reduceLT, Int32.reduceLE, nle8 hj8, y_0, y_29, rt_0_5, p_isInA n J f o' (show j < 2 ^ 31 by omega), b2i_eq0, h, nI_1, ev]
/-- the fullest row below k, and how full it is -/
def ful (T : TA) (S : SA) : Nat → Nat × Nat
  | 0 => (0, 0)
  | j + 1 => if (ful T S j).2 < cn (rowP T S j) 8 then (j, cn (rowP T S j) 8) else ful T S j
set_option maxHeartbeats 4000000 in
theorem c_fullest (hn : 8 < n) (J : Nat → Nat → Int64) (f : Nat) (o : SO I 29 T S) : FX11_fullest n [.ref 0] (mm I J f) = some (some (.int (nI (ful T S (tR T)).1)), mm I J f) := by
  have hR := o.2.1.2.2.1
  have eR : I 2 1 = nI (tR T) := o.2.2.1.1.2.1
  have hfl : ∀ j, (ful T S j).2 ≤ 8 := by
    intro j
    induction j with
    | zero => exact Nat.zero_le _
    | succ j ih =>
      unfold ful
      split
      · exact cn_le _ 8
      · exact ih
  simp only [eX11_fullest, kX11_fullest_0, i_cst, i_ldI, i_ldJ, i_ldA, i_stI, i_stJ, i_stA, i_inc, i_bin, i_dv, i_un, i_i2l, i_bnJ, i_lshl, i_lcmp, i_dup, i_dp2, i_gI, i_gJ, i_gA, i_pI, i_pZ, i_pJ, i_pA, i_al, i_as, i_alJ, i_asJ, i_len, i_c0, i_c2, i_sw, msel, i_cV, i_cS, i_rV, i_rI, i_rZ, i_rJ, i_mm, i_pop, i_no, mpl, mvr, mnw, List.getElem?_cons_zero, List.getElem?_cons_succ, List.set_cons_zero, List.set_cons_succ, List.length_cons, List.length_nil, List.drop_succ_cons, List.drop_zero, List.take_succ_cons, List.take_zero, List.reverse_cons, List.reverse_nil, List.nil_append, List.cons_append, List.append_nil, List.map_cons, List.map_nil, List.sum_cons, List.sum_nil, Option.toList_some, Option.toList_none, Option.bind_some, Value.category, decide_eq_true_eq, decide_true, decide_false, if_true, if_false, Bool.false_eq_true, and_self, and_true, true_and, true_or, or_true, not_true_eq_false, not_false_eq_true, ↓reduceIte, reduceCtorEq, Nat.reduceEqDiff, Nat.reduceAdd, Nat.reduceSub, Nat.reduceMul, Nat.reduceLT, Nat.reduceLeDiff, Nat.reduceBEq, Nat.le_refl, Nat.zero_le, Nat.lt_irrefl, beq_self_eq_true, Nat.succ_ne_zero, Option.some.injEq, Prod.mk.injEq, Int32.reduceLT, Int32.reduceLE]
  refine mit_ind (G := kX11_fullest_6 n) (fun d L μ => ∃ (j : Nat) (x4 : Option Value), j + d = tR T ∧ μ = mm I J f ∧ L = [some (.ref 0), some (.int (nI (ful T S j).1)), some (.int (nI (ful T S j).2)), some (.int (nI j)), x4]) (fun v => v = some (some (.int (nI (ful T S (tR T)).1)), mm I J f)) ?_ ?_ (tR T) n _ _ (by omega) ⟨0, none, by omega, rfl, rfl⟩
  · rintro L μ ⟨j, x4, hj, rfl, rfl⟩
    have : j = tR T := by omega
    subst this
    refine ⟨_, fun r => ?_, rfl⟩
    simp only [kX11_fullest_6, i_cst, i_ldI, i_ldJ, i_ldA, i_stI, i_stJ, i_stA, i_inc, i_bin, i_dv, i_un, i_i2l, i_bnJ, i_lshl, i_lcmp, i_dup, i_dp2, i_gI, i_gJ, i_gA, i_pI, i_pZ, i_pJ, i_pA, i_al, i_as, i_alJ, i_asJ, i_len, i_c0, i_c2, i_sw, msel, i_cV, i_cS, i_rV, i_rI, i_rZ, i_rJ, i_mm, i_pop, i_no, mpl, mvr, mnw, List.getElem?_cons_zero, List.getElem?_cons_succ, List.set_cons_zero, List.set_cons_succ, List.length_cons, List.length_nil, List.drop_succ_cons, List.drop_zero, List.take_succ_cons, List.take_zero, List.reverse_cons, List.reverse_nil, List.nil_append, List.cons_append, List.append_nil, List.map_cons, List.map_nil, List.sum_cons, List.sum_nil, Option.toList_some, Option.toList_none, Option.bind_some, Value.category, decide_eq_true_eq, decide_true, decide_false, if_true, if_false, Bool.false_eq_true, and_self, and_true, true_and, true_or, or_true, not_true_eq_false, not_false_eq_true, ↓reduceIte, reduceCtorEq, Nat.reduceEqDiff, Nat.reduceAdd, Nat.reduceSub, Nat.reduceMul, Nat.reduceLT, Nat.reduceLeDiff, Nat.reduceBEq, Nat.le_refl, Nat.zero_le, Nat.lt_irrefl, beq_self_eq_true, Nat.succ_ne_zero, Option.some.injEq, Prod.mk.injEq, Int32.reduceLT, Int32.reduceLE, y_0, y_2, rt_0_2, eR, Int32.le_refl]
  · rintro d L μ ⟨j, x4, hj, rfl, rfl⟩
    refine Or.inr ?_
    have c1 : ¬ nI (tR T) ≤ nI j := by rw [nI_leI (by omega) (by omega)]; omega
    have h8 := cn_le (rowP T S j) 8
    have hf8 := hfl j
    have c2 : nI (cn (rowP T S j) 8) ≤ nI (ful T S j).2 ↔ cn (rowP T S j) 8 ≤ (ful T S j).2 := nI_leI (by omega) (by omega)
    by_cases hc : (ful T S j).2 < cn (rowP T S j) 8
    · have ev : ful T S (j + 1) = (j, cn (rowP T S j) 8) := by rw [ful, if_pos hc]
      refine ⟨_, _, ⟨j + 1, some (.int (nI (cn (rowP T S j) 8))), by omega, rfl, rfl⟩, fun r => ?_⟩
      simp only [kX11_fullest_6, kX11_fullest_38, i_cst, i_ldI, i_ldJ, i_ldA, i_stI, i_stJ, i_stA, i_inc, i_bin, i_dv, i_un, i_i2l, i_bnJ, i_lshl, i_lcmp, i_dup, i_dp2, i_gI, i_gJ, i_gA, i_pI, i_pZ, i_pJ, i_pA, i_al, i_as, i_alJ, i_asJ, i_len, i_c0, i_c2, i_sw, msel, i_cV, i_cS, i_rV, i_rI, i_rZ, i_rJ, i_mm, i_pop, i_no, mpl, mvr, mnw, List.getElem?_cons_zero, List.getElem?_cons_succ, List.set_cons_zero, List.set_cons_succ, List.length_cons, List.length_nil, List.drop_succ_cons, List.drop_zero, List.take_succ_cons, List.take_zero, List.reverse_cons, List.reverse_nil, List.nil_append, List.cons_append, List.append_nil, List.map_cons, List.map_nil, List.sum_cons, List.sum_nil, Option.toList_some, Option.toList_none, Option.bind_some, Value.category, decide_eq_true_eq, decide_true, decide_false, if_true, if_false, Bool.false_eq_true, and_self, and_true, true_and, true_or, or_true, not_true_eq_false, not_false_eq_true, ↓reduceIte, reduceCtorEq, Nat.reduceEqDiff, Nat.reduceAdd, Nat.reduceSub, Nat.reduceMul, Nat.reduceLT, Nat.reduceLeDiff, Nat.reduceBEq, Nat.le_refl, Nat.zero_le, Nat.lt_irrefl, beq_self_eq_true, Nat.succ_ne_zero, Option.some.injEq, Prod.mk.injEq, Int32.reduceLT, Int32.reduceLE, c1, y_0, y_2, y_29, rt_0_2, rt_0_5, eR, p_howManyInRow hn J f o (show j < 2 ^ 30 by omega), c2, Nat.not_le.mpr hc, nI_1, ev]
    · have ev : ful T S (j + 1) = ful T S j := by rw [ful, if_neg hc]
      refine ⟨_, _, ⟨j + 1, some (.int (nI (cn (rowP T S j) 8))), by omega, rfl, rfl⟩, fun r => ?_⟩
      simp only [kX11_fullest_6, kX11_fullest_38, i_cst, i_ldI, i_ldJ, i_ldA, i_stI, i_stJ, i_stA, i_inc, i_bin, i_dv, i_un, i_i2l, i_bnJ, i_lshl, i_lcmp, i_dup, i_dp2, i_gI, i_gJ, i_gA, i_pI, i_pZ, i_pJ, i_pA, i_al, i_as, i_alJ, i_asJ, i_len, i_c0, i_c2, i_sw, msel, i_cV, i_cS, i_rV, i_rI, i_rZ, i_rJ, i_mm, i_pop, i_no, mpl, mvr, mnw, List.getElem?_cons_zero, List.getElem?_cons_succ, List.set_cons_zero, List.set_cons_succ, List.length_cons, List.length_nil, List.drop_succ_cons, List.drop_zero, List.take_succ_cons, List.take_zero, List.reverse_cons, List.reverse_nil, List.nil_append, List.cons_append, List.append_nil, List.map_cons, List.map_nil, List.sum_cons, List.sum_nil, Option.toList_some, Option.toList_none, Option.bind_some, Value.category, decide_eq_true_eq, decide_true, decide_false, if_true, if_false, Bool.false_eq_true, and_self, and_true, true_and, true_or, or_true, not_true_eq_false, not_false_eq_true, ↓reduceIte, reduceCtorEq, Nat.reduceEqDiff, Nat.reduceAdd, Nat.reduceSub, Nat.reduceMul, Nat.reduceLT, Nat.reduceLeDiff, Nat.reduceBEq, Nat.le_refl, Nat.zero_le, Nat.lt_irrefl, beq_self_eq_true, Nat.succ_ne_zero, Option.some.injEq, Prod.mk.injEq, Int32.reduceLT, Int32.reduceLE, c1, y_0, y_2, y_29, rt_0_2, rt_0_5, eR, p_howManyInRow hn J f o (show j < 2 ^ 30 by omega), c2, Nat.not_lt.mp hc, nI_1, ev]
set_option maxHeartbeats 4000000 in
theorem p_commonDivisor (hn : 300 < n) {x : Nat} (hx : x ≤ 100) (μ : mM) : FX11_commonDivisor n [.int (nI x), .int 100] μ = some (some (.int (nI (Nat.gcd 100 x))), μ) := by
  simp only [eX11_commonDivisor, kX11_commonDivisor_0, i_cst, i_ldI, i_ldJ, i_ldA, i_stI, i_stJ, i_stA, i_inc, i_bin, i_dv, i_un, i_i2l, i_bnJ, i_lshl, i_lcmp, i_dup, i_dp2, i_gI, i_gJ, i_gA, i_pI, i_pZ, i_pJ, i_pA, i_al, i_as, i_alJ, i_asJ, i_len, i_c0, i_c2, i_sw, msel, i_cV, i_cS, i_rV, i_rI, i_rZ, i_rJ, i_mm, i_pop, i_no, mpl, mvr, mnw, List.getElem?_cons_zero, List.getElem?_cons_succ, List.set_cons_zero, List.set_cons_succ, List.length_cons, List.length_nil, List.drop_succ_cons, List.drop_zero, List.take_succ_cons, List.take_zero, List.reverse_cons, List.reverse_nil, List.nil_append, List.cons_append, List.append_nil, List.map_cons, List.map_nil, List.sum_cons, List.sum_nil, Option.toList_some, Option.toList_none, Option.bind_some, Value.category, decide_eq_true_eq, decide_true, decide_false, if_true, if_false, Bool.false_eq_true, and_self, and_true, true_and, true_or, or_true, not_true_eq_false, not_false_eq_true, ↓reduceIte, reduceCtorEq, Nat.reduceEqDiff, Nat.reduceAdd, Nat.reduceSub, Nat.reduceMul, Nat.reduceLT, Nat.reduceLeDiff, Nat.reduceBEq, Nat.le_refl, Nat.zero_le, Nat.lt_irrefl, beq_self_eq_true, Nat.succ_ne_zero, Option.some.injEq, Prod.mk.injEq, Int32.reduceLT, Int32.reduceLE]
  refine mit_ind (G := kX11_commonDivisor_7 n) (fun d L μ' => ∃ (g l i : Nat) (x5 : Option Value), l ≤ d ∧ i + d ≤ 100 ∧ g ≤ 100 ∧ Nat.gcd g l = Nat.gcd 100 x ∧ μ' = μ ∧ L = [some (.int (nI x)), some (.int 100), some (.int (nI g)), some (.int (nI l)), some (.int (nI i)), x5]) (fun v => v = some (some (.int (nI (Nat.gcd 100 x))), μ)) ?_ ?_ 100 n _ _ (by omega) ⟨100, x, 0, none, hx, by omega, by omega, rfl, rfl, rfl⟩
  · rintro L μ' ⟨g, l, i, x5, hl, hi, hg, hgcd, rfl, rfl⟩
    have : l = 0 := by omega
    subst this
    rw [Nat.gcd_zero_right] at hgcd
    subst hgcd
    refine ⟨_, fun r => ?_, rfl⟩
    by_cases c1 : (100 : Int32) ≤ nI i
    · simp only [kX11_commonDivisor_7, kX11_commonDivisor_34, i_cst, i_ldI, i_ldJ, i_ldA, i_stI, i_stJ, i_stA, i_inc, i_bin, i_dv, i_un, i_i2l, i_bnJ, i_lshl, i_lcmp, i_dup, i_dp2, i_gI, i_gJ, i_gA, i_pI, i_pZ, i_pJ, i_pA, i_al, i_as, i_alJ, i_asJ, i_len, i_c0, i_c2, i_sw, msel, i_cV, i_cS, i_rV, i_rI, i_rZ, i_rJ, i_mm, i_pop, i_no, mpl, mvr, mnw, List.getElem?_cons_zero, List.getElem?_cons_succ, List.set_cons_zero, List.set_cons_succ, List.length_cons, List.length_nil, List.drop_succ_cons, List.drop_zero, List.take_succ_cons, List.take_zero, List.reverse_cons, List.reverse_nil, List.nil_append, List.cons_append, List.append_nil, List.map_cons, List.map_nil, List.sum_cons, List.sum_nil, Option.toList_some, Option.toList_none, Option.bind_some, Value.category, decide_eq_true_eq, decide_true, decide_false, if_true, if_false, Bool.false_eq_true, and_self, and_true, true_and, true_or, or_true, not_true_eq_false, not_false_eq_true, ↓reduceIte, reduceCtorEq, Nat.reduceEqDiff, Nat.reduceAdd, Nat.reduceSub, Nat.reduceMul, Nat.reduceLT, Nat.reduceLeDiff, Nat.reduceBEq, Nat.le_refl, Nat.zero_le, Nat.lt_irrefl, beq_self_eq_true, Nat.succ_ne_zero, Option.some.injEq, Prod.mk.injEq, Int32.reduceLT, Int32.reduceLE, c1]
    · simp only [kX11_commonDivisor_7, kX11_commonDivisor_34, i_cst, i_ldI, i_ldJ, i_ldA, i_stI, i_stJ, i_stA, i_inc, i_bin, i_dv, i_un, i_i2l, i_bnJ, i_lshl, i_lcmp, i_dup, i_dp2, i_gI, i_gJ, i_gA, i_pI, i_pZ, i_pJ, i_pA, i_al, i_as, i_alJ, i_asJ, i_len, i_c0, i_c2, i_sw, msel, i_cV, i_cS, i_rV, i_rI, i_rZ, i_rJ, i_mm, i_pop, i_no, mpl, mvr, mnw, List.getElem?_cons_zero, List.getElem?_cons_succ, List.set_cons_zero, List.set_cons_succ, List.length_cons, List.length_nil, List.drop_succ_cons, List.drop_zero, List.take_succ_cons, List.take_zero, List.reverse_cons, List.reverse_nil, List.nil_append, List.cons_append, List.append_nil, List.map_cons, List.map_nil, List.sum_cons, List.sum_nil, Option.toList_some, Option.toList_none, Option.bind_some, Value.category, decide_eq_true_eq, decide_true, decide_false, if_true, if_false, Bool.false_eq_true, and_self, and_true, true_and, true_or, or_true, not_true_eq_false, not_false_eq_true, ↓reduceIte, reduceCtorEq, Nat.reduceEqDiff, Nat.reduceAdd, Nat.reduceSub, Nat.reduceMul, Nat.reduceLT, Nat.reduceLeDiff, Nat.reduceBEq, Nat.le_refl, Nat.zero_le, Nat.lt_irrefl, beq_self_eq_true, Nat.succ_ne_zero, Option.some.injEq, Prod.mk.injEq, Int32.reduceLT, Int32.reduceLE, c1, show nI 0 ≤ 0 by decide]
  · rintro d L μ' ⟨g, l, i, x5, hl, hi, hg, hgcd, rfl, rfl⟩
    have c1 : ¬ (100 : Int32) ≤ nI i := lit_nle (k := 100) rfl (by decide) (by omega)
    by_cases h0 : l = 0
    · subst h0
      rw [Nat.gcd_zero_right] at hgcd
      subst hgcd
      refine Or.inl ⟨_, fun r => ?_, rfl⟩
      simp only [kX11_commonDivisor_7, kX11_commonDivisor_34, i_cst, i_ldI, i_ldJ, i_ldA, i_stI, i_stJ, i_stA, i_inc, i_bin, i_dv, i_un, i_i2l, i_bnJ, i_lshl, i_lcmp, i_dup, i_dp2, i_gI, i_gJ, i_gA, i_pI, i_pZ, i_pJ, i_pA, i_al, i_as, i_alJ, i_asJ, i_len, i_c0, i_c2, i_sw, msel, i_cV, i_cS, i_rV, i_rI, i_rZ, i_rJ, i_mm, i_pop, i_no, mpl, mvr, mnw, List.getElem?_cons_zero, List.getElem?_cons_succ, List.set_cons_zero, List.set_cons_succ, List.length_cons, List.length_nil, List.drop_succ_cons, List.drop_zero, List.take_succ_cons, List.take_zero, List.reverse_cons, List.reverse_nil, List.nil_append, List.cons_append, List.append_nil, List.map_cons, List.map_nil, List.sum_cons, List.sum_nil, Option.toList_some, Option.toList_none, Option.bind_some, Value.category, decide_eq_true_eq, decide_true, decide_false, if_true, if_false, Bool.false_eq_true, and_self, and_true, true_and, true_or, or_true, not_true_eq_false, not_false_eq_true, ↓reduceIte, reduceCtorEq, Nat.reduceEqDiff, Nat.reduceAdd, Nat.reduceSub, Nat.reduceMul, Nat.reduceLT, Nat.reduceLeDiff, Nat.reduceBEq, Nat.le_refl, Nat.zero_le, Nat.lt_irrefl, beq_self_eq_true, Nat.succ_ne_zero, Option.some.injEq, Prod.mk.injEq, Int32.reduceLT, Int32.reduceLE, c1, show nI 0 ≤ 0 by decide]
    · refine Or.inr ?_
      have c2 : ¬ nI l ≤ 0 := nI_nle (by omega) (by omega)
      have c3 : ¬ nI l = 0 := nI_ne0 (by omega) (by omega)
      have hmod := Nat.mod_lt g (show 0 < l by omega)
      refine ⟨_, _, ⟨l, g % l, i + 1, some (.int (nI (g % l))), by omega, by omega, by omega, by rw [← hgcd, Nat.gcd_comm l, ← Nat.gcd_rec, Nat.gcd_comm], rfl, rfl⟩, fun r => ?_⟩
      simp only [kX11_commonDivisor_7, i_cst, i_ldI, i_ldJ, i_ldA, i_stI, i_stJ, i_stA, i_inc, i_bin, i_dv, i_un, i_i2l, i_bnJ, i_lshl, i_lcmp, i_dup, i_dp2, i_gI, i_gJ, i_gA, i_pI, i_pZ, i_pJ, i_pA, i_al, i_as, i_alJ, i_asJ, i_len, i_c0, i_c2, i_sw, msel, i_cV, i_cS, i_rV, i_rI, i_rZ, i_rJ, i_mm, i_pop, i_no, mpl, mvr, mnw, List.getElem?_cons_zero, List.getElem?_cons_succ, List.set_cons_zero, List.set_cons_succ, List.length_cons, List.length_nil, List.drop_succ_cons, List.drop_zero, List.take_succ_cons, List.take_zero, List.reverse_cons, List.reverse_nil, List.nil_append, List.cons_append, List.append_nil, List.map_cons, List.map_nil, List.sum_cons, List.sum_nil, Option.toList_some, Option.toList_none, Option.bind_some, Value.category, decide_eq_true_eq, decide_true, decide_false, if_true, if_false, Bool.false_eq_true, and_self, and_true, true_and, true_or, or_true, not_true_eq_false, not_false_eq_true, ↓reduceIte, reduceCtorEq, Nat.reduceEqDiff, Nat.reduceAdd, Nat.reduceSub, Nat.reduceMul, Nat.reduceLT, Nat.reduceLeDiff, Nat.reduceBEq, Nat.le_refl, Nat.zero_le, Nat.lt_irrefl, beq_self_eq_true, Nat.succ_ne_zero, Option.some.injEq, Prod.mk.injEq, Int32.reduceLT, Int32.reduceLE, c1, c2, c3, pk_rem (show g < 2 ^ 31 by omega) (show 0 < l by omega) (show l < 2 ^ 31 by omega), nI_1]
def oddG (br : Nat) : Nat := Nat.gcd 100 (100 - br)
def aOdds (T : TA) (S : SA) (c m q : Int32) : Int32 := if inI T S c = true ∧ (0 ≤ m ∧ m ≤ 4) ∧ (0 ≤ q ∧ q ≤ 1) then nI (((if q = 0 then 100 - tB T else 100) / oddG (tB T)) ^ m.toNatClampNeg) else -1
set_option maxHeartbeats 4000000 in
theorem p_oddPow (hn : 300 < n) {b m : Nat} (hb : b ≤ 100) (hm : m ≤ 4) (c q x4 x5 : Option Value) (μ : mM) (L0 : Option Value) : mit (kX11_odds_92 n) n [L0, c, some (.int (nI m)), q, x4, x5, some (.int (nI b)), some (.int 1), some (.int 0)] [] μ = some (some (.int (nI (b ^ m))), μ) := by
  refine mit_for (fun j => [L0, c, some (.int (nI m)), q, x4, x5, some (.int (nI b)), some (.int (nI (b ^ j))), some (.int (nI j))]) (fun _ => μ) (B := m) (fun j hj r => ?_) (by omega) (fun r => ?_)
  · have c1 : ¬ nI m ≤ nI j := by rw [nI_leI (by omega) (by omega)]; omega
    simp only [kX11_odds_92, i_cst, i_ldI, i_ldJ, i_ldA, i_stI, i_stJ, i_stA, i_inc, i_bin, i_dv, i_un, i_i2l, i_bnJ, i_lshl, i_lcmp, i_dup, i_dp2, i_gI, i_gJ, i_gA, i_pI, i_pZ, i_pJ, i_pA, i_al, i_as, i_alJ, i_asJ, i_len, i_c0, i_c2, i_sw, msel, i_cV, i_cS, i_rV, i_rI, i_rZ, i_rJ, i_mm, i_pop, i_no, mpl, mvr, mnw, List.getElem?_cons_zero, List.getElem?_cons_succ, List.set_cons_zero, List.set_cons_succ, List.length_cons, List.length_nil, List.drop_succ_cons, List.drop_zero, List.take_succ_cons, List.take_zero, List.reverse_cons, List.reverse_nil, List.nil_append, List.cons_append, List.append_nil, List.map_cons, List.map_nil, List.sum_cons, List.sum_nil, Option.toList_some, Option.toList_none, Option.bind_some, Value.category, decide_eq_true_eq, decide_true, decide_false, if_true, if_false, Bool.false_eq_true, and_self, and_true, true_and, true_or, or_true, not_true_eq_false, not_false_eq_true, ↓reduceIte, reduceCtorEq, Nat.reduceEqDiff, Nat.reduceAdd, Nat.reduceSub, Nat.reduceMul, Nat.reduceLT, Nat.reduceLeDiff, Nat.reduceBEq, Nat.le_refl, Nat.zero_le, Nat.lt_irrefl, beq_self_eq_true, Nat.succ_ne_zero, Option.some.injEq, Prod.mk.injEq, Int32.reduceLT, Int32.reduceLE, c1, pk_mul, nI_1, Nat.pow_succ]
  · simp only [kX11_odds_92, i_cst, i_ldI, i_ldJ, i_ldA, i_stI, i_stJ, i_stA, i_inc, i_bin, i_dv, i_un, i_i2l, i_bnJ, i_lshl, i_lcmp, i_dup, i_dp2, i_gI, i_gJ, i_gA, i_pI, i_pZ, i_pJ, i_pA, i_al, i_as, i_alJ, i_asJ, i_len, i_c0, i_c2, i_sw, msel, i_cV, i_cS, i_rV, i_rI, i_rZ, i_rJ, i_mm, i_pop, i_no, mpl, mvr, mnw, List.getElem?_cons_zero, List.getElem?_cons_succ, List.set_cons_zero, List.set_cons_succ, List.length_cons, List.length_nil, List.drop_succ_cons, List.drop_zero, List.take_succ_cons, List.take_zero, List.reverse_cons, List.reverse_nil, List.nil_append, List.cons_append, List.append_nil, List.map_cons, List.map_nil, List.sum_cons, List.sum_nil, Option.toList_some, Option.toList_none, Option.bind_some, Value.category, decide_eq_true_eq, decide_true, decide_false, if_true, if_false, Bool.false_eq_true, and_self, and_true, true_and, true_or, or_true, not_true_eq_false, not_false_eq_true, ↓reduceIte, reduceCtorEq, Nat.reduceEqDiff, Nat.reduceAdd, Nat.reduceSub, Nat.reduceMul, Nat.reduceLT, Nat.reduceLeDiff, Nat.reduceBEq, Nat.le_refl, Nat.zero_le, Nat.lt_irrefl, beq_self_eq_true, Nat.succ_ne_zero, Option.some.injEq, Prod.mk.injEq, Int32.reduceLT, Int32.reduceLE, Int32.le_refl]
set_option maxHeartbeats 4000000 in
theorem c_odds (hn : 300 < n) (J : Nat → Nat → Int64) (f : Nat) (o : SO I 29 T S) (c m q : Int32) : FX11_odds n [.ref 0, .int c, .int m, .int q] (mm I J f) = some (some (.int (aOdds T S c m q)), mm I J f) := by
  have hin := p_isInI n J f o c
  have hB := o.2.1.2.2.2.1
  have eB : I 2 3 = nI (tB T) := o.2.2.1.1.2.2.2.1
  by_cases h : inI T S c = true
  · by_cases m0 : m < 0
    · simp only [eX11_odds, kX11_odds_0, kX11_odds_29, i_cst, i_ldI, i_ldJ, i_ldA, i_stI, i_stJ, i_stA, i_inc, i_bin, i_dv, i_un, i_i2l, i_bnJ, i_lshl, i_lcmp, i_dup, i_dp2, i_gI, i_gJ, i_gA, i_pI, i_pZ, i_pJ, i_pA, i_al, i_as, i_alJ, i_asJ, i_len, i_c0, i_c2, i_sw, msel, i_cV, i_cS, i_rV, i_rI, i_rZ, i_rJ, i_mm, i_pop, i_no, mpl, mvr, mnw, List.getElem?_cons_zero, List.getElem?_cons_succ, List.set_cons_zero, List.set_cons_succ, List.length_cons, List.length_nil, List.drop_succ_cons, List.drop_zero, List.take_succ_cons, List.take_zero, List.reverse_cons, List.reverse_nil, List.nil_append, List.cons_append, List.append_nil, List.map_cons, List.map_nil, List.sum_cons, List.sum_nil, Option.toList_some, Option.toList_none, Option.bind_some, Value.category, decide_eq_true_eq, decide_true, decide_false, if_true, if_false, Bool.false_eq_true, and_self, and_true, true_and, true_or, or_true, not_true_eq_false, not_false_eq_true, ↓reduceIte, reduceCtorEq, Nat.reduceEqDiff, Nat.reduceAdd, Nat.reduceSub, Nat.reduceMul, Nat.reduceLT, Nat.reduceLeDiff, Nat.reduceBEq, Nat.le_refl, Nat.zero_le, Nat.lt_irrefl, beq_self_eq_true, Nat.succ_ne_zero, Option.some.injEq, Prod.mk.injEq, Int32.reduceLT, Int32.reduceLE, y_0, y_29, rt_0_5, hin, b2i_eq0, h, m0, aOdds, nn0 m0, false_and, and_false]
    by_cases m1 : 4 < m
    · simp only [eX11_odds, kX11_odds_0, kX11_odds_29, i_cst, i_ldI, i_ldJ, i_ldA, i_stI, i_stJ, i_stA, i_inc, i_bin, i_dv, i_un, i_i2l, i_bnJ, i_lshl, i_lcmp, i_dup, i_dp2, i_gI, i_gJ, i_gA, i_pI, i_pZ, i_pJ, i_pA, i_al, i_as, i_alJ, i_asJ, i_len, i_c0, i_c2, i_sw, msel, i_cV, i_cS, i_rV, i_rI, i_rZ, i_rJ, i_mm, i_pop, i_no, mpl, mvr, mnw, List.getElem?_cons_zero, List.getElem?_cons_succ, List.set_cons_zero, List.set_cons_succ, List.length_cons, List.length_nil, List.drop_succ_cons, List.drop_zero, List.take_succ_cons, List.take_zero, List.reverse_cons, List.reverse_nil, List.nil_append, List.cons_append, List.append_nil, List.map_cons, List.map_nil, List.sum_cons, List.sum_nil, Option.toList_some, Option.toList_none, Option.bind_some, Value.category, decide_eq_true_eq, decide_true, decide_false, if_true, if_false, Bool.false_eq_true, and_self, and_true, true_and, true_or, or_true, not_true_eq_false, not_false_eq_true, ↓reduceIte, reduceCtorEq, Nat.reduceEqDiff, Nat.reduceAdd, Nat.reduceSub, Nat.reduceMul, Nat.reduceLT, Nat.reduceLeDiff, Nat.reduceBEq, Nat.le_refl, Nat.zero_le, Nat.lt_irrefl, beq_self_eq_true, Nat.succ_ne_zero, Option.some.injEq, Prod.mk.injEq, Int32.reduceLT, Int32.reduceLE, y_0, y_29, rt_0_5, hin, b2i_eq0, h, m0, m1, aOdds, Int32.not_le.mpr m1, false_and, and_false]
    by_cases q0 : q < 0
    · simp only [eX11_odds, kX11_odds_0, kX11_odds_29, i_cst, i_ldI, i_ldJ, i_ldA, i_stI, i_stJ, i_stA, i_inc, i_bin, i_dv, i_un, i_i2l, i_bnJ, i_lshl, i_lcmp, i_dup, i_dp2, i_gI, i_gJ, i_gA, i_pI, i_pZ, i_pJ, i_pA, i_al, i_as, i_alJ, i_asJ, i_len, i_c0, i_c2, i_sw, msel, i_cV, i_cS, i_rV, i_rI, i_rZ, i_rJ, i_mm, i_pop, i_no, mpl, mvr, mnw, List.getElem?_cons_zero, List.getElem?_cons_succ, List.set_cons_zero, List.set_cons_succ, List.length_cons, List.length_nil, List.drop_succ_cons, List.drop_zero, List.take_succ_cons, List.take_zero, List.reverse_cons, List.reverse_nil, List.nil_append, List.cons_append, List.append_nil, List.map_cons, List.map_nil, List.sum_cons, List.sum_nil, Option.toList_some, Option.toList_none, Option.bind_some, Value.category, decide_eq_true_eq, decide_true, decide_false, if_true, if_false, Bool.false_eq_true, and_self, and_true, true_and, true_or, or_true, not_true_eq_false, not_false_eq_true, ↓reduceIte, reduceCtorEq, Nat.reduceEqDiff, Nat.reduceAdd, Nat.reduceSub, Nat.reduceMul, Nat.reduceLT, Nat.reduceLeDiff, Nat.reduceBEq, Nat.le_refl, Nat.zero_le, Nat.lt_irrefl, beq_self_eq_true, Nat.succ_ne_zero, Option.some.injEq, Prod.mk.injEq, Int32.reduceLT, Int32.reduceLE, y_0, y_29, rt_0_5, hin, b2i_eq0, h, m0, m1, q0, aOdds, nn0 q0, false_and, and_false]
    by_cases q1 : q ≤ 1
    · obtain ⟨mm', hm', rfl⟩ := nI_of m0
      have hm4 : mm' ≤ 4 := by
        rw [show (4 : Int32) = nI 4 from rfl, nI_ltI (by decide) hm'] at m1; omega
      have e1 : (100 : Int32) - nI (tB T) = nI (100 - tB T) := by rw [show (100 : Int32) = nI 100 from rfl, pk_sub (by omega)]
      have hg : 0 < oddG (tB T) := Nat.gcd_pos_of_pos_left _ (by decide)
      have hg2 : oddG (tB T) ≤ 100 := Nat.gcd_le_left _ (by decide)
      have c2 : ¬ nI (oddG (tB T)) ≤ 0 := nI_nle hg (by omega)
      have c3 : ¬ nI (oddG (tB T)) = 0 := nI_ne0 hg (by omega)
      have e2 : Nat.gcd 100 (100 - tB T) = oddG (tB T) := rfl
      have cond : (0 ≤ nI mm' ∧ nI mm' ≤ 4) ∧ (0 ≤ q ∧ q ≤ 1) := ⟨⟨nI_pos' hm', Int32.not_lt.mp m1⟩, Int32.not_lt.mp q0, q1⟩
      by_cases qz : q = 0
      · have e3 : nI (100 - tB T) / nI (oddG (tB T)) = nI ((100 - tB T) / oddG (tB T)) := pk_div (by omega) hg (by omega)
        have hb : (100 - tB T) / oddG (tB T) ≤ 100 := Nat.le_trans (Nat.div_le_self _ _) (by omega)
        simp only [eX11_odds, kX11_odds_0, kX11_odds_49, kX11_odds_67, kX11_odds_84, i_cst, i_ldI, i_ldJ, i_ldA, i_stI, i_stJ, i_stA, i_inc, i_bin, i_dv, i_un, i_i2l, i_bnJ, i_lshl, i_lcmp, i_dup, i_dp2, i_gI, i_gJ, i_gA, i_pI, i_pZ, i_pJ, i_pA, i_al, i_as, i_alJ, i_asJ, i_len, i_c0, i_c2, i_sw, msel, i_cV, i_cS, i_rV, i_rI, i_rZ, i_rJ, i_mm, i_pop, i_no, mpl, mvr, mnw, List.getElem?_cons_zero, List.getElem?_cons_succ, List.set_cons_zero, List.set_cons_succ, List.length_cons, List.length_nil, List.drop_succ_cons, List.drop_zero, List.take_succ_cons, List.take_zero, List.reverse_cons, List.reverse_nil, List.nil_append, List.cons_append, List.append_nil, List.map_cons, List.map_nil, List.sum_cons, List.sum_nil, Option.toList_some, Option.toList_none, Option.bind_some, Value.category, decide_eq_true_eq, decide_true, decide_false, if_true, if_false, Bool.false_eq_true, and_self, and_true, true_and, true_or, or_true, not_true_eq_false, not_false_eq_true, ↓reduceIte, reduceCtorEq, Nat.reduceEqDiff, Nat.reduceAdd, Nat.reduceSub, Nat.reduceMul, Nat.reduceLT, Nat.reduceLeDiff, Nat.reduceBEq, Nat.le_refl, Nat.zero_le, Nat.lt_irrefl, beq_self_eq_true, Nat.succ_ne_zero, Option.some.injEq, Prod.mk.injEq, Int32.reduceLT, Int32.reduceLE, y_0, y_2, y_29, rt_0_2, rt_0_5, hin, b2i_eq0, h, m0, m1, q0, q1, qz, eB, e1, p_commonDivisor hn (show 100 - tB T ≤ 100 by omega), e2, c2, c3, e3, p_oddPow hn hb hm4, aOdds, cond, nI_clamp hm', show (0 : Int32) ≤ 1 by decide, show ¬ (0 : Int32) < 0 by decide, Int32.le_refl, cond.1]
      · have e3 : (100 : Int32) / nI (oddG (tB T)) = nI (100 / oddG (tB T)) := by rw [show (100 : Int32) = nI 100 from rfl]; exact pk_div (by omega) hg (by omega)
        have hb : 100 / oddG (tB T) ≤ 100 := Nat.le_trans (Nat.div_le_self _ _) (by omega)
        simp only [eX11_odds, kX11_odds_0, kX11_odds_49, kX11_odds_67, kX11_odds_84, i_cst, i_ldI, i_ldJ, i_ldA, i_stI, i_stJ, i_stA, i_inc, i_bin, i_dv, i_un, i_i2l, i_bnJ, i_lshl, i_lcmp, i_dup, i_dp2, i_gI, i_gJ, i_gA, i_pI, i_pZ, i_pJ, i_pA, i_al, i_as, i_alJ, i_asJ, i_len, i_c0, i_c2, i_sw, msel, i_cV, i_cS, i_rV, i_rI, i_rZ, i_rJ, i_mm, i_pop, i_no, mpl, mvr, mnw, List.getElem?_cons_zero, List.getElem?_cons_succ, List.set_cons_zero, List.set_cons_succ, List.length_cons, List.length_nil, List.drop_succ_cons, List.drop_zero, List.take_succ_cons, List.take_zero, List.reverse_cons, List.reverse_nil, List.nil_append, List.cons_append, List.append_nil, List.map_cons, List.map_nil, List.sum_cons, List.sum_nil, Option.toList_some, Option.toList_none, Option.bind_some, Value.category, decide_eq_true_eq, decide_true, decide_false, if_true, if_false, Bool.false_eq_true, and_self, and_true, true_and, true_or, or_true, not_true_eq_false, not_false_eq_true, ↓reduceIte, reduceCtorEq, Nat.reduceEqDiff, Nat.reduceAdd, Nat.reduceSub, Nat.reduceMul, Nat.reduceLT, Nat.reduceLeDiff, Nat.reduceBEq, Nat.le_refl, Nat.zero_le, Nat.lt_irrefl, beq_self_eq_true, Nat.succ_ne_zero, Option.some.injEq, Prod.mk.injEq, Int32.reduceLT, Int32.reduceLE, y_0, y_2, y_29, rt_0_2, rt_0_5, hin, b2i_eq0, h, m0, m1, q0, q1, qz, eB, e1, p_commonDivisor hn (show 100 - tB T ≤ 100 by omega), e2, c2, c3, e3, p_oddPow hn hb hm4, aOdds, cond, nI_clamp hm']
    · simp only [eX11_odds, kX11_odds_0, kX11_odds_29, i_cst, i_ldI, i_ldJ, i_ldA, i_stI, i_stJ, i_stA, i_inc, i_bin, i_dv, i_un, i_i2l, i_bnJ, i_lshl, i_lcmp, i_dup, i_dp2, i_gI, i_gJ, i_gA, i_pI, i_pZ, i_pJ, i_pA, i_al, i_as, i_alJ, i_asJ, i_len, i_c0, i_c2, i_sw, msel, i_cV, i_cS, i_rV, i_rI, i_rZ, i_rJ, i_mm, i_pop, i_no, mpl, mvr, mnw, List.getElem?_cons_zero, List.getElem?_cons_succ, List.set_cons_zero, List.set_cons_succ, List.length_cons, List.length_nil, List.drop_succ_cons, List.drop_zero, List.take_succ_cons, List.take_zero, List.reverse_cons, List.reverse_nil, List.nil_append, List.cons_append, List.append_nil, List.map_cons, List.map_nil, List.sum_cons, List.sum_nil, Option.toList_some, Option.toList_none, Option.bind_some, Value.category, decide_eq_true_eq, decide_true, decide_false, if_true, if_false, Bool.false_eq_true, and_self, and_true, true_and, true_or, or_true, not_true_eq_false, not_false_eq_true, ↓reduceIte, reduceCtorEq, Nat.reduceEqDiff, Nat.reduceAdd, Nat.reduceSub, Nat.reduceMul, Nat.reduceLT, Nat.reduceLeDiff, Nat.reduceBEq, Nat.le_refl, Nat.zero_le, Nat.lt_irrefl, beq_self_eq_true, Nat.succ_ne_zero, Option.some.injEq, Prod.mk.injEq, Int32.reduceLT, Int32.reduceLE, y_0, y_29, rt_0_5, hin, b2i_eq0, h, m0, m1, q0, q1, aOdds, and_false]
  · simp only [eX11_odds, kX11_odds_0, kX11_odds_29, i_cst, i_ldI, i_ldJ, i_ldA, i_stI, i_stJ, i_stA, i_inc, i_bin, i_dv, i_un, i_i2l, i_bnJ, i_lshl, i_lcmp, i_dup, i_dp2, i_gI, i_gJ, i_gA, i_pI, i_pZ, i_pJ, i_pA, i_al, i_as, i_alJ, i_asJ, i_len, i_c0, i_c2, i_sw, msel, i_cV, i_cS, i_rV, i_rI, i_rZ, i_rJ, i_mm, i_pop, i_no, mpl, mvr, mnw, List.getElem?_cons_zero, List.getElem?_cons_succ, List.set_cons_zero, List.set_cons_succ, List.length_cons, List.length_nil, List.drop_succ_cons, List.drop_zero, List.take_succ_cons, List.take_zero, List.reverse_cons, List.reverse_nil, List.nil_append, List.cons_append, List.append_nil, List.map_cons, List.map_nil, List.sum_cons, List.sum_nil, Option.toList_some, Option.toList_none, Option.bind_some, Value.category, decide_eq_true_eq, decide_true, decide_false, if_true, if_false, Bool.false_eq_true, and_self, and_true, true_and, true_or, or_true, not_true_eq_false, not_false_eq_true, ↓reduceIte, reduceCtorEq, Nat.reduceEqDiff, Nat.reduceAdd, Nat.reduceSub, Nat.reduceMul, Nat.reduceLT, Nat.reduceLeDiff, Nat.reduceBEq, Nat.le_refl, Nat.zero_le, Nat.lt_irrefl, beq_self_eq_true, Nat.succ_ne_zero, Option.some.injEq, Prod.mk.injEq, Int32.reduceLT, Int32.reduceLE, y_0, y_29, rt_0_5, hin, b2i_eq0, h, aOdds, false_and]
def freeN (T : TA) (S : SA) : Nat := cn (fun c => inA T S c && decide (barA T S c = 0)) 8
theorem bc_free (T : TA) (S : SA) : bcI (freeA T S) = nI (freeN T S) := bc_bs _
def setHd (S : SA) (g : Nat → Nat) : SA := (scl S, g, sho S, sbo S, syr S, ssd S)
def setCl (S : SA) (g : Nat → Option Nat) : SA := (g, shd S, sho S, sbo S, syr S, ssd S)
/-- a heading set in what is thought -/
theorem SO_hd {h c : Nat} (hh : h < 4) (o : SO I 34 T S) : SO (u2 I 36 c (nI h)) 34 T (setHd S (fun j => if j = c then h else shd S j)) := by
  obtain ⟨ha, ht, hT, hR, h1, h2, h3⟩ := o
  refine ⟨ha, ht, TC_of (fun b i _ h2 _ => u2_a (by omega)) hT, ⟨fun j hj => ?_, hR.2⟩, fun j hj => ?_, ?_, ?_⟩
  · obtain ⟨w1, w2, w3, w4⟩ := hR.1 j hj
    refine ⟨w1, ?_, w3, w4⟩
    show (if j = c then h else shd S j) < 4
    split <;> omega
  · obtain ⟨w1, w2, w3, w4⟩ := h1 j hj
    refine ⟨by rw [u2_a (by omega)]; exact w1, ?_, by rw [u2_a (by omega)]; exact w3, by rw [u2_a (by omega)]; exact w4⟩
    show u2 I 36 c (nI h) 36 j = nI (if j = c then h else shd S j)
    by_cases e : j = c
    · subst e; rw [u2_s, if_pos rfl]
    · rw [u2_j e, if_neg e]; exact w2
  · rw [u2_a (by omega)]; exact h2
  · rw [u2_a (by omega)]; exact h3
theorem SO_cl {c : Nat} {p : Option Nat} (hp : ∀ q, p = some q → q < tC T * tR T) (o : SO I 34 T S) : SO (u2 I 35 c (oc p)) 34 T (setCl S (fun j => if j = c then p else scl S j)) := by
  obtain ⟨ha, ht, hT, hR, h1, h2, h3⟩ := o
  refine ⟨ha, ht, TC_of (fun b i _ h2 _ => u2_a (by omega)) hT, ⟨fun j hj => ?_, hR.2⟩, fun j hj => ?_, ?_, ?_⟩
  · obtain ⟨w1, w2, w3, w4⟩ := hR.1 j hj
    refine ⟨fun q hq => ?_, w2, w3, w4⟩
    have hq : (if j = c then p else scl S j) = some q := hq
    split at hq
    · exact hp q hq
    · exact w1 q hq
  · obtain ⟨w1, w2, w3, w4⟩ := h1 j hj
    refine ⟨?_, by rw [u2_a (by omega)]; exact w2, by rw [u2_a (by omega)]; exact w3, by rw [u2_a (by omega)]; exact w4⟩
    show u2 I 35 c (oc p) 35 j = oc (if j = c then p else scl S j)
    by_cases e : j = c
    · subst e; rw [u2_s, if_pos rfl]
    · rw [u2_j e, if_neg e]; exact w1
  · rw [u2_a (by omega)]; exact h2
  · rw [u2_a (by omega)]; exact h3
/-- law(heading) -/
def hdI (w : Int32) : Bool := decide (0 ≤ w ∧ w < 4)
def aLaw (T : TA) (S : SA) (w : Int32) : Int32 := if hdI w = true then nI (freeN T (setHd S (fun _ => w.toNatClampNeg))) else -1
theorem SO_congr {a : Nat} {S' : SA} (o : SO I a T S) (h1 : ∀ j, j < tk T → scl S' j = scl S j ∧ shd S' j = shd S j ∧ sho S' j = sho S j ∧ sbo S' j = sbo S j) (h2 : syr S' = syr S) (h3 : ssd S' = ssd S) : SO I a T S' := by
  obtain ⟨ha, ht, hT, hR, q1, q2, q3⟩ := o
  refine ⟨ha, ht, hT, ⟨fun j hj => ?_, by rw [h2]; exact hR.2.1, by rw [h3]; exact hR.2.2⟩, fun j hj => ?_, by rw [h2]; exact q2, by rw [h3]; exact q3⟩
  · obtain ⟨e1, e2, e3, e4⟩ := h1 j hj
    rw [e1, e2, e3, e4]; exact hR.1 j hj
  · obtain ⟨e1, e2, e3, e4⟩ := h1 j hj
    rw [e1, e2, e3, e4]; exact q1 j hj
set_option maxHeartbeats 4000000 in
theorem c_law (hn : 300 < n) (J : Nat → Nat → Int64) (f : Nat) (o : SO I 29 T S) (w : Int32) : ∃ I', FX11_law n [.ref 0, .int w] (mm I J f) = some (some (.int (aLaw T S w)), mm I' J f) ∧ TF I I' := by
  have hl : b2i (0 ≤ w ∧ w < 4) = b2i (hdI w = true) := b2i_congr (by simp [hdI])
  by_cases h : hdI w = true
  · obtain ⟨g, hg, rfl⟩ : ∃ g, g < 4 ∧ w = nI g := by
      simp only [hdI, decide_eq_true_eq] at h
      obtain ⟨j, hj, rfl⟩ := nI_of (x := w) (by rw [Int32.not_lt]; exact h.1)
      have h2 := h.2
      rw [show (4 : Int32) = nI 4 from rfl, nI_ltI hj (by decide)] at h2
      exact ⟨j, h2, rfl⟩
    obtain ⟨I1, g1, g2, g3⟩ := p_copyFrom (show 8 < n by omega) J f o
    simp only [eX11_law, kX11_law_0, i_cst, i_ldI, i_ldJ, i_ldA, i_stI, i_stJ, i_stA, i_inc, i_bin, i_dv, i_un, i_i2l, i_bnJ, i_lshl, i_lcmp, i_dup, i_dp2, i_gI, i_gJ, i_gA, i_pI, i_pZ, i_pJ, i_pA, i_al, i_as, i_alJ, i_asJ, i_len, i_c0, i_c2, i_sw, msel, i_cV, i_cS, i_rV, i_rI, i_rZ, i_rJ, i_mm, i_pop, i_no, mpl, mvr, mnw, List.getElem?_cons_zero, List.getElem?_cons_succ, List.set_cons_zero, List.set_cons_succ, List.length_cons, List.length_nil, List.drop_succ_cons, List.drop_zero, List.take_succ_cons, List.take_zero, List.reverse_cons, List.reverse_nil, List.nil_append, List.cons_append, List.append_nil, List.map_cons, List.map_nil, List.sum_cons, List.sum_nil, Option.toList_some, Option.toList_none, Option.bind_some, Value.category, decide_eq_true_eq, decide_true, decide_false, if_true, if_false, Bool.false_eq_true, and_self, and_true, true_and, true_or, or_true, not_true_eq_false, not_false_eq_true, ↓reduceIte, reduceCtorEq, Nat.reduceEqDiff, Nat.reduceAdd, Nat.reduceSub, Nat.reduceMul, Nat.reduceLT, Nat.reduceLeDiff, Nat.reduceBEq, Nat.le_refl, Nat.zero_le, Nat.lt_irrefl, beq_self_eq_true, Nat.succ_ne_zero, Option.some.injEq, Prod.mk.injEq, Int32.reduceLT, Int32.reduceLE, p_isHeading, hl, b2i_eq0, h, y_0, y_34, rt_0_5, rt_0_6, g1]
    refine mit_ind (G := kX11_law_22 n) (fun d L μ => ∃ (j : Nat) (I' : Nat → Nat → Int32), j + d = 8 ∧ μ = mm I' J f ∧ SO I' 34 T (setHd S (fun i => if i < j then g else shd S i)) ∧ TF I I' ∧ L = [some (.ref 0), some (.int (nI g)), some (.int (nI j))]) (fun v => ∃ I', v = some (some (.int (aLaw T S (nI g))), mm I' J f) ∧ TF I I') ?_ ?_ 8 n _ _ (by omega) ⟨0, I1, rfl, rfl, SO_congr g2 (fun j _ => ⟨rfl, by simp [setHd, shd], rfl, rfl⟩) rfl rfl, fun b j _ _ h => g3 b j h, rfl⟩
    · rintro L μ ⟨j, I', hj, rfl, hO, hI, rfl⟩
      have : j = 8 := by omega
      subst this
      have hO' : SO I' 34 T (setHd S (fun _ => g)) := SO_congr hO (fun j hj => ⟨rfl, by
        have : j < 8 := by have := o.2.1.1; omega
        simp [setHd, shd, this], rfl, rfl⟩) rfl rfl
      refine ⟨_, fun r => ?_, I', rfl, hI⟩
      simp only [kX11_law_22, i_cst, i_ldI, i_ldJ, i_ldA, i_stI, i_stJ, i_stA, i_inc, i_bin, i_dv, i_un, i_i2l, i_bnJ, i_lshl, i_lcmp, i_dup, i_dp2, i_gI, i_gJ, i_gA, i_pI, i_pZ, i_pJ, i_pA, i_al, i_as, i_alJ, i_asJ, i_len, i_c0, i_c2, i_sw, msel, i_cV, i_cS, i_rV, i_rI, i_rZ, i_rJ, i_mm, i_pop, i_no, mpl, mvr, mnw, List.getElem?_cons_zero, List.getElem?_cons_succ, List.set_cons_zero, List.set_cons_succ, List.length_cons, List.length_nil, List.drop_succ_cons, List.drop_zero, List.take_succ_cons, List.take_zero, List.reverse_cons, List.reverse_nil, List.nil_append, List.cons_append, List.append_nil, List.map_cons, List.map_nil, List.sum_cons, List.sum_nil, Option.toList_some, Option.toList_none, Option.bind_some, Value.category, decide_eq_true_eq, decide_true, decide_false, if_true, if_false, Bool.false_eq_true, and_self, and_true, true_and, true_or, or_true, not_true_eq_false, not_false_eq_true, ↓reduceIte, reduceCtorEq, Nat.reduceEqDiff, Nat.reduceAdd, Nat.reduceSub, Nat.reduceMul, Nat.reduceLT, Nat.reduceLeDiff, Nat.reduceBEq, Nat.le_refl, Nat.zero_le, Nat.lt_irrefl, beq_self_eq_true, Nat.succ_ne_zero, Option.some.injEq, Prod.mk.injEq, Int32.reduceLT, Int32.reduceLE, le88, y_0, y_34, rt_0_6, p_whoIsFree (show 8 < n by omega) J f hO', p_bitCount, bc_free, aLaw, h, nI_clamp (show g < 2 ^ 31 by omega)]
    · rintro d L μ ⟨j, I', hj, rfl, hO, hI, rfl⟩
      have hj8 : j < 8 := by omega
      refine Or.inr ⟨_, _, ⟨j + 1, u2 I' 36 j (nI g), by omega, rfl, SO_congr (SO_hd hg hO) (fun i hi => ⟨rfl, ?_, rfl, rfl⟩) rfl rfl, fun b i h1 h2 h3 => by rw [u2_a (by omega)]; exact hI b i h1 h2 h3, rfl⟩, fun r => ?_⟩
      · show (if i < j + 1 then g else shd S i) = (if i = j then g else if i < j then g else shd S i)
        by_cases e : i = j
        · simp [e]
        · have : (i < j + 1) = (i < j) := by apply propext; omega
          simp [e, this]
      · simp only [kX11_law_22, i_cst, i_ldI, i_ldJ, i_ldA, i_stI, i_stJ, i_stA, i_inc, i_bin, i_dv, i_un, i_i2l, i_bnJ, i_lshl, i_lcmp, i_dup, i_dp2, i_gI, i_gJ, i_gA, i_pI, i_pZ, i_pJ, i_pA, i_al, i_as, i_alJ, i_asJ, i_len, i_c0, i_c2, i_sw, msel, i_cV, i_cS, i_rV, i_rI, i_rZ, i_rJ, i_mm, i_pop, i_no, mpl, mvr, mnw, List.getElem?_cons_zero, List.getElem?_cons_succ, List.set_cons_zero, List.set_cons_succ, List.length_cons, List.length_nil, List.drop_succ_cons, List.drop_zero, List.take_succ_cons, List.take_zero, List.reverse_cons, List.reverse_nil, List.nil_append, List.cons_append, List.append_nil, List.map_cons, List.map_nil, List.sum_cons, List.sum_nil, Option.toList_some, Option.toList_none, Option.bind_some, Value.category, decide_eq_true_eq, decide_true, decide_false, if_true, if_false, Bool.false_eq_true, and_self, and_true, true_and, true_or, or_true, not_true_eq_false, not_false_eq_true, ↓reduceIte, reduceCtorEq, Nat.reduceEqDiff, Nat.reduceAdd, Nat.reduceSub, Nat.reduceMul, Nat.reduceLT, Nat.reduceLeDiff, Nat.reduceBEq, Nat.le_refl, Nat.zero_le, Nat.lt_irrefl, beq_self_eq_true, Nat.succ_ne_zero, Option.some.injEq, Prod.mk.injEq, Int32.reduceLT, Int32.reduceLE, nle8 hj8, y_0, y_34, rt_0_6, rt_34_2, p_setN n 36 j _ (mm I' J f) y_36 (by decide) hj8, uI_mm, nI_1]
  · refine ⟨I, ?_, TF.rf⟩
    simp only [eX11_law, kX11_law_0, i_cst, i_ldI, i_ldJ, i_ldA, i_stI, i_stJ, i_stA, i_inc, i_bin, i_dv, i_un, i_i2l, i_bnJ, i_lshl, i_lcmp, i_dup, i_dp2, i_gI, i_gJ, i_gA, i_pI, i_pZ, i_pJ, i_pA, i_al, i_as, i_alJ, i_asJ, i_len, i_c0, i_c2, i_sw, msel, i_cV, i_cS, i_rV, i_rI, i_rZ, i_rJ, i_mm, i_pop, i_no, mpl, mvr, mnw, List.getElem?_cons_zero, List.getElem?_cons_succ, List.set_cons_zero, List.set_cons_succ, List.length_cons, List.length_nil, List.drop_succ_cons, List.drop_zero, List.take_succ_cons, List.take_zero, List.reverse_cons, List.reverse_nil, List.nil_append, List.cons_append, List.append_nil, List.map_cons, List.map_nil, List.sum_cons, List.sum_nil, Option.toList_some, Option.toList_none, Option.bind_some, Value.category, decide_eq_true_eq, decide_true, decide_false, if_true, if_false, Bool.false_eq_true, and_self, and_true, true_and, true_or, or_true, not_true_eq_false, not_false_eq_true, ↓reduceIte, reduceCtorEq, Nat.reduceEqDiff, Nat.reduceAdd, Nat.reduceSub, Nat.reduceMul, Nat.reduceLT, Nat.reduceLeDiff, Nat.reduceBEq, Nat.le_refl, Nat.zero_le, Nat.lt_irrefl, beq_self_eq_true, Nat.succ_ne_zero, Option.some.injEq, Prod.mk.injEq, Int32.reduceLT, Int32.reduceLE, p_isHeading, hl, b2i_eq0, h, aLaw]
end Best
