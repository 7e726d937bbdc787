/-! PURE: what one is worth, what it softens, prices, years -/
def clampW (v : Int32) : Int32 := if -9999 < (if v < 9999 then v else 9999) then (if v < 9999 then v else 9999) else -9999
def clampS (h v : Int32) : Int32 := if 0 < (if v < h then v else h) then (if v < h then v else h) else 0
def worthV (T : TA) (h b m l y : Int32) : Int32 := clampW (if tW T = [] then b * y - h else fval (envA h b m l y) (tW T))
def softV (T : TA) (h b m l y : Int32) : Int32 := clampS h (if tF T = [] then 1 else fval (envA h b m l y) (tF T))
def worthC (T : TA) (S : SA) (c : Nat) (m : Int32) : Int32 := worthV T (nI (sho S c)) (nI (sbo S c)) m (nI (pos S c / tC T)) (nI (syr S))
def softC (T : TA) (S : SA) (c : Nat) (m : Int32) : Int32 := softV T (nI (sho S c)) (nI (sbo S c)) m (nI (pos S c / tC T)) (nI (syr S))
theorem clampS_nI (h : Nat) (hh : h < 2 ^ 31) (v : Int32) : ∃ s, s ≤ h ∧ clampS (nI h) v = nI s := by
  unfold clampS
  by_cases h1 : v < nI h
  · rw [if_pos h1]
    by_cases h2 : 0 < v
    · rw [if_pos h2]
      obtain ⟨j, hj, rfl⟩ := nI_of (x := v) (by rw [Int32.not_lt]; exact Int32.le_of_lt h2)
      rw [nI_ltI hj hh] at h1
      exact ⟨j, by omega, rfl⟩
    · rw [if_neg h2]; exact ⟨0, Nat.zero_le _, rfl⟩
  · rw [if_neg h1]
    by_cases h2 : 0 < nI h
    · rw [if_pos h2]; exact ⟨h, Nat.le_refl _, rfl⟩
    · rw [if_neg h2]; exact ⟨0, Nat.zero_le _, rfl⟩
def softN (T : TA) (S : SA) (c : Nat) (m : Int32) : Nat := (softC T S c m).toNatClampNeg
theorem softN_ok (T : TA) (S : SA) (c : Nat) (m : Int32) (h : sho S c < 2 ^ 31) : softC T S c m = nI (softN T S c m) ∧ softN T S c m ≤ sho S c := by
  obtain ⟨s, h1, h2⟩ := clampS_nI (sho S c) h (if tF T = [] then 1 else fval (envA (nI (sho S c)) (nI (sbo S c)) m (nI (pos S c / tC T)) (nI (syr S))) (tF T))
  have h3 : softC T S c m = nI s := h2
  unfold softN
  rw [h3, nI_clamp (by omega)]
  exact ⟨rfl, h1⟩
theorem TC_of {I I' : Nat → Nat → Int32} {T : TA} (h : ∀ b j, 2 ≤ b → b ≤ 11 → b ≠ 9 → I' b j = I b j) (hT : TC I T) : TC I' T := by
  obtain ⟨⟨h0, h1, h2, h3, h4, h5⟩, hc, hF, hW⟩ := hT
  refine ⟨⟨?_, ?_, ?_, ?_, ?_, ?_⟩, fun j hj => ⟨?_, ?_, ?_, ?_⟩, ⟨?_, hF.2.1, fun i hi => ?_⟩, ⟨?_, hW.2.1, fun i hi => ?_⟩⟩ <;> rw [h _ _ (by decide) (by decide) (by decide)] <;> first | assumption | exact (hc j hj).1 | exact (hc j hj).2.1 | exact (hc j hj).2.2.1 | exact (hc j hj).2.2.2 | exact hF.1 | exact hF.2.2 i hi | exact hW.1 | exact hW.2.2 i hi
theorem SC_of {I I' : Nat → Nat → Int32} {a k : Nat} {S : SA} (h : ∀ b j, a ≤ b → b ≤ a + 4 → I' b j = I b j) (hS : SC I a k S) : SC I' a k S := by
  obtain ⟨hc, h1, h2⟩ := hS
  refine ⟨fun j hj => ⟨?_, ?_, ?_, ?_⟩, ?_, ?_⟩ <;> rw [h _ _ (by omega) (by omega)] <;> first | assumption | exact (hc j hj).1 | exact (hc j hj).2.1 | exact (hc j hj).2.2.1 | exact (hc j hj).2.2.2
/-- only operands have changed -/
def FrO (I I' : Nat → Nat → Int32) : Prop := ∀ b j, b ≠ 9 → b ≠ 12 → I' b j = I b j
theorem FrO.rf {I : Nat → Nat → Int32} : FrO I I := fun _ _ _ _ => rfl
theorem FrO.tr {I I' I'' : Nat → Nat → Int32} (h1 : FrO I I') (h2 : FrO I' I'') : FrO I I'' := fun b j a c => (h2 b j a c).trans (h1 b j a c)
theorem SO_FrO {I I' : Nat → Nat → Int32} {a : Nat} {T : TA} {S : SA} (o : SO I a T S) (h : FrO I I') : SO I' a T S := by
  obtain ⟨ha, ht, hT, hR, hS⟩ := o
  exact ⟨ha, ht, TC_of (fun b j _ h2 h3 => h b j h3 (by omega)) hT, hR, SC_of (fun b j h1 h2 => h b j (by omega) (by omega)) hS⟩
section Worth
variable {n : Nat} {I : Nat → Nat → Int32} {a : Nat} {T : TA} {S : SA}
theorem p_isTold (n : Nat) {a : Nat} (ha : a = 7 ∨ a = 10 ∨ a = 18 ∨ a = 21) (J : Nat → Nat → Int64) (f : Nat) {c : List (Nat × Nat)} (hF : FC I a c) : FX1_isTold n [.ref a] (mm I J f) = some (some (.int (b2i (¬ c = []))), mm I J f) := by
  obtain ⟨r0, r1, y0, y1, y2⟩ := fm_rt ha f
  simp only [eX1_isTold, kX1_isTold_0, kX1_isTold_12, i_cst, i_ldI, i_ldJ, i_ldA, i_stI, i_stJ, i_stA, i_inc, i_bin, i_dv, i_un, i_i2l, i_bnJ, i_lshl, i_lcmp, i_dup, i_dp2, i_gI, i_gJ, i_gA, i_pI, i_pZ, i_pJ, i_pA, i_al, i_as, i_alJ, i_asJ, i_len, i_c0, i_c2, i_sw, msel, i_cV, i_cS, i_rV, i_rI, i_rZ, i_rJ, i_mm, i_pop, i_no, mpl, mvr, mnw, List.getElem?_cons_zero, List.getElem?_cons_succ, List.set_cons_zero, List.set_cons_succ, List.length_cons, List.length_nil, List.drop_succ_cons, List.drop_zero, List.take_succ_cons, List.take_zero, List.reverse_cons, List.reverse_nil, List.nil_append, List.cons_append, List.append_nil, List.map_cons, List.map_nil, List.sum_cons, List.sum_nil, Option.toList_some, Option.toList_none, Option.bind_some, Value.category, decide_eq_true_eq, decide_true, decide_false, if_true, if_false, Bool.false_eq_true, and_self, and_true, true_and, true_or, or_true, not_true_eq_false, not_false_eq_true, ↓reduceIte, reduceCtorEq, Nat.reduceEqDiff, Nat.reduceAdd, Nat.reduceSub, Nat.reduceMul, Nat.reduceLT, Nat.reduceLeDiff, Nat.reduceBEq, Nat.le_refl, Nat.zero_le, Nat.lt_irrefl, beq_self_eq_true, Nat.succ_ne_zero, Option.some.injEq, Prod.mk.injEq, Int32.reduceLT, Int32.reduceLE, y0, hF.1]
  cases c with
  | nil => simp [b2i, nI_0]
  | cons t c =>
    have : ¬ nI (t :: c).length ≤ 0 := nI_nle (by simp) (by have := hF.2.1; omega)
    rw [if_neg this, b2i_pos (by simp)]
set_option maxHeartbeats 4000000 in
theorem p_worthBy (hn : 300 < n) (J : Nat → Nat → Int64) (f : Nat) (ht : TRg T) (hT : TC I T) (h b m l y : Int32) : ∃ I', FX4_worthBy n [.ref 2, .int h, .int b, .int m, .int l, .int y] (mm I J f) = some (some (.int (worthV T h b m l y)), mm I' J f) ∧ FrO I I' := by
  have e := p_isTold n (a := 10) (by decide) J f hT.2.2.2
  by_cases hw : tW T = []
  · refine ⟨I, ?_, FrO.rf⟩
    simp only [eX4_worthBy, kX4_worthBy_0, kX4_worthBy_33, i_cst, i_ldI, i_ldJ, i_ldA, i_stI, i_stJ, i_stA, i_inc, i_bin, i_dv, i_un, i_i2l, i_bnJ, i_lshl, i_lcmp, i_dup, i_dp2, i_gI, i_gJ, i_gA, i_pI, i_pZ, i_pJ, i_pA, i_al, i_as, i_alJ, i_asJ, i_len, i_c0, i_c2, i_sw, msel, i_cV, i_cS, i_rV, i_rI, i_rZ, i_rJ, i_mm, i_pop, i_no, mpl, mvr, mnw, List.getElem?_cons_zero, List.getElem?_cons_succ, List.set_cons_zero, List.set_cons_succ, List.length_cons, List.length_nil, List.drop_succ_cons, List.drop_zero, List.take_succ_cons, List.take_zero, List.reverse_cons, List.reverse_nil, List.nil_append, List.cons_append, List.append_nil, List.map_cons, List.map_nil, List.sum_cons, List.sum_nil, Option.toList_some, Option.toList_none, Option.bind_some, Value.category, decide_eq_true_eq, decide_true, decide_false, if_true, if_false, Bool.false_eq_true, and_self, and_true, true_and, true_or, or_true, not_true_eq_false, not_false_eq_true, ↓reduceIte, reduceCtorEq, Nat.reduceEqDiff, Nat.reduceAdd, Nat.reduceSub, Nat.reduceMul, Nat.reduceLT, Nat.reduceLeDiff, Nat.reduceBEq, Nat.le_refl, Nat.zero_le, Nat.lt_irrefl, beq_self_eq_true, Nat.succ_ne_zero, Option.some.injEq, Prod.mk.injEq, Int32.reduceLT, Int32.reduceLE, y_2, rt_2_11, y_10, e, b2i_eq0, hw, worthV, clampW]
  · obtain ⟨I', h1, h2⟩ := p_valueBy hn (a := 10) (by decide) J f hT.2.2.2 (ht.2.2.2.2.2.2.2.2.1.resolve_left hw) h b m l y
    refine ⟨I', ?_, fun b' j _ hb => h2 b' j hb⟩
    simp only [eX4_worthBy, kX4_worthBy_0, kX4_worthBy_33, i_cst, i_ldI, i_ldJ, i_ldA, i_stI, i_stJ, i_stA, i_inc, i_bin, i_dv, i_un, i_i2l, i_bnJ, i_lshl, i_lcmp, i_dup, i_dp2, i_gI, i_gJ, i_gA, i_pI, i_pZ, i_pJ, i_pA, i_al, i_as, i_alJ, i_asJ, i_len, i_c0, i_c2, i_sw, msel, i_cV, i_cS, i_rV, i_rI, i_rZ, i_rJ, i_mm, i_pop, i_no, mpl, mvr, mnw, List.getElem?_cons_zero, List.getElem?_cons_succ, List.set_cons_zero, List.set_cons_succ, List.length_cons, List.length_nil, List.drop_succ_cons, List.drop_zero, List.take_succ_cons, List.take_zero, List.reverse_cons, List.reverse_nil, List.nil_append, List.cons_append, List.append_nil, List.map_cons, List.map_nil, List.sum_cons, List.sum_nil, Option.toList_some, Option.toList_none, Option.bind_some, Value.category, decide_eq_true_eq, decide_true, decide_false, if_true, if_false, Bool.false_eq_true, and_self, and_true, true_and, true_or, or_true, not_true_eq_false, not_false_eq_true, ↓reduceIte, reduceCtorEq, Nat.reduceEqDiff, Nat.reduceAdd, Nat.reduceSub, Nat.reduceMul, Nat.reduceLT, Nat.reduceLeDiff, Nat.reduceBEq, Nat.le_refl, Nat.zero_le, Nat.lt_irrefl, beq_self_eq_true, Nat.succ_ne_zero, Option.some.injEq, Prod.mk.injEq, Int32.reduceLT, Int32.reduceLE, y_2, rt_2_11, y_10, e, b2i_eq0, hw, worthV, clampW, h1]
set_option maxHeartbeats 4000000 in
theorem p_softeningBy (hn : 300 < n) (J : Nat → Nat → Int64) (f : Nat) (ht : TRg T) (hT : TC I T) (h b m l y : Int32) : ∃ I', FX4_softeningBy n [.ref 2, .int h, .int b, .int m, .int l, .int y] (mm I J f) = some (some (.int (softV T h b m l y)), mm I' J f) ∧ FrO I I' := by
  have e := p_isTold n (a := 7) (by decide) J f hT.2.2.1
  by_cases hw : tF T = []
  · refine ⟨I, ?_, FrO.rf⟩
    simp only [eX4_softeningBy, kX4_softeningBy_0, kX4_softeningBy_28, i_cst, i_ldI, i_ldJ, i_ldA, i_stI, i_stJ, i_stA, i_inc, i_bin, i_dv, i_un, i_i2l, i_bnJ, i_lshl, i_lcmp, i_dup, i_dp2, i_gI, i_gJ, i_gA, i_pI, i_pZ, i_pJ, i_pA, i_al, i_as, i_alJ, i_asJ, i_len, i_c0, i_c2, i_sw, msel, i_cV, i_cS, i_rV, i_rI, i_rZ, i_rJ, i_mm, i_pop, i_no, mpl, mvr, mnw, List.getElem?_cons_zero, List.getElem?_cons_succ, List.set_cons_zero, List.set_cons_succ, List.length_cons, List.length_nil, List.drop_succ_cons, List.drop_zero, List.take_succ_cons, List.take_zero, List.reverse_cons, List.reverse_nil, List.nil_append, List.cons_append, List.append_nil, List.map_cons, List.map_nil, List.sum_cons, List.sum_nil, Option.toList_some, Option.toList_none, Option.bind_some, Value.category, decide_eq_true_eq, decide_true, decide_false, if_true, if_false, Bool.false_eq_true, and_self, and_true, true_and, true_or, or_true, not_true_eq_false, not_false_eq_true, ↓reduceIte, reduceCtorEq, Nat.reduceEqDiff, Nat.reduceAdd, Nat.reduceSub, Nat.reduceMul, Nat.reduceLT, Nat.reduceLeDiff, Nat.reduceBEq, Nat.le_refl, Nat.zero_le, Nat.lt_irrefl, beq_self_eq_true, Nat.succ_ne_zero, Option.some.injEq, Prod.mk.injEq, Int32.reduceLT, Int32.reduceLE, y_2, rt_2_10, y_7, e, b2i_eq0, hw, softV, clampS]
  · obtain ⟨I', h1, h2⟩ := p_valueBy hn (a := 7) (by decide) J f hT.2.2.1 (ht.2.2.2.2.2.2.2.1.resolve_left hw) h b m l y
    refine ⟨I', ?_, fun b' j hb _ => h2 b' j hb⟩
    simp only [eX4_softeningBy, kX4_softeningBy_0, kX4_softeningBy_28, i_cst, i_ldI, i_ldJ, i_ldA, i_stI, i_stJ, i_stA, i_inc, i_bin, i_dv, i_un, i_i2l, i_bnJ, i_lshl, i_lcmp, i_dup, i_dp2, i_gI, i_gJ, i_gA, i_pI, i_pZ, i_pJ, i_pA, i_al, i_as, i_alJ, i_asJ, i_len, i_c0, i_c2, i_sw, msel, i_cV, i_cS, i_rV, i_rI, i_rZ, i_rJ, i_mm, i_pop, i_no, mpl, mvr, mnw, List.getElem?_cons_zero, List.getElem?_cons_succ, List.set_cons_zero, List.set_cons_succ, List.length_cons, List.length_nil, List.drop_succ_cons, List.drop_zero, List.take_succ_cons, List.take_zero, List.reverse_cons, List.reverse_nil, List.nil_append, List.cons_append, List.append_nil, List.map_cons, List.map_nil, List.sum_cons, List.sum_nil, Option.toList_some, Option.toList_none, Option.bind_some, Value.category, decide_eq_true_eq, decide_true, decide_false, if_true, if_false, Bool.false_eq_true, and_self, and_true, true_and, true_or, or_true, not_true_eq_false, not_false_eq_true, ↓reduceIte, reduceCtorEq, Nat.reduceEqDiff, Nat.reduceAdd, Nat.reduceSub, Nat.reduceMul, Nat.reduceLT, Nat.reduceLeDiff, Nat.reduceBEq, Nat.le_refl, Nat.zero_le, Nat.lt_irrefl, beq_self_eq_true, Nat.succ_ne_zero, Option.some.injEq, Prod.mk.injEq, Int32.reduceLT, Int32.reduceLE, y_2, rt_2_10, y_7, e, b2i_eq0, hw, softV, clampS, h1]
set_option maxHeartbeats 4000000 in
theorem p_worthAmong (hn : 300 < n) (J : Nat → Nat → Int64) (f : Nat) (o : SO I a T S) {c : Nat} (hc : inA T S c = true) (m : Int32) : ∃ I', FX8_worthAmong n [.ref a, .int (nI c), .int m] (mm I J f) = some (some (.int (worthC T S c m)), mm I' J f) ∧ FrO I I' := by
  obtain ⟨⟨r0, r1, r2, r3, r4⟩, y0, y1, y2, y3, y4⟩ := st_rt o.1 f
  obtain ⟨h8, hk, h1, h2, h3⟩ := rd_cl o hc
  have h64 := pos_lt o hc
  have e1 : I (a + 1) c = nI (pos S c) := by rw [h1, h2]; rfl
  obtain ⟨-, -, e3, e4⟩ := o.2.2.2.2.1 c hk
  have e5 := o.2.2.2.2.2.1
  obtain ⟨I', g1, g2⟩ := p_worthBy hn J f o.2.1 o.2.2.1 (nI (sho S c)) (nI (sbo S c)) m (nI (pos S c / tC T)) (nI (syr S))
  refine ⟨I', ?_, g2⟩
  simp only [eX8_worthAmong, kX8_worthAmong_0, i_cst, i_ldI, i_ldJ, i_ldA, i_stI, i_stJ, i_stA, i_inc, i_bin, i_dv, i_un, i_i2l, i_bnJ, i_lshl, i_lcmp, i_dup, i_dp2, i_gI, i_gJ, i_gA, i_pI, i_pZ, i_pJ, i_pA, i_al, i_as, i_alJ, i_asJ, i_len, i_c0, i_c2, i_sw, msel, i_cV, i_cS, i_rV, i_rI, i_rZ, i_rJ, i_mm, i_pop, i_no, mpl, mvr, mnw, List.getElem?_cons_zero, List.getElem?_cons_succ, List.set_cons_zero, List.set_cons_succ, List.length_cons, List.length_nil, List.drop_succ_cons, List.drop_zero, List.take_succ_cons, List.take_zero, List.reverse_cons, List.reverse_nil, List.nil_append, List.cons_append, List.append_nil, List.map_cons, List.map_nil, List.sum_cons, List.sum_nil, Option.toList_some, Option.toList_none, Option.bind_some, Value.category, decide_eq_true_eq, decide_true, decide_false, if_true, if_false, Bool.false_eq_true, and_self, and_true, true_and, true_or, or_true, not_true_eq_false, not_false_eq_true, ↓reduceIte, reduceCtorEq, Nat.reduceEqDiff, Nat.reduceAdd, Nat.reduceSub, Nat.reduceMul, Nat.reduceLT, Nat.reduceLeDiff, Nat.reduceBEq, Nat.le_refl, Nat.zero_le, Nat.lt_irrefl, beq_self_eq_true, Nat.succ_ne_zero, Option.some.injEq, Prod.mk.injEq, Int32.reduceLT, Int32.reduceLE, y0, y_2, r0, r1, r3, r4, p_atN n (a + 1) c (mm I J f) y1 (by decide) h8, p_atN n (a + 3) c (mm I J f) y3 (by decide) h8, p_atN n (a + 4) c (mm I J f) y4 (by decide) h8, e1, e3, e4, e5, p_rowOf n (show pos S c < 2 ^ 30 by omega) J f o.2.1 o.2.2.1, g1, worthC]
set_option maxHeartbeats 4000000 in
theorem p_softeningAmong (hn : 300 < n) (J : Nat → Nat → Int64) (f : Nat) (o : SO I a T S) {c : Nat} (hc : inA T S c = true) (m : Int32) : ∃ I', FX8_softeningAmong n [.ref a, .int (nI c), .int m] (mm I J f) = some (some (.int (softC T S c m)), mm I' J f) ∧ FrO I I' := by
  obtain ⟨⟨r0, r1, r2, r3, r4⟩, y0, y1, y2, y3, y4⟩ := st_rt o.1 f
  obtain ⟨h8, hk, h1, h2, h3⟩ := rd_cl o hc
  have h64 := pos_lt o hc
  have e1 : I (a + 1) c = nI (pos S c) := by rw [h1, h2]; rfl
  obtain ⟨-, -, e3, e4⟩ := o.2.2.2.2.1 c hk
  have e5 := o.2.2.2.2.2.1
  obtain ⟨I', g1, g2⟩ := p_softeningBy hn J f o.2.1 o.2.2.1 (nI (sho S c)) (nI (sbo S c)) m (nI (pos S c / tC T)) (nI (syr S))
  refine ⟨I', ?_, g2⟩
  simp only [eX8_softeningAmong, kX8_softeningAmong_0, i_cst, i_ldI, i_ldJ, i_ldA, i_stI, i_stJ, i_stA, i_inc, i_bin, i_dv, i_un, i_i2l, i_bnJ, i_lshl, i_lcmp, i_dup, i_dp2, i_gI, i_gJ, i_gA, i_pI, i_pZ, i_pJ, i_pA, i_al, i_as, i_alJ, i_asJ, i_len, i_c0, i_c2, i_sw, msel, i_cV, i_cS, i_rV, i_rI, i_rZ, i_rJ, i_mm, i_pop, i_no, mpl, mvr, mnw, List.getElem?_cons_zero, List.getElem?_cons_succ, List.set_cons_zero, List.set_cons_succ, List.length_cons, List.length_nil, List.drop_succ_cons, List.drop_zero, List.take_succ_cons, List.take_zero, List.reverse_cons, List.reverse_nil, List.nil_append, List.cons_append, List.append_nil, List.map_cons, List.map_nil, List.sum_cons, List.sum_nil, Option.toList_some, Option.toList_none, Option.bind_some, Value.category, decide_eq_true_eq, decide_true, decide_false, if_true, if_false, Bool.false_eq_true, and_self, and_true, true_and, true_or, or_true, not_true_eq_false, not_false_eq_true, ↓reduceIte, reduceCtorEq, Nat.reduceEqDiff, Nat.reduceAdd, Nat.reduceSub, Nat.reduceMul, Nat.reduceLT, Nat.reduceLeDiff, Nat.reduceBEq, Nat.le_refl, Nat.zero_le, Nat.lt_irrefl, beq_self_eq_true, Nat.succ_ne_zero, Option.some.injEq, Prod.mk.injEq, Int32.reduceLT, Int32.reduceLE, y0, y_2, r0, r1, r3, r4, p_atN n (a + 1) c (mm I J f) y1 (by decide) h8, p_atN n (a + 3) c (mm I J f) y3 (by decide) h8, p_atN n (a + 4) c (mm I J f) y4 (by decide) h8, e1, e3, e4, e5, p_rowOf n (show pos S c < 2 ^ 30 by omega) J f o.2.1 o.2.2.1, g1, softC]
/-- a sum over those below k -/
def sI (P : Nat → Bool) (g : Nat → Int32) : Nat → Int32
  | 0 => 0
  | k + 1 => if P k = true then sI P g k + g k else sI P g k
def priceM (T : TA) (S : SA) (m : Int32) (P : Nat → Bool) : Int32 := sI P (fun j => worthC T S j m) 8
def priceA (T : TA) (S : SA) : Int32 := priceM T S (nI (manyA T S)) (inA T S)
set_option maxHeartbeats 4000000 in
theorem p_priceOfAll (hn : 300 < n) (J : Nat → Nat → Int64) (f : Nat) (o : SO I a T S) : ∃ I', FX8_priceOfAll n [.ref a] (mm I J f) = some (some (.int (priceA T S)), mm I' J f) ∧ FrO I I' := by
  obtain ⟨-, y0, -⟩ := st_rt o.1 f
  simp only [eX8_priceOfAll, kX8_priceOfAll_0, i_cst, i_ldI, i_ldJ, i_ldA, i_stI, i_stJ, i_stA, i_inc, i_bin, i_dv, i_un, i_i2l, i_bnJ, i_lshl, i_lcmp, i_dup, i_dp2, i_gI, i_gJ, i_gA, i_pI, i_pZ, i_pJ, i_pA, i_al, i_as, i_alJ, i_asJ, i_len, i_c0, i_c2, i_sw, msel, i_cV, i_cS, i_rV, i_rI, i_rZ, i_rJ, i_mm, i_pop, i_no, mpl, mvr, mnw, List.getElem?_cons_zero, List.getElem?_cons_succ, List.set_cons_zero, List.set_cons_succ, List.length_cons, List.length_nil, List.drop_succ_cons, List.drop_zero, List.take_succ_cons, List.take_zero, List.reverse_cons, List.reverse_nil, List.nil_append, List.cons_append, List.append_nil, List.map_cons, List.map_nil, List.sum_cons, List.sum_nil, Option.toList_some, Option.toList_none, Option.bind_some, Value.category, decide_eq_true_eq, decide_true, decide_false, if_true, if_false, Bool.false_eq_true, and_self, and_true, true_and, true_or, or_true, not_true_eq_false, not_false_eq_true, ↓reduceIte, reduceCtorEq, Nat.reduceEqDiff, Nat.reduceAdd, Nat.reduceSub, Nat.reduceMul, Nat.reduceLT, Nat.reduceLeDiff, Nat.reduceBEq, Nat.le_refl, Nat.zero_le, Nat.lt_irrefl, beq_self_eq_true, Nat.succ_ne_zero, Option.some.injEq, Prod.mk.injEq, Int32.reduceLT, Int32.reduceLE, y0, p_howMany (show 8 < n by omega) J f o]
  refine mit_ind (G := kX8_priceOfAll_9 n) (fun d L μ => ∃ (j : Nat) (I' : Nat → Nat → Int32), j + d = 8 ∧ μ = mm I' J f ∧ FrO I I' ∧ L = [some (.ref a), some (.int (sI (inA T S) (fun j => worthC T S j (nI (manyA T S))) j)), some (.int (nI (manyA T S))), some (.int (nI j))]) (fun v => ∃ I', v = some (some (.int (priceA T S)), mm I' J f) ∧ FrO I I') ?_ ?_ 8 n _ _ (by omega) ⟨0, I, rfl, rfl, FrO.rf, rfl⟩
  · rintro L μ ⟨j, I', hj, rfl, hI, rfl⟩
    have : j = 8 := by omega
    subst this
    refine ⟨_, fun r => ?_, I', rfl, hI⟩
    simp only [kX8_priceOfAll_9, i_cst, i_ldI, i_ldJ, i_ldA, i_stI, i_stJ, i_stA, i_inc, i_bin, i_dv, i_un, i_i2l, i_bnJ, i_lshl, i_lcmp, i_dup, i_dp2, i_gI, i_gJ, i_gA, i_pI, i_pZ, i_pJ, i_pA, i_al, i_as, i_alJ, i_asJ, i_len, i_c0, i_c2, i_sw, msel, i_cV, i_cS, i_rV, i_rI, i_rZ, i_rJ, i_mm, i_pop, i_no, mpl, mvr, mnw, List.getElem?_cons_zero, List.getElem?_cons_succ, List.set_cons_zero, List.set_cons_succ, List.length_cons, List.length_nil, List.drop_succ_cons, List.drop_zero, List.take_succ_cons, List.take_zero, List.reverse_cons, List.reverse_nil, List.nil_append, List.cons_append, List.append_nil, List.map_cons, List.map_nil, List.sum_cons, List.sum_nil, Option.toList_some, Option.toList_none, Option.bind_some, Value.category, decide_eq_true_eq, decide_true, decide_false, if_true, if_false, Bool.false_eq_true, and_self, and_true, true_and, true_or, or_true, not_true_eq_false, not_false_eq_true, ↓reduceIte, reduceCtorEq, Nat.reduceEqDiff, Nat.reduceAdd, Nat.reduceSub, Nat.reduceMul, Nat.reduceLT, Nat.reduceLeDiff, Nat.reduceBEq, Nat.le_refl, Nat.zero_le, Nat.lt_irrefl, beq_self_eq_true, Nat.succ_ne_zero, Option.some.injEq, Prod.mk.injEq, Int32.reduceLT, Int32.reduceLE, le88, priceA, priceM]
  · rintro d L μ ⟨j, I', hj, rfl, hI, rfl⟩
    refine Or.inr ?_
    have o' := SO_FrO o hI
    have hj8 : j < 8 := by omega
    by_cases h : inA T S j = true
    · obtain ⟨I2, g1, g2⟩ := p_worthAmong hn J f o' h (nI (manyA T S))
      refine ⟨_, _, ⟨j + 1, I2, by omega, rfl, hI.tr g2, rfl⟩, fun r => ?_⟩
      simp only [kX8_priceOfAll_9, kX8_priceOfAll_32, i_cst, i_ldI, i_ldJ, i_ldA, i_stI, i_stJ, i_stA, i_inc, i_bin, i_dv, i_un, i_i2l, i_bnJ, i_lshl, i_lcmp, i_dup, i_dp2, i_gI, i_gJ, i_gA, i_pI, i_pZ, i_pJ, i_pA, i_al, i_as, i_alJ, i_asJ, i_len, i_c0, i_c2, i_sw, msel, i_cV, i_cS, i_rV, i_rI, i_rZ, i_rJ, i_mm, i_pop, i_no, mpl, mvr, mnw, List.getElem?_cons_zero, List.getElem?_cons_succ, List.set_cons_zero, List.set_cons_succ, List.length_cons, List.length_nil, List.drop_succ_cons, List.drop_zero, List.take_succ_cons, List.take_zero, List.reverse_cons, List.reverse_nil, List.nil_append, List.cons_append, List.append_nil, List.map_cons, List.map_nil, List.sum_cons, List.sum_nil, Option.toList_some, Option.toList_none, Option.bind_some, Value.category, decide_eq_true_eq, decide_true, decide_false, if_true, if_false, Bool.false_eq_true, and_self, and_true, true_and, true_or, or_true, not_true_eq_false, not_false_eq_true, ↓reduceIte, reduceCtorEq, Nat.reduceEqDiff, Nat.reduceAdd, Nat.reduceSub, Nat.reduceMul, Nat.reduceLT, Nat.reduceLeDiff, Nat.reduceBEq, Nat.le_refl, Nat.zero_le, Nat.lt_irrefl, beq_self_eq_true, Nat.succ_ne_zero, Option.some.injEq, Prod.mk.injEq, Int32.reduceLT, Int32.reduceLE, nle8 hj8, y0, p_isInA n J f o' (show j < 2 ^ 31 by omega), b2i_eq0, h, g1, nI_1, sI]
    · refine ⟨_, _, ⟨j + 1, I', by omega, rfl, hI, rfl⟩, fun r => ?_⟩
      simp only [kX8_priceOfAll_9, kX8_priceOfAll_32, i_cst, i_ldI, i_ldJ, i_ldA, i_stI, i_stJ, i_stA, i_inc, i_bin, i_dv, i_un, i_i2l, i_bnJ, i_lshl, i_lcmp, i_dup, i_dp2, i_gI, i_gJ, i_gA, i_pI, i_pZ, i_pJ, i_pA, i_al, i_as, i_alJ, i_asJ, i_len, i_c0, i_c2, i_sw, msel, i_cV, i_cS, i_rV, i_rI, i_rZ, i_rJ, i_mm, i_pop, i_no, mpl, mvr, mnw, List.getElem?_cons_zero, List.getElem?_cons_succ, List.set_cons_zero, List.set_cons_succ, List.length_cons, List.length_nil, List.drop_succ_cons, List.drop_zero, List.take_succ_cons, List.take_zero, List.reverse_cons, List.reverse_nil, List.nil_append, List.cons_append, List.append_nil, List.map_cons, List.map_nil, List.sum_cons, List.sum_nil, Option.toList_some, Option.toList_none, Option.bind_some, Value.category, decide_eq_true_eq, decide_true, decide_false, if_true, if_false, Bool.false_eq_true, and_self, and_true, true_and, true_or, or_true, not_true_eq_false, not_false_eq_true, ↓reduceIte, reduceCtorEq, Nat.reduceEqDiff, Nat.reduceAdd, Nat.reduceSub, Nat.reduceMul, Nat.reduceLT, Nat.reduceLeDiff, Nat.reduceBEq, Nat.le_refl, Nat.zero_le, Nat.lt_irrefl, beq_self_eq_true, Nat.succ_ne_zero, Option.some.injEq, Prod.mk.injEq, Int32.reduceLT, Int32.reduceLE, nle8 hj8, y0, p_isInA n J f o' (show j < 2 ^ 31 by omega), b2i_eq0, h, nI_1, sI]
end Worth
