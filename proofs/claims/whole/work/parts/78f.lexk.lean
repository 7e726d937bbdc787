/-! PURE: the class's Tokens: kinds, cut, numbers, words -/
section LexK
variable {n : Nat} {I : Nat → Nat → Int32} {tp : List Nat}
set_option maxHeartbeats 4000000 in
theorem p_kindOfWord (hn : 300 < n) (J : Nat → Nat → Int64) (f : Nat) (h : TxC I tp) {p e : Nat} (hp : p < 2 ^ 30) (he : e < 2 ^ 30) : FX9_kindOfWord n [.ref 26, .int (nI p), .int (nI e)] (mm I J f) = some (some (.int (nI (kw tp p e))), mm I J f) := by
  simp only [eX9_kindOfWord, kX9_kindOfWord_0, x_no, x_cst, x_ldI, x_ldJ, x_ldA, x_stI, x_stJ, x_stA, x_inc, x_bin, x_un, x_i2l, x_bnJ, x_lshl, x_lcmp, x_dup, x_dp2, x_gI, x_gJ, x_gA, x_pI, x_pZ, x_pJ, x_pA, x_c0, x_c2, x_sw, x_cV, x_cS, x_rV, x_rI, x_rZ, x_rJ, x_mm, x_pop, x_dv, x_al, x_as, x_alJ, x_asJ, x_len, msel, mpl, mvr, mnw, List.getElem?_cons_zero, List.getElem?_cons_succ, List.set_cons_zero, List.set_cons_succ, List.length_cons, List.length_nil, List.drop_succ_cons, List.drop_zero, List.take_succ_cons, List.take_zero, List.reverse_cons, List.reverse_nil, List.nil_append, List.cons_append, List.append_nil, List.map_cons, List.map_nil, List.sum_cons, List.sum_nil, Option.toList_some, Option.toList_none, x_bs, Value.category, decide_eq_true_eq, decide_true, decide_false, if_true, if_false, Bool.false_eq_true, and_self, and_true, true_and, true_or, or_true, not_true_eq_false, not_false_eq_true, ↓reduceIte, reduceCtorEq, Nat.reduceEqDiff, Nat.reduceAdd, Nat.reduceSub, Nat.reduceMul, Nat.reduceLT, Nat.reduceLeDiff, Nat.reduceBEq, Nat.le_refl, Nat.zero_le, Nat.lt_irrefl, beq_self_eq_true, Nat.succ_ne_zero, Option.some.injEq, Prod.mk.injEq, Int32.reduceLT, Int32.reduceLE]
  rw [show some (some (Value.int (nI (kw tp p e))), mm I J f) = match ffd (isW8 tp p e) 0 19 with
    | some w => some (some (Value.int (nI (15 + w))), mm I J f)
    | none => some (some (Value.int 3), mm I J f) by unfold kw; cases ffd (isW8 tp p e) 0 19 <;> rfl]
  refine mit_find (fun w => [some (.ref 26), some (.int (nI p)), some (.int (nI e)), some (.int (nI w))]) (fun _ => mm I J f) (B := 19) (isW8 tp p e) (fun w => some (some (Value.int (nI (15 + w))), mm I J f)) (fun w hw r => ?_) (by omega) (fun r => ?_)
  · have c1 : ¬ (152 : Int32) < (nI w + 1) * 8 := by
      rw [nI_1, show (8 : Int32) = nI 8 from rfl, pk_mul, show (152 : Int32) = nI 152 from rfl, nI_ltI (by decide) (by omega)]; omega
    have q := p_isWordC hn J f h hp he hw
    have a15 : (15 : Int32) + nI w = nI (15 + w) := by rw [show (15 : Int32) = nI 15 from rfl, nI_add]
    by_cases e1 : isW8 tp p e w = true
    · simp only [kX9_kindOfWord_2, x_cX, x_no, x_cst, x_ldI, x_ldJ, x_ldA, x_stI, x_stJ, x_stA, x_inc, x_bin, x_un, x_i2l, x_bnJ, x_lshl, x_lcmp, x_dup, x_dp2, x_gI, x_gJ, x_gA, x_pI, x_pZ, x_pJ, x_pA, x_c0, x_c2, x_sw, x_cV, x_cS, x_rV, x_rI, x_rZ, x_rJ, x_mm, x_pop, x_dv, x_al, x_as, x_alJ, x_asJ, x_len, msel, mpl, mvr, mnw, List.getElem?_cons_zero, List.getElem?_cons_succ, List.set_cons_zero, List.set_cons_succ, List.length_cons, List.length_nil, List.drop_succ_cons, List.drop_zero, List.take_succ_cons, List.take_zero, List.reverse_cons, List.reverse_nil, List.nil_append, List.cons_append, List.append_nil, List.map_cons, List.map_nil, List.sum_cons, List.sum_nil, Option.toList_some, Option.toList_none, x_bs, Value.category, decide_eq_true_eq, decide_true, decide_false, if_true, if_false, Bool.false_eq_true, and_self, and_true, true_and, true_or, or_true, not_true_eq_false, not_false_eq_true, ↓reduceIte, reduceCtorEq, Nat.reduceEqDiff, Nat.reduceAdd, Nat.reduceSub, Nat.reduceMul, Nat.reduceLT, Nat.reduceLeDiff, Nat.reduceBEq, Nat.le_refl, Nat.zero_le, Nat.lt_irrefl, beq_self_eq_true, Nat.succ_ne_zero, Option.some.injEq, Prod.mk.injEq, Int32.reduceLT, Int32.reduceLE, w12.2.1, p_wlen, c1, y_26, q, b2i_eq0, e1, a15]
    · have c1' : ¬ (152 : Int32) < nI (w + 1) * 8 := by rw [← nI_1]; exact c1
      simp only [kX9_kindOfWord_2, x_cX, x_no, x_cst, x_ldI, x_ldJ, x_ldA, x_stI, x_stJ, x_stA, x_inc, x_bin, x_un, x_i2l, x_bnJ, x_lshl, x_lcmp, x_dup, x_dp2, x_gI, x_gJ, x_gA, x_pI, x_pZ, x_pJ, x_pA, x_c0, x_c2, x_sw, x_cV, x_cS, x_rV, x_rI, x_rZ, x_rJ, x_mm, x_pop, x_dv, x_al, x_as, x_alJ, x_asJ, x_len, msel, mpl, mvr, mnw, List.getElem?_cons_zero, List.getElem?_cons_succ, List.set_cons_zero, List.set_cons_succ, List.length_cons, List.length_nil, List.drop_succ_cons, List.drop_zero, List.take_succ_cons, List.take_zero, List.reverse_cons, List.reverse_nil, List.nil_append, List.cons_append, List.append_nil, List.map_cons, List.map_nil, List.sum_cons, List.sum_nil, Option.toList_some, Option.toList_none, x_bs, Value.category, decide_eq_true_eq, decide_true, decide_false, if_true, if_false, Bool.false_eq_true, and_self, and_true, true_and, true_or, or_true, not_true_eq_false, not_false_eq_true, ↓reduceIte, reduceCtorEq, Nat.reduceEqDiff, Nat.reduceAdd, Nat.reduceSub, Nat.reduceMul, Nat.reduceLT, Nat.reduceLeDiff, Nat.reduceBEq, Nat.le_refl, Nat.zero_le, Nat.lt_irrefl, beq_self_eq_true, Nat.succ_ne_zero, Option.some.injEq, Prod.mk.injEq, Int32.reduceLT, Int32.reduceLE, w12.2.1, p_wlen, c1', y_26, q, b2i_eq0, e1, nI_1]
  · have c1 : (152 : Int32) < (nI 19 + 1) * 8 := by decide
    simp only [kX9_kindOfWord_2, x_cX, x_no, x_cst, x_ldI, x_ldJ, x_ldA, x_stI, x_stJ, x_stA, x_inc, x_bin, x_un, x_i2l, x_bnJ, x_lshl, x_lcmp, x_dup, x_dp2, x_gI, x_gJ, x_gA, x_pI, x_pZ, x_pJ, x_pA, x_c0, x_c2, x_sw, x_cV, x_cS, x_rV, x_rI, x_rZ, x_rJ, x_mm, x_pop, x_dv, x_al, x_as, x_alJ, x_asJ, x_len, msel, mpl, mvr, mnw, List.getElem?_cons_zero, List.getElem?_cons_succ, List.set_cons_zero, List.set_cons_succ, List.length_cons, List.length_nil, List.drop_succ_cons, List.drop_zero, List.take_succ_cons, List.take_zero, List.reverse_cons, List.reverse_nil, List.nil_append, List.cons_append, List.append_nil, List.map_cons, List.map_nil, List.sum_cons, List.sum_nil, Option.toList_some, Option.toList_none, x_bs, Value.category, decide_eq_true_eq, decide_true, decide_false, if_true, if_false, Bool.false_eq_true, and_self, and_true, true_and, true_or, or_true, not_true_eq_false, not_false_eq_true, ↓reduceIte, reduceCtorEq, Nat.reduceEqDiff, Nat.reduceAdd, Nat.reduceSub, Nat.reduceMul, Nat.reduceLT, Nat.reduceLeDiff, Nat.reduceBEq, Nat.le_refl, Nat.zero_le, Nat.lt_irrefl, beq_self_eq_true, Nat.succ_ne_zero, Option.some.injEq, Prod.mk.injEq, Int32.reduceLT, Int32.reduceLE, w12.2.1, p_wlen, c1]
set_option maxHeartbeats 4000000 in
theorem p_kindOf (hn : 300 < n) (J : Nat → Nat → Int64) (f : Nat) (h : TxC I tp) {p e : Nat} (hp : p ≤ tp.length) (he : p ≤ e ∧ e ≤ tp.length + 1) : FX9_kindOf n [.ref 26, .int (nI p), .int (nI e)] (mm I J f) = some (some (.int (nI (kd tp p e))), mm I J f) := by
  have hl := h.2.1
  have q1 := p_isLetterC n J f h (show p < 2 ^ 31 by omega)
  have q2 := p_isDigitC n J f h (show p < 2 ^ 31 by omega)
  have q3 := p_isLetterC n J f h (show e < 2 ^ 31 by omega)
  have sb : nI e - nI p = nI (e - p) := pk_sub he.1
  by_cases e0 : tp.length ≤ p
  · have c1 : ¬ nI p < nI tp.length := by rw [nI_ltI (by omega) (by omega)]; omega
    have ek : kd tp p e = 0 := by unfold kd; rw [if_pos e0]
    simp only [eX9_kindOf, kX9_kindOf_0, kX9_kindOf_36, kX9_kindOf_60, kX9_kindOf_65, kX9_kindOf_89, x_no, x_cst, x_ldI, x_ldJ, x_ldA, x_stI, x_stJ, x_stA, x_inc, x_bin, x_un, x_i2l, x_bnJ, x_lshl, x_lcmp, x_dup, x_dp2, x_gI, x_gJ, x_gA, x_pI, x_pZ, x_pJ, x_pA, x_c0, x_c2, x_sw, x_cV, x_cS, x_rV, x_rI, x_rZ, x_rJ, x_mm, x_pop, x_dv, x_al, x_as, x_alJ, x_asJ, x_len, msel, mpl, mvr, mnw, List.getElem?_cons_zero, List.getElem?_cons_succ, List.set_cons_zero, List.set_cons_succ, List.length_cons, List.length_nil, List.drop_succ_cons, List.drop_zero, List.take_succ_cons, List.take_zero, List.reverse_cons, List.reverse_nil, List.nil_append, List.cons_append, List.append_nil, List.map_cons, List.map_nil, List.sum_cons, List.sum_nil, Option.toList_some, Option.toList_none, x_bs, Value.category, decide_eq_true_eq, decide_true, decide_false, if_true, if_false, Bool.false_eq_true, and_self, and_true, true_and, true_or, or_true, not_true_eq_false, not_false_eq_true, ↓reduceIte, reduceCtorEq, Nat.reduceEqDiff, Nat.reduceAdd, Nat.reduceSub, Nat.reduceMul, Nat.reduceLT, Nat.reduceLeDiff, Nat.reduceBEq, Nat.le_refl, Nat.zero_le, Nat.lt_irrefl, beq_self_eq_true, Nat.succ_ne_zero, Option.some.injEq, Prod.mk.injEq, Int32.reduceLT, Int32.reduceLE, y_26, h.1, c1, ek, nI_0]
  · have c1 : nI p < nI tp.length := by rw [nI_ltI (by omega) (by omega)]; omega
    by_cases e1 : isLt (bt tp p) = true
    · by_cases e2 : 8 < e - p
      · have c2 : ¬ nI (e - p) ≤ 8 := by rw [show (8 : Int32) = nI 8 from rfl, nI_leI (by omega) (by decide)]; omega
        have ek : kd tp p e = 1 := by unfold kd; rw [if_neg e0, if_pos e1, if_pos e2]
        simp only [eX9_kindOf, kX9_kindOf_0, kX9_kindOf_36, kX9_kindOf_60, kX9_kindOf_65, kX9_kindOf_89, x_no, x_cst, x_ldI, x_ldJ, x_ldA, x_stI, x_stJ, x_stA, x_inc, x_bin, x_un, x_i2l, x_bnJ, x_lshl, x_lcmp, x_dup, x_dp2, x_gI, x_gJ, x_gA, x_pI, x_pZ, x_pJ, x_pA, x_c0, x_c2, x_sw, x_cV, x_cS, x_rV, x_rI, x_rZ, x_rJ, x_mm, x_pop, x_dv, x_al, x_as, x_alJ, x_asJ, x_len, msel, mpl, mvr, mnw, List.getElem?_cons_zero, List.getElem?_cons_succ, List.set_cons_zero, List.set_cons_succ, List.length_cons, List.length_nil, List.drop_succ_cons, List.drop_zero, List.take_succ_cons, List.take_zero, List.reverse_cons, List.reverse_nil, List.nil_append, List.cons_append, List.append_nil, List.map_cons, List.map_nil, List.sum_cons, List.sum_nil, Option.toList_some, Option.toList_none, x_bs, Value.category, decide_eq_true_eq, decide_true, decide_false, if_true, if_false, Bool.false_eq_true, and_self, and_true, true_and, true_or, or_true, not_true_eq_false, not_false_eq_true, ↓reduceIte, reduceCtorEq, Nat.reduceEqDiff, Nat.reduceAdd, Nat.reduceSub, Nat.reduceMul, Nat.reduceLT, Nat.reduceLeDiff, Nat.reduceBEq, Nat.le_refl, Nat.zero_le, Nat.lt_irrefl, beq_self_eq_true, Nat.succ_ne_zero, Option.some.injEq, Prod.mk.injEq, Int32.reduceLT, Int32.reduceLE, y_26, h.1, c1, q1, b2i_eq0, e1, sb, c2, ek]
        rfl
      · have c2 : nI (e - p) ≤ 8 := by rw [show (8 : Int32) = nI 8 from rfl, nI_leI (by omega) (by decide)]; omega
        have ek : kd tp p e = kw tp p e := by unfold kd; rw [if_neg e0, if_pos e1, if_neg e2]
        simp only [eX9_kindOf, kX9_kindOf_0, kX9_kindOf_36, kX9_kindOf_60, kX9_kindOf_65, kX9_kindOf_89, x_no, x_cst, x_ldI, x_ldJ, x_ldA, x_stI, x_stJ, x_stA, x_inc, x_bin, x_un, x_i2l, x_bnJ, x_lshl, x_lcmp, x_dup, x_dp2, x_gI, x_gJ, x_gA, x_pI, x_pZ, x_pJ, x_pA, x_c0, x_c2, x_sw, x_cV, x_cS, x_rV, x_rI, x_rZ, x_rJ, x_mm, x_pop, x_dv, x_al, x_as, x_alJ, x_asJ, x_len, msel, mpl, mvr, mnw, List.getElem?_cons_zero, List.getElem?_cons_succ, List.set_cons_zero, List.set_cons_succ, List.length_cons, List.length_nil, List.drop_succ_cons, List.drop_zero, List.take_succ_cons, List.take_zero, List.reverse_cons, List.reverse_nil, List.nil_append, List.cons_append, List.append_nil, List.map_cons, List.map_nil, List.sum_cons, List.sum_nil, Option.toList_some, Option.toList_none, x_bs, Value.category, decide_eq_true_eq, decide_true, decide_false, if_true, if_false, Bool.false_eq_true, and_self, and_true, true_and, true_or, or_true, not_true_eq_false, not_false_eq_true, ↓reduceIte, reduceCtorEq, Nat.reduceEqDiff, Nat.reduceAdd, Nat.reduceSub, Nat.reduceMul, Nat.reduceLT, Nat.reduceLeDiff, Nat.reduceBEq, Nat.le_refl, Nat.zero_le, Nat.lt_irrefl, beq_self_eq_true, Nat.succ_ne_zero, Option.some.injEq, Prod.mk.injEq, Int32.reduceLT, Int32.reduceLE, y_26, h.1, c1, q1, b2i_eq0, e1, sb, c2, ek, p_kindOfWord hn J f h (show p < 2 ^ 30 by omega) (show e < 2 ^ 30 by omega)]
    · by_cases e2 : isDg (bt tp p) = true
      · by_cases e3 : 4 < e - p
        · have c2 : (4 : Int32) < nI (e - p) := by rw [show (4 : Int32) = nI 4 from rfl, nI_ltI (by decide) (by omega)]; omega
          have ek : kd tp p e = 1 := by unfold kd; rw [if_neg e0, if_neg e1, if_pos e2, if_pos (Or.inl e3)]
          simp only [eX9_kindOf, kX9_kindOf_0, kX9_kindOf_36, kX9_kindOf_60, kX9_kindOf_65, kX9_kindOf_89, x_no, x_cst, x_ldI, x_ldJ, x_ldA, x_stI, x_stJ, x_stA, x_inc, x_bin, x_un, x_i2l, x_bnJ, x_lshl, x_lcmp, x_dup, x_dp2, x_gI, x_gJ, x_gA, x_pI, x_pZ, x_pJ, x_pA, x_c0, x_c2, x_sw, x_cV, x_cS, x_rV, x_rI, x_rZ, x_rJ, x_mm, x_pop, x_dv, x_al, x_as, x_alJ, x_asJ, x_len, msel, mpl, mvr, mnw, List.getElem?_cons_zero, List.getElem?_cons_succ, List.set_cons_zero, List.set_cons_succ, List.length_cons, List.length_nil, List.drop_succ_cons, List.drop_zero, List.take_succ_cons, List.take_zero, List.reverse_cons, List.reverse_nil, List.nil_append, List.cons_append, List.append_nil, List.map_cons, List.map_nil, List.sum_cons, List.sum_nil, Option.toList_some, Option.toList_none, x_bs, Value.category, decide_eq_true_eq, decide_true, decide_false, if_true, if_false, Bool.false_eq_true, and_self, and_true, true_and, true_or, or_true, not_true_eq_false, not_false_eq_true, ↓reduceIte, reduceCtorEq, Nat.reduceEqDiff, Nat.reduceAdd, Nat.reduceSub, Nat.reduceMul, Nat.reduceLT, Nat.reduceLeDiff, Nat.reduceBEq, Nat.le_refl, Nat.zero_le, Nat.lt_irrefl, beq_self_eq_true, Nat.succ_ne_zero, Option.some.injEq, Prod.mk.injEq, Int32.reduceLT, Int32.reduceLE, y_26, h.1, c1, q1, q2, b2i_eq0, e1, e2, sb, c2, ek]
          rfl
        · have c2 : ¬ (4 : Int32) < nI (e - p) := by rw [show (4 : Int32) = nI 4 from rfl, nI_ltI (by decide) (by omega)]; omega
          by_cases e4 : isLt (bt tp e) = true
          · have ek : kd tp p e = 1 := by unfold kd; rw [if_neg e0, if_neg e1, if_pos e2, if_pos (Or.inr e4)]
            simp only [eX9_kindOf, kX9_kindOf_0, kX9_kindOf_36, kX9_kindOf_60, kX9_kindOf_65, kX9_kindOf_89, x_no, x_cst, x_ldI, x_ldJ, x_ldA, x_stI, x_stJ, x_stA, x_inc, x_bin, x_un, x_i2l, x_bnJ, x_lshl, x_lcmp, x_dup, x_dp2, x_gI, x_gJ, x_gA, x_pI, x_pZ, x_pJ, x_pA, x_c0, x_c2, x_sw, x_cV, x_cS, x_rV, x_rI, x_rZ, x_rJ, x_mm, x_pop, x_dv, x_al, x_as, x_alJ, x_asJ, x_len, msel, mpl, mvr, mnw, List.getElem?_cons_zero, List.getElem?_cons_succ, List.set_cons_zero, List.set_cons_succ, List.length_cons, List.length_nil, List.drop_succ_cons, List.drop_zero, List.take_succ_cons, List.take_zero, List.reverse_cons, List.reverse_nil, List.nil_append, List.cons_append, List.append_nil, List.map_cons, List.map_nil, List.sum_cons, List.sum_nil, Option.toList_some, Option.toList_none, x_bs, Value.category, decide_eq_true_eq, decide_true, decide_false, if_true, if_false, Bool.false_eq_true, and_self, and_true, true_and, true_or, or_true, not_true_eq_false, not_false_eq_true, ↓reduceIte, reduceCtorEq, Nat.reduceEqDiff, Nat.reduceAdd, Nat.reduceSub, Nat.reduceMul, Nat.reduceLT, Nat.reduceLeDiff, Nat.reduceBEq, Nat.le_refl, Nat.zero_le, Nat.lt_irrefl, beq_self_eq_true, Nat.succ_ne_zero, Option.some.injEq, Prod.mk.injEq, Int32.reduceLT, Int32.reduceLE, y_26, h.1, c1, q1, q2, q3, b2i_eq0, e1, e2, e4, sb, c2, ek]
            rfl
          · have ek : kd tp p e = 2 := by unfold kd; rw [if_neg e0, if_neg e1, if_pos e2, if_neg (fun z => z.elim e3 e4)]
            simp only [eX9_kindOf, kX9_kindOf_0, kX9_kindOf_36, kX9_kindOf_60, kX9_kindOf_65, kX9_kindOf_89, x_no, x_cst, x_ldI, x_ldJ, x_ldA, x_stI, x_stJ, x_stA, x_inc, x_bin, x_un, x_i2l, x_bnJ, x_lshl, x_lcmp, x_dup, x_dp2, x_gI, x_gJ, x_gA, x_pI, x_pZ, x_pJ, x_pA, x_c0, x_c2, x_sw, x_cV, x_cS, x_rV, x_rI, x_rZ, x_rJ, x_mm, x_pop, x_dv, x_al, x_as, x_alJ, x_asJ, x_len, msel, mpl, mvr, mnw, List.getElem?_cons_zero, List.getElem?_cons_succ, List.set_cons_zero, List.set_cons_succ, List.length_cons, List.length_nil, List.drop_succ_cons, List.drop_zero, List.take_succ_cons, List.take_zero, List.reverse_cons, List.reverse_nil, List.nil_append, List.cons_append, List.append_nil, List.map_cons, List.map_nil, List.sum_cons, List.sum_nil, Option.toList_some, Option.toList_none, x_bs, Value.category, decide_eq_true_eq, decide_true, decide_false, if_true, if_false, Bool.false_eq_true, and_self, and_true, true_and, true_or, or_true, not_true_eq_false, not_false_eq_true, ↓reduceIte, reduceCtorEq, Nat.reduceEqDiff, Nat.reduceAdd, Nat.reduceSub, Nat.reduceMul, Nat.reduceLT, Nat.reduceLeDiff, Nat.reduceBEq, Nat.le_refl, Nat.zero_le, Nat.lt_irrefl, beq_self_eq_true, Nat.succ_ne_zero, Option.some.injEq, Prod.mk.injEq, Int32.reduceLT, Int32.reduceLE, y_26, h.1, c1, q1, q2, q3, b2i_eq0, e1, e2, e4, sb, c2, ek]
            rfl
      · have ek : kd tp p e = sgk (bt tp p) := by unfold kd; rw [if_neg e0, if_neg e1, if_neg e2]
        have hb := bt_lt h p
        have q4 := p_byteAt n J f h (show p < 2 ^ 31 by omega)
        have q5 := p_sgn hn hb (mm I J f)
        have q6 := (ixT (bt tp p) hb).1
        rw [ek]
        unfold sgk
        cases e3 : ffd (fun i => decide (SGl.getD i 0 = bt tp p)) 0 11 with
        | none =>
          rw [e3] at q5
          have c3 : ¬ (0 : Int32) ≤ -1 := by decide
          simp only [eX9_kindOf, kX9_kindOf_0, kX9_kindOf_36, kX9_kindOf_60, kX9_kindOf_65, kX9_kindOf_89, x_cX, x_no, x_cst, x_ldI, x_ldJ, x_ldA, x_stI, x_stJ, x_stA, x_inc, x_bin, x_un, x_i2l, x_bnJ, x_lshl, x_lcmp, x_dup, x_dp2, x_gI, x_gJ, x_gA, x_pI, x_pZ, x_pJ, x_pA, x_c0, x_c2, x_sw, x_cV, x_cS, x_rV, x_rI, x_rZ, x_rJ, x_mm, x_pop, x_dv, x_al, x_as, x_alJ, x_asJ, x_len, msel, mpl, mvr, mnw, List.getElem?_cons_zero, List.getElem?_cons_succ, List.set_cons_zero, List.set_cons_succ, List.length_cons, List.length_nil, List.drop_succ_cons, List.drop_zero, List.take_succ_cons, List.take_zero, List.reverse_cons, List.reverse_nil, List.nil_append, List.cons_append, List.append_nil, List.map_cons, List.map_nil, List.sum_cons, List.sum_nil, Option.toList_some, Option.toList_none, x_bs, Value.category, decide_eq_true_eq, decide_true, decide_false, if_true, if_false, Bool.false_eq_true, and_self, and_true, true_and, true_or, or_true, not_true_eq_false, not_false_eq_true, ↓reduceIte, reduceCtorEq, Nat.reduceEqDiff, Nat.reduceAdd, Nat.reduceSub, Nat.reduceMul, Nat.reduceLT, Nat.reduceLeDiff, Nat.reduceBEq, Nat.le_refl, Nat.zero_le, Nat.lt_irrefl, beq_self_eq_true, Nat.succ_ne_zero, Option.some.injEq, Prod.mk.injEq, Int32.reduceLT, Int32.reduceLE, y_26, h.1, c1, q1, q2, b2i_eq0, e1, e2, q4, q6, w12.1, q5, ffI, c3]
          rfl
        | some j =>
          rw [e3] at q5
          have hj := (ffd_some _ 0 j e3).2.1
          have c3 : (0 : Int32) ≤ nI j := nI_pos' (by omega)
          have a4 : (4 : Int32) + nI j = nI (4 + j) := by rw [show (4 : Int32) = nI 4 from rfl, nI_add]
          simp only [eX9_kindOf, kX9_kindOf_0, kX9_kindOf_36, kX9_kindOf_60, kX9_kindOf_65, kX9_kindOf_89, x_cX, x_no, x_cst, x_ldI, x_ldJ, x_ldA, x_stI, x_stJ, x_stA, x_inc, x_bin, x_un, x_i2l, x_bnJ, x_lshl, x_lcmp, x_dup, x_dp2, x_gI, x_gJ, x_gA, x_pI, x_pZ, x_pJ, x_pA, x_c0, x_c2, x_sw, x_cV, x_cS, x_rV, x_rI, x_rZ, x_rJ, x_mm, x_pop, x_dv, x_al, x_as, x_alJ, x_asJ, x_len, msel, mpl, mvr, mnw, List.getElem?_cons_zero, List.getElem?_cons_succ, List.set_cons_zero, List.set_cons_succ, List.length_cons, List.length_nil, List.drop_succ_cons, List.drop_zero, List.take_succ_cons, List.take_zero, List.reverse_cons, List.reverse_nil, List.nil_append, List.cons_append, List.append_nil, List.map_cons, List.map_nil, List.sum_cons, List.sum_nil, Option.toList_some, Option.toList_none, x_bs, Value.category, decide_eq_true_eq, decide_true, decide_false, if_true, if_false, Bool.false_eq_true, and_self, and_true, true_and, true_or, or_true, not_true_eq_false, not_false_eq_true, ↓reduceIte, reduceCtorEq, Nat.reduceEqDiff, Nat.reduceAdd, Nat.reduceSub, Nat.reduceMul, Nat.reduceLT, Nat.reduceLeDiff, Nat.reduceBEq, Nat.le_refl, Nat.zero_le, Nat.lt_irrefl, beq_self_eq_true, Nat.succ_ne_zero, Option.some.injEq, Prod.mk.injEq, Int32.reduceLT, Int32.reduceLE, y_26, h.1, c1, q1, q2, b2i_eq0, e1, e2, q4, q6, w12.1, q5, ffI, c3, a4]
/-- the TOKENS, as the class keeps them -/
def TkC (I : Nat → Nat → Int32) (tp : List Nat) : Prop := TxC I tp ∧ I 26 4 = nI (zl tp + 1) ∧ ∀ j, j ≤ zl tp → I 27 j = nI (kn tp j) ∧ I 28 j = nI (pl tp j)
set_option maxHeartbeats 8000000 in
theorem p_cut (hn : 2000 < n) (J : Nat → Nat → Int64) (f : Nat) (hl : tp.length ≤ 1600) (ht : ∀ i, i < tp.length → I 1 i = nI (tp.getD i 0) ∧ tp.getD i 0 < 256) : ∃ I', FX9_cut n [.ref 26, .int (nI tp.length)] (mm I J f) = some (none, mm I' J f) ∧ TkC I' tp ∧ ∀ b j, b ≠ 26 → b ≠ 27 → b ≠ 28 → I' b j = I b j := by
  obtain ⟨z1, z2, z3⟩ := zl_ok tp
  simp only [eX9_cut, kX9_cut_0, x_no, x_cst, x_ldI, x_ldJ, x_ldA, x_stI, x_stJ, x_stA, x_inc, x_bin, x_un, x_i2l, x_bnJ, x_lshl, x_lcmp, x_dup, x_dp2, x_gI, x_gJ, x_gA, x_pI, x_pZ, x_pJ, x_pA, x_c0, x_c2, x_sw, x_cV, x_cS, x_rV, x_rI, x_rZ, x_rJ, x_mm, x_pop, x_dv, x_al, x_as, x_alJ, x_asJ, x_len, msel, mpl, mvr, mnw, List.getElem?_cons_zero, List.getElem?_cons_succ, List.set_cons_zero, List.set_cons_succ, List.length_cons, List.length_nil, List.drop_succ_cons, List.drop_zero, List.take_succ_cons, List.take_zero, List.reverse_cons, List.reverse_nil, List.nil_append, List.cons_append, List.append_nil, List.map_cons, List.map_nil, List.sum_cons, List.sum_nil, Option.toList_some, Option.toList_none, x_bs, Value.category, decide_eq_true_eq, decide_true, decide_false, if_true, if_false, Bool.false_eq_true, and_self, and_true, true_and, true_or, or_true, not_true_eq_false, not_false_eq_true, ↓reduceIte, reduceCtorEq, Nat.reduceEqDiff, Nat.reduceAdd, Nat.reduceSub, Nat.reduceMul, Nat.reduceLT, Nat.reduceLeDiff, Nat.reduceBEq, Nat.le_refl, Nat.zero_le, Nat.lt_irrefl, beq_self_eq_true, Nat.succ_ne_zero, Option.some.injEq, Prod.mk.injEq, Int32.reduceLT, Int32.reduceLE, y_26, uI_mm]
  refine mit_ind (G := kX9_cut_17 n) (fun d L μ => ∃ (i : Nat) (I' : Nat → Nat → Int32) (x5 : Option Value), i + d = zl tp + 1 ∧ μ = mm I' J f ∧ TxC I' tp ∧ I' 26 4 = nI i ∧ (∀ j, j < i → I' 27 j = nI (kn tp j) ∧ I' 28 j = nI (pl tp j)) ∧ (∀ b j, b ≠ 26 → b ≠ 27 → b ≠ 28 → I' b j = I b j) ∧ L = [some (.ref 26), some (.int (nI tp.length)), some (.int (nI (ps tp i))), some (.int (if i = 0 then 3 else nI (kn tp (i - 1)))), some (.int (nI i)), x5]) (fun v => ∃ I', v = some (none, mm I' J f) ∧ TkC I' tp ∧ ∀ b j, b ≠ 26 → b ≠ 27 → b ≠ 28 → I' b j = I b j) ?_ ?_ (zl tp + 1) n _ _ (by omega) ⟨0, u2 (u2 I 26 3 (nI tp.length)) 26 4 0, none, by omega, rfl, ⟨by rw [u2_j (by decide), u2_s], hl, fun i hi => by rw [u2_a (by decide), u2_a (by decide)]; exact ht i hi⟩, by rw [u2_s]; rfl, fun j hj => by omega, fun b j h1 _ _ => by rw [u2_a h1, u2_a h1], rfl⟩
  · rintro L μ ⟨i, I', x5, hi, rfl, h1, h2, h3, h4, rfl⟩
    have : i = zl tp + 1 := by omega
    subst this
    refine ⟨_, fun r => ?_, I', rfl, ⟨h1, h2, fun j hj => h3 j (by omega)⟩, h4⟩
    rw [if_neg (by omega), Nat.add_sub_cancel]
    by_cases c1 : Int32.ofNat 1601 ≤ nI (zl tp + 1)
    · simp only [kX9_cut_17, kX9_cut_94, x_no, x_cst, x_ldI, x_ldJ, x_ldA, x_stI, x_stJ, x_stA, x_inc, x_bin, x_un, x_i2l, x_bnJ, x_lshl, x_lcmp, x_dup, x_dp2, x_gI, x_gJ, x_gA, x_pI, x_pZ, x_pJ, x_pA, x_c0, x_c2, x_sw, x_cV, x_cS, x_rV, x_rI, x_rZ, x_rJ, x_mm, x_pop, x_dv, x_al, x_as, x_alJ, x_asJ, x_len, msel, mpl, mvr, mnw, List.getElem?_cons_zero, List.getElem?_cons_succ, List.set_cons_zero, List.set_cons_succ, List.length_cons, List.length_nil, List.drop_succ_cons, List.drop_zero, List.take_succ_cons, List.take_zero, List.reverse_cons, List.reverse_nil, List.nil_append, List.cons_append, List.append_nil, List.map_cons, List.map_nil, List.sum_cons, List.sum_nil, Option.toList_some, Option.toList_none, x_bs, Value.category, decide_eq_true_eq, decide_true, decide_false, if_true, if_false, Bool.false_eq_true, and_self, and_true, true_and, true_or, or_true, not_true_eq_false, not_false_eq_true, ↓reduceIte, reduceCtorEq, Nat.reduceEqDiff, Nat.reduceAdd, Nat.reduceSub, Nat.reduceMul, Nat.reduceLT, Nat.reduceLeDiff, Nat.reduceBEq, Nat.le_refl, Nat.zero_le, Nat.lt_irrefl, beq_self_eq_true, Nat.succ_ne_zero, Option.some.injEq, Prod.mk.injEq, Int32.reduceLT, Int32.reduceLE, y_26, rt_26_1, y_27, c1]
    · rcases (show kn tp (zl tp) = 0 ∨ kn tp (zl tp) = 1 by omega) with e | e
      · rw [e, nI_0]
        simp only [kX9_cut_17, kX9_cut_94, x_no, x_cst, x_ldI, x_ldJ, x_ldA, x_stI, x_stJ, x_stA, x_inc, x_bin, x_un, x_i2l, x_bnJ, x_lshl, x_lcmp, x_dup, x_dp2, x_gI, x_gJ, x_gA, x_pI, x_pZ, x_pJ, x_pA, x_c0, x_c2, x_sw, x_cV, x_cS, x_rV, x_rI, x_rZ, x_rJ, x_mm, x_pop, x_dv, x_al, x_as, x_alJ, x_asJ, x_len, msel, mpl, mvr, mnw, List.getElem?_cons_zero, List.getElem?_cons_succ, List.set_cons_zero, List.set_cons_succ, List.length_cons, List.length_nil, List.drop_succ_cons, List.drop_zero, List.take_succ_cons, List.take_zero, List.reverse_cons, List.reverse_nil, List.nil_append, List.cons_append, List.append_nil, List.map_cons, List.map_nil, List.sum_cons, List.sum_nil, Option.toList_some, Option.toList_none, x_bs, Value.category, decide_eq_true_eq, decide_true, decide_false, if_true, if_false, Bool.false_eq_true, and_self, and_true, true_and, true_or, or_true, not_true_eq_false, not_false_eq_true, ↓reduceIte, reduceCtorEq, Nat.reduceEqDiff, Nat.reduceAdd, Nat.reduceSub, Nat.reduceMul, Nat.reduceLT, Nat.reduceLeDiff, Nat.reduceBEq, Nat.le_refl, Nat.zero_le, Nat.lt_irrefl, beq_self_eq_true, Nat.succ_ne_zero, Option.some.injEq, Prod.mk.injEq, Int32.reduceLT, Int32.reduceLE, y_26, rt_26_1, y_27, c1]
      · rw [e]
        have q1 : ¬ nI 1 = 0 := by decide
        have q2 : nI 1 = 1 := by decide
        simp only [kX9_cut_17, kX9_cut_94, x_no, x_cst, x_ldI, x_ldJ, x_ldA, x_stI, x_stJ, x_stA, x_inc, x_bin, x_un, x_i2l, x_bnJ, x_lshl, x_lcmp, x_dup, x_dp2, x_gI, x_gJ, x_gA, x_pI, x_pZ, x_pJ, x_pA, x_c0, x_c2, x_sw, x_cV, x_cS, x_rV, x_rI, x_rZ, x_rJ, x_mm, x_pop, x_dv, x_al, x_as, x_alJ, x_asJ, x_len, msel, mpl, mvr, mnw, List.getElem?_cons_zero, List.getElem?_cons_succ, List.set_cons_zero, List.set_cons_succ, List.length_cons, List.length_nil, List.drop_succ_cons, List.drop_zero, List.take_succ_cons, List.take_zero, List.reverse_cons, List.reverse_nil, List.nil_append, List.cons_append, List.append_nil, List.map_cons, List.map_nil, List.sum_cons, List.sum_nil, Option.toList_some, Option.toList_none, x_bs, Value.category, decide_eq_true_eq, decide_true, decide_false, if_true, if_false, Bool.false_eq_true, and_self, and_true, true_and, true_or, or_true, not_true_eq_false, not_false_eq_true, ↓reduceIte, reduceCtorEq, Nat.reduceEqDiff, Nat.reduceAdd, Nat.reduceSub, Nat.reduceMul, Nat.reduceLT, Nat.reduceLeDiff, Nat.reduceBEq, Nat.le_refl, Nat.zero_le, Nat.lt_irrefl, beq_self_eq_true, Nat.succ_ne_zero, Option.some.injEq, Prod.mk.injEq, Int32.reduceLT, Int32.reduceLE, y_26, rt_26_1, y_27, c1, q1, q2, ite_self]
  · rintro d L μ ⟨i, I', x5, hi, rfl, h1, h2, h3, h4, rfl⟩
    refine Or.inr ?_
    have hiz : i ≤ zl tp := by omega
    obtain ⟨p1, p2, p3⟩ := pl_rg tp hiz
    have c1 : ¬ Int32.ofNat 1601 ≤ nI i := lit_nle (k := 1601) rfl (by decide) (by omega)
    have hk33 := kn_rg tp i
    have ck : ¬ (if i = 0 then (3 : Int32) else nI (kn tp (i - 1))) = 0 ∧ ¬ (if i = 0 then (3 : Int32) else nI (kn tp (i - 1))) = 1 := by
      by_cases e : i = 0
      · rw [if_pos e]; decide
      · rw [if_neg e]
        have g1 := z3 (i - 1) (by omega)
        have g2 := kn_rg tp (i - 1)
        refine ⟨nI_ne0 (by omega) (by omega), ?_⟩
        rw [show (1 : Int32) = nI 1 from rfl, nI_eq (by omega) (by decide)]; omega
    have e1 : sk tp (ps tp i) = pl tp i := rfl
    have e2 : te tp (pl tp i) = en tp i := rfl
    have q1 := p_behindBlanks (show 1700 < n by omega) J f h1 p3
    rw [e1] at q1
    have q2 := p_behindToken (show 1700 < n by omega) J f h1 p2
    rw [e2] at q2
    have hen : pl tp i ≤ en tp i ∧ en tp i ≤ tp.length + 1 := by
      rcases Nat.lt_or_ge (pl tp i) tp.length with g | g
      · have := te_rg tp g
        rw [e2] at this; omega
      · have e3 : pl tp i = tp.length := by omega
        have e4 : en tp i = tp.length + 1 := by
          unfold en te
          rw [e3, bt_ge (Nat.le_refl _)]
          rfl
        omega
    have q3 := p_kindOf (show 300 < n by omega) J f h1 p2 hen
    have e3 : kd tp (pl tp i) (en tp i) = kn tp i := rfl
    rw [e3] at q3
    have s1 := fun (K : Nat → Nat → Int32) (v : Int32) => p_setN n 27 i v (mm K J f) y_27 (by decide) (show i < 1601 by omega)
    have s2 := fun (K : Nat → Nat → Int32) (v : Int32) => p_setN n 28 i v (mm K J f) y_28 (by decide) (show i < 1601 by omega)
    refine ⟨_, _, ⟨i + 1, u2 (u2 (u2 I' 27 i (nI (kn tp i))) 28 i (nI (pl tp i))) 26 4 (nI (i + 1)), some (.int (nI (en tp i))), by omega, rfl, ⟨?_, hl, fun j hj => ?_⟩, u2_s, fun j hj => ?_, fun b j b1 b2 b3 => ?_, rfl⟩, fun r => ?_⟩
    · rw [u2_j (by decide), u2_a (by decide), u2_a (by decide)]; exact h1.1
    · rw [u2_a (by decide), u2_a (by decide), u2_a (by decide)]; exact h1.2.2 j hj
    · by_cases e : j = i
      · subst e
        exact ⟨by rw [u2_a (by decide), u2_a (by decide), u2_s], by rw [u2_a (by decide), u2_s]⟩
      · obtain ⟨g1, g2⟩ := h3 j (by omega)
        exact ⟨by rw [u2_a (by decide), u2_a (by decide), u2_j e]; exact g1, by rw [u2_a (by decide), u2_j e, u2_a (by decide)]; exact g2⟩
    · rw [u2_a b1, u2_a b3, u2_a b2]; exact h4 b j b1 b2 b3
    · rw [if_neg (Nat.succ_ne_zero i), Nat.add_sub_cancel]
      have e5 : ps tp (i + 1) = en tp i := rfl
      rw [e5]
      simp only [kX9_cut_17, kX9_cut_58, x_no, x_cst, x_ldI, x_ldJ, x_ldA, x_stI, x_stJ, x_stA, x_inc, x_bin, x_un, x_i2l, x_bnJ, x_lshl, x_lcmp, x_dup, x_dp2, x_gI, x_gJ, x_gA, x_pI, x_pZ, x_pJ, x_pA, x_c0, x_c2, x_sw, x_cV, x_cS, x_rV, x_rI, x_rZ, x_rJ, x_mm, x_pop, x_dv, x_al, x_as, x_alJ, x_asJ, x_len, msel, mpl, mvr, mnw, List.getElem?_cons_zero, List.getElem?_cons_succ, List.set_cons_zero, List.set_cons_succ, List.length_cons, List.length_nil, List.drop_succ_cons, List.drop_zero, List.take_succ_cons, List.take_zero, List.reverse_cons, List.reverse_nil, List.nil_append, List.cons_append, List.append_nil, List.map_cons, List.map_nil, List.sum_cons, List.sum_nil, Option.toList_some, Option.toList_none, x_bs, Value.category, decide_eq_true_eq, decide_true, decide_false, if_true, if_false, Bool.false_eq_true, and_self, and_true, true_and, true_or, or_true, not_true_eq_false, not_false_eq_true, ↓reduceIte, reduceCtorEq, Nat.reduceEqDiff, Nat.reduceAdd, Nat.reduceSub, Nat.reduceMul, Nat.reduceLT, Nat.reduceLeDiff, Nat.reduceBEq, Nat.le_refl, Nat.zero_le, Nat.lt_irrefl, beq_self_eq_true, Nat.succ_ne_zero, Option.some.injEq, Prod.mk.injEq, Int32.reduceLT, Int32.reduceLE, y_26, rt_26_1, rt_26_2, y_27, c1, ck.1, ck.2, q1, q2, q3, s1, s2, uI_mm, nI_1]
/-- a number -/
theorem num_tok (tp : List Nat) {i : Nat} (h : kn tp i = 2) : isDg (bt tp (pl tp i)) = true ∧ en tp i = teD tp (pl tp i) ∧ en tp i - pl tp i ≤ 4 ∧ isLt (bt tp (en tp i)) = false ∧ pl tp i < tp.length := by
  unfold kn kd at h
  by_cases e0 : tp.length ≤ pl tp i
  · rw [if_pos e0] at h; cases h
  rw [if_neg e0] at h
  by_cases e1 : isLt (bt tp (pl tp i)) = true
  · rw [if_pos e1] at h
    split at h
    · cases h
    · have := kw_rg tp (pl tp i) (en tp i); omega
  rw [if_neg e1] at h
  by_cases e2 : isDg (bt tp (pl tp i)) = true
  · rw [if_pos e2] at h
    split at h
    · cases h
    · rename_i h3
      refine ⟨e2, ?_, by omega, ?_, by omega⟩
      · unfold en te
        rw [if_neg e1, if_pos e2]
      · cases e : isLt (bt tp (en tp i))
        · rfl
        · exact absurd (Or.inr e) h3
  · rw [if_neg e2] at h
    have := sgk_rg (bt tp (pl tp i)); omega
theorem dg_run (tp : List Nat) {p : Nat} (hp : p ≤ tp.length) : (∀ j, p ≤ j → j < teD tp p → isDg (bt tp j) = true) ∧ isDg (bt tp (teD tp p)) = false ∧ p ≤ teD tp p ∧ teD tp p ≤ tp.length := by
  obtain ⟨h1, h2, h3, h4⟩ := wh_rg (fun q => isDg (bt tp q)) (tp.length - p) p
  refine ⟨h3, ?_, h1, by unfold teD; omega⟩
  rcases Nat.lt_or_ge (teD tp p) tp.length with g | g
  · exact h4 (by unfold teD at g; omega)
  · rw [bt_ge g]; rfl
theorem nvl_lt (tp : List Nat) (p : Nat) : ∀ d, (∀ j, j < d → isDg (bt tp (p + j)) = true) → nvl tp p d < 10 ^ d := by
  intro d
  induction d with
  | zero => intro _; exact Nat.one_pos
  | succ d ih =>
    intro h
    have h1 := ih (fun j hj => h j (by omega))
    have h2 := h d (by omega)
    simp only [isDg, Bool.and_eq_true, decide_eq_true_eq] at h2
    show nvl tp p d * 10 + (bt tp (p + d) - 48) < 10 ^ (d + 1)
    rw [Nat.pow_succ]; omega
theorem nvt_le (tp : List Nat) {i : Nat} (h : kn tp i = 2) : nvt tp i ≤ 9999 := by
  obtain ⟨h1, h2, h3, h4, h5⟩ := num_tok tp h
  obtain ⟨g1, g2, g3, g4⟩ := dg_run tp (show pl tp i ≤ tp.length by omega)
  rw [← h2] at g1 g3
  have := nvl_lt tp (pl tp i) (en tp i - pl tp i) (fun j hj => g1 _ (by omega) (by omega))
  have h10 : 10 ^ (en tp i - pl tp i) ≤ 10 ^ 4 := Nat.pow_le_pow_right (by decide) h3
  unfold nvt
  omega
set_option maxHeartbeats 4000000 in
theorem p_numberFrom (hn : 300 < n) (J : Nat → Nat → Int64) (f : Nat) (h : TxC I tp) {i : Nat} (hk : kn tp i = 2) : FX9_numberFrom n [.ref 26, .int (nI (pl tp i))] (mm I J f) = some (some (.int (nI (nvt tp i))), mm I J f) := by
  obtain ⟨h1, h2, h3, h4, h5⟩ := num_tok tp hk
  have hl := h.2.1
  obtain ⟨g1, g2, g3, g4⟩ := dg_run tp (show pl tp i ≤ tp.length by omega)
  rw [← h2] at g1 g2 g3 g4
  obtain ⟨m, hm⟩ : ∃ m, en tp i = pl tp i + m := ⟨en tp i - pl tp i, by omega⟩
  have hm4 : m ≤ 4 := by omega
  have ev : nvt tp i = nvl tp (pl tp i) m := by unfold nvt; rw [hm, Nat.add_sub_cancel_left]
  rw [ev]
  simp only [eX9_numberFrom, kX9_numberFrom_0, x_no, x_cst, x_ldI, x_ldJ, x_ldA, x_stI, x_stJ, x_stA, x_inc, x_bin, x_un, x_i2l, x_bnJ, x_lshl, x_lcmp, x_dup, x_dp2, x_gI, x_gJ, x_gA, x_pI, x_pZ, x_pJ, x_pA, x_c0, x_c2, x_sw, x_cV, x_cS, x_rV, x_rI, x_rZ, x_rJ, x_mm, x_pop, x_dv, x_al, x_as, x_alJ, x_asJ, x_len, msel, mpl, mvr, mnw, List.getElem?_cons_zero, List.getElem?_cons_succ, List.set_cons_zero, List.set_cons_succ, List.length_cons, List.length_nil, List.drop_succ_cons, List.drop_zero, List.take_succ_cons, List.take_zero, List.reverse_cons, List.reverse_nil, List.nil_append, List.cons_append, List.append_nil, List.map_cons, List.map_nil, List.sum_cons, List.sum_nil, Option.toList_some, Option.toList_none, x_bs, Value.category, decide_eq_true_eq, decide_true, decide_false, if_true, if_false, Bool.false_eq_true, and_self, and_true, true_and, true_or, or_true, not_true_eq_false, not_false_eq_true, ↓reduceIte, reduceCtorEq, Nat.reduceEqDiff, Nat.reduceAdd, Nat.reduceSub, Nat.reduceMul, Nat.reduceLT, Nat.reduceLeDiff, Nat.reduceBEq, Nat.le_refl, Nat.zero_le, Nat.lt_irrefl, beq_self_eq_true, Nat.succ_ne_zero, Option.some.injEq, Prod.mk.injEq, Int32.reduceLT, Int32.reduceLE]
  have key := mit_for (G := kX9_numberFrom_4 n) (fun j => [some (.ref 26), some (.int (nI (pl tp i))), some (.int (nI (nvl tp (pl tp i) j))), some (.int (nI j)), if j = 0 then none else some (.int (nI (bt tp (pl tp i + (j - 1)) - 48)))]) (fun _ => mm I J f) (B := m) (fun j hj r => ?_) (show m < n by omega) (v := some (some (.int (nI (nvl tp (pl tp i) m))), mm I J f)) (fun r => ?_)
  · exact key
  · have c1 : ¬ (4 : Int32) ≤ nI j := lit_nle (k := 4) rfl (by decide) (by omega)
    have hd := g1 (pl tp i + j) (by omega) (by omega)
    simp only [isDg, Bool.and_eq_true, decide_eq_true_eq] at hd
    have q := p_byteAt n J f h (show pl tp i + j < 2 ^ 31 by omega)
    have sb : nI (bt tp (pl tp i + j)) - 48 = nI (bt tp (pl tp i + j) - 48) := by rw [show (48 : Int32) = nI 48 from rfl, pk_sub hd.1]
    have c2 : ¬ nI (bt tp (pl tp i + j) - 48) < 0 := nI_pos (by omega)
    have c3 : nI (bt tp (pl tp i + j) - 48) ≤ 9 := by rw [show (9 : Int32) = nI 9 from rfl, nI_leI (by omega) (by decide)]; omega
    have a1 : nI (nvl tp (pl tp i) j) * 10 + nI (bt tp (pl tp i + j) - 48) = nI (nvl tp (pl tp i) (j + 1)) := by
      rw [show (10 : Int32) = nI 10 from rfl, pk_mul, nI_add]; rfl
    simp only [kX9_numberFrom_4, x_no, x_cst, x_ldI, x_ldJ, x_ldA, x_stI, x_stJ, x_stA, x_inc, x_bin, x_un, x_i2l, x_bnJ, x_lshl, x_lcmp, x_dup, x_dp2, x_gI, x_gJ, x_gA, x_pI, x_pZ, x_pJ, x_pA, x_c0, x_c2, x_sw, x_cV, x_cS, x_rV, x_rI, x_rZ, x_rJ, x_mm, x_pop, x_dv, x_al, x_as, x_alJ, x_asJ, x_len, msel, mpl, mvr, mnw, List.getElem?_cons_zero, List.getElem?_cons_succ, List.set_cons_zero, List.set_cons_succ, List.length_cons, List.length_nil, List.drop_succ_cons, List.drop_zero, List.take_succ_cons, List.take_zero, List.reverse_cons, List.reverse_nil, List.nil_append, List.cons_append, List.append_nil, List.map_cons, List.map_nil, List.sum_cons, List.sum_nil, Option.toList_some, Option.toList_none, x_bs, Value.category, decide_eq_true_eq, decide_true, decide_false, if_true, if_false, Bool.false_eq_true, and_self, and_true, true_and, true_or, or_true, not_true_eq_false, not_false_eq_true, ↓reduceIte, reduceCtorEq, Nat.reduceEqDiff, Nat.reduceAdd, Nat.reduceSub, Nat.reduceMul, Nat.reduceLT, Nat.reduceLeDiff, Nat.reduceBEq, Nat.le_refl, Nat.zero_le, Nat.lt_irrefl, beq_self_eq_true, Nat.succ_ne_zero, Option.some.injEq, Prod.mk.injEq, Int32.reduceLT, Int32.reduceLE, c1, nI_add, y_26, q, sb, c2, c3, a1, nI_1, Nat.add_sub_cancel]
  · by_cases e : m = 4
    · have c1 : (4 : Int32) ≤ nI m := by rw [e]; decide
      simp only [kX9_numberFrom_4, x_no, x_cst, x_ldI, x_ldJ, x_ldA, x_stI, x_stJ, x_stA, x_inc, x_bin, x_un, x_i2l, x_bnJ, x_lshl, x_lcmp, x_dup, x_dp2, x_gI, x_gJ, x_gA, x_pI, x_pZ, x_pJ, x_pA, x_c0, x_c2, x_sw, x_cV, x_cS, x_rV, x_rI, x_rZ, x_rJ, x_mm, x_pop, x_dv, x_al, x_as, x_alJ, x_asJ, x_len, msel, mpl, mvr, mnw, List.getElem?_cons_zero, List.getElem?_cons_succ, List.set_cons_zero, List.set_cons_succ, List.length_cons, List.length_nil, List.drop_succ_cons, List.drop_zero, List.take_succ_cons, List.take_zero, List.reverse_cons, List.reverse_nil, List.nil_append, List.cons_append, List.append_nil, List.map_cons, List.map_nil, List.sum_cons, List.sum_nil, Option.toList_some, Option.toList_none, x_bs, Value.category, decide_eq_true_eq, decide_true, decide_false, if_true, if_false, Bool.false_eq_true, and_self, and_true, true_and, true_or, or_true, not_true_eq_false, not_false_eq_true, ↓reduceIte, reduceCtorEq, Nat.reduceEqDiff, Nat.reduceAdd, Nat.reduceSub, Nat.reduceMul, Nat.reduceLT, Nat.reduceLeDiff, Nat.reduceBEq, Nat.le_refl, Nat.zero_le, Nat.lt_irrefl, beq_self_eq_true, Nat.succ_ne_zero, Option.some.injEq, Prod.mk.injEq, Int32.reduceLT, Int32.reduceLE, c1]
    · have c1 : ¬ (4 : Int32) ≤ nI m := lit_nle (k := 4) rfl (by decide) (by omega)
      have q := p_byteAt n J f h (show pl tp i + m < 2 ^ 31 by omega)
      have hb := bt_lt h (pl tp i + m)
      rw [hm] at g2
      by_cases e2 : bt tp (pl tp i + m) < 48
      · have c2 : nI (bt tp (pl tp i + m)) - 48 < 0 := by rw [show (48 : Int32) = nI 48 from rfl, subn (by omega) (by decide)]; exact e2
        simp only [kX9_numberFrom_4, kX9_numberFrom_33, x_no, x_cst, x_ldI, x_ldJ, x_ldA, x_stI, x_stJ, x_stA, x_inc, x_bin, x_un, x_i2l, x_bnJ, x_lshl, x_lcmp, x_dup, x_dp2, x_gI, x_gJ, x_gA, x_pI, x_pZ, x_pJ, x_pA, x_c0, x_c2, x_sw, x_cV, x_cS, x_rV, x_rI, x_rZ, x_rJ, x_mm, x_pop, x_dv, x_al, x_as, x_alJ, x_asJ, x_len, msel, mpl, mvr, mnw, List.getElem?_cons_zero, List.getElem?_cons_succ, List.set_cons_zero, List.set_cons_succ, List.length_cons, List.length_nil, List.drop_succ_cons, List.drop_zero, List.take_succ_cons, List.take_zero, List.reverse_cons, List.reverse_nil, List.nil_append, List.cons_append, List.append_nil, List.map_cons, List.map_nil, List.sum_cons, List.sum_nil, Option.toList_some, Option.toList_none, x_bs, Value.category, decide_eq_true_eq, decide_true, decide_false, if_true, if_false, Bool.false_eq_true, and_self, and_true, true_and, true_or, or_true, not_true_eq_false, not_false_eq_true, ↓reduceIte, reduceCtorEq, Nat.reduceEqDiff, Nat.reduceAdd, Nat.reduceSub, Nat.reduceMul, Nat.reduceLT, Nat.reduceLeDiff, Nat.reduceBEq, Nat.le_refl, Nat.zero_le, Nat.lt_irrefl, beq_self_eq_true, Nat.succ_ne_zero, Option.some.injEq, Prod.mk.injEq, Int32.reduceLT, Int32.reduceLE, c1, nI_add, y_26, q, c2]
      · have sb : nI (bt tp (pl tp i + m)) - 48 = nI (bt tp (pl tp i + m) - 48) := by rw [show (48 : Int32) = nI 48 from rfl, pk_sub (by omega)]
        have c2 : ¬ nI (bt tp (pl tp i + m) - 48) < 0 := nI_pos (by omega)
        have e3 : ¬ bt tp (pl tp i + m) ≤ 57 := fun z => by
          simp only [isDg, z, show 48 ≤ bt tp (pl tp i + m) by omega, decide_true, Bool.and_self] at g2
          cases g2
        have c3 : ¬ nI (bt tp (pl tp i + m) - 48) ≤ 9 := by rw [show (9 : Int32) = nI 9 from rfl, nI_leI (by omega) (by decide)]; omega
        simp only [kX9_numberFrom_4, kX9_numberFrom_33, x_no, x_cst, x_ldI, x_ldJ, x_ldA, x_stI, x_stJ, x_stA, x_inc, x_bin, x_un, x_i2l, x_bnJ, x_lshl, x_lcmp, x_dup, x_dp2, x_gI, x_gJ, x_gA, x_pI, x_pZ, x_pJ, x_pA, x_c0, x_c2, x_sw, x_cV, x_cS, x_rV, x_rI, x_rZ, x_rJ, x_mm, x_pop, x_dv, x_al, x_as, x_alJ, x_asJ, x_len, msel, mpl, mvr, mnw, List.getElem?_cons_zero, List.getElem?_cons_succ, List.set_cons_zero, List.set_cons_succ, List.length_cons, List.length_nil, List.drop_succ_cons, List.drop_zero, List.take_succ_cons, List.take_zero, List.reverse_cons, List.reverse_nil, List.nil_append, List.cons_append, List.append_nil, List.map_cons, List.map_nil, List.sum_cons, List.sum_nil, Option.toList_some, Option.toList_none, x_bs, Value.category, decide_eq_true_eq, decide_true, decide_false, if_true, if_false, Bool.false_eq_true, and_self, and_true, true_and, true_or, or_true, not_true_eq_false, not_false_eq_true, ↓reduceIte, reduceCtorEq, Nat.reduceEqDiff, Nat.reduceAdd, Nat.reduceSub, Nat.reduceMul, Nat.reduceLT, Nat.reduceLeDiff, Nat.reduceBEq, Nat.le_refl, Nat.zero_le, Nat.lt_irrefl, beq_self_eq_true, Nat.succ_ne_zero, Option.some.injEq, Prod.mk.injEq, Int32.reduceLT, Int32.reduceLE, c1, nI_add, y_26, q, sb, c2, c3]
end LexK
