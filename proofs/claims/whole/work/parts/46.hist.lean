/-! PURE: the class: untell, later, history -/
section Untell
variable {n : Nat} {I : Nat → Nat → Int32} {A : AS}
def untB (A : AS) (i : Int32) : Bool := decide (0 ≤ i) && decide (i.toNatClampNeg < (aHd A).length) && ((aHd A).getD i.toNatClampNeg he0).2.2.2.2.isNone
def unE (e : HE) (t : Nat) : HE := (e.1, e.2.1, e.2.2.1, e.2.2.2.1, some t)
def sUntell (A : AS) (i : Int32) : AS := if untB A i = true then setH A ((aHd A).set i.toNatClampNeg (unE ((aHd A).getD i.toNatClampNeg he0) (aTm A))) (aTm A) else A
theorem getD_setE {l : List HE} {x : HE} {a i : Nat} (hi : i < l.length) : (l.set i x).getD a he0 = if a = i then x else l.getD a he0 := by
  by_cases h : a = i
  · subst h; simp [hi]
  · rw [if_neg h, List.getD_eq_getElem?_getD, List.getD_eq_getElem?_getD, List.getElem?_set_ne (fun e => h e.symm)]
set_option maxHeartbeats 8000000 in
theorem c_untell (n : Nat) (J : Nat → Nat → Int64) (f : Nat) (h : RC I A) (i : Int32) : ∃ I', FX11_untell n [.ref 0, .int i] (mm I J f) = some (some (.int (b2i (untB A i = true))), mm I' J f) ∧ RC I' (sUntell A i) ∧ lo I I' := by
  obtain ⟨hl, h6, ⟨h7, h7b⟩, hE, hTab⟩ := h.2.2.2.2.1
  have rf : lo I I := fun _ _ _ => rfl
  rcases cI i with h0 | ⟨j, hj, rfl⟩
  · have hb : untB A i = false := by simp [untB, nn0 h0]
    refine ⟨I, ?_, by unfold sUntell; rw [hb]; exact h, rf⟩
    simp only [eX11_untell, kX11_untell_0, eX2_takeBack, kX2_takeBack_0, kX2_takeBack_24, i_cst, i_ldI, i_ldJ, i_ldA, i_stI, i_stJ, i_stA, i_inc, i_bin, i_dv, i_un, i_i2l, i_bnJ, i_lshl, i_lcmp, i_dup, i_dp2, i_gI, i_gJ, i_gA, i_pI, i_pZ, i_pJ, i_pA, i_al, i_as, i_alJ, i_asJ, i_len, i_c0, i_c2, i_sw, msel, i_cV, i_cS, i_rV, i_rI, i_rZ, i_rJ, i_mm, i_pop, i_no, mpl, mvr, mnw, List.getElem?_cons_zero, List.getElem?_cons_succ, List.set_cons_zero, List.set_cons_succ, List.length_cons, List.length_nil, List.drop_succ_cons, List.drop_zero, List.take_succ_cons, List.take_zero, List.reverse_cons, List.reverse_nil, List.nil_append, List.cons_append, List.append_nil, List.map_cons, List.map_nil, List.sum_cons, List.sum_nil, Option.toList_some, Option.toList_none, Option.bind_some, Value.category, decide_eq_true_eq, decide_true, decide_false, if_true, if_false, Bool.false_eq_true, and_self, and_true, true_and, true_or, or_true, not_true_eq_false, not_false_eq_true, ↓reduceIte, reduceCtorEq, Nat.reduceEqDiff, Nat.reduceAdd, Nat.reduceSub, Nat.reduceMul, Nat.reduceLT, Nat.reduceLeDiff, Nat.reduceBEq, Nat.le_refl, Nat.zero_le, Nat.lt_irrefl, beq_self_eq_true, Nat.succ_ne_zero, Option.some.injEq, Prod.mk.injEq, Int32.reduceLT, Int32.reduceLE, y_0, y_46, rt_0_10, h0, hb, b2i]
  · have c1 : ¬ nI j < 0 := nI_pos hj
    by_cases hjl : j < (aHd A).length
    · have c2 : ¬ nI (aHd A).length ≤ nI j := by rw [nI_leI (by omega) hj]; omega
      obtain ⟨g1, g2, g3, g4, g5, g6⟩ := hE j hjl
      have q1 := p_atN n 51 j (mm I J f) y_51 (by decide) (show j < 30 by omega)
      cases e : ((aHd A).getD j he0).2.2.2.2 with
      | none =>
        have hb : untB A (nI j) = true := by
          simp only [untB, nI_clamp hj, hjl, e, nI_pos' hj, decide_true, Bool.true_and, Option.isNone_none]
        have e51 : I 51 j = -1 := by rw [g5, e]; rfl
        refine ⟨u2 I 51 j (nI (aTm A)), ?_, ?_, fun b i hb => u2_a (by omega)⟩
        · simp only [eX11_untell, kX11_untell_0, eX2_takeBack, kX2_takeBack_0, kX2_takeBack_24, i_cst, i_ldI, i_ldJ, i_ldA, i_stI, i_stJ, i_stA, i_inc, i_bin, i_dv, i_un, i_i2l, i_bnJ, i_lshl, i_lcmp, i_dup, i_dp2, i_gI, i_gJ, i_gA, i_pI, i_pZ, i_pJ, i_pA, i_al, i_as, i_alJ, i_asJ, i_len, i_c0, i_c2, i_sw, msel, i_cV, i_cS, i_rV, i_rI, i_rZ, i_rJ, i_mm, i_pop, i_no, mpl, mvr, mnw, List.getElem?_cons_zero, List.getElem?_cons_succ, List.set_cons_zero, List.set_cons_succ, List.length_cons, List.length_nil, List.drop_succ_cons, List.drop_zero, List.take_succ_cons, List.take_zero, List.reverse_cons, List.reverse_nil, List.nil_append, List.cons_append, List.append_nil, List.map_cons, List.map_nil, List.sum_cons, List.sum_nil, Option.toList_some, Option.toList_none, Option.bind_some, Value.category, decide_eq_true_eq, decide_true, decide_false, if_true, if_false, Bool.false_eq_true, and_self, and_true, true_and, true_or, or_true, not_true_eq_false, not_false_eq_true, ↓reduceIte, reduceCtorEq, Nat.reduceEqDiff, Nat.reduceAdd, Nat.reduceSub, Nat.reduceMul, Nat.reduceLT, Nat.reduceLeDiff, Nat.reduceBEq, Nat.le_refl, Nat.zero_le, Nat.lt_irrefl, beq_self_eq_true, Nat.succ_ne_zero, Option.some.injEq, Prod.mk.injEq, Int32.reduceLT, Int32.reduceLE, y_0, y_46, rt_0_10, rt_46_5, c1, h6, h7, c2, q1, e51, p_setN n 51 j _ (mm I J f) y_51 (by decide) (show j < 30 by omega), uI_mm, hb, b2i]
        · unfold sUntell
          rw [if_pos hb, nI_clamp hj]
          refine RC_hear h ⟨by simp; exact hl, by rw [u2_a (by decide)]; simpa using h6, ⟨by rw [u2_a (by decide)]; exact h7, h7b⟩, fun i hi => ?_, ?_⟩ (fun c i _ _ hc => u2_a (by omega))
          · rw [getD_setE hjl]
            simp only [List.length_set] at hi
            by_cases e2 : i = j
            · subst e2
              rw [if_pos rfl]
              refine ⟨?_, ?_, ?_, ?_, ?_, fun t ht => by cases ht; exact h7b⟩
              · rw [u2_a (by decide)]; exact g1
              · rw [u2_a (by decide)]; exact g2
              · rw [u2_a (by decide)]; exact g3
              · rw [u2_a (by decide)]; exact g4
              · rw [u2_s]; rfl
            · rw [if_neg e2]
              obtain ⟨k1, k2, k3, k4, k5⟩ := hE i hi
              refine ⟨?_, ?_, ?_, ?_, ?_⟩ <;> rw [u2_j e2] <;> assumption
          · rcases hTab with hq | hq
            · exact Or.inl (by rw [u2_a (by decide)]; exact hq)
            · exact Or.inr (fun y z hy hz => by rw [u2_a (by decide)]; exact hq y z hy hz)
      | some t =>
        have hb : untB A (nI j) = false := by
          simp only [untB, nI_clamp hj, e, Option.isNone_some, Bool.and_false]
        have ht := g6 t e
        have e51 : ¬ I 51 j = -1 := by rw [g5, e]; exact nI_n1 (by omega)
        refine ⟨I, ?_, by unfold sUntell; rw [hb]; exact h, rf⟩
        simp only [eX11_untell, kX11_untell_0, eX2_takeBack, kX2_takeBack_0, kX2_takeBack_24, i_cst, i_ldI, i_ldJ, i_ldA, i_stI, i_stJ, i_stA, i_inc, i_bin, i_dv, i_un, i_i2l, i_bnJ, i_lshl, i_lcmp, i_dup, i_dp2, i_gI, i_gJ, i_gA, i_pI, i_pZ, i_pJ, i_pA, i_al, i_as, i_alJ, i_asJ, i_len, i_c0, i_c2, i_sw, msel, i_cV, i_cS, i_rV, i_rI, i_rZ, i_rJ, i_mm, i_pop, i_no, mpl, mvr, mnw, List.getElem?_cons_zero, List.getElem?_cons_succ, List.set_cons_zero, List.set_cons_succ, List.length_cons, List.length_nil, List.drop_succ_cons, List.drop_zero, List.take_succ_cons, List.take_zero, List.reverse_cons, List.reverse_nil, List.nil_append, List.cons_append, List.append_nil, List.map_cons, List.map_nil, List.sum_cons, List.sum_nil, Option.toList_some, Option.toList_none, Option.bind_some, Value.category, decide_eq_true_eq, decide_true, decide_false, if_true, if_false, Bool.false_eq_true, and_self, and_true, true_and, true_or, or_true, not_true_eq_false, not_false_eq_true, ↓reduceIte, reduceCtorEq, Nat.reduceEqDiff, Nat.reduceAdd, Nat.reduceSub, Nat.reduceMul, Nat.reduceLT, Nat.reduceLeDiff, Nat.reduceBEq, Nat.le_refl, Nat.zero_le, Nat.lt_irrefl, beq_self_eq_true, Nat.succ_ne_zero, Option.some.injEq, Prod.mk.injEq, Int32.reduceLT, Int32.reduceLE, y_0, y_46, rt_0_10, rt_46_5, c1, h6, c2, q1, e51, hb, b2i]
    · have c2 : nI (aHd A).length ≤ nI j := by rw [nI_leI (by omega) hj]; omega
      have hb : untB A (nI j) = false := by simp [untB, nI_clamp hj, hjl]
      refine ⟨I, ?_, by unfold sUntell; rw [hb]; exact h, rf⟩
      simp only [eX11_untell, kX11_untell_0, eX2_takeBack, kX2_takeBack_0, kX2_takeBack_24, i_cst, i_ldI, i_ldJ, i_ldA, i_stI, i_stJ, i_stA, i_inc, i_bin, i_dv, i_un, i_i2l, i_bnJ, i_lshl, i_lcmp, i_dup, i_dp2, i_gI, i_gJ, i_gA, i_pI, i_pZ, i_pJ, i_pA, i_al, i_as, i_alJ, i_asJ, i_len, i_c0, i_c2, i_sw, msel, i_cV, i_cS, i_rV, i_rI, i_rZ, i_rJ, i_mm, i_pop, i_no, mpl, mvr, mnw, List.getElem?_cons_zero, List.getElem?_cons_succ, List.set_cons_zero, List.set_cons_succ, List.length_cons, List.length_nil, List.drop_succ_cons, List.drop_zero, List.take_succ_cons, List.take_zero, List.reverse_cons, List.reverse_nil, List.nil_append, List.cons_append, List.append_nil, List.map_cons, List.map_nil, List.sum_cons, List.sum_nil, Option.toList_some, Option.toList_none, Option.bind_some, Value.category, decide_eq_true_eq, decide_true, decide_false, if_true, if_false, Bool.false_eq_true, and_self, and_true, true_and, true_or, or_true, not_true_eq_false, not_false_eq_true, ↓reduceIte, reduceCtorEq, Nat.reduceEqDiff, Nat.reduceAdd, Nat.reduceSub, Nat.reduceMul, Nat.reduceLT, Nat.reduceLeDiff, Nat.reduceBEq, Nat.le_refl, Nat.zero_le, Nat.lt_irrefl, beq_self_eq_true, Nat.succ_ne_zero, Option.some.injEq, Prod.mk.injEq, Int32.reduceLT, Int32.reduceLE, y_0, y_46, rt_0_10, c1, h6, c2, hb, b2i]
def latB (A : AS) (x : Int32) : Bool := decide (0 ≤ x ∧ x ≤ 1000) && decide (aTm A + x.toNatClampNeg ≤ 100000)
def aLater (A : AS) (x : Int32) : Int32 := if latB A x = true then nI (aTm A + x.toNatClampNeg) else -1
def sLater (A : AS) (x : Int32) : AS := if latB A x = true then setH A (aHd A) (aTm A + x.toNatClampNeg) else A
set_option maxHeartbeats 4000000 in
theorem c_later (n : Nat) (J : Nat → Nat → Int64) (f : Nat) (h : RC I A) (x : Int32) : ∃ I', FX11_later n [.ref 0, .int x] (mm I J f) = some (some (.int (aLater A x)), mm I' J f) ∧ RC I' (sLater A x) ∧ lo I I' := by
  obtain ⟨hl, h6, ⟨h7, h7b⟩, hE, hTab⟩ := h.2.2.2.2.1
  have rf : lo I I := fun _ _ _ => rfl
  rcases cI x with h0 | ⟨j, hj, rfl⟩
  · have hb : latB A x = false := by simp [latB, nn0 h0]
    refine ⟨I, ?_, by unfold sLater; rw [hb]; exact h, rf⟩
    simp only [eX11_later, kX11_later_0, eX2_goOn, kX2_goOn_0, kX2_goOn_22, i_cst, i_ldI, i_ldJ, i_ldA, i_stI, i_stJ, i_stA, i_inc, i_bin, i_dv, i_un, i_i2l, i_bnJ, i_lshl, i_lcmp, i_dup, i_dp2, i_gI, i_gJ, i_gA, i_pI, i_pZ, i_pJ, i_pA, i_al, i_as, i_alJ, i_asJ, i_len, i_c0, i_c2, i_sw, msel, i_cV, i_cS, i_rV, i_rI, i_rZ, i_rJ, i_mm, i_pop, i_no, mpl, mvr, mnw, List.getElem?_cons_zero, List.getElem?_cons_succ, List.set_cons_zero, List.set_cons_succ, List.length_cons, List.length_nil, List.drop_succ_cons, List.drop_zero, List.take_succ_cons, List.take_zero, List.reverse_cons, List.reverse_nil, List.nil_append, List.cons_append, List.append_nil, List.map_cons, List.map_nil, List.sum_cons, List.sum_nil, Option.toList_some, Option.toList_none, Option.bind_some, Value.category, decide_eq_true_eq, decide_true, decide_false, if_true, if_false, Bool.false_eq_true, and_self, and_true, true_and, true_or, or_true, not_true_eq_false, not_false_eq_true, ↓reduceIte, reduceCtorEq, Nat.reduceEqDiff, Nat.reduceAdd, Nat.reduceSub, Nat.reduceMul, Nat.reduceLT, Nat.reduceLeDiff, Nat.reduceBEq, Nat.le_refl, Nat.zero_le, Nat.lt_irrefl, beq_self_eq_true, Nat.succ_ne_zero, Option.some.injEq, Prod.mk.injEq, Int32.reduceLT, Int32.reduceLE, y_0, y_46, rt_0_10, h0, hb, aLater]
  · have c1 : ¬ nI j < 0 := nI_pos hj
    have c1' : (0 : Int32) ≤ nI j := nI_pos' hj
    by_cases c2 : 1000 < nI j
    · have hb : latB A (nI j) = false := by simp [latB, Int32.not_le.mpr c2]
      refine ⟨I, ?_, by unfold sLater; rw [hb]; exact h, rf⟩
      simp only [eX11_later, kX11_later_0, eX2_goOn, kX2_goOn_0, kX2_goOn_22, i_cst, i_ldI, i_ldJ, i_ldA, i_stI, i_stJ, i_stA, i_inc, i_bin, i_dv, i_un, i_i2l, i_bnJ, i_lshl, i_lcmp, i_dup, i_dp2, i_gI, i_gJ, i_gA, i_pI, i_pZ, i_pJ, i_pA, i_al, i_as, i_alJ, i_asJ, i_len, i_c0, i_c2, i_sw, msel, i_cV, i_cS, i_rV, i_rI, i_rZ, i_rJ, i_mm, i_pop, i_no, mpl, mvr, mnw, List.getElem?_cons_zero, List.getElem?_cons_succ, List.set_cons_zero, List.set_cons_succ, List.length_cons, List.length_nil, List.drop_succ_cons, List.drop_zero, List.take_succ_cons, List.take_zero, List.reverse_cons, List.reverse_nil, List.nil_append, List.cons_append, List.append_nil, List.map_cons, List.map_nil, List.sum_cons, List.sum_nil, Option.toList_some, Option.toList_none, Option.bind_some, Value.category, decide_eq_true_eq, decide_true, decide_false, if_true, if_false, Bool.false_eq_true, and_self, and_true, true_and, true_or, or_true, not_true_eq_false, not_false_eq_true, ↓reduceIte, reduceCtorEq, Nat.reduceEqDiff, Nat.reduceAdd, Nat.reduceSub, Nat.reduceMul, Nat.reduceLT, Nat.reduceLeDiff, Nat.reduceBEq, Nat.le_refl, Nat.zero_le, Nat.lt_irrefl, beq_self_eq_true, Nat.succ_ne_zero, Option.some.injEq, Prod.mk.injEq, Int32.reduceLT, Int32.reduceLE, y_0, y_46, rt_0_10, c1, c2, hb, aLater]
    · have hj1 : j ≤ 1000 := by
        rw [show (1000 : Int32) = nI 1000 from rfl, nI_ltI (by decide) hj] at c2; omega
      by_cases c3 : aTm A + j ≤ 100000
      · have hb : latB A (nI j) = true := by simp [latB, Int32.not_lt.mp c2, c1', nI_clamp hj, c3]
        have c4 : nI (aTm A + j) ≤ 100000 := by rw [show (100000 : Int32) = nI 100000 from rfl, nI_leI (by omega) (by decide)]; exact c3
        refine ⟨u2 I 46 7 (nI (aTm A + j)), ?_, ?_, fun b i hb => u2_a (by omega)⟩
        · simp only [eX11_later, kX11_later_0, eX2_goOn, kX2_goOn_0, kX2_goOn_22, i_cst, i_ldI, i_ldJ, i_ldA, i_stI, i_stJ, i_stA, i_inc, i_bin, i_dv, i_un, i_i2l, i_bnJ, i_lshl, i_lcmp, i_dup, i_dp2, i_gI, i_gJ, i_gA, i_pI, i_pZ, i_pJ, i_pA, i_al, i_as, i_alJ, i_asJ, i_len, i_c0, i_c2, i_sw, msel, i_cV, i_cS, i_rV, i_rI, i_rZ, i_rJ, i_mm, i_pop, i_no, mpl, mvr, mnw, List.getElem?_cons_zero, List.getElem?_cons_succ, List.set_cons_zero, List.set_cons_succ, List.length_cons, List.length_nil, List.drop_succ_cons, List.drop_zero, List.take_succ_cons, List.take_zero, List.reverse_cons, List.reverse_nil, List.nil_append, List.cons_append, List.append_nil, List.map_cons, List.map_nil, List.sum_cons, List.sum_nil, Option.toList_some, Option.toList_none, Option.bind_some, Value.category, decide_eq_true_eq, decide_true, decide_false, if_true, if_false, Bool.false_eq_true, and_self, and_true, true_and, true_or, or_true, not_true_eq_false, not_false_eq_true, ↓reduceIte, reduceCtorEq, Nat.reduceEqDiff, Nat.reduceAdd, Nat.reduceSub, Nat.reduceMul, Nat.reduceLT, Nat.reduceLeDiff, Nat.reduceBEq, Nat.le_refl, Nat.zero_le, Nat.lt_irrefl, beq_self_eq_true, Nat.succ_ne_zero, Option.some.injEq, Prod.mk.injEq, Int32.reduceLT, Int32.reduceLE, y_0, y_46, rt_0_10, c1, c2, h7, nI_add, c4, uI_mm, u2_s, hb, aLater, nI_clamp hj]
        · unfold sLater
          rw [if_pos hb, nI_clamp hj]
          refine RC_hear h ⟨hl, by rw [u2_j (by decide)]; exact h6, ⟨u2_s, c3⟩, fun i hi => HEC_of (hE i hi) (fun b j b1 b2 => u2_a (by omega)), ?_⟩ (fun c i _ _ hc => u2_a (by omega))
          rcases hTab with hq | hq
          · exact Or.inl (by rw [u2_j (by decide)]; exact hq)
          · exact Or.inr (fun y z hy hz => by rw [u2_a (by decide)]; exact hq y z hy hz)
      · have hb : latB A (nI j) = false := by simp [latB, nI_clamp hj, c3]
        have c4 : ¬ nI (aTm A + j) ≤ 100000 := by rw [show (100000 : Int32) = nI 100000 from rfl, nI_leI (by omega) (by decide)]; exact c3
        refine ⟨I, ?_, by unfold sLater; rw [hb]; exact h, rf⟩
        simp only [eX11_later, kX11_later_0, eX2_goOn, kX2_goOn_0, kX2_goOn_22, i_cst, i_ldI, i_ldJ, i_ldA, i_stI, i_stJ, i_stA, i_inc, i_bin, i_dv, i_un, i_i2l, i_bnJ, i_lshl, i_lcmp, i_dup, i_dp2, i_gI, i_gJ, i_gA, i_pI, i_pZ, i_pJ, i_pA, i_al, i_as, i_alJ, i_asJ, i_len, i_c0, i_c2, i_sw, msel, i_cV, i_cS, i_rV, i_rI, i_rZ, i_rJ, i_mm, i_pop, i_no, mpl, mvr, mnw, List.getElem?_cons_zero, List.getElem?_cons_succ, List.set_cons_zero, List.set_cons_succ, List.length_cons, List.length_nil, List.drop_succ_cons, List.drop_zero, List.take_succ_cons, List.take_zero, List.reverse_cons, List.reverse_nil, List.nil_append, List.cons_append, List.append_nil, List.map_cons, List.map_nil, List.sum_cons, List.sum_nil, Option.toList_some, Option.toList_none, Option.bind_some, Value.category, decide_eq_true_eq, decide_true, decide_false, if_true, if_false, Bool.false_eq_true, and_self, and_true, true_and, true_or, or_true, not_true_eq_false, not_false_eq_true, ↓reduceIte, reduceCtorEq, Nat.reduceEqDiff, Nat.reduceAdd, Nat.reduceSub, Nat.reduceMul, Nat.reduceLT, Nat.reduceLeDiff, Nat.reduceBEq, Nat.le_refl, Nat.zero_le, Nat.lt_irrefl, beq_self_eq_true, Nat.succ_ne_zero, Option.some.injEq, Prod.mk.injEq, Int32.reduceLT, Int32.reduceLE, y_0, y_46, rt_0_10, c1, c2, h7, nI_add, c4, hb, aLater]
end Untell
section Hist
variable {n : Nat} {I : Nat → Nat → Int32} {T : TA} {S : SA} {H : List SA} {now : Nat}
def dpI (I : Nat → Nat → Int32) (k : Nat) : Nat → Nat → Int32 := fun b i => if b = 45 ∧ i < k then I 45 (i + 34) else I b i
set_option maxHeartbeats 4000000 in
theorem p_dropOldest (hn : 1400 < n) (J : Nat → Nat → Int64) (f : Nat) (I : Nat → Nat → Int32) (h2 : I 44 2 = nI 40) : FX3_dropOldest n [.ref 44] (mm I J f) = some (none, mm (u2 (dpI I 1360) 44 2 (nI 39)) J f) := by
  simp only [eX3_dropOldest, kX3_dropOldest_0, i_cst, i_ldI, i_ldJ, i_ldA, i_stI, i_stJ, i_stA, i_inc, i_bin, i_dv, i_un, i_i2l, i_bnJ, i_lshl, i_lcmp, i_dup, i_dp2, i_gI, i_gJ, i_gA, i_pI, i_pZ, i_pJ, i_pA, i_al, i_as, i_alJ, i_asJ, i_len, i_c0, i_c2, i_sw, msel, i_cV, i_cS, i_rV, i_rI, i_rZ, i_rJ, i_mm, i_pop, i_no, mpl, mvr, mnw, List.getElem?_cons_zero, List.getElem?_cons_succ, List.set_cons_zero, List.set_cons_succ, List.length_cons, List.length_nil, List.drop_succ_cons, List.drop_zero, List.take_succ_cons, List.take_zero, List.reverse_cons, List.reverse_nil, List.nil_append, List.cons_append, List.append_nil, List.map_cons, List.map_nil, List.sum_cons, List.sum_nil, Option.toList_some, Option.toList_none, Option.bind_some, Value.category, decide_eq_true_eq, decide_true, decide_false, if_true, if_false, Bool.false_eq_true, and_self, and_true, true_and, true_or, or_true, not_true_eq_false, not_false_eq_true, ↓reduceIte, reduceCtorEq, Nat.reduceEqDiff, Nat.reduceAdd, Nat.reduceSub, Nat.reduceMul, Nat.reduceLT, Nat.reduceLeDiff, Nat.reduceBEq, Nat.le_refl, Nat.zero_le, Nat.lt_irrefl, beq_self_eq_true, Nat.succ_ne_zero, Option.some.injEq, Prod.mk.injEq, Int32.reduceLT, Int32.reduceLE]
  have e0 : mm I J f = mm (dpI I 0) J f := by
    have : dpI I 0 = I := by funext b i; simp [dpI]
    rw [this]
  rw [e0]
  refine mit_for (fun j => [some (.ref 44), some (.int (nI j))]) (fun j => mm (dpI I j) J f) (B := 1360) (fun j hj r => ?_) (by omega) (fun r => ?_)
  · have c1 : ¬ Int32.ofNat 1394 ≤ nI (j + 34) := lit_nle (k := 1394) rfl (by decide) (by omega)
    have c3 : (0 : Int32) ≤ nI j := nI_pos' (by omega)
    have c4 : (nI j).toNatClampNeg = j := nI_clamp (by omega)
    have c3' : (0 : Int32) ≤ nI (j + 34) := nI_pos' (by omega)
    have c4' : (nI (j + 34)).toNatClampNeg = j + 34 := nI_clamp (by omega)
    have c5 : j < 1394 := by omega
    have c6 : j + 34 < 1394 := by omega
    have e1 : uI (mm (dpI I j) J f) 45 j (dpI I j 45 (j + 34)) = mm (dpI I (j + 1)) J f := by
      rw [uI_mm]
      congr 1
      funext b i
      unfold u2 dpI
      by_cases h1 : b = 45
      · by_cases h2 : i = j
        · subst h2
          simp [h1, show ¬ i + 34 < i by omega]
        · have : (i < j) = (i < j + 1) := by apply propext; omega
          simp [h1, h2, this]
      · simp [h1]
    simp only [kX3_dropOldest_2, i_cst, i_ldI, i_ldJ, i_ldA, i_stI, i_stJ, i_stA, i_inc, i_bin, i_dv, i_un, i_i2l, i_bnJ, i_lshl, i_lcmp, i_dup, i_dp2, i_gI, i_gJ, i_gA, i_pI, i_pZ, i_pJ, i_pA, i_al, i_as, i_alJ, i_asJ, i_len, i_c0, i_c2, i_sw, msel, i_cV, i_cS, i_rV, i_rI, i_rZ, i_rJ, i_mm, i_pop, i_no, mpl, mvr, mnw, List.getElem?_cons_zero, List.getElem?_cons_succ, List.set_cons_zero, List.set_cons_succ, List.length_cons, List.length_nil, List.drop_succ_cons, List.drop_zero, List.take_succ_cons, List.take_zero, List.reverse_cons, List.reverse_nil, List.nil_append, List.cons_append, List.append_nil, List.map_cons, List.map_nil, List.sum_cons, List.sum_nil, Option.toList_some, Option.toList_none, Option.bind_some, Value.category, decide_eq_true_eq, decide_true, decide_false, if_true, if_false, Bool.false_eq_true, and_self, and_true, true_and, true_or, or_true, not_true_eq_false, not_false_eq_true, ↓reduceIte, reduceCtorEq, Nat.reduceEqDiff, Nat.reduceAdd, Nat.reduceSub, Nat.reduceMul, Nat.reduceLT, Nat.reduceLeDiff, Nat.reduceBEq, Nat.le_refl, Nat.zero_le, Nat.lt_irrefl, beq_self_eq_true, Nat.succ_ne_zero, Option.some.injEq, Prod.mk.injEq, Int32.reduceLT, Int32.reduceLE, addL 34 34 _ rfl, y_44, rt_44_1, y_45, c1, c3, c4, c3', c4', c5, c6, e1, nI_1]
  · have c1 : Int32.ofNat 1394 ≤ nI (1360 + 34) := by decide
    have e2 : dpI I 1360 44 2 = nI 40 := by simp [dpI, h2]
    have e3 : nI 40 - 1 = nI 39 := by decide
    simp only [kX3_dropOldest_2, i_cst, i_ldI, i_ldJ, i_ldA, i_stI, i_stJ, i_stA, i_inc, i_bin, i_dv, i_un, i_i2l, i_bnJ, i_lshl, i_lcmp, i_dup, i_dp2, i_gI, i_gJ, i_gA, i_pI, i_pZ, i_pJ, i_pA, i_al, i_as, i_alJ, i_asJ, i_len, i_c0, i_c2, i_sw, msel, i_cV, i_cS, i_rV, i_rI, i_rZ, i_rJ, i_mm, i_pop, i_no, mpl, mvr, mnw, List.getElem?_cons_zero, List.getElem?_cons_succ, List.set_cons_zero, List.set_cons_succ, List.length_cons, List.length_nil, List.drop_succ_cons, List.drop_zero, List.take_succ_cons, List.take_zero, List.reverse_cons, List.reverse_nil, List.nil_append, List.cons_append, List.append_nil, List.map_cons, List.map_nil, List.sum_cons, List.sum_nil, Option.toList_some, Option.toList_none, Option.bind_some, Value.category, decide_eq_true_eq, decide_true, decide_false, if_true, if_false, Bool.false_eq_true, and_self, and_true, true_and, true_or, or_true, not_true_eq_false, not_false_eq_true, ↓reduceIte, reduceCtorEq, Nat.reduceEqDiff, Nat.reduceAdd, Nat.reduceSub, Nat.reduceMul, Nat.reduceLT, Nat.reduceLeDiff, Nat.reduceBEq, Nat.le_refl, Nat.zero_le, Nat.lt_irrefl, beq_self_eq_true, Nat.succ_ne_zero, Option.some.injEq, Prod.mk.injEq, Int32.reduceLT, Int32.reduceLE, addL 34 34 _ rfl, y_44, rt_44_1, y_45, c1, e2, e3, uI_mm]
def pushH (H : List SA) (now : Nat) (S : SA) : List SA := (H.take (now + 1)).drop (now + 1 - 40) ++ [S]
theorem pushH_len (hn : now < H.length) : (pushH H now S).length = now + 1 - (now + 1 - 40) + 1 := by
  simp [pushH]; omega
theorem pushH_at (hn : now < H.length) (i : Nat) : (pushH H now S).getD i sa0 = if i = now + 1 - (now + 1 - 40) then S else if i < now + 1 - (now + 1 - 40) then H.getD (i + (now + 1 - 40)) sa0 else sa0 := by
  have hl : ((H.take (now + 1)).drop (now + 1 - 40)).length = now + 1 - (now + 1 - 40) := by simp; omega
  unfold pushH
  by_cases e : i = now + 1 - (now + 1 - 40)
  · rw [if_pos e, List.getD_eq_getElem?_getD, List.getElem?_append_right (by omega), hl, e]
    simp
  · rw [if_neg e]
    by_cases e2 : i < now + 1 - (now + 1 - 40)
    · rw [if_pos e2, List.getD_eq_getElem?_getD, List.getElem?_append_left (by omega), List.getElem?_drop, List.getElem?_take_of_lt (by omega), List.getD_eq_getElem?_getD, Nat.add_comm]
    · rw [if_neg e2, List.getD_eq_getElem?_getD, List.getElem?_eq_none (by simp; omega)]
      rfl
theorem SvC_sh {I I' : Nat → Nat → Int32} {d q q' k : Nat} {S : SA} (hk : k ≤ 8) (h : SvC I d q k S) (hI : ∀ t, t < 34 → I' d (q' + t) = I d (q + t)) : SvC I' d q' k S := by
  obtain ⟨h1, h2, h3⟩ := h
  refine ⟨fun j hj => ?_, ?_, ?_⟩
  · rw [hI (4 * j) (by omega), hI (4 * j + 1) (by omega), hI (4 * j + 2) (by omega), hI (4 * j + 3) (by omega)]; exact h1 j hj
  · rw [hI 32 (by decide)]; exact h2
  · rw [hI 33 (by decide)]; exact h3
set_option maxHeartbeats 8000000 in
theorem p_keep (hn : 1400 < n) (J : Nat → Nat → Int64) (f : Nat) (o : SO I 29 T S) (hS : SOk T S) (h : HiC I T H now) : ∃ I', FX3_keep n [.ref 44] (mm I J f) = some (none, mm I' J f) ∧ HiC I' T (pushH H now S) (now + 1 - (now + 1 - 40)) ∧ ∀ b j, b ≠ 44 → b ≠ 45 → I' b j = I b j := by
  obtain ⟨h1, h2, h3, h4, h5⟩ := h
  have hk8 := o.2.1.1
  -- what is there once the oldest is gone, if it must go
  have key : ∀ (I0 : Nat → Nat → Int32) (q : Nat), q < 40 → q = now - (now + 1 - 40) → I0 44 2 = nI q → SO I0 29 T S → (∀ i, i ≤ q → SvC I0 45 (34 * i) (tk T) (H.getD (i + (now + 1 - 40)) sa0)) → (∀ b j, b ≠ 44 → b ≠ 45 → I0 b j = I b j) → ∃ I', kX3_keep_13 n [some (.ref 44)] [] (mm I0 J f) = some (none, mm I' J f) ∧ HiC I' T (pushH H now S) (now + 1 - (now + 1 - 40)) ∧ ∀ b j, b ≠ 44 → b ≠ 45 → I' b j = I b j := by
    intro I0 q hq hqn g1 g2 g3 g4
    have hp := p_save (n := n) (d := 45) (N := 1394) (by omega) y_45 (Or.inl rfl) J f (u2 (u2 I0 44 2 (nI (q + 1))) 44 3 (nI (q + 1))) (q := 34 * (q + 1)) (by omega) (by decide)
    refine ⟨sv (u2 (u2 I0 44 2 (nI (q + 1))) 44 3 (nI (q + 1))) 45 (34 * (q + 1)) 34, ?_, ?_, fun b j b1 b2 => ?_⟩
    rotate_left
    · have hnl : now + 1 - (now + 1 - 40) = q + 1 := by omega
      have hlen := pushH_len (S := S) h1
      rw [hnl] at hlen ⊢
      refine ⟨by omega, by omega, ?_, ?_, fun i hi => ?_⟩
      · rw [sv_o (by decide), u2_j (by decide), u2_s]
      · rw [sv_o (by decide), u2_s, hlen]; rfl
      · rw [pushH_at h1, hnl]
        by_cases e : i = q + 1
        · rw [if_pos e, e]
          refine ⟨sv_SvC hk8 (SC_of (fun b j b1 b2 => by rw [u2_a (by omega), u2_a (by omega)]) g2.2.2.2.2), hS⟩
        · rw [if_neg e, if_pos (by omega)]
          refine ⟨SvC_sh hk8 (g3 i (by omega)) (fun t ht => ?_), (h5 _ (by omega)).2⟩
          unfold sv
          rw [if_neg (by omega), u2_a (by decide), u2_a (by decide)]
    · rw [sv_o b2, u2_a b1, u2_a b1]; exact g4 b j b1 b2
    · have t1 : ∀ x, u2 I0 44 2 x 44 2 = x := fun x => u2_s
      have t2 : ∀ x y, u2 (u2 I0 44 2 x) 44 3 y 44 2 = x := fun x y => by rw [u2_j (by decide), u2_s]
      have f0 : nI (q + 1) * 34 = nI (34 * (q + 1)) := by rw [show (34 : Int32) = nI 34 from rfl, pk_mul, Nat.mul_comm]
      simp only [kX3_keep_13, i_cst, i_ldI, i_ldJ, i_ldA, i_stI, i_stJ, i_stA, i_inc, i_bin, i_dv, i_un, i_i2l, i_bnJ, i_lshl, i_lcmp, i_dup, i_dp2, i_gI, i_gJ, i_gA, i_pI, i_pZ, i_pJ, i_pA, i_al, i_as, i_alJ, i_asJ, i_len, i_c0, i_c2, i_sw, msel, i_cV, i_cS, i_rV, i_rI, i_rZ, i_rJ, i_mm, i_pop, i_no, mpl, mvr, mnw, List.getElem?_cons_zero, List.getElem?_cons_succ, List.set_cons_zero, List.set_cons_succ, List.length_cons, List.length_nil, List.drop_succ_cons, List.drop_zero, List.take_succ_cons, List.take_zero, List.reverse_cons, List.reverse_nil, List.nil_append, List.cons_append, List.append_nil, List.map_cons, List.map_nil, List.sum_cons, List.sum_nil, Option.toList_some, Option.toList_none, Option.bind_some, Value.category, decide_eq_true_eq, decide_true, decide_false, if_true, if_false, Bool.false_eq_true, and_self, and_true, true_and, true_or, or_true, not_true_eq_false, not_false_eq_true, ↓reduceIte, reduceCtorEq, Nat.reduceEqDiff, Nat.reduceAdd, Nat.reduceSub, Nat.reduceMul, Nat.reduceLT, Nat.reduceLeDiff, Nat.reduceBEq, Nat.le_refl, Nat.zero_le, Nat.lt_irrefl, beq_self_eq_true, Nat.succ_ne_zero, Option.some.injEq, Prod.mk.injEq, Int32.reduceLT, Int32.reduceLE, y_44, y_29, rt_44_0, rt_44_1, g1, uI_mm, nI_1, t1, t2, f0, hp]
  by_cases hc : now < 40
  · obtain ⟨I', k1, k2, k3⟩ := key I now hc (by omega) h3 o (fun i hi => by
      rw [show i + (now + 1 - 40) = i by omega]; exact (h5 i (by omega)).1) (fun _ _ _ _ => rfl)
    refine ⟨I', ?_, k2, k3⟩
    have c1 : nI now < 40 := lit_lt (k := 40) rfl (by decide) hc
    rw [← k1]
    simp only [eX3_keep, kX3_keep_0, i_cst, i_ldI, i_ldJ, i_ldA, i_stI, i_stJ, i_stA, i_inc, i_bin, i_dv, i_un, i_i2l, i_bnJ, i_lshl, i_lcmp, i_dup, i_dp2, i_gI, i_gJ, i_gA, i_pI, i_pZ, i_pJ, i_pA, i_al, i_as, i_alJ, i_asJ, i_len, i_c0, i_c2, i_sw, msel, i_cV, i_cS, i_rV, i_rI, i_rZ, i_rJ, i_mm, i_pop, i_no, mpl, mvr, mnw, List.getElem?_cons_zero, List.getElem?_cons_succ, List.set_cons_zero, List.set_cons_succ, List.length_cons, List.length_nil, List.drop_succ_cons, List.drop_zero, List.take_succ_cons, List.take_zero, List.reverse_cons, List.reverse_nil, List.nil_append, List.cons_append, List.append_nil, List.map_cons, List.map_nil, List.sum_cons, List.sum_nil, Option.toList_some, Option.toList_none, Option.bind_some, Value.category, decide_eq_true_eq, decide_true, decide_false, if_true, if_false, Bool.false_eq_true, and_self, and_true, true_and, true_or, or_true, not_true_eq_false, not_false_eq_true, ↓reduceIte, reduceCtorEq, Nat.reduceEqDiff, Nat.reduceAdd, Nat.reduceSub, Nat.reduceMul, Nat.reduceLT, Nat.reduceLeDiff, Nat.reduceBEq, Nat.le_refl, Nat.zero_le, Nat.lt_irrefl, beq_self_eq_true, Nat.succ_ne_zero, Option.some.injEq, Prod.mk.injEq, Int32.reduceLT, Int32.reduceLE, y_44, h3, c1]
  · have e40 : now = 40 := by omega
    subst e40
    obtain ⟨I', k1, k2, k3⟩ := key (u2 (dpI I 1360) 44 2 (nI 39)) 39 (by decide) (by decide) u2_s (SO_fr o (fun b j hb => by
      rw [u2_a (by omega)]; simp [dpI, show ¬ b = 45 by omega])) (fun i hi => by
      refine SvC_sh hk8 (h5 (i + 1) (by omega)).1 (fun t ht => ?_)
      rw [u2_a (by decide)]
      simp only [dpI, true_and]
      rw [if_pos (by omega)]
      congr 1
      omega) (fun b j b1 b2 => by rw [u2_a b1]; simp [dpI, b2])
    refine ⟨I', ?_, k2, k3⟩
    have c1 : ¬ nI 40 < 40 := by decide
    rw [← k1]
    simp only [eX3_keep, kX3_keep_0, i_cst, i_ldI, i_ldJ, i_ldA, i_stI, i_stJ, i_stA, i_inc, i_bin, i_dv, i_un, i_i2l, i_bnJ, i_lshl, i_lcmp, i_dup, i_dp2, i_gI, i_gJ, i_gA, i_pI, i_pZ, i_pJ, i_pA, i_al, i_as, i_alJ, i_asJ, i_len, i_c0, i_c2, i_sw, msel, i_cV, i_cS, i_rV, i_rI, i_rZ, i_rJ, i_mm, i_pop, i_no, mpl, mvr, mnw, List.getElem?_cons_zero, List.getElem?_cons_succ, List.set_cons_zero, List.set_cons_succ, List.length_cons, List.length_nil, List.drop_succ_cons, List.drop_zero, List.take_succ_cons, List.take_zero, List.reverse_cons, List.reverse_nil, List.nil_append, List.cons_append, List.append_nil, List.map_cons, List.map_nil, List.sum_cons, List.sum_nil, Option.toList_some, Option.toList_none, Option.bind_some, Value.category, decide_eq_true_eq, decide_true, decide_false, if_true, if_false, Bool.false_eq_true, and_self, and_true, true_and, true_or, or_true, not_true_eq_false, not_false_eq_true, ↓reduceIte, reduceCtorEq, Nat.reduceEqDiff, Nat.reduceAdd, Nat.reduceSub, Nat.reduceMul, Nat.reduceLT, Nat.reduceLeDiff, Nat.reduceBEq, Nat.le_refl, Nat.zero_le, Nat.lt_irrefl, beq_self_eq_true, Nat.succ_ne_zero, Option.some.injEq, Prod.mk.injEq, Int32.reduceLT, Int32.reduceLE, y_44, h3, c1, p_dropOldest hn J f I h3]
set_option maxHeartbeats 4000000 in
theorem p_beginH (hn : 8 < n) (J : Nat → Nat → Int64) (f : Nat) (o : SO I 29 T S) (hS : SOk T S) : ∃ I', FX3_begin n [.ref 44] (mm I J f) = some (none, mm I' J f) ∧ HiC I' T [S] 0 ∧ ∀ b j, b ≠ 44 → b ≠ 45 → I' b j = I b j := by
  have hp := p_save (n := n) (d := 45) (N := 1394) hn y_45 (Or.inl rfl) J f (u2 (u2 I 44 2 0) 44 3 0) (q := 0) (by decide) (by decide)
  rw [nI_0] at hp
  refine ⟨sv (u2 (u2 I 44 2 0) 44 3 0) 45 0 34, ?_, ⟨by simp, by simp, ?_, ?_, fun i hi => ?_⟩, fun b j b1 b2 => by rw [sv_o b2, u2_a b1, u2_a b1]⟩
  · simp only [eX3_begin, kX3_begin_0, i_cst, i_ldI, i_ldJ, i_ldA, i_stI, i_stJ, i_stA, i_inc, i_bin, i_dv, i_un, i_i2l, i_bnJ, i_lshl, i_lcmp, i_dup, i_dp2, i_gI, i_gJ, i_gA, i_pI, i_pZ, i_pJ, i_pA, i_al, i_as, i_alJ, i_asJ, i_len, i_c0, i_c2, i_sw, msel, i_cV, i_cS, i_rV, i_rI, i_rZ, i_rJ, i_mm, i_pop, i_no, mpl, mvr, mnw, List.getElem?_cons_zero, List.getElem?_cons_succ, List.set_cons_zero, List.set_cons_succ, List.length_cons, List.length_nil, List.drop_succ_cons, List.drop_zero, List.take_succ_cons, List.take_zero, List.reverse_cons, List.reverse_nil, List.nil_append, List.cons_append, List.append_nil, List.map_cons, List.map_nil, List.sum_cons, List.sum_nil, Option.toList_some, Option.toList_none, Option.bind_some, Value.category, decide_eq_true_eq, decide_true, decide_false, if_true, if_false, Bool.false_eq_true, and_self, and_true, true_and, true_or, or_true, not_true_eq_false, not_false_eq_true, ↓reduceIte, reduceCtorEq, Nat.reduceEqDiff, Nat.reduceAdd, Nat.reduceSub, Nat.reduceMul, Nat.reduceLT, Nat.reduceLeDiff, Nat.reduceBEq, Nat.le_refl, Nat.zero_le, Nat.lt_irrefl, beq_self_eq_true, Nat.succ_ne_zero, Option.some.injEq, Prod.mk.injEq, Int32.reduceLT, Int32.reduceLE, y_44, y_29, rt_44_0, rt_44_1, uI_mm, hp]
  · rw [sv_o (by decide), u2_j (by decide), u2_s]; rfl
  · rw [sv_o (by decide), u2_s]; rfl
  · have : i = 0 := by simpa using hi
    subst this
    exact ⟨sv_SvC o.2.1.1 (SC_of (fun b j b1 b2 => by rw [u2_a (by omega), u2_a (by omega)]) o.2.2.2.2), hS⟩
end Hist
