/-! PURE: the class's Reader: a formula -/
def XC (I : Nat → Nat → Int32) (tp : List Nat) (U f : Nat) (s : XS) : Prop := RdC I tp s.1 ∧ I 24 10 = nI s.2.1 ∧ I 13 5 = nI (U + s.2.1) ∧ FC I f s.2.2
/-- what reading a formula may change -/
def XFe (f : Nat) (I I' : Nat → Nat → Int32) : Prop := (∀ b j, b ≠ 24 → b ≠ f → b ≠ f + 1 → (b = 13 → j ≠ 5) → I' b j = I b j) ∧ ∀ j, j ≠ 4 → j ≠ 5 → j ≠ 6 → j ≠ 10 → j ≠ 11 → j ≠ 12 → I' 24 j = I 24 j
def XFo (f : Nat) (I I' : Nat → Nat → Int32) : Prop := XFe f I I' ∧ I' 24 11 = I 24 11 ∧ I' 24 12 = I 24 12
theorem XFe.tr {f : Nat} {I I' I'' : Nat → Nat → Int32} (h1 : XFe f I I') (h2 : XFe f I' I'') : XFe f I I'' := ⟨fun b j a1 a2 a3 a4 => (h2.1 b j a1 a2 a3 a4).trans (h1.1 b j a1 a2 a3 a4), fun j a1 a2 a3 a4 a5 a6 => (h2.2 j a1 a2 a3 a4 a5 a6).trans (h1.2 j a1 a2 a3 a4 a5 a6)⟩
theorem XFo.rf {f : Nat} {I : Nat → Nat → Int32} : XFo f I I := ⟨⟨fun _ _ _ _ _ _ => rfl, fun _ _ _ _ _ _ _ => rfl⟩, rfl, rfl⟩
theorem XFo.tr {f : Nat} {I I' I'' : Nat → Nat → Int32} (h1 : XFo f I I') (h2 : XFo f I' I'') : XFo f I I'' := ⟨h1.1.tr h2.1, h2.2.1.trans h1.2.1, h2.2.2.trans h1.2.2⟩
def PRes (J : Nat → Nat → Int64) (f : Nat) (tp : List Nat) (U : Nat) (I : Nat → Nat → Int32) (v : Option mR) (r : Except Nat XS) : Prop :=
  (∀ j, r = .error j → ∃ I', v = some (some (.int 0), mm I' J f) ∧ FtR I' (rf tp j) ∧ XFe f I I') ∧
  (∀ s', r = .ok s' → ∃ I', v = some (some (.int 1), mm I' J f) ∧ XC I' tp U f s' ∧ XFo f I I')
section PartC
variable {n : Nat} {I : Nat → Nat → Int32} {tp : List Nat} {U f : Nat}
theorem XC_av {s : XS} (hf : f = 18 ∨ f = 21) (h : XC I tp U f s) (hk : 2 ≤ kn tp s.1) : XC (avI I tp (s.1 + 1)) tp U f (s.1 + 1, s.2.1, s.2.2) ∧ XFo f I (avI I tp (s.1 + 1)) := by
  refine ⟨⟨(p_adv 0 (fun _ _ => 0) 0 h.1 hk).2, by rw [avI_j (by decide) (by decide) (by decide)]; exact h.2.1, by rw [avI_o (by decide)]; exact h.2.2.1, FC_fr h.2.2.2 (fun b j hb => avI_o (by omega))⟩, ⟨fun b j a1 _ _ _ => avI_o a1, fun j a1 a2 a3 _ _ _ => avI_j a1 a2 a3⟩, avI_j (by decide) (by decide) (by decide), avI_j (by decide) (by decide) (by decide)⟩
theorem XC_ad {s : XS} (hf : f = 18 ∨ f = 21) (h : XC I tp U f s) (hl : s.2.2.length < 300) (t : Nat × Nat) : XC (adI I f s.2.2.length (cc1 t)) tp U f (s.1, s.2.1, s.2.2 ++ [t]) ∧ XFo f I (adI I f s.2.2.length (cc1 t)) := by
  obtain ⟨⟨h1, h2, h3⟩, h4, h5, h6⟩ := h
  have fo : ∀ b j, b ≠ f → b ≠ f + 1 → adI I f s.2.2.length (cc1 t) b j = I b j := fun b j a1 a2 => adI_o a1 a2
  refine ⟨⟨⟨TkC_of h1 (fun b j hb => fo b j (by omega) (by omega)), ?_, h3⟩, ?_, ?_, FC_add t h6 hl⟩, ⟨fun b j _ a2 a3 _ => fo b j a2 a3, fun j _ _ _ _ _ _ => fo 24 j (by omega) (by omega)⟩, fo 24 11 (by omega) (by omega), fo 24 12 (by omega) (by omega)⟩
  · rw [fo 24 4 (by omega) (by omega), fo 24 5 (by omega) (by omega), fo 24 6 (by omega) (by omega)]; exact h2
  · rw [fo 24 10 (by omega) (by omega)]; exact h4
  · rw [fo 13 5 (by omega) (by omega)]; exact h5
theorem XFe_ft {e : Nat × Nat} : XFe f I (ftI I e) := ⟨fun b j a1 _ _ _ => ftI_o a1, fun j _ _ _ _ a5 a6 => ftI_j a5 a6⟩
set_option maxHeartbeats 4000000 in
theorem p_startsUnit (n : Nat) (J : Nat → Nat → Int64) {s : XS} (h : XC I tp U f s) (hu : s.2.1 ≤ 30) (hU : U + s.2.1 ≤ 60) {a : Nat} (ha : a ≤ 7) : FX5_startsUnit n [.ref 24, .int (nI a)] (mm I J f) = some (some (.int (b2i (stU tp U a s.1 s.2.1 = true))), mm I J f) := by
  obtain ⟨⟨-, ⟨-, h5, -⟩, -⟩, h10, h13, -⟩ := h
  have hk := kn_rg tp s.1
  have c1 : (30 : Int32) ≤ nI s.2.1 ↔ 30 ≤ s.2.1 := nI_leI (a := 30) (by decide) (by omega)
  have c2 : nI (U + s.2.1) < 60 ↔ U + s.2.1 < 60 := nI_ltI (b := 60) (by omega) (by decide)
  have c3 : nI (kn tp s.1) = 5 ↔ kn tp s.1 = 5 := nI_eq (b := 5) (by omega) (by decide)
  have c4 : nI (kn tp s.1) = 2 ↔ kn tp s.1 = 2 := nI_eq (b := 2) (by omega) (by decide)
  have c5 : nI (kn tp s.1) < 29 ↔ kn tp s.1 < 29 := nI_ltI (b := 29) (by omega) (by decide)
  have c6 : (33 : Int32) < nI (kn tp s.1) ↔ 33 < kn tp s.1 := nI_ltI (a := 33) (by decide) (by omega)
  have c7 : (6 : Int32) < nI a ↔ 6 < a := nI_ltI (a := 6) (by decide) (by omega)
  have c6' : ¬ 33 < kn tp s.1 := by omega
  by_cases e1 : 30 ≤ s.2.1
  · have es : stU tp U a s.1 s.2.1 = false := by simp only [stU, show ¬ s.2.1 < 30 by omega, decide_false, Bool.false_and]
    simp only [eX5_startsUnit, kX5_startsUnit_0, kX5_startsUnit_21, kX5_startsUnit_42, kX5_startsUnit_66, kX5_startsUnit_69, kX5_startsUnit_73, kX5_startsUnit_74, x_no, x_cst, x_ldI, x_ldJ, x_ldA, x_stI, x_stJ, x_stA, x_inc, x_bin, x_un, x_i2l, x_bnJ, x_lshl, x_lcmp, x_dup, x_dp2, x_gI, x_gJ, x_gA, x_pI, x_pZ, x_pJ, x_pA, x_c0, x_c2, x_sw, x_cV, x_cS, x_rV, x_rI, x_rZ, x_rJ, x_mm, x_pop, x_dv, x_al, x_as, x_alJ, x_asJ, x_len, msel, mpl, mvr, mnw, List.getElem?_cons_zero, List.getElem?_cons_succ, List.set_cons_zero, List.set_cons_succ, List.length_cons, List.length_nil, List.drop_succ_cons, List.drop_zero, List.take_succ_cons, List.take_zero, List.reverse_cons, List.reverse_nil, List.nil_append, List.cons_append, List.append_nil, List.map_cons, List.map_nil, List.sum_cons, List.sum_nil, Option.toList_some, Option.toList_none, x_bs, Value.category, decide_eq_true_eq, decide_true, decide_false, if_true, if_false, Bool.false_eq_true, and_self, and_true, true_and, true_or, or_true, not_true_eq_false, not_false_eq_true, ↓reduceIte, reduceCtorEq, Nat.reduceEqDiff, Nat.reduceAdd, Nat.reduceSub, Nat.reduceMul, Nat.reduceLT, Nat.reduceLeDiff, Nat.reduceBEq, Nat.le_refl, Nat.zero_le, Nat.lt_irrefl, beq_self_eq_true, Nat.succ_ne_zero, Option.some.injEq, Prod.mk.injEq, Int32.reduceLT, Int32.reduceLE, y_24, y_13, rt_24_1, h10, c1, e1, es, b2i]
  · by_cases e2 : U + s.2.1 < 60
    · by_cases e3 : kn tp s.1 = 5
      · have c3' := c3.mpr e3
        by_cases e4 : 6 < a
        · have es : stU tp U a s.1 s.2.1 = false := by simp only [stU, if_pos e3, show ¬ a ≤ 6 by omega, decide_false, Bool.and_false]
          simp only [eX5_startsUnit, kX5_startsUnit_0, kX5_startsUnit_21, kX5_startsUnit_42, kX5_startsUnit_66, kX5_startsUnit_69, kX5_startsUnit_73, kX5_startsUnit_74, x_no, x_cst, x_ldI, x_ldJ, x_ldA, x_stI, x_stJ, x_stA, x_inc, x_bin, x_un, x_i2l, x_bnJ, x_lshl, x_lcmp, x_dup, x_dp2, x_gI, x_gJ, x_gA, x_pI, x_pZ, x_pJ, x_pA, x_c0, x_c2, x_sw, x_cV, x_cS, x_rV, x_rI, x_rZ, x_rJ, x_mm, x_pop, x_dv, x_al, x_as, x_alJ, x_asJ, x_len, msel, mpl, mvr, mnw, List.getElem?_cons_zero, List.getElem?_cons_succ, List.set_cons_zero, List.set_cons_succ, List.length_cons, List.length_nil, List.drop_succ_cons, List.drop_zero, List.take_succ_cons, List.take_zero, List.reverse_cons, List.reverse_nil, List.nil_append, List.cons_append, List.append_nil, List.map_cons, List.map_nil, List.sum_cons, List.sum_nil, Option.toList_some, Option.toList_none, x_bs, Value.category, decide_eq_true_eq, decide_true, decide_false, if_true, if_false, Bool.false_eq_true, and_self, and_true, true_and, true_or, or_true, not_true_eq_false, not_false_eq_true, ↓reduceIte, reduceCtorEq, Nat.reduceEqDiff, Nat.reduceAdd, Nat.reduceSub, Nat.reduceMul, Nat.reduceLT, Nat.reduceLeDiff, Nat.reduceBEq, Nat.le_refl, Nat.zero_le, Nat.lt_irrefl, beq_self_eq_true, Nat.succ_ne_zero, Option.some.injEq, Prod.mk.injEq, Int32.reduceLT, Int32.reduceLE, y_24, y_13, rt_24_1, h10, h13, h5, c1, c2, c3', c7, e1, e2, e4, es, b2i]
        · have es : stU tp U a s.1 s.2.1 = true := by simp only [stU, if_pos e3, show a ≤ 6 by omega, show s.2.1 < 30 by omega, e2, decide_true, Bool.and_self]
          simp only [eX5_startsUnit, kX5_startsUnit_0, kX5_startsUnit_21, kX5_startsUnit_42, kX5_startsUnit_66, kX5_startsUnit_69, kX5_startsUnit_73, kX5_startsUnit_74, x_no, x_cst, x_ldI, x_ldJ, x_ldA, x_stI, x_stJ, x_stA, x_inc, x_bin, x_un, x_i2l, x_bnJ, x_lshl, x_lcmp, x_dup, x_dp2, x_gI, x_gJ, x_gA, x_pI, x_pZ, x_pJ, x_pA, x_c0, x_c2, x_sw, x_cV, x_cS, x_rV, x_rI, x_rZ, x_rJ, x_mm, x_pop, x_dv, x_al, x_as, x_alJ, x_asJ, x_len, msel, mpl, mvr, mnw, List.getElem?_cons_zero, List.getElem?_cons_succ, List.set_cons_zero, List.set_cons_succ, List.length_cons, List.length_nil, List.drop_succ_cons, List.drop_zero, List.take_succ_cons, List.take_zero, List.reverse_cons, List.reverse_nil, List.nil_append, List.cons_append, List.append_nil, List.map_cons, List.map_nil, List.sum_cons, List.sum_nil, Option.toList_some, Option.toList_none, x_bs, Value.category, decide_eq_true_eq, decide_true, decide_false, if_true, if_false, Bool.false_eq_true, and_self, and_true, true_and, true_or, or_true, not_true_eq_false, not_false_eq_true, ↓reduceIte, reduceCtorEq, Nat.reduceEqDiff, Nat.reduceAdd, Nat.reduceSub, Nat.reduceMul, Nat.reduceLT, Nat.reduceLeDiff, Nat.reduceBEq, Nat.le_refl, Nat.zero_le, Nat.lt_irrefl, beq_self_eq_true, Nat.succ_ne_zero, Option.some.injEq, Prod.mk.injEq, Int32.reduceLT, Int32.reduceLE, y_24, y_13, rt_24_1, h10, h13, h5, c1, c2, c3', c7, e1, e2, e4, es, b2i]
      · by_cases e4 : kn tp s.1 = 2
        · have c4' := c4.mpr e4
          have z : ¬ (2 : Int32) = 5 := by decide
          have es : stU tp U a s.1 s.2.1 = true := by unfold stU; rw [if_neg e3]; simp only [e4, show s.2.1 < 30 by omega, e2, decide_true, Bool.true_or, Bool.and_self]
          simp only [eX5_startsUnit, kX5_startsUnit_0, kX5_startsUnit_21, kX5_startsUnit_42, kX5_startsUnit_66, kX5_startsUnit_69, kX5_startsUnit_73, kX5_startsUnit_74, x_no, x_cst, x_ldI, x_ldJ, x_ldA, x_stI, x_stJ, x_stA, x_inc, x_bin, x_un, x_i2l, x_bnJ, x_lshl, x_lcmp, x_dup, x_dp2, x_gI, x_gJ, x_gA, x_pI, x_pZ, x_pJ, x_pA, x_c0, x_c2, x_sw, x_cV, x_cS, x_rV, x_rI, x_rZ, x_rJ, x_mm, x_pop, x_dv, x_al, x_as, x_alJ, x_asJ, x_len, msel, mpl, mvr, mnw, List.getElem?_cons_zero, List.getElem?_cons_succ, List.set_cons_zero, List.set_cons_succ, List.length_cons, List.length_nil, List.drop_succ_cons, List.drop_zero, List.take_succ_cons, List.take_zero, List.reverse_cons, List.reverse_nil, List.nil_append, List.cons_append, List.append_nil, List.map_cons, List.map_nil, List.sum_cons, List.sum_nil, Option.toList_some, Option.toList_none, x_bs, Value.category, decide_eq_true_eq, decide_true, decide_false, if_true, if_false, Bool.false_eq_true, and_self, and_true, true_and, true_or, or_true, not_true_eq_false, not_false_eq_true, ↓reduceIte, reduceCtorEq, Nat.reduceEqDiff, Nat.reduceAdd, Nat.reduceSub, Nat.reduceMul, Nat.reduceLT, Nat.reduceLeDiff, Nat.reduceBEq, Nat.le_refl, Nat.zero_le, Nat.lt_irrefl, beq_self_eq_true, Nat.succ_ne_zero, Option.some.injEq, Prod.mk.injEq, Int32.reduceLT, Int32.reduceLE, y_24, y_13, rt_24_1, h10, h13, h5, c1, c2, c4', z, e1, e2, es, b2i]
        · by_cases e5 : kn tp s.1 < 29
          · have es : stU tp U a s.1 s.2.1 = false := by simp only [stU, if_neg e3, e4, isV, show ¬ 29 ≤ kn tp s.1 by omega, decide_false, Bool.false_and, Bool.or_self, Bool.and_false]
            simp only [eX5_startsUnit, kX5_startsUnit_0, kX5_startsUnit_21, kX5_startsUnit_42, kX5_startsUnit_66, kX5_startsUnit_69, kX5_startsUnit_73, kX5_startsUnit_74, x_no, x_cst, x_ldI, x_ldJ, x_ldA, x_stI, x_stJ, x_stA, x_inc, x_bin, x_un, x_i2l, x_bnJ, x_lshl, x_lcmp, x_dup, x_dp2, x_gI, x_gJ, x_gA, x_pI, x_pZ, x_pJ, x_pA, x_c0, x_c2, x_sw, x_cV, x_cS, x_rV, x_rI, x_rZ, x_rJ, x_mm, x_pop, x_dv, x_al, x_as, x_alJ, x_asJ, x_len, msel, mpl, mvr, mnw, List.getElem?_cons_zero, List.getElem?_cons_succ, List.set_cons_zero, List.set_cons_succ, List.length_cons, List.length_nil, List.drop_succ_cons, List.drop_zero, List.take_succ_cons, List.take_zero, List.reverse_cons, List.reverse_nil, List.nil_append, List.cons_append, List.append_nil, List.map_cons, List.map_nil, List.sum_cons, List.sum_nil, Option.toList_some, Option.toList_none, x_bs, Value.category, decide_eq_true_eq, decide_true, decide_false, if_true, if_false, Bool.false_eq_true, and_self, and_true, true_and, true_or, or_true, not_true_eq_false, not_false_eq_true, ↓reduceIte, reduceCtorEq, Nat.reduceEqDiff, Nat.reduceAdd, Nat.reduceSub, Nat.reduceMul, Nat.reduceLT, Nat.reduceLeDiff, Nat.reduceBEq, Nat.le_refl, Nat.zero_le, Nat.lt_irrefl, beq_self_eq_true, Nat.succ_ne_zero, Option.some.injEq, Prod.mk.injEq, Int32.reduceLT, Int32.reduceLE, y_24, y_13, rt_24_1, h10, h13, h5, c1, c2, c3, c4, c5, e1, e2, e3, e4, e5, es, b2i]
          · have es : stU tp U a s.1 s.2.1 = true := by simp only [stU, if_neg e3, e4, isV, show 29 ≤ kn tp s.1 by omega, show kn tp s.1 ≤ 33 by omega, show s.2.1 < 30 by omega, e2, decide_true, decide_false, Bool.false_or, Bool.and_self]
            simp only [eX5_startsUnit, kX5_startsUnit_0, kX5_startsUnit_21, kX5_startsUnit_42, kX5_startsUnit_66, kX5_startsUnit_69, kX5_startsUnit_73, kX5_startsUnit_74, x_no, x_cst, x_ldI, x_ldJ, x_ldA, x_stI, x_stJ, x_stA, x_inc, x_bin, x_un, x_i2l, x_bnJ, x_lshl, x_lcmp, x_dup, x_dp2, x_gI, x_gJ, x_gA, x_pI, x_pZ, x_pJ, x_pA, x_c0, x_c2, x_sw, x_cV, x_cS, x_rV, x_rI, x_rZ, x_rJ, x_mm, x_pop, x_dv, x_al, x_as, x_alJ, x_asJ, x_len, msel, mpl, mvr, mnw, List.getElem?_cons_zero, List.getElem?_cons_succ, List.set_cons_zero, List.set_cons_succ, List.length_cons, List.length_nil, List.drop_succ_cons, List.drop_zero, List.take_succ_cons, List.take_zero, List.reverse_cons, List.reverse_nil, List.nil_append, List.cons_append, List.append_nil, List.map_cons, List.map_nil, List.sum_cons, List.sum_nil, Option.toList_some, Option.toList_none, x_bs, Value.category, decide_eq_true_eq, decide_true, decide_false, if_true, if_false, Bool.false_eq_true, and_self, and_true, true_and, true_or, or_true, not_true_eq_false, not_false_eq_true, ↓reduceIte, reduceCtorEq, Nat.reduceEqDiff, Nat.reduceAdd, Nat.reduceSub, Nat.reduceMul, Nat.reduceLT, Nat.reduceLeDiff, Nat.reduceBEq, Nat.le_refl, Nat.zero_le, Nat.lt_irrefl, beq_self_eq_true, Nat.succ_ne_zero, Option.some.injEq, Prod.mk.injEq, Int32.reduceLT, Int32.reduceLE, y_24, y_13, rt_24_1, h10, h13, h5, c1, c2, c3, c4, c5, c6, c6', e1, e2, e3, e4, e5, es, b2i]
    · have es : stU tp U a s.1 s.2.1 = false := by simp only [stU, e2, decide_false, Bool.and_false, Bool.false_and]
      simp only [eX5_startsUnit, kX5_startsUnit_0, kX5_startsUnit_21, kX5_startsUnit_42, kX5_startsUnit_66, kX5_startsUnit_69, kX5_startsUnit_73, kX5_startsUnit_74, x_no, x_cst, x_ldI, x_ldJ, x_ldA, x_stI, x_stJ, x_stA, x_inc, x_bin, x_un, x_i2l, x_bnJ, x_lshl, x_lcmp, x_dup, x_dp2, x_gI, x_gJ, x_gA, x_pI, x_pZ, x_pJ, x_pA, x_c0, x_c2, x_sw, x_cV, x_cS, x_rV, x_rI, x_rZ, x_rJ, x_mm, x_pop, x_dv, x_al, x_as, x_alJ, x_asJ, x_len, msel, mpl, mvr, mnw, List.getElem?_cons_zero, List.getElem?_cons_succ, List.set_cons_zero, List.set_cons_succ, List.length_cons, List.length_nil, List.drop_succ_cons, List.drop_zero, List.take_succ_cons, List.take_zero, List.reverse_cons, List.reverse_nil, List.nil_append, List.cons_append, List.append_nil, List.map_cons, List.map_nil, List.sum_cons, List.sum_nil, Option.toList_some, Option.toList_none, x_bs, Value.category, decide_eq_true_eq, decide_true, decide_false, if_true, if_false, Bool.false_eq_true, and_self, and_true, true_and, true_or, or_true, not_true_eq_false, not_false_eq_true, ↓reduceIte, reduceCtorEq, Nat.reduceEqDiff, Nat.reduceAdd, Nat.reduceSub, Nat.reduceMul, Nat.reduceLT, Nat.reduceLeDiff, Nat.reduceBEq, Nat.le_refl, Nat.zero_le, Nat.lt_irrefl, beq_self_eq_true, Nat.succ_ne_zero, Option.some.injEq, Prod.mk.injEq, Int32.reduceLT, Int32.reduceLE, y_24, y_13, rt_24_1, h10, h13, c1, c2, e1, e2, es, b2i]
def unI (I : Nat → Nat → Int32) (U u : Nat) : Nat → Nat → Int32 := u2 (u2 I 24 10 (nI (u + 1))) 13 5 (nI (U + (u + 1)))
theorem XC_un {s : XS} (hf : f = 18 ∨ f = 21) (h : XC I tp U f s) : XC (unI I U s.2.1) tp U f (s.1, s.2.1 + 1, s.2.2) ∧ XFo f I (unI I U s.2.1) := by
  obtain ⟨⟨h1, h2, h3⟩, h4, h5, h6⟩ := h
  have fo : ∀ b j, b ≠ 24 → (b = 13 → j ≠ 5) → unI I U s.2.1 b j = I b j := fun b j a1 a2 => by
    unfold unI
    by_cases e : b = 13
    · subst e; rw [u2_j (a2 rfl), u2_a (by decide)]
    · rw [u2_a e, u2_a a1]
  have f24 : ∀ j, j ≠ 10 → unI I U s.2.1 24 j = I 24 j := fun j a => by unfold unI; rw [u2_a (by decide), u2_j a]
  refine ⟨⟨⟨TkC_of h1 (fun b j hb => fo b j (by omega) (by omega)), ?_, h3⟩, ?_, ?_, FC_fr h6 (fun b j hb => fo b j (by omega) (by omega))⟩, ⟨fun b j a1 _ _ a4 => fo b j a1 a4, fun j _ _ _ a4 _ _ => f24 j a4⟩, f24 11 (by decide), f24 12 (by decide)⟩
  · rw [f24 4 (by decide), f24 5 (by decide), f24 6 (by decide)]; exact h2
  · unfold unI; rw [u2_a (by decide), u2_s]
  · unfold unI; rw [u2_s]
/-- what a part does, by its level -/
def PSp (n : Nat) (P : List Value → mM → Option mR) (J : Nat → Nat → Int64) (f : Nat) (tp : List Nat) (U l a : Nat) (g : XS → Except Nat XS) : Prop := ∀ I s, XC I tp U f s → s.2.1 ≤ 30 → U + s.2.1 ≤ 60 → s.2.2.length ≤ 9 * s.2.1 → PRes J f tp U I (P [.ref 24, .int (nI l), .int (nI a)] (mm I J f)) (g s)
theorem len_ok {a : Nat} {s s' : XS} (h : POk tp U a s s') (hl : s.2.2.length ≤ 9 * s.2.1) : s'.2.2.length + 1 ≤ 9 * s'.2.1 ∧ s'.2.2.length < 299 := by
  obtain ⟨-, -, b3, b4, -, b6, -⟩ := h
  have : (9 - a) * (s'.2.1 - s.2.1) ≤ 9 * (s'.2.1 - s.2.1) := Nat.mul_le_mul_right _ (by omega)
  omega
theorem cc1_neg {k : Nat} (hk : k ≠ 0) : -(nI k) = cc1 (k, 0) := by unfold cc1; rw [if_neg hk]
set_option maxHeartbeats 8000000 in
theorem p_unit (hn : 300 < n) (J : Nat → Nat → Int64) (hf : f = 18 ∨ f = 21) {P : List Value → mM → Option mR} {d a : Nat} (ha : a ≤ 7) (hP : a ≤ 6 → PSp n P J f tp U 0 (a + 1) (pP tp U d 0 (a + 1))) {s : XS} (h : XC I tp U f s) (hu : s.2.1 ≤ 30) (hU : U + s.2.1 ≤ 60) (hl : s.2.2.length ≤ 9 * s.2.1) : PRes J f tp U I (FX5_unit n P [.ref 24, .int (nI a)] (mm I J f)) (pP tp U (d + 1) 5 a s) := by
  have eU : FX5_unit n P [.ref 24, .int (nI a)] (mm I J f) = kX5_unit_0 n P [some (.ref 24), some (.int (nI a)), none] [] (mm I J f) := rfl
  obtain ⟨yf, -, -⟩ := fm_y hf
  have st := p_startsUnit n J h hu hU ha
  have hk33 := kn_rg tp s.1
  obtain ⟨⟨hTk, ⟨h4, h5, h6⟩, hz⟩, h10, h13, hF⟩ := id h
  have z10 : ¬ (1 : Int32) = 0 := by decide
  unfold pP
  rw [if_pos (Nat.le_refl 5), eU]
  by_cases e1 : stU tp U a s.1 s.2.1 = true
  · rw [if_pos e1]
    rw [b2i_pos e1] at st
    have e1' := e1
    simp only [stU, Bool.and_eq_true, decide_eq_true_eq] at e1'
    obtain ⟨⟨u1, u2'⟩, u3⟩ := e1'
    have c5 : nI (kn tp s.1) = 5 ↔ kn tp s.1 = 5 := nI_eq (b := 5) (by omega) (by decide)
    have c2 : nI (kn tp s.1) = 2 ↔ kn tp s.1 = 2 := nI_eq (b := 2) (by omega) (by decide)
    -- what follows once the unit itself has been put down
    have tl : ∀ (K : Nat → Nat → Int32) (cs : List (Nat × Nat)) (br : Int32), XC K tp U f (s.1, s.2.1, cs) → (∀ j, j = 10 → K 24 j = I 24 j) → 2 ≤ kn tp s.1 → kX5_unit_72 n P [some (.ref 24), some (.int (nI a)), some (.int br)] [] (mm K J f) = (if br = 0 then some (some (.int 1), mm (avI (unI K U s.2.1) tp (s.1 + 1)) J f) else (P [.ref 24, .int 0, .int (nI (a + 1))] (mm (avI (unI K U s.2.1) tp (s.1 + 1)) J f)).bind (fun q => i_c0 (fun x => decide (x = 0)) (kX5_unit_127 n P) (kX5_unit_114 n P) [some (.ref 24), some (.int (nI a)), some (.int br)] (q.1.toList ++ []) q.2)) ∧ XC (avI (unI K U s.2.1) tp (s.1 + 1)) tp U f (s.1 + 1, s.2.1 + 1, cs) ∧ XFo f K (avI (unI K U s.2.1) tp (s.1 + 1)) := by
      intro K cs br hK _ hk2
      obtain ⟨w1, w2⟩ := XC_un hf hK
      obtain ⟨w3, w4⟩ := XC_av hf w1 hk2
      simp only at w1 w2 w3 w4
      refine ⟨?_, w3, w2.tr w4⟩
      have t1 : K 24 10 = nI s.2.1 := hK.2.1
      have t2 : ∀ x, _root_.Nat.add 0 0 = 0 → u2 K 24 10 x 13 5 = nI (U + s.2.1) := fun x _ => by rw [u2_a (by decide)]; exact hK.2.2.1
      have t2' : ∀ x, u2 K 24 10 x 13 5 = nI (U + s.2.1) := fun x => t2 x rfl
      have eu : u2 (u2 K 24 10 (nI (s.2.1 + 1))) 13 5 (nI (U + s.2.1 + 1)) = unI K U s.2.1 := rfl
      have pa := (p_adv n J f w1.1 hk2).1
      simp only at pa
      by_cases eb : br = 0
      · rw [if_pos eb]
        simp only [kX5_unit_72, kX5_unit_123, kX5_unit_128, x_no, x_cst, x_ldI, x_ldJ, x_ldA, x_stI, x_stJ, x_stA, x_inc, x_bin, x_un, x_i2l, x_bnJ, x_lshl, x_lcmp, x_dup, x_dp2, x_gI, x_gJ, x_gA, x_pI, x_pZ, x_pJ, x_pA, x_c0, x_c2, x_sw, x_cV, x_cS, x_rV, x_rI, x_rZ, x_rJ, x_mm, x_pop, x_dv, x_al, x_as, x_alJ, x_asJ, x_len, msel, mpl, mvr, mnw, List.getElem?_cons_zero, List.getElem?_cons_succ, List.set_cons_zero, List.set_cons_succ, List.length_cons, List.length_nil, List.drop_succ_cons, List.drop_zero, List.take_succ_cons, List.take_zero, List.reverse_cons, List.reverse_nil, List.nil_append, List.cons_append, List.append_nil, List.map_cons, List.map_nil, List.sum_cons, List.sum_nil, Option.toList_some, Option.toList_none, x_bs, Value.category, decide_eq_true_eq, decide_true, decide_false, if_true, if_false, Bool.false_eq_true, and_self, and_true, true_and, true_or, or_true, not_true_eq_false, not_false_eq_true, ↓reduceIte, reduceCtorEq, Nat.reduceEqDiff, Nat.reduceAdd, Nat.reduceSub, Nat.reduceMul, Nat.reduceLT, Nat.reduceLeDiff, Nat.reduceBEq, Nat.le_refl, Nat.zero_le, Nat.lt_irrefl, beq_self_eq_true, Nat.succ_ne_zero, Option.some.injEq, Prod.mk.injEq, Int32.reduceLT, Int32.reduceLE, y_24, y_13, rt_24_1, t1, t2', uI_mm, nI_1, eu, pa, eb]
      · rw [if_neg eb]
        simp only [kX5_unit_72, x_no, x_cst, x_ldI, x_ldJ, x_ldA, x_stI, x_stJ, x_stA, x_inc, x_bin, x_un, x_i2l, x_bnJ, x_lshl, x_lcmp, x_dup, x_dp2, x_gI, x_gJ, x_gA, x_pI, x_pZ, x_pJ, x_pA, x_c0, x_c2, x_sw, x_cV, x_cS, x_rV, x_rI, x_rZ, x_rJ, x_mm, x_pop, x_dv, x_al, x_as, x_alJ, x_asJ, x_len, msel, mpl, mvr, mnw, List.getElem?_cons_zero, List.getElem?_cons_succ, List.set_cons_zero, List.set_cons_succ, List.length_cons, List.length_nil, List.drop_succ_cons, List.drop_zero, List.take_succ_cons, List.take_zero, List.reverse_cons, List.reverse_nil, List.nil_append, List.cons_append, List.append_nil, List.map_cons, List.map_nil, List.sum_cons, List.sum_nil, Option.toList_some, Option.toList_none, x_bs, Value.category, decide_eq_true_eq, decide_true, decide_false, if_true, if_false, Bool.false_eq_true, and_self, and_true, true_and, true_or, or_true, not_true_eq_false, not_false_eq_true, ↓reduceIte, reduceCtorEq, Nat.reduceEqDiff, Nat.reduceAdd, Nat.reduceSub, Nat.reduceMul, Nat.reduceLT, Nat.reduceLeDiff, Nat.reduceBEq, Nat.le_refl, Nat.zero_le, Nat.lt_irrefl, beq_self_eq_true, Nat.succ_ne_zero, Option.some.injEq, Prod.mk.injEq, Int32.reduceLT, Int32.reduceLE, y_24, y_13, rt_24_1, t1, t2', uI_mm, nI_1, eu, pa, eb]
    by_cases e2 : kn tp s.1 = 5
    · rw [if_pos e2]
      rw [if_pos e2, decide_eq_true_eq] at u3
      have e2' := c5.mpr e2
      have z52 : ¬ (5 : Int32) = 2 := by decide
      obtain ⟨tl1, tl2, tl3⟩ := tl I s.2.2 1 h (fun _ _ => rfl) (by omega)
      rw [if_neg z10] at tl1
      have head : kX5_unit_0 n P [some (.ref 24), some (.int (nI a)), none] [] (mm I J f) = kX5_unit_72 n P [some (.ref 24), some (.int (nI a)), some (.int 1)] [] (mm I J f) := by
        simp only [kX5_unit_0, kX5_unit_26, x_no, x_cst, x_ldI, x_ldJ, x_ldA, x_stI, x_stJ, x_stA, x_inc, x_bin, x_un, x_i2l, x_bnJ, x_lshl, x_lcmp, x_dup, x_dp2, x_gI, x_gJ, x_gA, x_pI, x_pZ, x_pJ, x_pA, x_c0, x_c2, x_sw, x_cV, x_cS, x_rV, x_rI, x_rZ, x_rJ, x_mm, x_pop, x_dv, x_al, x_as, x_alJ, x_asJ, x_len, msel, mpl, mvr, mnw, List.getElem?_cons_zero, List.getElem?_cons_succ, List.set_cons_zero, List.set_cons_succ, List.length_cons, List.length_nil, List.drop_succ_cons, List.drop_zero, List.take_succ_cons, List.take_zero, List.reverse_cons, List.reverse_nil, List.nil_append, List.cons_append, List.append_nil, List.map_cons, List.map_nil, List.sum_cons, List.sum_nil, Option.toList_some, Option.toList_none, x_bs, Value.category, decide_eq_true_eq, decide_true, decide_false, if_true, if_false, Bool.false_eq_true, and_self, and_true, true_and, true_or, or_true, not_true_eq_false, not_false_eq_true, ↓reduceIte, reduceCtorEq, Nat.reduceEqDiff, Nat.reduceAdd, Nat.reduceSub, Nat.reduceMul, Nat.reduceLT, Nat.reduceLeDiff, Nat.reduceBEq, Nat.le_refl, Nat.zero_le, Nat.lt_irrefl, beq_self_eq_true, Nat.succ_ne_zero, Option.some.injEq, Prod.mk.injEq, Int32.reduceLT, Int32.reduceLE, y_24, st, z10, h5, e2', z52]
      rw [head, tl1]
      have hrec := hP u3 _ _ tl2 (by simp only; omega) (by simp only; omega) (by simp only; omega)
      have h0 : (.int 0 : Value) = .int (nI 0) := rfl
      rw [h0]
      obtain ⟨m1, m2⟩ := hrec
      cases hq : pP tp U d 0 (a + 1) (s.1 + 1, s.2.1 + 1, s.2.2) with
      | error j =>
        obtain ⟨I', k1, k2, k3⟩ := m1 j hq
        refine ⟨fun j' hj => ?_, fun s' hs => by cases hs⟩
        simp only [Except.error.injEq] at hj
        subst hj
        refine ⟨I', ?_, k2, tl3.1.tr k3⟩
        rw [k1]
        simp only [kX5_unit_127, kX5_unit_128, x_no, x_cst, x_ldI, x_ldJ, x_ldA, x_stI, x_stJ, x_stA, x_inc, x_bin, x_un, x_i2l, x_bnJ, x_lshl, x_lcmp, x_dup, x_dp2, x_gI, x_gJ, x_gA, x_pI, x_pZ, x_pJ, x_pA, x_c0, x_c2, x_sw, x_cV, x_cS, x_rV, x_rI, x_rZ, x_rJ, x_mm, x_pop, x_dv, x_al, x_as, x_alJ, x_asJ, x_len, msel, mpl, mvr, mnw, List.getElem?_cons_zero, List.getElem?_cons_succ, List.set_cons_zero, List.set_cons_succ, List.length_cons, List.length_nil, List.drop_succ_cons, List.drop_zero, List.take_succ_cons, List.take_zero, List.reverse_cons, List.reverse_nil, List.nil_append, List.cons_append, List.append_nil, List.map_cons, List.map_nil, List.sum_cons, List.sum_nil, Option.toList_some, Option.toList_none, x_bs, Value.category, decide_eq_true_eq, decide_true, decide_false, if_true, if_false, Bool.false_eq_true, and_self, and_true, true_and, true_or, or_true, not_true_eq_false, not_false_eq_true, ↓reduceIte, reduceCtorEq, Nat.reduceEqDiff, Nat.reduceAdd, Nat.reduceSub, Nat.reduceMul, Nat.reduceLT, Nat.reduceLeDiff, Nat.reduceBEq, Nat.le_refl, Nat.zero_le, Nat.lt_irrefl, beq_self_eq_true, Nat.succ_ne_zero, Option.some.injEq, Prod.mk.injEq, Int32.reduceLT, Int32.reduceLE]
      | ok s1 =>
        obtain ⟨I', k1, k2, k3⟩ := m2 s1 hq
        have pt := p_take n J f k2.1 (k := 6) (by decide)
        rw [k1]
        have h6' : (.int 6 : Value) = .int (nI 6) := rfl
        by_cases e3 : kn tp s1.1 = 6
        · rw [if_pos e3] at pt
          obtain ⟨w3, w4⟩ := XC_av hf k2 (by omega)
          simp only [e3, if_true]
          refine ⟨fun j hj => (by cases hj), fun s' hs => ?_⟩
          cases hs
          refine ⟨_, ?_, w3, tl3.tr (k3.tr w4)⟩
          have pt' : FX5_take n [.ref 24, .int 6] (mm I' J f) = some (some (.int 1), mm (avI I' tp (s1.1 + 1)) J f) := pt
          simp only [kX5_unit_114, kX5_unit_123, kX5_unit_128, x_no, x_cst, x_ldI, x_ldJ, x_ldA, x_stI, x_stJ, x_stA, x_inc, x_bin, x_un, x_i2l, x_bnJ, x_lshl, x_lcmp, x_dup, x_dp2, x_gI, x_gJ, x_gA, x_pI, x_pZ, x_pJ, x_pA, x_c0, x_c2, x_sw, x_cV, x_cS, x_rV, x_rI, x_rZ, x_rJ, x_mm, x_pop, x_dv, x_al, x_as, x_alJ, x_asJ, x_len, msel, mpl, mvr, mnw, List.getElem?_cons_zero, List.getElem?_cons_succ, List.set_cons_zero, List.set_cons_succ, List.length_cons, List.length_nil, List.drop_succ_cons, List.drop_zero, List.take_succ_cons, List.take_zero, List.reverse_cons, List.reverse_nil, List.nil_append, List.cons_append, List.append_nil, List.map_cons, List.map_nil, List.sum_cons, List.sum_nil, Option.toList_some, Option.toList_none, x_bs, Value.category, decide_eq_true_eq, decide_true, decide_false, if_true, if_false, Bool.false_eq_true, and_self, and_true, true_and, true_or, or_true, not_true_eq_false, not_false_eq_true, ↓reduceIte, reduceCtorEq, Nat.reduceEqDiff, Nat.reduceAdd, Nat.reduceSub, Nat.reduceMul, Nat.reduceLT, Nat.reduceLeDiff, Nat.reduceBEq, Nat.le_refl, Nat.zero_le, Nat.lt_irrefl, beq_self_eq_true, Nat.succ_ne_zero, Option.some.injEq, Prod.mk.injEq, Int32.reduceLT, Int32.reduceLE, y_24, z10, pt']
        · rw [if_neg e3] at pt
          simp only [e3, if_false]
          refine ⟨fun j hj => ?_, fun s' hs => by cases hs⟩
          simp only [Except.error.injEq] at hj
          subst hj
          have pt' : FX5_take n [.ref 24, .int 6] (mm I' J f) = some (some (.int 0), mm (ftI I' (rf tp s1.1)) J f) := pt
          refine ⟨ftI I' (rf tp s1.1), ?_, ftI_ft _, tl3.1.tr (k3.1.tr XFe_ft)⟩
          simp only [kX5_unit_114, kX5_unit_127, kX5_unit_128, x_no, x_cst, x_ldI, x_ldJ, x_ldA, x_stI, x_stJ, x_stA, x_inc, x_bin, x_un, x_i2l, x_bnJ, x_lshl, x_lcmp, x_dup, x_dp2, x_gI, x_gJ, x_gA, x_pI, x_pZ, x_pJ, x_pA, x_c0, x_c2, x_sw, x_cV, x_cS, x_rV, x_rI, x_rZ, x_rJ, x_mm, x_pop, x_dv, x_al, x_as, x_alJ, x_asJ, x_len, msel, mpl, mvr, mnw, List.getElem?_cons_zero, List.getElem?_cons_succ, List.set_cons_zero, List.set_cons_succ, List.length_cons, List.length_nil, List.drop_succ_cons, List.drop_zero, List.take_succ_cons, List.take_zero, List.reverse_cons, List.reverse_nil, List.nil_append, List.cons_append, List.append_nil, List.map_cons, List.map_nil, List.sum_cons, List.sum_nil, Option.toList_some, Option.toList_none, x_bs, Value.category, decide_eq_true_eq, decide_true, decide_false, if_true, if_false, Bool.false_eq_true, and_self, and_true, true_and, true_or, or_true, not_true_eq_false, not_false_eq_true, ↓reduceIte, reduceCtorEq, Nat.reduceEqDiff, Nat.reduceAdd, Nat.reduceSub, Nat.reduceMul, Nat.reduceLT, Nat.reduceLeDiff, Nat.reduceBEq, Nat.le_refl, Nat.zero_le, Nat.lt_irrefl, beq_self_eq_true, Nat.succ_ne_zero, Option.some.injEq, Prod.mk.injEq, Int32.reduceLT, Int32.reduceLE, y_24, z10, pt']
    · rw [if_neg e2]
      rw [if_neg e2, Bool.or_eq_true, decide_eq_true_eq] at u3
      have hl300 : s.2.2.length < 300 := by omega
      obtain ⟨w1, w2⟩ := XC_ad hf h hl300 (utok tp s.1)
      have hk2 : 2 ≤ kn tp s.1 := by
        rcases u3 with u3 | u3
        · omega
        · simp only [isV, Bool.and_eq_true, decide_eq_true_eq] at u3; omega
      obtain ⟨tl1, tl2, tl3⟩ := tl _ _ 0 w1 (fun j hj => by subst hj; exact adI_o (by omega) (by omega)) hk2
      rw [if_pos rfl] at tl1
      have hadd := p_addF n J hf hF.1 hl300 (cc1 (utok tp s.1))
      refine ⟨fun j hj => (by cases hj), fun s' hs => ?_⟩
      cases hs
      refine ⟨_, ?_, tl2, w2.tr tl3⟩
      rw [← tl1]
      by_cases e3 : kn tp s.1 = 2
      · have e3' := c2.mpr e3
        have z25 : ¬ (2 : Int32) = 5 := by decide
        have ec : cc1 (utok tp s.1) = nI (nvt tp s.1) := by unfold utok; rw [if_pos e3]; rfl
        rw [ec] at hadd ⊢
        simp only [kX5_unit_0, kX5_unit_26, x_no, x_cst, x_ldI, x_ldJ, x_ldA, x_stI, x_stJ, x_stA, x_inc, x_bin, x_un, x_i2l, x_bnJ, x_lshl, x_lcmp, x_dup, x_dp2, x_gI, x_gJ, x_gA, x_pI, x_pZ, x_pJ, x_pA, x_c0, x_c2, x_sw, x_cV, x_cS, x_rV, x_rI, x_rZ, x_rJ, x_mm, x_pop, x_dv, x_al, x_as, x_alJ, x_asJ, x_len, msel, mpl, mvr, mnw, List.getElem?_cons_zero, List.getElem?_cons_succ, List.set_cons_zero, List.set_cons_succ, List.length_cons, List.length_nil, List.drop_succ_cons, List.drop_zero, List.take_succ_cons, List.take_zero, List.reverse_cons, List.reverse_nil, List.nil_append, List.cons_append, List.append_nil, List.map_cons, List.map_nil, List.sum_cons, List.sum_nil, Option.toList_some, Option.toList_none, x_bs, Value.category, decide_eq_true_eq, decide_true, decide_false, if_true, if_false, Bool.false_eq_true, and_self, and_true, true_and, true_or, or_true, not_true_eq_false, not_false_eq_true, ↓reduceIte, reduceCtorEq, Nat.reduceEqDiff, Nat.reduceAdd, Nat.reduceSub, Nat.reduceMul, Nat.reduceLT, Nat.reduceLeDiff, Nat.reduceBEq, Nat.le_refl, Nat.zero_le, Nat.lt_irrefl, beq_self_eq_true, Nat.succ_ne_zero, Option.some.injEq, Prod.mk.injEq, Int32.reduceLT, Int32.reduceLE, y_24, y_26, rt_24_0, rt_24_3, yf, st, z10, h5, h6, e3', z25, p_numberFrom hn J f hTk.1 e3, hadd]
      · have ec : -(nI (kn tp s.1)) = cc1 (utok tp s.1) := by
          unfold utok
          rw [if_neg e3]
          exact cc1_neg (by omega)
        simp only [kX5_unit_0, kX5_unit_26, x_no, x_cst, x_ldI, x_ldJ, x_ldA, x_stI, x_stJ, x_stA, x_inc, x_bin, x_un, x_i2l, x_bnJ, x_lshl, x_lcmp, x_dup, x_dp2, x_gI, x_gJ, x_gA, x_pI, x_pZ, x_pJ, x_pA, x_c0, x_c2, x_sw, x_cV, x_cS, x_rV, x_rI, x_rZ, x_rJ, x_mm, x_pop, x_dv, x_al, x_as, x_alJ, x_asJ, x_len, msel, mpl, mvr, mnw, List.getElem?_cons_zero, List.getElem?_cons_succ, List.set_cons_zero, List.set_cons_succ, List.length_cons, List.length_nil, List.drop_succ_cons, List.drop_zero, List.take_succ_cons, List.take_zero, List.reverse_cons, List.reverse_nil, List.nil_append, List.cons_append, List.append_nil, List.map_cons, List.map_nil, List.sum_cons, List.sum_nil, Option.toList_some, Option.toList_none, x_bs, Value.category, decide_eq_true_eq, decide_true, decide_false, if_true, if_false, Bool.false_eq_true, and_self, and_true, true_and, true_or, or_true, not_true_eq_false, not_false_eq_true, ↓reduceIte, reduceCtorEq, Nat.reduceEqDiff, Nat.reduceAdd, Nat.reduceSub, Nat.reduceMul, Nat.reduceLT, Nat.reduceLeDiff, Nat.reduceBEq, Nat.le_refl, Nat.zero_le, Nat.lt_irrefl, beq_self_eq_true, Nat.succ_ne_zero, Option.some.injEq, Prod.mk.injEq, Int32.reduceLT, Int32.reduceLE, y_24, rt_24_3, yf, st, z10, h5, c5, c2, e2, e3, ec, hadd]
  · rw [if_neg e1]
    rw [b2i_neg e1] at st
    refine ⟨fun j hj => ?_, fun s' hs => by cases hs⟩
    simp only [Except.error.injEq] at hj
    subst hj
    refine ⟨ftI I (rf tp s.1), ?_, ftI_ft _, XFe_ft⟩
    simp only [kX5_unit_0, x_no, x_cst, x_ldI, x_ldJ, x_ldA, x_stI, x_stJ, x_stA, x_inc, x_bin, x_un, x_i2l, x_bnJ, x_lshl, x_lcmp, x_dup, x_dp2, x_gI, x_gJ, x_gA, x_pI, x_pZ, x_pJ, x_pA, x_c0, x_c2, x_sw, x_cV, x_cS, x_rV, x_rI, x_rZ, x_rJ, x_mm, x_pop, x_dv, x_al, x_as, x_alJ, x_asJ, x_len, msel, mpl, mvr, mnw, List.getElem?_cons_zero, List.getElem?_cons_succ, List.set_cons_zero, List.set_cons_succ, List.length_cons, List.length_nil, List.drop_succ_cons, List.drop_zero, List.take_succ_cons, List.take_zero, List.reverse_cons, List.reverse_nil, List.nil_append, List.cons_append, List.append_nil, List.map_cons, List.map_nil, List.sum_cons, List.sum_nil, Option.toList_some, Option.toList_none, x_bs, Value.category, decide_eq_true_eq, decide_true, decide_false, if_true, if_false, Bool.false_eq_true, and_self, and_true, true_and, true_or, or_true, not_true_eq_false, not_false_eq_true, ↓reduceIte, reduceCtorEq, Nat.reduceEqDiff, Nat.reduceAdd, Nat.reduceSub, Nat.reduceMul, Nat.reduceLT, Nat.reduceLeDiff, Nat.reduceBEq, Nat.le_refl, Nat.zero_le, Nat.lt_irrefl, beq_self_eq_true, Nat.succ_ne_zero, Option.some.injEq, Prod.mk.injEq, Int32.reduceLT, Int32.reduceLE, y_24, st, p_refuse n J f h.1]
end PartC
