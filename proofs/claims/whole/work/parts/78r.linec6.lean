/-! PURE: the class's Reader: a car's line, any line, the whole text -/
section LineC6
variable {n : Nat} {I : Nat → Nat → Int32} {J : Nat → Nat → Int64} {tp : List Nat} {i : Nat} {D : DR}
set_option maxHeartbeats 16000000 in
theorem p_carLine (hn : 300 < n) (f : Nat) (h : LC I J tp i D) (hD : DOK D) (hk : kn tp i = 17) (hc8 : (dc D).length < 8) : LRes tp I (FX5_carLine n [.ref 24] (mm I J f)) (carP tp (i + 1) D) := by
  have z10 : ¬ (1 : Int32) = 0 := by decide
  obtain ⟨w1, w2⟩ := LC_ts (t := dt D ||| 4) h (by omega)
  have ps := p_takeSort n f (m := 2) (t := dt D ||| 4) (by decide) h hk (sor_all _ hD.1).1.2.1
  have a3 := h.2.1.1.2.2.1
  have hD1 : DOK (stD D (dt D ||| 4)) := by
    obtain ⟨d1, d2, d3, d4, d5, d6, d7, d8, d9, d10, d11, d12, d13, d14⟩ := hD
    obtain ⟨o1, o2, o3, o4, o5⟩ := or_bits (dt D) d1
    exact ⟨o1.2.1, d2, d3, d4, d5, d6, d7, d8, d9, d10, ⟨o2.2.2.1.trans d11.1, o2.2.2.2.trans d11.2⟩, d12, d13, fun z => absurd z o5.2.1⟩
  generalize hI1 : tsI I tp i (dt D ||| 4) = I1 at ps w1 w2
  obtain ⟨m1, m2⟩ := p_takeName hn f w1 hc8
  unfold carP
  have en : namP tp (i + 1) (stD D (dt D ||| 4)) = namP tp (i + 1) D := rfl
  rw [en] at m1 m2
  cases h1 : namP tp (i + 1) D with
  | error e =>
    obtain ⟨I2, k1, k2, k3⟩ := m1 e h1
    have k1' : FX5_takeName n [.ref 24, .int (nI (dc D).length)] (mm I1 J f) = some (some (.int 0), mm I2 J f) := k1
    refine LRes_er (I' := I2) (J' := J) (f' := f) ?_ k2 (w2.tr k3.lf)
    simp only [eX5_carLine, kX5_carLine_0, kX5_carLine_37, x_no, x_cst, x_ldI, x_ldJ, x_ldA, x_stI, x_stJ, x_stA, x_inc, x_bin, x_un, x_i2l, x_bnJ, x_lshl, x_lcmp, x_dup, x_dp2, x_gI, x_gJ, x_gA, x_pI, x_pZ, x_pJ, x_pA, x_c0, x_c2, x_sw, x_cV, x_cS, x_rV, x_rI, x_rZ, x_rJ, x_mm, x_pop, x_dv, x_al, x_as, x_alJ, x_asJ, x_len, msel, mpl, mvr, mnw, List.getElem?_cons_zero, List.getElem?_cons_succ, List.set_cons_zero, List.set_cons_succ, List.length_cons, List.length_nil, List.drop_succ_cons, List.drop_zero, List.take_succ_cons, List.take_zero, List.reverse_cons, List.reverse_nil, List.nil_append, List.cons_append, List.append_nil, List.map_cons, List.map_nil, List.sum_cons, List.sum_nil, Option.toList_some, Option.toList_none, x_bs, Value.category, decide_eq_true_eq, decide_true, decide_false, if_true, if_false, Bool.false_eq_true, and_self, and_true, true_and, true_or, or_true, not_true_eq_false, not_false_eq_true, ↓reduceIte, reduceCtorEq, Nat.reduceEqDiff, Nat.reduceAdd, Nat.reduceSub, Nat.reduceMul, Nat.reduceLT, Nat.reduceLeDiff, Nat.reduceBEq, Nat.le_refl, Nat.zero_le, Nat.lt_irrefl, beq_self_eq_true, Nat.succ_ne_zero, Option.some.injEq, Prod.mk.injEq, Int32.reduceLT, Int32.reduceLE, y_24, y_13, rt_24_1, a3, ps, k1']
  | ok i1 =>
    obtain ⟨kni, I2, k1, k2, k3⟩ := m2 i1 h1
    have k1' : FX5_takeName n [.ref 24, .int (nI (dc D).length)] (mm I1 J f) = some (some (.int 1), mm I2 (uJ2 J 25 (dc D).length (jN (w32 tp (i + 1)))) f) := k1
    have e25 : uJ2 J 25 (dc D).length (jN (w32 tp (i + 1))) 25 (dc D).length = jN (w32 tp (i + 1)) := by simp [uJ2]
    have k2' : LC I2 (uJ2 J 25 (dc D).length (jN (w32 tp (i + 1)))) tp i1 (stD D (dt D ||| 4)) := k2
    generalize uJ2 J 25 (dc D).length (jN (w32 tp (i + 1))) = J2 at k1' k2' e25
    have f1 := w2.tr k3.lf
    obtain ⟨y1, y2⟩ := t_tkK n f k2' (k := 18) (by decide)
    show LRes tp I _ (bnd (tkK tp 18 i1) _)
    cases h2 : tkK tp 18 i1 with
    | error e =>
      obtain ⟨I3, r1, r2, r3⟩ := y1 e h2
      have r1' : FX5_take n [.ref 24, .int 18] (mm I2 J2 f) = some (some (.int 0), mm I3 J2 f) := r1
      refine LRes_er (I' := I3) (J' := J2) (f' := f) ?_ r2 (f1.tr r3.lf)
      simp only [eX5_carLine, kX5_carLine_0, kX5_carLine_37, x_no, x_cst, x_ldI, x_ldJ, x_ldA, x_stI, x_stJ, x_stA, x_inc, x_bin, x_un, x_i2l, x_bnJ, x_lshl, x_lcmp, x_dup, x_dp2, x_gI, x_gJ, x_gA, x_pI, x_pZ, x_pJ, x_pA, x_c0, x_c2, x_sw, x_cV, x_cS, x_rV, x_rI, x_rZ, x_rJ, x_mm, x_pop, x_dv, x_al, x_as, x_alJ, x_asJ, x_len, msel, mpl, mvr, mnw, List.getElem?_cons_zero, List.getElem?_cons_succ, List.set_cons_zero, List.set_cons_succ, List.length_cons, List.length_nil, List.drop_succ_cons, List.drop_zero, List.take_succ_cons, List.take_zero, List.reverse_cons, List.reverse_nil, List.nil_append, List.cons_append, List.append_nil, List.map_cons, List.map_nil, List.sum_cons, List.sum_nil, Option.toList_some, Option.toList_none, x_bs, Value.category, decide_eq_true_eq, decide_true, decide_false, if_true, if_false, Bool.false_eq_true, and_self, and_true, true_and, true_or, or_true, not_true_eq_false, not_false_eq_true, ↓reduceIte, reduceCtorEq, Nat.reduceEqDiff, Nat.reduceAdd, Nat.reduceSub, Nat.reduceMul, Nat.reduceLT, Nat.reduceLeDiff, Nat.reduceBEq, Nat.le_refl, Nat.zero_le, Nat.lt_irrefl, beq_self_eq_true, Nat.succ_ne_zero, Option.some.injEq, Prod.mk.injEq, Int32.reduceLT, Int32.reduceLE, y_24, y_13, rt_24_1, a3, ps, k1', z10, r1']
    | ok i2 =>
      obtain ⟨I3, r1, r2, r3⟩ := y2 i2 h2
      have r1' : FX5_take n [.ref 24, .int 18] (mm I2 J2 f) = some (some (.int 1), mm I3 J2 f) := r1
      have f2 := f1.tr r3.lf
      obtain ⟨y3, y4⟩ := p_takeCell hn f r2 hD1 hc8
      have ece : celP tp i2 (stD D (dt D ||| 4)) = celP tp i2 D := rfl
      rw [ece] at y3 y4
      show LRes tp I _ (bnd (celP tp i2 D) _)
      cases h3 : celP tp i2 D with
      | error e =>
        obtain ⟨I4, s1, s2, s3⟩ := y3 e h3
        have s1' : FX5_takeCell n [.ref 24, .int (nI (dc D).length)] (mm I3 J2 f) = some (some (.int 0), mm I4 J2 f) := s1
        refine LRes_er (I' := I4) (J' := J2) (f' := f) ?_ s2 (f2.tr s3)
        simp only [eX5_carLine, kX5_carLine_0, kX5_carLine_37, x_no, x_cst, x_ldI, x_ldJ, x_ldA, x_stI, x_stJ, x_stA, x_inc, x_bin, x_un, x_i2l, x_bnJ, x_lshl, x_lcmp, x_dup, x_dp2, x_gI, x_gJ, x_gA, x_pI, x_pZ, x_pJ, x_pA, x_c0, x_c2, x_sw, x_cV, x_cS, x_rV, x_rI, x_rZ, x_rJ, x_mm, x_pop, x_dv, x_al, x_as, x_alJ, x_asJ, x_len, msel, mpl, mvr, mnw, List.getElem?_cons_zero, List.getElem?_cons_succ, List.set_cons_zero, List.set_cons_succ, List.length_cons, List.length_nil, List.drop_succ_cons, List.drop_zero, List.take_succ_cons, List.take_zero, List.reverse_cons, List.reverse_nil, List.nil_append, List.cons_append, List.append_nil, List.map_cons, List.map_nil, List.sum_cons, List.sum_nil, Option.toList_some, Option.toList_none, x_bs, Value.category, decide_eq_true_eq, decide_true, decide_false, if_true, if_false, Bool.false_eq_true, and_self, and_true, true_and, true_or, or_true, not_true_eq_false, not_false_eq_true, ↓reduceIte, reduceCtorEq, Nat.reduceEqDiff, Nat.reduceAdd, Nat.reduceSub, Nat.reduceMul, Nat.reduceLT, Nat.reduceLeDiff, Nat.reduceBEq, Nat.le_refl, Nat.zero_le, Nat.lt_irrefl, beq_self_eq_true, Nat.succ_ne_zero, Option.some.injEq, Prod.mk.injEq, Int32.reduceLT, Int32.reduceLE, y_24, y_13, rt_24_1, a3, ps, k1', z10, r1', s1', not_true_eq_false]
      | ok p =>
        obtain ⟨I4, s1, s2, s4, s3⟩ := y4 p h3
        have s1' : FX5_takeCell n [.ref 24, .int (nI (dc D).length)] (mm I3 J2 f) = some (some (.int 1), mm I4 J2 f) := s1
        have s4' : I4 14 (dc D).length = nI p.1 := s4
        have f3 := f2.tr s3
        obtain ⟨y5, y6⟩ := t_tkK n f s2 (k := 19) (by decide)
        show LRes tp I _ (bnd (tkK tp 19 p.2) _)
        cases h4 : tkK tp 19 p.2 with
        | error e =>
          obtain ⟨I5, t1, t2, t3⟩ := y5 e h4
          have t1' : FX5_take n [.ref 24, .int 19] (mm I4 J2 f) = some (some (.int 0), mm I5 J2 f) := t1
          refine LRes_er (I' := I5) (J' := J2) (f' := f) ?_ t2 (f3.tr t3.lf)
          simp only [eX5_carLine, kX5_carLine_0, kX5_carLine_37, kX5_carLine_57, x_no, x_cst, x_ldI, x_ldJ, x_ldA, x_stI, x_stJ, x_stA, x_inc, x_bin, x_un, x_i2l, x_bnJ, x_lshl, x_lcmp, x_dup, x_dp2, x_gI, x_gJ, x_gA, x_pI, x_pZ, x_pJ, x_pA, x_c0, x_c2, x_sw, x_cV, x_cS, x_rV, x_rI, x_rZ, x_rJ, x_mm, x_pop, x_dv, x_al, x_as, x_alJ, x_asJ, x_len, msel, mpl, mvr, mnw, List.getElem?_cons_zero, List.getElem?_cons_succ, List.set_cons_zero, List.set_cons_succ, List.length_cons, List.length_nil, List.drop_succ_cons, List.drop_zero, List.take_succ_cons, List.take_zero, List.reverse_cons, List.reverse_nil, List.nil_append, List.cons_append, List.append_nil, List.map_cons, List.map_nil, List.sum_cons, List.sum_nil, Option.toList_some, Option.toList_none, x_bs, Value.category, decide_eq_true_eq, decide_true, decide_false, if_true, if_false, Bool.false_eq_true, and_self, and_true, true_and, true_or, or_true, not_true_eq_false, not_false_eq_true, ↓reduceIte, reduceCtorEq, Nat.reduceEqDiff, Nat.reduceAdd, Nat.reduceSub, Nat.reduceMul, Nat.reduceLT, Nat.reduceLeDiff, Nat.reduceBEq, Nat.le_refl, Nat.zero_le, Nat.lt_irrefl, beq_self_eq_true, Nat.succ_ne_zero, Option.some.injEq, Prod.mk.injEq, Int32.reduceLT, Int32.reduceLE, y_24, y_13, rt_24_1, a3, ps, k1', z10, r1', s1', t1']
        | ok i3 =>
          obtain ⟨I5, t1, t2, t3⟩ := y6 i3 h4
          have t1' : FX5_take n [.ref 24, .int 19] (mm I4 J2 f) = some (some (.int 1), mm I5 J2 f) := t1
          have f4 := f3.tr t3.lf
          obtain ⟨y7, y8⟩ := t_tkN hn f t2 (lo := 0) (hi := 3) (by decide) (by decide)
          show LRes tp I _ (bnd (tkN tp 0 3 i3) _)
          cases h5 : tkN tp 0 3 i3 with
          | error e =>
            obtain ⟨I6, u1, u2', u3⟩ := y7 e h5
            have u1' : FX5_takeNumber n [.ref 24, .int 0, .int 3] (mm I5 J2 f) = some (some (.int 0), mm I6 J2 f) := u1
            refine LRes_er (I' := I6) (J' := J2) (f' := f) ?_ u2' (f4.tr u3.lf)
            simp only [eX5_carLine, kX5_carLine_0, kX5_carLine_37, kX5_carLine_50, kX5_carLine_57, x_no, x_cst, x_ldI, x_ldJ, x_ldA, x_stI, x_stJ, x_stA, x_inc, x_bin, x_un, x_i2l, x_bnJ, x_lshl, x_lcmp, x_dup, x_dp2, x_gI, x_gJ, x_gA, x_pI, x_pZ, x_pJ, x_pA, x_c0, x_c2, x_sw, x_cV, x_cS, x_rV, x_rI, x_rZ, x_rJ, x_mm, x_pop, x_dv, x_al, x_as, x_alJ, x_asJ, x_len, msel, mpl, mvr, mnw, List.getElem?_cons_zero, List.getElem?_cons_succ, List.set_cons_zero, List.set_cons_succ, List.length_cons, List.length_nil, List.drop_succ_cons, List.drop_zero, List.take_succ_cons, List.take_zero, List.reverse_cons, List.reverse_nil, List.nil_append, List.cons_append, List.append_nil, List.map_cons, List.map_nil, List.sum_cons, List.sum_nil, Option.toList_some, Option.toList_none, x_bs, Value.category, decide_eq_true_eq, decide_true, decide_false, if_true, if_false, Bool.false_eq_true, and_self, and_true, true_and, true_or, or_true, not_true_eq_false, not_false_eq_true, ↓reduceIte, reduceCtorEq, Nat.reduceEqDiff, Nat.reduceAdd, Nat.reduceSub, Nat.reduceMul, Nat.reduceLT, Nat.reduceLeDiff, Nat.reduceBEq, Nat.le_refl, Nat.zero_le, Nat.lt_irrefl, beq_self_eq_true, Nat.succ_ne_zero, Option.some.injEq, Prod.mk.injEq, Int32.reduceLT, Int32.reduceLE, y_24, y_13, rt_24_1, a3, ps, k1', z10, r1', s1', t1', u1', not_true_eq_false]
          | ok hh =>
            obtain ⟨I6, u1, u2', ⟨u4, -⟩, u3⟩ := y8 hh h5
            have u1' : FX5_takeNumber n [.ref 24, .int 0, .int 3] (mm I5 J2 f) = some (some (.int 1), mm I6 J2 f) := u1
            have f5 := f4.tr u3.lf
            have v1 := LC_set (c := 15) (v := nI hh.1) (by decide) u2'
            have v1' : LC (u2 I6 15 (dc D).length (nI hh.1)) J2 tp hh.2 (stD D (dt D ||| 4)) := v1
            have st1 := p_setN n 15 (dc D).length (nI hh.1) (mm I6 J2 f) y_15 (by decide) hc8
            have f6 : LF I (u2 I6 15 (dc D).length (nI hh.1)) := f5.tr (fun b k hb => u2_a (by omega))
            obtain ⟨y9, y10⟩ := t_tkK n f v1' (k := 20) (by decide)
            show LRes tp I _ (bnd (tkK tp 20 hh.2) _)
            cases h6 : tkK tp 20 hh.2 with
            | error e =>
              obtain ⟨I7, q1, q2, q3⟩ := y9 e h6
              have q1' : FX5_take n [.ref 24, .int 20] (mm (u2 I6 15 (dc D).length (nI hh.1)) J2 f) = some (some (.int 0), mm I7 J2 f) := q1
              refine LRes_er (I' := I7) (J' := J2) (f' := f) ?_ q2 (f6.tr q3.lf)
              simp only [eX5_carLine, kX5_carLine_0, kX5_carLine_37, kX5_carLine_50, kX5_carLine_57, kX5_carLine_93, x_no, x_cst, x_ldI, x_ldJ, x_ldA, x_stI, x_stJ, x_stA, x_inc, x_bin, x_un, x_i2l, x_bnJ, x_lshl, x_lcmp, x_dup, x_dp2, x_gI, x_gJ, x_gA, x_pI, x_pZ, x_pJ, x_pA, x_c0, x_c2, x_sw, x_cV, x_cS, x_rV, x_rI, x_rZ, x_rJ, x_mm, x_pop, x_dv, x_al, x_as, x_alJ, x_asJ, x_len, msel, mpl, mvr, mnw, List.getElem?_cons_zero, List.getElem?_cons_succ, List.set_cons_zero, List.set_cons_succ, List.length_cons, List.length_nil, List.drop_succ_cons, List.drop_zero, List.take_succ_cons, List.take_zero, List.reverse_cons, List.reverse_nil, List.nil_append, List.cons_append, List.append_nil, List.map_cons, List.map_nil, List.sum_cons, List.sum_nil, Option.toList_some, Option.toList_none, x_bs, Value.category, decide_eq_true_eq, decide_true, decide_false, if_true, if_false, Bool.false_eq_true, and_self, and_true, true_and, true_or, or_true, not_true_eq_false, not_false_eq_true, ↓reduceIte, reduceCtorEq, Nat.reduceEqDiff, Nat.reduceAdd, Nat.reduceSub, Nat.reduceMul, Nat.reduceLT, Nat.reduceLeDiff, Nat.reduceBEq, Nat.le_refl, Nat.zero_le, Nat.lt_irrefl, beq_self_eq_true, Nat.succ_ne_zero, Option.some.injEq, Prod.mk.injEq, Int32.reduceLT, Int32.reduceLE, y_24, y_13, rt_24_1, rt_13_7, a3, ps, k1', z10, r1', s1', t1', u1', u4, st1, uI_mm, q1']
            | ok i4 =>
              obtain ⟨I7, q1, q2, q3⟩ := y10 i4 h6
              have q1' : FX5_take n [.ref 24, .int 20] (mm (u2 I6 15 (dc D).length (nI hh.1)) J2 f) = some (some (.int 1), mm I7 J2 f) := q1
              have f7 := f6.tr q3.lf
              obtain ⟨y11, y12⟩ := t_tkN hn f q2 (lo := 0) (hi := 99) (by decide) (by decide)
              show LRes tp I _ (bnd (tkN tp 0 99 i4) _)
              cases h7 : tkN tp 0 99 i4 with
              | error e =>
                obtain ⟨I8, x1, x2, x3⟩ := y11 e h7
                have x1' : FX5_takeNumber n [.ref 24, .int 0, .int 99] (mm I7 J2 f) = some (some (.int 0), mm I8 J2 f) := x1
                refine LRes_er (I' := I8) (J' := J2) (f' := f) ?_ x2 (f7.tr x3.lf)
                simp only [eX5_carLine, kX5_carLine_0, kX5_carLine_37, kX5_carLine_50, kX5_carLine_57, kX5_carLine_93, x_no, x_cst, x_ldI, x_ldJ, x_ldA, x_stI, x_stJ, x_stA, x_inc, x_bin, x_un, x_i2l, x_bnJ, x_lshl, x_lcmp, x_dup, x_dp2, x_gI, x_gJ, x_gA, x_pI, x_pZ, x_pJ, x_pA, x_c0, x_c2, x_sw, x_cV, x_cS, x_rV, x_rI, x_rZ, x_rJ, x_mm, x_pop, x_dv, x_al, x_as, x_alJ, x_asJ, x_len, msel, mpl, mvr, mnw, List.getElem?_cons_zero, List.getElem?_cons_succ, List.set_cons_zero, List.set_cons_succ, List.length_cons, List.length_nil, List.drop_succ_cons, List.drop_zero, List.take_succ_cons, List.take_zero, List.reverse_cons, List.reverse_nil, List.nil_append, List.cons_append, List.append_nil, List.map_cons, List.map_nil, List.sum_cons, List.sum_nil, Option.toList_some, Option.toList_none, x_bs, Value.category, decide_eq_true_eq, decide_true, decide_false, if_true, if_false, Bool.false_eq_true, and_self, and_true, true_and, true_or, or_true, not_true_eq_false, not_false_eq_true, ↓reduceIte, reduceCtorEq, Nat.reduceEqDiff, Nat.reduceAdd, Nat.reduceSub, Nat.reduceMul, Nat.reduceLT, Nat.reduceLeDiff, Nat.reduceBEq, Nat.le_refl, Nat.zero_le, Nat.lt_irrefl, beq_self_eq_true, Nat.succ_ne_zero, Option.some.injEq, Prod.mk.injEq, Int32.reduceLT, Int32.reduceLE, y_24, y_13, rt_24_1, rt_13_7, a3, ps, k1', z10, r1', s1', t1', u1', u4, st1, uI_mm, q1', x1', not_true_eq_false]
              | ok oo =>
                obtain ⟨I8, x1, x2, ⟨x4, -⟩, x3⟩ := y12 oo h7
                have x1' : FX5_takeNumber n [.ref 24, .int 0, .int 99] (mm I7 J2 f) = some (some (.int 1), mm I8 J2 f) := x1
                have f8 := f7.tr x3.lf
                obtain ⟨IA, hIA⟩ : ∃ IA, IA = u2 (u2 I8 16 (dc D).length (nI oo.1)) 17 (dc D).length 1 := ⟨_, rfl⟩
                have g1 : LC IA J2 tp oo.2 (stD D (dt D ||| 4)) := by
                  rw [hIA]
                  exact LC_set (c := 17) (v := 1) (by decide) (LC_set (c := 16) (v := nI oo.1) (by decide) x2)
                have st2 := p_setN n 16 (dc D).length (nI oo.1) (mm I8 J2 f) y_16 (by decide) hc8
                have st3 := p_setN n 17 (dc D).length 1 (mm (u2 I8 16 (dc D).length (nI oo.1)) J2 f) y_17 (by decide) hc8
                have f9 : LF I IA := f8.tr (fun b k hb => by rw [hIA, u2_a (by omega), u2_a (by omega)])
                have p14 : I8 14 (dc D).length = nI p.1 := by rw [x3 14 _ (by decide), q3 14 _ (by decide), u2_a (by decide), u3 14 _ (by decide), t3 14 _ (by decide)]; exact s4'
                have p15 : I8 15 (dc D).length = nI hh.1 := by rw [x3 15 _ (by decide), q3 15 _ (by decide), u2_s]
                have hkb : kn tp oo.2 ≤ 33 := kn_rg tp oo.2
                have c21 : nI (kn tp oo.2) = 21 ↔ kn tp oo.2 = 21 := nI_eq (b := 21) (by omega) (by decide)
                have h5k := g1.1.2.1.2.1
                -- the end of the line, once the body stands there
                have fin : ∀ (IB : Nat → Nat → Int32) (bb : Nat × Nat), LC IB J2 tp bb.2 (stD D (dt D ||| 4)) → IB 14 (dc D).length = nI p.1 → IB 15 (dc D).length = nI hh.1 → IB 16 (dc D).length = nI oo.1 → IB 17 (dc D).length = nI bb.1 → LF I IB → (FX5_carLine n [.ref 24] (mm I J f) = kX5_carLine_162 n [some (.ref 24), some (.int (nI (dc D).length))] [] (mm IB J2 f)) → LRes tp I (FX5_carLine n [.ref 24] (mm I J f)) (bnd (tkK tp 4 bb.2) fun i5 => .ok (i5, (dt D ||| 4, dC D, dR D, dc D ++ [(i + 1, p.1, hh.1, oo.1, bb.1)], dU D, dB D, dd D, dF D, dW D))) := by
                  intro IB bb gB b14 b15 b16 b17 fB hrun
                  have g2 := LC_car gB kni b14 b15 b16 b17 e25
                  have g2' : LC (u2 IB 13 2 (nI ((dc D).length + 1))) J2 tp bb.2 (dt D ||| 4, dC D, dR D, dc D ++ [(i + 1, p.1, hh.1, oo.1, bb.1)], dU D, dB D, dd D, dF D, dW D) := g2
                  have f10 : LF I (u2 IB 13 2 (nI ((dc D).length + 1))) := fB.tr (fun b k hb => u2_a (by omega))
                  obtain ⟨y13, y14⟩ := t_tkK n f g2' (k := 4) (by decide)
                  rw [hrun]
                  cases h8 : tkK tp 4 bb.2 with
                  | error e =>
                    obtain ⟨I9, o1, o2, o3⟩ := y13 e h8
                    have o1' : FX5_take n [.ref 24, .int 4] (mm (u2 IB 13 2 (nI ((dc D).length + 1))) J2 f) = some (some (.int 0), mm I9 J2 f) := o1
                    refine LRes_er (I' := I9) (J' := J2) (f' := f) ?_ o2 (f10.tr o3.lf)
                    simp only [kX5_carLine_162, x_no, x_cst, x_ldI, x_ldJ, x_ldA, x_stI, x_stJ, x_stA, x_inc, x_bin, x_un, x_i2l, x_bnJ, x_lshl, x_lcmp, x_dup, x_dp2, x_gI, x_gJ, x_gA, x_pI, x_pZ, x_pJ, x_pA, x_c0, x_c2, x_sw, x_cV, x_cS, x_rV, x_rI, x_rZ, x_rJ, x_mm, x_pop, x_dv, x_al, x_as, x_alJ, x_asJ, x_len, msel, mpl, mvr, mnw, List.getElem?_cons_zero, List.getElem?_cons_succ, List.set_cons_zero, List.set_cons_succ, List.length_cons, List.length_nil, List.drop_succ_cons, List.drop_zero, List.take_succ_cons, List.take_zero, List.reverse_cons, List.reverse_nil, List.nil_append, List.cons_append, List.append_nil, List.map_cons, List.map_nil, List.sum_cons, List.sum_nil, Option.toList_some, Option.toList_none, x_bs, Value.category, decide_eq_true_eq, decide_true, decide_false, if_true, if_false, Bool.false_eq_true, and_self, and_true, true_and, true_or, or_true, not_true_eq_false, not_false_eq_true, ↓reduceIte, reduceCtorEq, Nat.reduceEqDiff, Nat.reduceAdd, Nat.reduceSub, Nat.reduceMul, Nat.reduceLT, Nat.reduceLeDiff, Nat.reduceBEq, Nat.le_refl, Nat.zero_le, Nat.lt_irrefl, beq_self_eq_true, Nat.succ_ne_zero, Option.some.injEq, Prod.mk.injEq, Int32.reduceLT, Int32.reduceLE, y_24, y_13, rt_24_1, nI_1, uI_mm, o1']
                  | ok i5 =>
                    obtain ⟨I9, o1, o2, o3⟩ := y14 i5 h8
                    have o1' : FX5_take n [.ref 24, .int 4] (mm (u2 IB 13 2 (nI ((dc D).length + 1))) J2 f) = some (some (.int 1), mm I9 J2 f) := o1
                    refine LRes_ok (I' := I9) (J' := J2) (f' := f) ?_ o2 (f10.tr o3.lf)
                    simp only [kX5_carLine_162, x_no, x_cst, x_ldI, x_ldJ, x_ldA, x_stI, x_stJ, x_stA, x_inc, x_bin, x_un, x_i2l, x_bnJ, x_lshl, x_lcmp, x_dup, x_dp2, x_gI, x_gJ, x_gA, x_pI, x_pZ, x_pJ, x_pA, x_c0, x_c2, x_sw, x_cV, x_cS, x_rV, x_rI, x_rZ, x_rJ, x_mm, x_pop, x_dv, x_al, x_as, x_alJ, x_asJ, x_len, msel, mpl, mvr, mnw, List.getElem?_cons_zero, List.getElem?_cons_succ, List.set_cons_zero, List.set_cons_succ, List.length_cons, List.length_nil, List.drop_succ_cons, List.drop_zero, List.take_succ_cons, List.take_zero, List.reverse_cons, List.reverse_nil, List.nil_append, List.cons_append, List.append_nil, List.map_cons, List.map_nil, List.sum_cons, List.sum_nil, Option.toList_some, Option.toList_none, x_bs, Value.category, decide_eq_true_eq, decide_true, decide_false, if_true, if_false, Bool.false_eq_true, and_self, and_true, true_and, true_or, or_true, not_true_eq_false, not_false_eq_true, ↓reduceIte, reduceCtorEq, Nat.reduceEqDiff, Nat.reduceAdd, Nat.reduceSub, Nat.reduceMul, Nat.reduceLT, Nat.reduceLeDiff, Nat.reduceBEq, Nat.le_refl, Nat.zero_le, Nat.lt_irrefl, beq_self_eq_true, Nat.succ_ne_zero, Option.some.injEq, Prod.mk.injEq, Int32.reduceLT, Int32.reduceLE, y_24, y_13, rt_24_1, nI_1, uI_mm, o1']
                have eA : ∀ c, c ≠ 16 → c ≠ 17 → IA c (dc D).length = I8 c (dc D).length := fun c c1 c2 => by rw [hIA, u2_a c2, u2_a c1]
                show LRes tp I _ (bnd (bodP tp oo.2) _)
                unfold bodP
                by_cases e21 : kn tp oo.2 = 21
                · rw [if_pos e21]
                  have e21' := c21.mpr e21
                  have pa := (p_adv n J2 f g1.1 (by omega)).1
                  have g3 := LC_av (j := oo.2 + 1) g1 (zl_next tp g1.1.2.2 (by omega))
                  obtain ⟨y15, y16⟩ := t_tkN hn f g3 (lo := 0) (hi := 9) (by decide) (by decide)
                  have f11 : LF I (avI IA tp (oo.2 + 1)) := f9.tr LF_av
                  cases h9 : tkN tp 0 9 (oo.2 + 1) with
                  | error e =>
                    obtain ⟨I9, o1, o2, o3⟩ := y15 e h9
                    have o1' : FX5_takeNumber n [.ref 24, .int 0, .int 9] (mm (avI IA tp (oo.2 + 1)) J2 f) = some (some (.int 0), mm I9 J2 f) := o1
                    refine LRes_er (I' := I9) (J' := J2) (f' := f) ?_ o2 (f11.tr o3.lf)
                    simp only [eX5_carLine, kX5_carLine_0, kX5_carLine_37, kX5_carLine_50, kX5_carLine_57, kX5_carLine_93, kX5_carLine_104, x_no, x_cst, x_ldI, x_ldJ, x_ldA, x_stI, x_stJ, x_stA, x_inc, x_bin, x_un, x_i2l, x_bnJ, x_lshl, x_lcmp, x_dup, x_dp2, x_gI, x_gJ, x_gA, x_pI, x_pZ, x_pJ, x_pA, x_c0, x_c2, x_sw, x_cV, x_cS, x_rV, x_rI, x_rZ, x_rJ, x_mm, x_pop, x_dv, x_al, x_as, x_alJ, x_asJ, x_len, msel, mpl, mvr, mnw, List.getElem?_cons_zero, List.getElem?_cons_succ, List.set_cons_zero, List.set_cons_succ, List.length_cons, List.length_nil, List.drop_succ_cons, List.drop_zero, List.take_succ_cons, List.take_zero, List.reverse_cons, List.reverse_nil, List.nil_append, List.cons_append, List.append_nil, List.map_cons, List.map_nil, List.sum_cons, List.sum_nil, Option.toList_some, Option.toList_none, x_bs, Value.category, decide_eq_true_eq, decide_true, decide_false, if_true, if_false, Bool.false_eq_true, and_self, and_true, true_and, true_or, or_true, not_true_eq_false, not_false_eq_true, ↓reduceIte, reduceCtorEq, Nat.reduceEqDiff, Nat.reduceAdd, Nat.reduceSub, Nat.reduceMul, Nat.reduceLT, Nat.reduceLeDiff, Nat.reduceBEq, Nat.le_refl, Nat.zero_le, Nat.lt_irrefl, beq_self_eq_true, Nat.succ_ne_zero, Option.some.injEq, Prod.mk.injEq, Int32.reduceLT, Int32.reduceLE, y_24, y_13, rt_24_1, rt_13_7, rt_13_8, rt_13_9, a3, ps, k1', z10, r1', s1', t1', u1', u4, st1, uI_mm, q1', x1', x4, st2, st3, ← hIA, h5k, e21', pa, o1', not_true_eq_false]
                  | ok bb =>
                    obtain ⟨I9, o1, o2, ⟨o4, -⟩, o3⟩ := y16 bb h9
                    have o1' : FX5_takeNumber n [.ref 24, .int 0, .int 9] (mm (avI IA tp (oo.2 + 1)) J2 f) = some (some (.int 1), mm I9 J2 f) := o1
                    have st4 := p_setN n 17 (dc D).length (nI bb.1) (mm I9 J2 f) y_17 (by decide) hc8
                    have fr9 : ∀ c, c ≠ 24 → I9 c (dc D).length = IA c (dc D).length := fun c hc => by rw [o3 c _ hc, avI_o hc]
                    refine fin (u2 I9 17 (dc D).length (nI bb.1)) bb (LC_set (c := 17) (by decide) o2) ?_ ?_ ?_ u2_s ((f11.tr o3.lf).tr (fun b k hb => u2_a (by omega))) ?_
                    · rw [u2_a (by decide), fr9 14 (by decide), eA 14 (by decide) (by decide)]; exact p14
                    · rw [u2_a (by decide), fr9 15 (by decide), eA 15 (by decide) (by decide)]; exact p15
                    · rw [u2_a (by decide), fr9 16 (by decide), hIA, u2_a (by decide), u2_s]
                    · simp only [eX5_carLine, kX5_carLine_0, kX5_carLine_37, kX5_carLine_50, kX5_carLine_57, kX5_carLine_93, kX5_carLine_104, kX5_carLine_156, x_no, x_cst, x_ldI, x_ldJ, x_ldA, x_stI, x_stJ, x_stA, x_inc, x_bin, x_un, x_i2l, x_bnJ, x_lshl, x_lcmp, x_dup, x_dp2, x_gI, x_gJ, x_gA, x_pI, x_pZ, x_pJ, x_pA, x_c0, x_c2, x_sw, x_cV, x_cS, x_rV, x_rI, x_rZ, x_rJ, x_mm, x_pop, x_dv, x_al, x_as, x_alJ, x_asJ, x_len, msel, mpl, mvr, mnw, List.getElem?_cons_zero, List.getElem?_cons_succ, List.set_cons_zero, List.set_cons_succ, List.length_cons, List.length_nil, List.drop_succ_cons, List.drop_zero, List.take_succ_cons, List.take_zero, List.reverse_cons, List.reverse_nil, List.nil_append, List.cons_append, List.append_nil, List.map_cons, List.map_nil, List.sum_cons, List.sum_nil, Option.toList_some, Option.toList_none, x_bs, Value.category, decide_eq_true_eq, decide_true, decide_false, if_true, if_false, Bool.false_eq_true, and_self, and_true, true_and, true_or, or_true, not_true_eq_false, not_false_eq_true, ↓reduceIte, reduceCtorEq, Nat.reduceEqDiff, Nat.reduceAdd, Nat.reduceSub, Nat.reduceMul, Nat.reduceLT, Nat.reduceLeDiff, Nat.reduceBEq, Nat.le_refl, Nat.zero_le, Nat.lt_irrefl, beq_self_eq_true, Nat.succ_ne_zero, Option.some.injEq, Prod.mk.injEq, Int32.reduceLT, Int32.reduceLE, y_24, y_13, rt_24_1, rt_13_7, rt_13_8, rt_13_9, a3, ps, k1', z10, r1', s1', t1', u1', u4, st1, uI_mm, q1', x1', x4, st2, st3, ← hIA, h5k, e21', pa, o1', o4, st4]
                · rw [if_neg e21]
                  refine fin IA (1, oo.2) g1 ?_ ?_ ?_ ?_ f9 ?_
                  · rw [eA 14 (by decide) (by decide)]; exact p14
                  · rw [eA 15 (by decide) (by decide)]; exact p15
                  · rw [hIA, u2_a (by decide), u2_s]
                  · rw [hIA, u2_s]; rfl
                  · simp only [eX5_carLine, kX5_carLine_0, kX5_carLine_37, kX5_carLine_50, kX5_carLine_57, kX5_carLine_93, kX5_carLine_104, x_no, x_cst, x_ldI, x_ldJ, x_ldA, x_stI, x_stJ, x_stA, x_inc, x_bin, x_un, x_i2l, x_bnJ, x_lshl, x_lcmp, x_dup, x_dp2, x_gI, x_gJ, x_gA, x_pI, x_pZ, x_pJ, x_pA, x_c0, x_c2, x_sw, x_cV, x_cS, x_rV, x_rI, x_rZ, x_rJ, x_mm, x_pop, x_dv, x_al, x_as, x_alJ, x_asJ, x_len, msel, mpl, mvr, mnw, List.getElem?_cons_zero, List.getElem?_cons_succ, List.set_cons_zero, List.set_cons_succ, List.length_cons, List.length_nil, List.drop_succ_cons, List.drop_zero, List.take_succ_cons, List.take_zero, List.reverse_cons, List.reverse_nil, List.nil_append, List.cons_append, List.append_nil, List.map_cons, List.map_nil, List.sum_cons, List.sum_nil, Option.toList_some, Option.toList_none, x_bs, Value.category, decide_eq_true_eq, decide_true, decide_false, if_true, if_false, Bool.false_eq_true, and_self, and_true, true_and, true_or, or_true, not_true_eq_false, not_false_eq_true, ↓reduceIte, reduceCtorEq, Nat.reduceEqDiff, Nat.reduceAdd, Nat.reduceSub, Nat.reduceMul, Nat.reduceLT, Nat.reduceLeDiff, Nat.reduceBEq, Nat.le_refl, Nat.zero_le, Nat.lt_irrefl, beq_self_eq_true, Nat.succ_ne_zero, Option.some.injEq, Prod.mk.injEq, Int32.reduceLT, Int32.reduceLE, y_24, y_13, rt_24_1, rt_13_7, rt_13_8, rt_13_9, a3, ps, k1', z10, r1', s1', t1', u1', u4, st1, uI_mm, q1', x1', x4, st2, st3, ← hIA, h5k, c21, e21]
end LineC6
