/-! PURE: the class's Reader: street, breaks, draw, formulas -/
section LineC3
variable {n : Nat} {I : Nat → Nat → Int32} {J : Nat → Nat → Int64} {tp : List Nat} {i : Nat} {D : DR}
theorem LRes_er {v : Option mR} {e : Nat × Nat} {I' : Nat → Nat → Int32} {J' : Nat → Nat → Int64} {f' : Nat} (h1 : v = some (some (.int 0), mm I' J' f')) (h2 : FtR I' e) (h3 : LF I I') : LRes tp I v (.error e) := ⟨fun e' he => by cases he; exact ⟨I', J', f', h1, h2, h3⟩, fun q hq => by cases hq⟩
theorem LRes_ok {v : Option mR} {q : Nat × DR} {I' : Nat → Nat → Int32} {J' : Nat → Nat → Int64} {f' : Nat} (h1 : v = some (some (.int 1), mm I' J' f')) (h2 : LC I' J' tp q.1 q.2) (h3 : LF I I') : LRes tp I v (.ok q) := ⟨fun e' he => (by cases he), fun q' hq => by cases hq; exact ⟨I', J', f', h1, h2, h3⟩⟩
set_option maxHeartbeats 8000000 in
theorem p_streetLine (hn : 300 < n) (f : Nat) (h : LC I J tp i D) (hD : DOK D) (hk : kn tp i = 15) : LRes tp I (FX5_streetLine n [.ref 24] (mm I J f)) (strP tp (i + 1) D) := by
  have z10 : ¬ (1 : Int32) = 0 := by decide
  obtain ⟨w1, w2⟩ := LC_ts (t := dt D ||| 1) h (by omega)
  have ps := p_takeSort n f (m := 0) (t := dt D ||| 1) (by decide) h hk (sor_all _ hD.1).1.1
  unfold strP
  obtain ⟨x1, x2⟩ := c_tkN hn f w1 (lo := 1) (hi := 8) (by decide) (by decide)
  cases h1 : tkN tp 1 8 (i + 1) with
  | error e =>
    obtain ⟨I1, k1, k2, k3⟩ := x1 e h1
    have k1' : FX5_takeNumber n [.ref 24, .int 1, .int 8] (mm (tsI I tp i (dt D ||| 1)) J f) = some (some (.int 0), mm I1 J f) := k1
    refine LRes_er (I' := I1) (J' := J) (f' := f) ?_ k2 (w2.tr k3)
    simp only [eX5_streetLine, kX5_streetLine_0, x_no, x_cst, x_ldI, x_ldJ, x_ldA, x_stI, x_stJ, x_stA, x_inc, x_bin, x_un, x_i2l, x_bnJ, x_lshl, x_lcmp, x_dup, x_dp2, x_gI, x_gJ, x_gA, x_pI, x_pZ, x_pJ, x_pA, x_c0, x_c2, x_sw, x_cV, x_cS, x_rV, x_rI, x_rZ, x_rJ, x_mm, x_pop, x_dv, x_al, x_as, x_alJ, x_asJ, x_len, msel, mpl, mvr, mnw, List.getElem?_cons_zero, List.getElem?_cons_succ, List.set_cons_zero, List.set_cons_succ, List.length_cons, List.length_nil, List.drop_succ_cons, List.drop_zero, List.take_succ_cons, List.take_zero, List.reverse_cons, List.reverse_nil, List.nil_append, List.cons_append, List.append_nil, List.map_cons, List.map_nil, List.sum_cons, List.sum_nil, Option.toList_some, Option.toList_none, x_bs, Value.category, decide_eq_true_eq, decide_true, decide_false, if_true, if_false, Bool.false_eq_true, and_self, and_true, true_and, true_or, or_true, not_true_eq_false, not_false_eq_true, ↓reduceIte, reduceCtorEq, Nat.reduceEqDiff, Nat.reduceAdd, Nat.reduceSub, Nat.reduceMul, Nat.reduceLT, Nat.reduceLeDiff, Nat.reduceBEq, Nat.le_refl, Nat.zero_le, Nat.lt_irrefl, beq_self_eq_true, Nat.succ_ne_zero, Option.some.injEq, Prod.mk.injEq, Int32.reduceLT, Int32.reduceLE, y_24, ps, k1', not_true_eq_false]
  | ok c =>
    obtain ⟨I1, k1, k2, ⟨k4, -⟩, k3⟩ := x2 c h1
    have k1' : FX5_takeNumber n [.ref 24, .int 1, .int 8] (mm (tsI I tp i (dt D ||| 1)) J f) = some (some (.int 1), mm I1 J f) := k1
    obtain ⟨⟨a1, a2, a3, a4, a5, a6⟩, -⟩ := k2.2.1
    obtain ⟨v1, v2⟩ := LC_13 (k := 0) (x := nI c.1) (D' := (dt D ||| 1, c.1, dR D, dc D, dU D, dB D, dd D, dF D, dW D)) k2 ⟨rfl, rfl, rfl, rfl⟩ ⟨u2_s, by rw [u2_j (by decide)]; exact a2, by rw [u2_j (by decide)]; exact a3, by rw [u2_j (by decide)]; exact a4, by rw [u2_j (by decide)]; exact a5, by rw [u2_j (by decide)]; exact a6⟩
    obtain ⟨y1, y2⟩ := c_tkK n f v1 (k := 16) (by decide)
    show LRes tp I _ (bnd (tkK tp 16 c.2) _)
    cases h2 : tkK tp 16 c.2 with
    | error e =>
      obtain ⟨I2, m1, m2, m3⟩ := y1 e h2
      have m1' : FX5_take n [.ref 24, .int 16] (mm (u2 I1 13 0 (nI c.1)) J f) = some (some (.int 0), mm I2 J f) := m1
      refine LRes_er (I' := I2) (J' := J) (f' := f) ?_ m2 (w2.tr (k3.tr (v2.tr m3)))
      simp only [eX5_streetLine, kX5_streetLine_0, kX5_streetLine_46, x_no, x_cst, x_ldI, x_ldJ, x_ldA, x_stI, x_stJ, x_stA, x_inc, x_bin, x_un, x_i2l, x_bnJ, x_lshl, x_lcmp, x_dup, x_dp2, x_gI, x_gJ, x_gA, x_pI, x_pZ, x_pJ, x_pA, x_c0, x_c2, x_sw, x_cV, x_cS, x_rV, x_rI, x_rZ, x_rJ, x_mm, x_pop, x_dv, x_al, x_as, x_alJ, x_asJ, x_len, msel, mpl, mvr, mnw, List.getElem?_cons_zero, List.getElem?_cons_succ, List.set_cons_zero, List.set_cons_succ, List.length_cons, List.length_nil, List.drop_succ_cons, List.drop_zero, List.take_succ_cons, List.take_zero, List.reverse_cons, List.reverse_nil, List.nil_append, List.cons_append, List.append_nil, List.map_cons, List.map_nil, List.sum_cons, List.sum_nil, Option.toList_some, Option.toList_none, x_bs, Value.category, decide_eq_true_eq, decide_true, decide_false, if_true, if_false, Bool.false_eq_true, and_self, and_true, true_and, true_or, or_true, not_true_eq_false, not_false_eq_true, ↓reduceIte, reduceCtorEq, Nat.reduceEqDiff, Nat.reduceAdd, Nat.reduceSub, Nat.reduceMul, Nat.reduceLT, Nat.reduceLeDiff, Nat.reduceBEq, Nat.le_refl, Nat.zero_le, Nat.lt_irrefl, beq_self_eq_true, Nat.succ_ne_zero, Option.some.injEq, Prod.mk.injEq, Int32.reduceLT, Int32.reduceLE, y_24, y_13, rt_24_1, ps, k1', z10, k4, uI_mm, m1']
    | ok i1 =>
      obtain ⟨I2, m1, m2, m3⟩ := y2 i1 h2
      have m1' : FX5_take n [.ref 24, .int 16] (mm (u2 I1 13 0 (nI c.1)) J f) = some (some (.int 1), mm I2 J f) := m1
      obtain ⟨x3, x4⟩ := c_tkN hn f m2 (lo := 1) (hi := 8) (by decide) (by decide)
      show LRes tp I _ (bnd (tkN tp 1 8 i1) _)
      cases h3 : tkN tp 1 8 i1 with
      | error e =>
        obtain ⟨I3, r1, r2, r3⟩ := x3 e h3
        have r1' : FX5_takeNumber n [.ref 24, .int 1, .int 8] (mm I2 J f) = some (some (.int 0), mm I3 J f) := r1
        refine LRes_er (I' := I3) (J' := J) (f' := f) ?_ r2 (w2.tr (k3.tr (v2.tr (m3.tr r3))))
        simp only [eX5_streetLine, kX5_streetLine_0, kX5_streetLine_46, x_no, x_cst, x_ldI, x_ldJ, x_ldA, x_stI, x_stJ, x_stA, x_inc, x_bin, x_un, x_i2l, x_bnJ, x_lshl, x_lcmp, x_dup, x_dp2, x_gI, x_gJ, x_gA, x_pI, x_pZ, x_pJ, x_pA, x_c0, x_c2, x_sw, x_cV, x_cS, x_rV, x_rI, x_rZ, x_rJ, x_mm, x_pop, x_dv, x_al, x_as, x_alJ, x_asJ, x_len, msel, mpl, mvr, mnw, List.getElem?_cons_zero, List.getElem?_cons_succ, List.set_cons_zero, List.set_cons_succ, List.length_cons, List.length_nil, List.drop_succ_cons, List.drop_zero, List.take_succ_cons, List.take_zero, List.reverse_cons, List.reverse_nil, List.nil_append, List.cons_append, List.append_nil, List.map_cons, List.map_nil, List.sum_cons, List.sum_nil, Option.toList_some, Option.toList_none, x_bs, Value.category, decide_eq_true_eq, decide_true, decide_false, if_true, if_false, Bool.false_eq_true, and_self, and_true, true_and, true_or, or_true, not_true_eq_false, not_false_eq_true, ↓reduceIte, reduceCtorEq, Nat.reduceEqDiff, Nat.reduceAdd, Nat.reduceSub, Nat.reduceMul, Nat.reduceLT, Nat.reduceLeDiff, Nat.reduceBEq, Nat.le_refl, Nat.zero_le, Nat.lt_irrefl, beq_self_eq_true, Nat.succ_ne_zero, Option.some.injEq, Prod.mk.injEq, Int32.reduceLT, Int32.reduceLE, y_24, y_13, rt_24_1, ps, k1', z10, k4, uI_mm, m1', r1', not_true_eq_false]
      | ok r =>
        obtain ⟨I3, r1, r2, ⟨r4, -⟩, r3⟩ := x4 r h3
        have r1' : FX5_takeNumber n [.ref 24, .int 1, .int 8] (mm I2 J f) = some (some (.int 1), mm I3 J f) := r1
        obtain ⟨⟨b1, b2, b3, b4, b5, b6⟩, -⟩ := r2.2.1
        obtain ⟨v3, v4⟩ := LC_13 (k := 1) (x := nI r.1) (D' := (dt D ||| 1, c.1, r.1, dc D, dU D, dB D, dd D, dF D, dW D)) r2 ⟨rfl, rfl, rfl, rfl⟩ ⟨by rw [u2_j (by decide)]; exact b1, u2_s, by rw [u2_j (by decide)]; exact b3, by rw [u2_j (by decide)]; exact b4, by rw [u2_j (by decide)]; exact b5, by rw [u2_j (by decide)]; exact b6⟩
        obtain ⟨y3, y4⟩ := c_tkK n f v3 (k := 4) (by decide)
        have fr := w2.tr (k3.tr (v2.tr (m3.tr (r3.tr v4))))
        show LRes tp I _ (bnd (tkK tp 4 r.2) _)
        cases h4 : tkK tp 4 r.2 with
        | error e =>
          obtain ⟨I4, s1, s2, s3⟩ := y3 e h4
          have s1' : FX5_take n [.ref 24, .int 4] (mm (u2 I3 13 1 (nI r.1)) J f) = some (some (.int 0), mm I4 J f) := s1
          refine LRes_er (I' := I4) (J' := J) (f' := f) ?_ s2 (fr.tr s3)
          simp only [eX5_streetLine, kX5_streetLine_0, kX5_streetLine_46, kX5_streetLine_53, x_no, x_cst, x_ldI, x_ldJ, x_ldA, x_stI, x_stJ, x_stA, x_inc, x_bin, x_un, x_i2l, x_bnJ, x_lshl, x_lcmp, x_dup, x_dp2, x_gI, x_gJ, x_gA, x_pI, x_pZ, x_pJ, x_pA, x_c0, x_c2, x_sw, x_cV, x_cS, x_rV, x_rI, x_rZ, x_rJ, x_mm, x_pop, x_dv, x_al, x_as, x_alJ, x_asJ, x_len, msel, mpl, mvr, mnw, List.getElem?_cons_zero, List.getElem?_cons_succ, List.set_cons_zero, List.set_cons_succ, List.length_cons, List.length_nil, List.drop_succ_cons, List.drop_zero, List.take_succ_cons, List.take_zero, List.reverse_cons, List.reverse_nil, List.nil_append, List.cons_append, List.append_nil, List.map_cons, List.map_nil, List.sum_cons, List.sum_nil, Option.toList_some, Option.toList_none, x_bs, Value.category, decide_eq_true_eq, decide_true, decide_false, if_true, if_false, Bool.false_eq_true, and_self, and_true, true_and, true_or, or_true, not_true_eq_false, not_false_eq_true, ↓reduceIte, reduceCtorEq, Nat.reduceEqDiff, Nat.reduceAdd, Nat.reduceSub, Nat.reduceMul, Nat.reduceLT, Nat.reduceLeDiff, Nat.reduceBEq, Nat.le_refl, Nat.zero_le, Nat.lt_irrefl, beq_self_eq_true, Nat.succ_ne_zero, Option.some.injEq, Prod.mk.injEq, Int32.reduceLT, Int32.reduceLE, y_24, y_13, rt_24_1, ps, k1', z10, k4, r4, uI_mm, m1', r1', s1']
        | ok i2 =>
          obtain ⟨I4, s1, s2, s3⟩ := y4 i2 h4
          have s1' : FX5_take n [.ref 24, .int 4] (mm (u2 I3 13 1 (nI r.1)) J f) = some (some (.int 1), mm I4 J f) := s1
          refine LRes_ok (I' := I4) (J' := J) (f' := f) ?_ s2 (fr.tr s3)
          simp only [eX5_streetLine, kX5_streetLine_0, kX5_streetLine_46, kX5_streetLine_53, x_no, x_cst, x_ldI, x_ldJ, x_ldA, x_stI, x_stJ, x_stA, x_inc, x_bin, x_un, x_i2l, x_bnJ, x_lshl, x_lcmp, x_dup, x_dp2, x_gI, x_gJ, x_gA, x_pI, x_pZ, x_pJ, x_pA, x_c0, x_c2, x_sw, x_cV, x_cS, x_rV, x_rI, x_rZ, x_rJ, x_mm, x_pop, x_dv, x_al, x_as, x_alJ, x_asJ, x_len, msel, mpl, mvr, mnw, List.getElem?_cons_zero, List.getElem?_cons_succ, List.set_cons_zero, List.set_cons_succ, List.length_cons, List.length_nil, List.drop_succ_cons, List.drop_zero, List.take_succ_cons, List.take_zero, List.reverse_cons, List.reverse_nil, List.nil_append, List.cons_append, List.append_nil, List.map_cons, List.map_nil, List.sum_cons, List.sum_nil, Option.toList_some, Option.toList_none, x_bs, Value.category, decide_eq_true_eq, decide_true, decide_false, if_true, if_false, Bool.false_eq_true, and_self, and_true, true_and, true_or, or_true, not_true_eq_false, not_false_eq_true, ↓reduceIte, reduceCtorEq, Nat.reduceEqDiff, Nat.reduceAdd, Nat.reduceSub, Nat.reduceMul, Nat.reduceLT, Nat.reduceLeDiff, Nat.reduceBEq, Nat.le_refl, Nat.zero_le, Nat.lt_irrefl, beq_self_eq_true, Nat.succ_ne_zero, Option.some.injEq, Prod.mk.injEq, Int32.reduceLT, Int32.reduceLE, y_24, y_13, rt_24_1, ps, k1', z10, k4, r4, uI_mm, m1', r1', s1']
theorem p_refuseL (n : Nat) (f : Nat) (h : LC I J tp i D) : FX5_refuse n [.ref 24] (mm I J f) = some (some (.int 0), mm (ftI I (rf tp i)) J f) := p_refuse n J f h.1
set_option maxHeartbeats 4000000 in
theorem p_takeOnce (n : Nat) (f : Nat) {m : Nat} (hm : m < 11) (h : LC I J tp i D) (hk : kn tp i = 15 + m) {t : Nat} (ht : nI (dt D) ||| nI (2 ^ m) = nI t) (hb : nI (dt D) &&& nI (2 ^ m) = 0 ↔ (dt D).testBit m = false) : FX5_takeOnce n [.ref 24] (mm I J f) = if (dt D).testBit m = true then some (some (.int 0), mm (ftI I (rf tp i)) J f) else some (some (.int 1), mm (tsI I tp i t) J f) := by
  have e9 := h.2.1.2.2.2.2
  have ps := p_takeSort n f hm h hk ht
  have pr := p_refuseL n f h
  by_cases e : (dt D).testBit m = true
  · rw [if_pos e]
    have hb' : ¬ nI (dt D) &&& nI (2 ^ m) = 0 := fun z => by rw [hb.mp z] at e; cases e
    simp only [eX5_takeOnce, kX5_takeOnce_0, x_no, x_cst, x_ldI, x_ldJ, x_ldA, x_stI, x_stJ, x_stA, x_inc, x_bin, x_un, x_i2l, x_bnJ, x_lshl, x_lcmp, x_dup, x_dp2, x_gI, x_gJ, x_gA, x_pI, x_pZ, x_pJ, x_pA, x_c0, x_c2, x_sw, x_cV, x_cS, x_rV, x_rI, x_rZ, x_rJ, x_mm, x_pop, x_dv, x_al, x_as, x_alJ, x_asJ, x_len, msel, mpl, mvr, mnw, List.getElem?_cons_zero, List.getElem?_cons_succ, List.set_cons_zero, List.set_cons_succ, List.length_cons, List.length_nil, List.drop_succ_cons, List.drop_zero, List.take_succ_cons, List.take_zero, List.reverse_cons, List.reverse_nil, List.nil_append, List.cons_append, List.append_nil, List.map_cons, List.map_nil, List.sum_cons, List.sum_nil, Option.toList_some, Option.toList_none, x_bs, Value.category, decide_eq_true_eq, decide_true, decide_false, if_true, if_false, Bool.false_eq_true, and_self, and_true, true_and, true_or, or_true, not_true_eq_false, not_false_eq_true, ↓reduceIte, reduceCtorEq, Nat.reduceEqDiff, Nat.reduceAdd, Nat.reduceSub, Nat.reduceMul, Nat.reduceLT, Nat.reduceLeDiff, Nat.reduceBEq, Nat.le_refl, Nat.zero_le, Nat.lt_irrefl, beq_self_eq_true, Nat.succ_ne_zero, Option.some.injEq, Prod.mk.injEq, Int32.reduceLT, Int32.reduceLE, y_24, e9, p_sort n f hm h.1 hk, hb', pr]
  · rw [if_neg e]
    have hb' : nI (dt D) &&& nI (2 ^ m) = 0 := hb.mpr (by simpa using e)
    simp only [eX5_takeOnce, kX5_takeOnce_0, x_no, x_cst, x_ldI, x_ldJ, x_ldA, x_stI, x_stJ, x_stA, x_inc, x_bin, x_un, x_i2l, x_bnJ, x_lshl, x_lcmp, x_dup, x_dp2, x_gI, x_gJ, x_gA, x_pI, x_pZ, x_pJ, x_pA, x_c0, x_c2, x_sw, x_cV, x_cS, x_rV, x_rI, x_rZ, x_rJ, x_mm, x_pop, x_dv, x_al, x_as, x_alJ, x_asJ, x_len, msel, mpl, mvr, mnw, List.getElem?_cons_zero, List.getElem?_cons_succ, List.set_cons_zero, List.set_cons_succ, List.length_cons, List.length_nil, List.drop_succ_cons, List.drop_zero, List.take_succ_cons, List.take_zero, List.reverse_cons, List.reverse_nil, List.nil_append, List.cons_append, List.append_nil, List.map_cons, List.map_nil, List.sum_cons, List.sum_nil, Option.toList_some, Option.toList_none, x_bs, Value.category, decide_eq_true_eq, decide_true, decide_false, if_true, if_false, Bool.false_eq_true, and_self, and_true, true_and, true_or, or_true, not_true_eq_false, not_false_eq_true, ↓reduceIte, reduceCtorEq, Nat.reduceEqDiff, Nat.reduceAdd, Nat.reduceSub, Nat.reduceMul, Nat.reduceLT, Nat.reduceLeDiff, Nat.reduceBEq, Nat.le_refl, Nat.zero_le, Nat.lt_irrefl, beq_self_eq_true, Nat.succ_ne_zero, Option.some.injEq, Prod.mk.injEq, Int32.reduceLT, Int32.reduceLE, y_24, e9, p_sort n f hm h.1 hk, hb', ps]
theorem andb4 {t : Nat} (ht : t < 2048) : (nI t &&& nI 128 = 0 ↔ t.testBit 7 = false) ∧ (nI t &&& nI 256 = 0 ↔ t.testBit 8 = false) ∧ (nI t &&& nI 512 = 0 ↔ t.testBit 9 = false) ∧ (nI t &&& nI 1024 = 0 ↔ t.testBit 10 = false) := by
  have h := sand_all t ht
  simp only [andb, Bool.and_eq_true, beq_iff_eq] at h
  obtain ⟨⟨⟨h1, h2⟩, h3⟩, h4⟩ := h
  have key : ∀ (p : Prop) [Decidable p] (b : Bool), decide p = !b → (p ↔ b = false) := by
    intro p _ b hb
    cases b <;> simp_all
  exact ⟨key _ _ h1, key _ _ h2, key _ _ h3, key _ _ h4⟩
set_option maxHeartbeats 8000000 in
theorem p_breaksLine (hn : 300 < n) (f : Nat) (h : LC I J tp i D) (hD : DOK D) (hk : kn tp i = 24) : LRes tp I (FX5_breaksLine n [.ref 24] (mm I J f)) (if (dt D).testBit 9 = true then .error (rf tp i) else bnd (tkN tp 0 100 (i + 1)) fun v => bnd (tkK tp 4 v.2) fun i1 => .ok (i1, (dt D ||| 512, dC D, dR D, dc D, dU D, v.1, dd D, dF D, dW D))) := by
  have z10 : ¬ (1 : Int32) = 0 := by decide
  have po := p_takeOnce n f (m := 9) (t := dt D ||| 512) (by decide) h hk (sor_all _ hD.1).2.2.1 (andb4 hD.1).2.2.1
  by_cases e9 : (dt D).testBit 9 = true
  · rw [if_pos e9] at po ⊢
    refine LRes_er (I' := ftI I (rf tp i)) (J' := J) (f' := f) ?_ (ftI_ft _) LF_ft
    simp only [eX5_breaksLine, kX5_breaksLine_0, kX5_breaksLine_17, x_no, x_cst, x_ldI, x_ldJ, x_ldA, x_stI, x_stJ, x_stA, x_inc, x_bin, x_un, x_i2l, x_bnJ, x_lshl, x_lcmp, x_dup, x_dp2, x_gI, x_gJ, x_gA, x_pI, x_pZ, x_pJ, x_pA, x_c0, x_c2, x_sw, x_cV, x_cS, x_rV, x_rI, x_rZ, x_rJ, x_mm, x_pop, x_dv, x_al, x_as, x_alJ, x_asJ, x_len, msel, mpl, mvr, mnw, List.getElem?_cons_zero, List.getElem?_cons_succ, List.set_cons_zero, List.set_cons_succ, List.length_cons, List.length_nil, List.drop_succ_cons, List.drop_zero, List.take_succ_cons, List.take_zero, List.reverse_cons, List.reverse_nil, List.nil_append, List.cons_append, List.append_nil, List.map_cons, List.map_nil, List.sum_cons, List.sum_nil, Option.toList_some, Option.toList_none, x_bs, Value.category, decide_eq_true_eq, decide_true, decide_false, if_true, if_false, Bool.false_eq_true, and_self, and_true, true_and, true_or, or_true, not_true_eq_false, not_false_eq_true, ↓reduceIte, reduceCtorEq, Nat.reduceEqDiff, Nat.reduceAdd, Nat.reduceSub, Nat.reduceMul, Nat.reduceLT, Nat.reduceLeDiff, Nat.reduceBEq, Nat.le_refl, Nat.zero_le, Nat.lt_irrefl, beq_self_eq_true, Nat.succ_ne_zero, Option.some.injEq, Prod.mk.injEq, Int32.reduceLT, Int32.reduceLE, y_24, po]
  · rw [if_neg e9] at po ⊢
    obtain ⟨w1, w2⟩ := LC_ts (t := dt D ||| 512) h (by omega)
    obtain ⟨x1, x2⟩ := c_tkN hn f w1 (lo := 0) (hi := 100) (by decide) (by decide)
    cases h1 : tkN tp 0 100 (i + 1) with
    | error e =>
      obtain ⟨I1, k1, k2, k3⟩ := x1 e h1
      have k1' : FX5_takeNumber n [.ref 24, .int 0, .int 100] (mm (tsI I tp i (dt D ||| 512)) J f) = some (some (.int 0), mm I1 J f) := k1
      refine LRes_er (I' := I1) (J' := J) (f' := f) ?_ k2 (w2.tr k3)
      simp only [eX5_breaksLine, kX5_breaksLine_0, kX5_breaksLine_17, x_no, x_cst, x_ldI, x_ldJ, x_ldA, x_stI, x_stJ, x_stA, x_inc, x_bin, x_un, x_i2l, x_bnJ, x_lshl, x_lcmp, x_dup, x_dp2, x_gI, x_gJ, x_gA, x_pI, x_pZ, x_pJ, x_pA, x_c0, x_c2, x_sw, x_cV, x_cS, x_rV, x_rI, x_rZ, x_rJ, x_mm, x_pop, x_dv, x_al, x_as, x_alJ, x_asJ, x_len, msel, mpl, mvr, mnw, List.getElem?_cons_zero, List.getElem?_cons_succ, List.set_cons_zero, List.set_cons_succ, List.length_cons, List.length_nil, List.drop_succ_cons, List.drop_zero, List.take_succ_cons, List.take_zero, List.reverse_cons, List.reverse_nil, List.nil_append, List.cons_append, List.append_nil, List.map_cons, List.map_nil, List.sum_cons, List.sum_nil, Option.toList_some, Option.toList_none, x_bs, Value.category, decide_eq_true_eq, decide_true, decide_false, if_true, if_false, Bool.false_eq_true, and_self, and_true, true_and, true_or, or_true, not_true_eq_false, not_false_eq_true, ↓reduceIte, reduceCtorEq, Nat.reduceEqDiff, Nat.reduceAdd, Nat.reduceSub, Nat.reduceMul, Nat.reduceLT, Nat.reduceLeDiff, Nat.reduceBEq, Nat.le_refl, Nat.zero_le, Nat.lt_irrefl, beq_self_eq_true, Nat.succ_ne_zero, Option.some.injEq, Prod.mk.injEq, Int32.reduceLT, Int32.reduceLE, y_24, po, z10, k1', not_true_eq_false]
    | ok c =>
      obtain ⟨I1, k1, k2, ⟨k4, -⟩, k3⟩ := x2 c h1
      have k1' : FX5_takeNumber n [.ref 24, .int 0, .int 100] (mm (tsI I tp i (dt D ||| 512)) J f) = some (some (.int 1), mm I1 J f) := k1
      obtain ⟨⟨a1, a2, a3, a4, a5, a6⟩, -⟩ := k2.2.1
      obtain ⟨v1, v2⟩ := LC_13 (k := 3) (x := nI c.1) (D' := (dt D ||| 512, dC D, dR D, dc D, dU D, c.1, dd D, dF D, dW D)) k2 ⟨rfl, rfl, rfl, rfl⟩ ⟨by rw [u2_j (by decide)]; exact a1, by rw [u2_j (by decide)]; exact a2, by rw [u2_j (by decide)]; exact a3, u2_s, by rw [u2_j (by decide)]; exact a5, by rw [u2_j (by decide)]; exact a6⟩
      obtain ⟨y3, y4⟩ := c_tkK n f v1 (k := 4) (by decide)
      show LRes tp I _ (bnd (tkK tp 4 c.2) _)
      cases h4 : tkK tp 4 c.2 with
      | error e =>
        obtain ⟨I4, s1, s2, s3⟩ := y3 e h4
        have s1' : FX5_take n [.ref 24, .int 4] (mm (u2 I1 13 3 (nI c.1)) J f) = some (some (.int 0), mm I4 J f) := s1
        refine LRes_er (I' := I4) (J' := J) (f' := f) ?_ s2 (w2.tr (k3.tr (v2.tr s3)))
        simp only [eX5_breaksLine, kX5_breaksLine_0, x_no, x_cst, x_ldI, x_ldJ, x_ldA, x_stI, x_stJ, x_stA, x_inc, x_bin, x_un, x_i2l, x_bnJ, x_lshl, x_lcmp, x_dup, x_dp2, x_gI, x_gJ, x_gA, x_pI, x_pZ, x_pJ, x_pA, x_c0, x_c2, x_sw, x_cV, x_cS, x_rV, x_rI, x_rZ, x_rJ, x_mm, x_pop, x_dv, x_al, x_as, x_alJ, x_asJ, x_len, msel, mpl, mvr, mnw, List.getElem?_cons_zero, List.getElem?_cons_succ, List.set_cons_zero, List.set_cons_succ, List.length_cons, List.length_nil, List.drop_succ_cons, List.drop_zero, List.take_succ_cons, List.take_zero, List.reverse_cons, List.reverse_nil, List.nil_append, List.cons_append, List.append_nil, List.map_cons, List.map_nil, List.sum_cons, List.sum_nil, Option.toList_some, Option.toList_none, x_bs, Value.category, decide_eq_true_eq, decide_true, decide_false, if_true, if_false, Bool.false_eq_true, and_self, and_true, true_and, true_or, or_true, not_true_eq_false, not_false_eq_true, ↓reduceIte, reduceCtorEq, Nat.reduceEqDiff, Nat.reduceAdd, Nat.reduceSub, Nat.reduceMul, Nat.reduceLT, Nat.reduceLeDiff, Nat.reduceBEq, Nat.le_refl, Nat.zero_le, Nat.lt_irrefl, beq_self_eq_true, Nat.succ_ne_zero, Option.some.injEq, Prod.mk.injEq, Int32.reduceLT, Int32.reduceLE, y_24, y_13, rt_24_1, po, z10, k1', k4, uI_mm, s1']
      | ok i2 =>
        obtain ⟨I4, s1, s2, s3⟩ := y4 i2 h4
        have s1' : FX5_take n [.ref 24, .int 4] (mm (u2 I1 13 3 (nI c.1)) J f) = some (some (.int 1), mm I4 J f) := s1
        refine LRes_ok (I' := I4) (J' := J) (f' := f) ?_ s2 (w2.tr (k3.tr (v2.tr s3)))
        simp only [eX5_breaksLine, kX5_breaksLine_0, x_no, x_cst, x_ldI, x_ldJ, x_ldA, x_stI, x_stJ, x_stA, x_inc, x_bin, x_un, x_i2l, x_bnJ, x_lshl, x_lcmp, x_dup, x_dp2, x_gI, x_gJ, x_gA, x_pI, x_pZ, x_pJ, x_pA, x_c0, x_c2, x_sw, x_cV, x_cS, x_rV, x_rI, x_rZ, x_rJ, x_mm, x_pop, x_dv, x_al, x_as, x_alJ, x_asJ, x_len, msel, mpl, mvr, mnw, List.getElem?_cons_zero, List.getElem?_cons_succ, List.set_cons_zero, List.set_cons_succ, List.length_cons, List.length_nil, List.drop_succ_cons, List.drop_zero, List.take_succ_cons, List.take_zero, List.reverse_cons, List.reverse_nil, List.nil_append, List.cons_append, List.append_nil, List.map_cons, List.map_nil, List.sum_cons, List.sum_nil, Option.toList_some, Option.toList_none, x_bs, Value.category, decide_eq_true_eq, decide_true, decide_false, if_true, if_false, Bool.false_eq_true, and_self, and_true, true_and, true_or, or_true, not_true_eq_false, not_false_eq_true, ↓reduceIte, reduceCtorEq, Nat.reduceEqDiff, Nat.reduceAdd, Nat.reduceSub, Nat.reduceMul, Nat.reduceLT, Nat.reduceLeDiff, Nat.reduceBEq, Nat.le_refl, Nat.zero_le, Nat.lt_irrefl, beq_self_eq_true, Nat.succ_ne_zero, Option.some.injEq, Prod.mk.injEq, Int32.reduceLT, Int32.reduceLE, y_24, y_13, rt_24_1, po, z10, k1', k4, uI_mm, s1']
set_option maxHeartbeats 8000000 in
theorem p_drawLine (hn : 300 < n) (f : Nat) (h : LC I J tp i D) (hD : DOK D) (hk : kn tp i = 25) : LRes tp I (FX5_drawLine n [.ref 24] (mm I J f)) (if (dt D).testBit 10 = true then .error (rf tp i) else bnd (tkN tp 0 999 (i + 1)) fun v => bnd (tkK tp 4 v.2) fun i1 => .ok (i1, (dt D ||| 1024, dC D, dR D, dc D, dU D, dB D, v.1, dF D, dW D))) := by
  have z10 : ¬ (1 : Int32) = 0 := by decide
  have po := p_takeOnce n f (m := 10) (t := dt D ||| 1024) (by decide) h hk (sor_all _ hD.1).2.2.2 (andb4 hD.1).2.2.2
  by_cases e9 : (dt D).testBit 10 = true
  · rw [if_pos e9] at po ⊢
    refine LRes_er (I' := ftI I (rf tp i)) (J' := J) (f' := f) ?_ (ftI_ft _) LF_ft
    simp only [eX5_drawLine, kX5_drawLine_0, kX5_drawLine_18, x_no, x_cst, x_ldI, x_ldJ, x_ldA, x_stI, x_stJ, x_stA, x_inc, x_bin, x_un, x_i2l, x_bnJ, x_lshl, x_lcmp, x_dup, x_dp2, x_gI, x_gJ, x_gA, x_pI, x_pZ, x_pJ, x_pA, x_c0, x_c2, x_sw, x_cV, x_cS, x_rV, x_rI, x_rZ, x_rJ, x_mm, x_pop, x_dv, x_al, x_as, x_alJ, x_asJ, x_len, msel, mpl, mvr, mnw, List.getElem?_cons_zero, List.getElem?_cons_succ, List.set_cons_zero, List.set_cons_succ, List.length_cons, List.length_nil, List.drop_succ_cons, List.drop_zero, List.take_succ_cons, List.take_zero, List.reverse_cons, List.reverse_nil, List.nil_append, List.cons_append, List.append_nil, List.map_cons, List.map_nil, List.sum_cons, List.sum_nil, Option.toList_some, Option.toList_none, x_bs, Value.category, decide_eq_true_eq, decide_true, decide_false, if_true, if_false, Bool.false_eq_true, and_self, and_true, true_and, true_or, or_true, not_true_eq_false, not_false_eq_true, ↓reduceIte, reduceCtorEq, Nat.reduceEqDiff, Nat.reduceAdd, Nat.reduceSub, Nat.reduceMul, Nat.reduceLT, Nat.reduceLeDiff, Nat.reduceBEq, Nat.le_refl, Nat.zero_le, Nat.lt_irrefl, beq_self_eq_true, Nat.succ_ne_zero, Option.some.injEq, Prod.mk.injEq, Int32.reduceLT, Int32.reduceLE, y_24, po]
  · rw [if_neg e9] at po ⊢
    obtain ⟨w1, w2⟩ := LC_ts (t := dt D ||| 1024) h (by omega)
    obtain ⟨x1, x2⟩ := c_tkN hn f w1 (lo := 0) (hi := 999) (by decide) (by decide)
    cases h1 : tkN tp 0 999 (i + 1) with
    | error e =>
      obtain ⟨I1, k1, k2, k3⟩ := x1 e h1
      have k1' : FX5_takeNumber n [.ref 24, .int 0, .int 999] (mm (tsI I tp i (dt D ||| 1024)) J f) = some (some (.int 0), mm I1 J f) := k1
      refine LRes_er (I' := I1) (J' := J) (f' := f) ?_ k2 (w2.tr k3)
      simp only [eX5_drawLine, kX5_drawLine_0, kX5_drawLine_18, x_no, x_cst, x_ldI, x_ldJ, x_ldA, x_stI, x_stJ, x_stA, x_inc, x_bin, x_un, x_i2l, x_bnJ, x_lshl, x_lcmp, x_dup, x_dp2, x_gI, x_gJ, x_gA, x_pI, x_pZ, x_pJ, x_pA, x_c0, x_c2, x_sw, x_cV, x_cS, x_rV, x_rI, x_rZ, x_rJ, x_mm, x_pop, x_dv, x_al, x_as, x_alJ, x_asJ, x_len, msel, mpl, mvr, mnw, List.getElem?_cons_zero, List.getElem?_cons_succ, List.set_cons_zero, List.set_cons_succ, List.length_cons, List.length_nil, List.drop_succ_cons, List.drop_zero, List.take_succ_cons, List.take_zero, List.reverse_cons, List.reverse_nil, List.nil_append, List.cons_append, List.append_nil, List.map_cons, List.map_nil, List.sum_cons, List.sum_nil, Option.toList_some, Option.toList_none, x_bs, Value.category, decide_eq_true_eq, decide_true, decide_false, if_true, if_false, Bool.false_eq_true, and_self, and_true, true_and, true_or, or_true, not_true_eq_false, not_false_eq_true, ↓reduceIte, reduceCtorEq, Nat.reduceEqDiff, Nat.reduceAdd, Nat.reduceSub, Nat.reduceMul, Nat.reduceLT, Nat.reduceLeDiff, Nat.reduceBEq, Nat.le_refl, Nat.zero_le, Nat.lt_irrefl, beq_self_eq_true, Nat.succ_ne_zero, Option.some.injEq, Prod.mk.injEq, Int32.reduceLT, Int32.reduceLE, y_24, po, z10, k1', not_true_eq_false]
    | ok c =>
      obtain ⟨I1, k1, k2, ⟨k4, -⟩, k3⟩ := x2 c h1
      have k1' : FX5_takeNumber n [.ref 24, .int 0, .int 999] (mm (tsI I tp i (dt D ||| 1024)) J f) = some (some (.int 1), mm I1 J f) := k1
      obtain ⟨⟨a1, a2, a3, a4, a5, a6⟩, -⟩ := k2.2.1
      obtain ⟨v1, v2⟩ := LC_13 (k := 4) (x := nI c.1) (D' := (dt D ||| 1024, dC D, dR D, dc D, dU D, dB D, c.1, dF D, dW D)) k2 ⟨rfl, rfl, rfl, rfl⟩ ⟨by rw [u2_j (by decide)]; exact a1, by rw [u2_j (by decide)]; exact a2, by rw [u2_j (by decide)]; exact a3, by rw [u2_j (by decide)]; exact a4, u2_s, by rw [u2_j (by decide)]; exact a6⟩
      obtain ⟨y3, y4⟩ := c_tkK n f v1 (k := 4) (by decide)
      show LRes tp I _ (bnd (tkK tp 4 c.2) _)
      cases h4 : tkK tp 4 c.2 with
      | error e =>
        obtain ⟨I4, s1, s2, s3⟩ := y3 e h4
        have s1' : FX5_take n [.ref 24, .int 4] (mm (u2 I1 13 4 (nI c.1)) J f) = some (some (.int 0), mm I4 J f) := s1
        refine LRes_er (I' := I4) (J' := J) (f' := f) ?_ s2 (w2.tr (k3.tr (v2.tr s3)))
        simp only [eX5_drawLine, kX5_drawLine_0, x_no, x_cst, x_ldI, x_ldJ, x_ldA, x_stI, x_stJ, x_stA, x_inc, x_bin, x_un, x_i2l, x_bnJ, x_lshl, x_lcmp, x_dup, x_dp2, x_gI, x_gJ, x_gA, x_pI, x_pZ, x_pJ, x_pA, x_c0, x_c2, x_sw, x_cV, x_cS, x_rV, x_rI, x_rZ, x_rJ, x_mm, x_pop, x_dv, x_al, x_as, x_alJ, x_asJ, x_len, msel, mpl, mvr, mnw, List.getElem?_cons_zero, List.getElem?_cons_succ, List.set_cons_zero, List.set_cons_succ, List.length_cons, List.length_nil, List.drop_succ_cons, List.drop_zero, List.take_succ_cons, List.take_zero, List.reverse_cons, List.reverse_nil, List.nil_append, List.cons_append, List.append_nil, List.map_cons, List.map_nil, List.sum_cons, List.sum_nil, Option.toList_some, Option.toList_none, x_bs, Value.category, decide_eq_true_eq, decide_true, decide_false, if_true, if_false, Bool.false_eq_true, and_self, and_true, true_and, true_or, or_true, not_true_eq_false, not_false_eq_true, ↓reduceIte, reduceCtorEq, Nat.reduceEqDiff, Nat.reduceAdd, Nat.reduceSub, Nat.reduceMul, Nat.reduceLT, Nat.reduceLeDiff, Nat.reduceBEq, Nat.le_refl, Nat.zero_le, Nat.lt_irrefl, beq_self_eq_true, Nat.succ_ne_zero, Option.some.injEq, Prod.mk.injEq, Int32.reduceLT, Int32.reduceLE, y_24, y_13, rt_24_1, po, z10, k1', k4, uI_mm, s1']
      | ok i2 =>
        obtain ⟨I4, s1, s2, s3⟩ := y4 i2 h4
        have s1' : FX5_take n [.ref 24, .int 4] (mm (u2 I1 13 4 (nI c.1)) J f) = some (some (.int 1), mm I4 J f) := s1
        refine LRes_ok (I' := I4) (J' := J) (f' := f) ?_ s2 (w2.tr (k3.tr (v2.tr s3)))
        simp only [eX5_drawLine, kX5_drawLine_0, x_no, x_cst, x_ldI, x_ldJ, x_ldA, x_stI, x_stJ, x_stA, x_inc, x_bin, x_un, x_i2l, x_bnJ, x_lshl, x_lcmp, x_dup, x_dp2, x_gI, x_gJ, x_gA, x_pI, x_pZ, x_pJ, x_pA, x_c0, x_c2, x_sw, x_cV, x_cS, x_rV, x_rI, x_rZ, x_rJ, x_mm, x_pop, x_dv, x_al, x_as, x_alJ, x_asJ, x_len, msel, mpl, mvr, mnw, List.getElem?_cons_zero, List.getElem?_cons_succ, List.set_cons_zero, List.set_cons_succ, List.length_cons, List.length_nil, List.drop_succ_cons, List.drop_zero, List.take_succ_cons, List.take_zero, List.reverse_cons, List.reverse_nil, List.nil_append, List.cons_append, List.append_nil, List.map_cons, List.map_nil, List.sum_cons, List.sum_nil, Option.toList_some, Option.toList_none, x_bs, Value.category, decide_eq_true_eq, decide_true, decide_false, if_true, if_false, Bool.false_eq_true, and_self, and_true, true_and, true_or, or_true, not_true_eq_false, not_false_eq_true, ↓reduceIte, reduceCtorEq, Nat.reduceEqDiff, Nat.reduceAdd, Nat.reduceSub, Nat.reduceMul, Nat.reduceLT, Nat.reduceLeDiff, Nat.reduceBEq, Nat.le_refl, Nat.zero_le, Nat.lt_irrefl, beq_self_eq_true, Nat.succ_ne_zero, Option.some.injEq, Prod.mk.injEq, Int32.reduceLT, Int32.reduceLE, y_24, y_13, rt_24_1, po, z10, k1', k4, uI_mm, s1']
end LineC3
