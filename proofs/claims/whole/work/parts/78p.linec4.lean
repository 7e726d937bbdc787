/-! PURE: the class's Reader: formulas' lines, names, cells, cars -/
theorem RT_f {f x a j : Nat} (h : ¬ (a = 24 ∧ j = 3)) : RT f a j = RT x a j := by
  unfold RT
  split <;> first | rfl | exact absurd ⟨rfl, rfl⟩ h
theorem uR_mm (I : Nat → Nat → Int32) (J : Nat → Nat → Int64) (f x : Nat) : uR (mm I J f) 24 3 (some x) = mm I J x := by
  show (I, J, (fun b i => if b = 24 ∧ i = 3 then some x else RT f b i), LAY) = (I, J, RT x, LAY)
  have : (fun b i => if b = 24 ∧ i = 3 then some x else RT f b i) = RT x := by
    funext b i
    by_cases h : b = 24 ∧ i = 3
    · rw [if_pos h, h.1, h.2]; rfl
    · rw [if_neg h]; exact RT_f h
  rw [this]
def uJ2 (J : Nat → Nat → Int64) (a j : Nat) (x : Int64) : Nat → Nat → Int64 := fun b i => if b = a ∧ i = j then x else J b i
theorem uJ_mm (I : Nat → Nat → Int32) (J : Nat → Nat → Int64) (f a j : Nat) (x : Int64) : uJ (mm I J f) a j x = mm I (uJ2 J a j x) f := rfl
section LineC4
variable {n : Nat} {I : Nat → Nat → Int32} {J : Nat → Nat → Int64} {tp : List Nat} {i : Nat} {D : DR}
set_option maxHeartbeats 8000000 in
theorem p_formulaLine (hn : 300 < n) (f : Nat) {x m t : Nat} (hx : (x = 18 ∧ m = 7 ∧ (dt D).testBit 7 = decide (¬ dF D = [])) ∨ (x = 21 ∧ m = 8 ∧ (dt D).testBit 8 = decide (¬ dW D = []))) (h : LC I J tp i D) (hD : DOK D) (hk : kn tp i = 15 + m) (ht : nI (dt D) ||| nI (2 ^ m) = nI t) (hb : nI (dt D) &&& nI (2 ^ m) = 0 ↔ (dt D).testBit m = false) (mk : Nat × Nat × List (Nat × Nat) → DR) (hmk : ∀ s, (dt (mk s) = t ∧ dC (mk s) = dC D ∧ dR (mk s) = dR D ∧ dc (mk s) = dc D ∧ dU (mk s) = dU D + s.2.1 ∧ dB (mk s) = dB D ∧ dd (mk s) = dd D) ∧ (x = 18 → dF (mk s) = s.2.2 ∧ dW (mk s) = dW D) ∧ (x = 21 → dF (mk s) = dF D ∧ dW (mk s) = s.2.2)) : LRes tp I (FX5_formulaLine n [.ref 24, .ref x] (mm I J f)) (if (dt D).testBit m = true then .error (rf tp i) else bnd (fomP tp (i + 1) (dU D)) fun s => .ok (s.1, mk s)) := by
  have z10 : ¬ (1 : Int32) = 0 := by decide
  have hx' : x = 18 ∨ x = 21 := by rcases hx with q | q; exact Or.inl q.1; exact Or.inr q.1
  have hm11 : m < 11 := by rcases hx with q | q <;> omega
  have po := p_takeOnce n f hm11 h hk ht hb
  by_cases e9 : (dt D).testBit m = true
  · rw [if_pos e9] at po ⊢
    refine LRes_er (I' := ftI I (rf tp i)) (J' := J) (f' := f) ?_ (ftI_ft _) LF_ft
    simp only [eX5_formulaLine, kX5_formulaLine_0, x_no, x_cst, x_ldI, x_ldJ, x_ldA, x_stI, x_stJ, x_stA, x_inc, x_bin, x_un, x_i2l, x_bnJ, x_lshl, x_lcmp, x_dup, x_dp2, x_gI, x_gJ, x_gA, x_pI, x_pZ, x_pJ, x_pA, x_c0, x_c2, x_sw, x_cV, x_cS, x_rV, x_rI, x_rZ, x_rJ, x_mm, x_pop, x_dv, x_al, x_as, x_alJ, x_asJ, x_len, msel, mpl, mvr, mnw, List.getElem?_cons_zero, List.getElem?_cons_succ, List.set_cons_zero, List.set_cons_succ, List.length_cons, List.length_nil, List.drop_succ_cons, List.drop_zero, List.take_succ_cons, List.take_zero, List.reverse_cons, List.reverse_nil, List.nil_append, List.cons_append, List.append_nil, List.map_cons, List.map_nil, List.sum_cons, List.sum_nil, Option.toList_some, Option.toList_none, x_bs, Value.category, decide_eq_true_eq, decide_true, decide_false, if_true, if_false, Bool.false_eq_true, and_self, and_true, true_and, true_or, or_true, not_true_eq_false, not_false_eq_true, ↓reduceIte, reduceCtorEq, Nat.reduceEqDiff, Nat.reduceAdd, Nat.reduceSub, Nat.reduceMul, Nat.reduceLT, Nat.reduceLeDiff, Nat.reduceBEq, Nat.le_refl, Nat.zero_le, Nat.lt_irrefl, beq_self_eq_true, Nat.succ_ne_zero, Option.some.injEq, Prod.mk.injEq, Int32.reduceLT, Int32.reduceLE, y_24, po, not_true_eq_false]
  · rw [if_neg e9] at po ⊢
    obtain ⟨w1, w2⟩ := LC_ts (t := t) h (by omega)
    generalize hI1 : tsI I tp i t = I1 at po w1 w2
    obtain ⟨g1, ⟨⟨a1, a2, a3, a4, a5, a6⟩, b1, c1, c2, e1⟩, g3⟩ := w1
    have hfc : FC I1 x [] := by
      rcases hx with ⟨rfl, rfl, q⟩ | ⟨rfl, rfl, q⟩
      · have : dF D = [] := Classical.byContradiction (fun z => e9 (by rw [q]; exact decide_eq_true z))
        have c1' : FC I1 18 (dF D) := c1
        rw [this] at c1'; exact c1'
      · have : dW D = [] := Classical.byContradiction (fun z => e9 (by rw [q]; exact decide_eq_true z))
        have c2' : FC I1 21 (dW D) := c2
        rw [this] at c2'; exact c2'
    have a6' : I1 13 5 = nI (dU D) := a6
    have hxc : XC (u2 I1 24 10 0) tp (dU D) x (i + 1, 0, []) := by
      refine ⟨⟨TkC_of g1.1 (fun b j hb => u2_a (by omega)), by rw [u2_j (by decide), u2_j (by decide), u2_j (by decide)]; exact g1.2.1, g1.2.2⟩, u2_s, by rw [u2_a (by decide)]; exact a6', FC_fr hfc (fun b j hb => u2_a (by omega))⟩
    obtain ⟨m1, m2⟩ := p_part hn J hx' 80 0 0 (by decide) (by decide) (by decide) (u2 I1 24 10 0) (i + 1, 0, []) hxc (Nat.zero_le _) (by simpa using hD.2.2.2.2.2.1) (Nat.zero_le _)
    have lf1 : ∀ I', XFe x (u2 I1 24 10 0) I' → LF I1 I' := fun I' hh b j hb => by rw [hh.1 b j (by omega) (by omega) (by omega) (by omega), u2_a (by omega)]
    have n0 : (.int 0 : Value) = .int (nI 0) := rfl
    unfold fomP
    cases hq : pP tp (dU D) 80 0 0 (i + 1, 0, []) with
    | error j =>
      obtain ⟨I2, k1, k2, k3⟩ := m1 j hq
      have k1' : FX5_part n [.ref 24, .int 0, .int 0] (mm (u2 I1 24 10 0) J x) = some (some (.int 0), mm I2 J x) := k1
      refine LRes_er (I' := I2) (J' := J) (f' := x) ?_ k2 (w2.tr (lf1 I2 k3))
      simp only [eX5_formulaLine, kX5_formulaLine_0, kX5_formulaLine_40, kX5_formulaLine_41, x_no, x_cst, x_ldI, x_ldJ, x_ldA, x_stI, x_stJ, x_stA, x_inc, x_bin, x_un, x_i2l, x_bnJ, x_lshl, x_lcmp, x_dup, x_dp2, x_gI, x_gJ, x_gA, x_pI, x_pZ, x_pJ, x_pA, x_c0, x_c2, x_sw, x_cV, x_cS, x_rV, x_rI, x_rZ, x_rJ, x_mm, x_pop, x_dv, x_al, x_as, x_alJ, x_asJ, x_len, msel, mpl, mvr, mnw, List.getElem?_cons_zero, List.getElem?_cons_succ, List.set_cons_zero, List.set_cons_succ, List.length_cons, List.length_nil, List.drop_succ_cons, List.drop_zero, List.take_succ_cons, List.take_zero, List.reverse_cons, List.reverse_nil, List.nil_append, List.cons_append, List.append_nil, List.map_cons, List.map_nil, List.sum_cons, List.sum_nil, Option.toList_some, Option.toList_none, x_bs, Value.category, decide_eq_true_eq, decide_true, decide_false, if_true, if_false, Bool.false_eq_true, and_self, and_true, true_and, true_or, or_true, not_true_eq_false, not_false_eq_true, ↓reduceIte, reduceCtorEq, Nat.reduceEqDiff, Nat.reduceAdd, Nat.reduceSub, Nat.reduceMul, Nat.reduceLT, Nat.reduceLeDiff, Nat.reduceBEq, Nat.le_refl, Nat.zero_le, Nat.lt_irrefl, beq_self_eq_true, Nat.succ_ne_zero, Option.some.injEq, Prod.mk.injEq, Int32.reduceLT, Int32.reduceLE, y_24, po, z10, uR_mm, uI_mm, k1']
    | ok s =>
      obtain ⟨I2, k1, k2, k3⟩ := m2 s hq
      have k1' : FX5_part n [.ref 24, .int 0, .int 0] (mm (u2 I1 24 10 0) J x) = some (some (.int 1), mm I2 J x) := k1
      obtain ⟨hm1, hm2, hm3⟩ := hmk (0, s.2.1, s.2.2)
      obtain ⟨q1, q2, q3, q4, q5, q6, q7⟩ := hm1
      have fr : ∀ b j, b ≠ 24 → b ≠ x → b ≠ x + 1 → (b = 13 → j ≠ 5) → I2 b j = I1 b j := fun b j z1 z2 z3 z4 => by rw [k3.1.1 b j z1 z2 z3 z4, u2_a z1]
      have f24 : ∀ j, j ≠ 4 → j ≠ 5 → j ≠ 6 → j ≠ 10 → j ≠ 11 → j ≠ 12 → I2 24 j = I1 24 j := fun j z1 z2 z3 z4 z5 z6 => by rw [k3.1.2 j z1 z2 z3 z4 z5 z6, u2_j z4]
      have hlc : LC I2 J tp s.1 (mk (0, s.2.1, s.2.2)) := by
        refine ⟨k2.1, ⟨⟨?_, ?_, ?_, ?_, ?_, ?_⟩, fun j hj => ?_, ?_, ?_, ?_⟩, ⟨?_, ?_⟩⟩
        · rw [q2, fr 13 0 (by decide) (by omega) (by omega) (by decide)]; exact a1
        · rw [q3, fr 13 1 (by decide) (by omega) (by omega) (by decide)]; exact a2
        · rw [q4, fr 13 2 (by decide) (by omega) (by omega) (by decide)]; exact a3
        · rw [q6, fr 13 3 (by decide) (by omega) (by omega) (by decide)]; exact a4
        · rw [q7, fr 13 4 (by decide) (by omega) (by omega) (by decide)]; exact a5
        · rw [q5]; exact k2.2.2.1
        · rw [q4] at hj ⊢
          rw [fr 14 j (by decide) (by omega) (by omega) (by omega), fr 15 j (by decide) (by omega) (by omega) (by omega), fr 16 j (by decide) (by omega) (by omega) (by omega), fr 17 j (by decide) (by omega) (by omega) (by omega)]
          exact b1 j hj
        · rcases hx' with rfl | rfl
          · rw [(hm2 rfl).1]; exact k2.2.2.2
          · rw [(hm3 rfl).1]; exact FC_fr c1 (fun b j hb => fr b j (by omega) (by omega) (by omega) (by omega))
        · rcases hx' with rfl | rfl
          · rw [(hm2 rfl).2]; exact FC_fr c2 (fun b j hb => fr b j (by omega) (by omega) (by omega) (by omega))
          · rw [(hm3 rfl).2]; exact k2.2.2.2
        · rw [q1, f24 9 (by decide) (by decide) (by decide) (by decide) (by decide) (by decide)]; exact e1
        · rw [k3.2.1, u2_j (by decide)]; exact g3.1
        · rw [k3.2.2, u2_j (by decide)]; exact g3.2
      obtain ⟨y3, y4⟩ := c_tkK n x hlc (k := 4) (by decide)
      have lf2 := w2.tr (lf1 I2 k3.1)
      show LRes tp I _ (bnd (bnd (tkK tp 4 s.1) fun i1 => .ok (i1, s.2.1, s.2.2)) _)
      have hmk' : ∀ i1, mk (i1, s.2.1, s.2.2) = mk (0, s.2.1, s.2.2) := fun i1 => by
        obtain ⟨hn1, hn2, hn3⟩ := hmk (i1, s.2.1, s.2.2)
        have ext : ∀ A B : DR, dt A = dt B → dC A = dC B → dR A = dR B → dc A = dc B → dU A = dU B → dB A = dB B → dd A = dd B → dF A = dF B → dW A = dW B → A = B := by
          rintro ⟨_, _, _, _, _, _, _, _, _⟩ ⟨_, _, _, _, _, _, _, _, _⟩ rfl rfl rfl rfl rfl rfl rfl rfl rfl
          rfl
        refine ext _ _ (hn1.1.trans q1.symm) (hn1.2.1.trans q2.symm) (hn1.2.2.1.trans q3.symm) (hn1.2.2.2.1.trans q4.symm) (hn1.2.2.2.2.1.trans q5.symm) (hn1.2.2.2.2.2.1.trans q6.symm) (hn1.2.2.2.2.2.2.trans q7.symm) ?_ ?_
        · rcases hx' with e | e
          · rw [(hn2 e).1, (hm2 e).1]
          · rw [(hn3 e).1, (hm3 e).1]
        · rcases hx' with e | e
          · rw [(hn2 e).2, (hm2 e).2]
          · rw [(hn3 e).2, (hm3 e).2]
      cases h4 : tkK tp 4 s.1 with
      | error e =>
        obtain ⟨I4, s1, s2, s3⟩ := y3 e h4
        have s1' : FX5_take n [.ref 24, .int 4] (mm I2 J x) = some (some (.int 0), mm I4 J x) := s1
        refine LRes_er (I' := I4) (J' := J) (f' := x) ?_ s2 (lf2.tr s3)
        simp only [eX5_formulaLine, kX5_formulaLine_0, kX5_formulaLine_40, kX5_formulaLine_41, x_no, x_cst, x_ldI, x_ldJ, x_ldA, x_stI, x_stJ, x_stA, x_inc, x_bin, x_un, x_i2l, x_bnJ, x_lshl, x_lcmp, x_dup, x_dp2, x_gI, x_gJ, x_gA, x_pI, x_pZ, x_pJ, x_pA, x_c0, x_c2, x_sw, x_cV, x_cS, x_rV, x_rI, x_rZ, x_rJ, x_mm, x_pop, x_dv, x_al, x_as, x_alJ, x_asJ, x_len, msel, mpl, mvr, mnw, List.getElem?_cons_zero, List.getElem?_cons_succ, List.set_cons_zero, List.set_cons_succ, List.length_cons, List.length_nil, List.drop_succ_cons, List.drop_zero, List.take_succ_cons, List.take_zero, List.reverse_cons, List.reverse_nil, List.nil_append, List.cons_append, List.append_nil, List.map_cons, List.map_nil, List.sum_cons, List.sum_nil, Option.toList_some, Option.toList_none, x_bs, Value.category, decide_eq_true_eq, decide_true, decide_false, if_true, if_false, Bool.false_eq_true, and_self, and_true, true_and, true_or, or_true, not_true_eq_false, not_false_eq_true, ↓reduceIte, reduceCtorEq, Nat.reduceEqDiff, Nat.reduceAdd, Nat.reduceSub, Nat.reduceMul, Nat.reduceLT, Nat.reduceLeDiff, Nat.reduceBEq, Nat.le_refl, Nat.zero_le, Nat.lt_irrefl, beq_self_eq_true, Nat.succ_ne_zero, Option.some.injEq, Prod.mk.injEq, Int32.reduceLT, Int32.reduceLE, y_24, po, z10, uR_mm, uI_mm, k1', s1']
      | ok i1 =>
        obtain ⟨I4, s1, s2, s3⟩ := y4 i1 h4
        have s1' : FX5_take n [.ref 24, .int 4] (mm I2 J x) = some (some (.int 1), mm I4 J x) := s1
        refine LRes_ok (I' := I4) (J' := J) (f' := x) (q := (i1, mk (i1, s.2.1, s.2.2))) ?_ (by rw [hmk' i1]; exact s2) (lf2.tr s3)
        simp only [eX5_formulaLine, kX5_formulaLine_0, kX5_formulaLine_40, kX5_formulaLine_41, x_no, x_cst, x_ldI, x_ldJ, x_ldA, x_stI, x_stJ, x_stA, x_inc, x_bin, x_un, x_i2l, x_bnJ, x_lshl, x_lcmp, x_dup, x_dp2, x_gI, x_gJ, x_gA, x_pI, x_pZ, x_pJ, x_pA, x_c0, x_c2, x_sw, x_cV, x_cS, x_rV, x_rI, x_rZ, x_rJ, x_mm, x_pop, x_dv, x_al, x_as, x_alJ, x_asJ, x_len, msel, mpl, mvr, mnw, List.getElem?_cons_zero, List.getElem?_cons_succ, List.set_cons_zero, List.set_cons_succ, List.length_cons, List.length_nil, List.drop_succ_cons, List.drop_zero, List.take_succ_cons, List.take_zero, List.reverse_cons, List.reverse_nil, List.nil_append, List.cons_append, List.append_nil, List.map_cons, List.map_nil, List.sum_cons, List.sum_nil, Option.toList_some, Option.toList_none, x_bs, Value.category, decide_eq_true_eq, decide_true, decide_false, if_true, if_false, Bool.false_eq_true, and_self, and_true, true_and, true_or, or_true, not_true_eq_false, not_false_eq_true, ↓reduceIte, reduceCtorEq, Nat.reduceEqDiff, Nat.reduceAdd, Nat.reduceSub, Nat.reduceMul, Nat.reduceLT, Nat.reduceLeDiff, Nat.reduceBEq, Nat.le_refl, Nat.zero_le, Nat.lt_irrefl, beq_self_eq_true, Nat.succ_ne_zero, Option.some.injEq, Prod.mk.injEq, Int32.reduceLT, Int32.reduceLE, y_24, po, z10, uR_mm, uI_mm, k1', s1']
end LineC4
