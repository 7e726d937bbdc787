/-! PURE: the class's Reader: tokens, formulas -/
def RdC (I : Nat → Nat → Int32) (tp : List Nat) (i : Nat) : Prop := TkC I tp ∧ (I 24 4 = nI i ∧ I 24 5 = nI (kn tp i) ∧ I 24 6 = nI (pl tp i)) ∧ i ≤ zl tp
def rf (tp : List Nat) (j : Nat) : Nat × Nat := (if kn tp j = 1 then 1 else 2, pl tp j)
def FtR (I : Nat → Nat → Int32) (e : Nat × Nat) : Prop := I 24 11 = nI e.1 ∧ I 24 12 = nI e.2
theorem TkC_of {I I' : Nat → Nat → Int32} {tp : List Nat} (h : TkC I tp) (hI : ∀ b j, b = 1 ∨ b = 26 ∨ b = 27 ∨ b = 28 → I' b j = I b j) : TkC I' tp := by
  obtain ⟨⟨a1, a2, a3⟩, b1, c1⟩ := h
  refine ⟨⟨by rw [hI 26 3 (by decide)]; exact a1, a2, fun i hi => by rw [hI 1 i (by decide)]; exact a3 i hi⟩, by rw [hI 26 4 (by decide)]; exact b1, fun j hj => ?_⟩
  rw [hI 27 j (by decide), hI 28 j (by decide)]; exact c1 j hj
def avI (I : Nat → Nat → Int32) (tp : List Nat) (j : Nat) : Nat → Nat → Int32 := u2 (u2 (u2 I 24 4 (nI j)) 24 5 (nI (kn tp j))) 24 6 (nI (pl tp j))
section RdCl
variable {n : Nat} {I : Nat → Nat → Int32} {tp : List Nat}
theorem avI_o {j b i : Nat} (h : b ≠ 24) : avI I tp j b i = I b i := by unfold avI; rw [u2_a h, u2_a h, u2_a h]
theorem avI_j {j i : Nat} (h4 : i ≠ 4) (h5 : i ≠ 5) (h6 : i ≠ 6) : avI I tp j 24 i = I 24 i := by unfold avI; rw [u2_j h6, u2_j h5, u2_j h4]
theorem avI_rd {j : Nat} (h : TkC I tp) (hj : j ≤ zl tp) : RdC (avI I tp j) tp j := by
  refine ⟨TkC_of h (fun b i hb => avI_o (by omega)), ⟨?_, ?_, ?_⟩, hj⟩
  · unfold avI; rw [u2_j (by decide), u2_j (by decide), u2_s]
  · unfold avI; rw [u2_j (by decide), u2_s]
  · unfold avI; rw [u2_s]
set_option maxHeartbeats 4000000 in
theorem p_advance (n : Nat) (J : Nat → Nat → Int64) (f : Nat) (h : TkC I tp) {j : Nat} (hi : I 24 4 + 1 = nI j) (hj : j ≤ zl tp) : FX5_advance n [.ref 24] (mm I J f) = some (none, mm (avI I tp j) J f) := by
  obtain ⟨⟨a1, a2, a3⟩, b1, c1⟩ := h
  have hz := (zl_ok tp).1
  obtain ⟨g1, g2⟩ := c1 j hj
  have t1 : ∀ x, u2 I 24 4 x 24 4 = x := fun x => u2_s
  have t2 : ∀ x i, u2 I 24 4 x 26 i = I 26 i := fun x i => u2_a (by decide)
  have t3 : ∀ x i, u2 I 24 4 x 27 i = I 27 i := fun x i => u2_a (by decide)
  have t4 : ∀ x y i, u2 (u2 I 24 4 x) 24 5 y 28 i = I 28 i := fun x y i => by rw [u2_a (by decide), u2_a (by decide)]
  have t5 : ∀ x y, u2 (u2 I 24 4 x) 24 5 y 24 4 = x := fun x y => by rw [u2_j (by decide), u2_s]
  have c0 : ¬ nI j < 0 := nI_pos (by omega)
  have c2 : ¬ nI (zl tp + 1) ≤ nI j := by rw [nI_leI (by omega) (by omega)]; omega
  have c3 : ¬ Int32.ofNat 1601 ≤ nI j := lit_nle (k := 1601) rfl (by decide) (by omega)
  have c4 : (0 : Int32) ≤ nI j := nI_pos' (by omega)
  have c5 : (nI j).toNatClampNeg = j := nI_clamp (by omega)
  have c6 : j < 1601 := by omega
  have q1 : ¬ (1 : Int32) = 0 := by decide
  simp only [eX5_advance, kX5_advance_0, kX5_advance_50, kX5_advance_51, kX5_advance_73, kX5_advance_111, kX5_advance_118, x_no, x_cst, x_ldI, x_ldJ, x_ldA, x_stI, x_stJ, x_stA, x_inc, x_bin, x_un, x_i2l, x_bnJ, x_lshl, x_lcmp, x_dup, x_dp2, x_gI, x_gJ, x_gA, x_pI, x_pZ, x_pJ, x_pA, x_c0, x_c2, x_sw, x_cV, x_cS, x_rV, x_rI, x_rZ, x_rJ, x_mm, x_pop, x_dv, x_al, x_as, x_alJ, x_asJ, x_len, msel, mpl, mvr, mnw, List.getElem?_cons_zero, List.getElem?_cons_succ, List.set_cons_zero, List.set_cons_succ, List.length_cons, List.length_nil, List.drop_succ_cons, List.drop_zero, List.take_succ_cons, List.take_zero, List.reverse_cons, List.reverse_nil, List.nil_append, List.cons_append, List.append_nil, List.map_cons, List.map_nil, List.sum_cons, List.sum_nil, Option.toList_some, Option.toList_none, x_bs, Value.category, decide_eq_true_eq, decide_true, decide_false, if_true, if_false, Bool.false_eq_true, and_self, and_true, true_and, true_or, or_true, not_true_eq_false, not_false_eq_true, ↓reduceIte, reduceCtorEq, Nat.reduceEqDiff, Nat.reduceAdd, Nat.reduceSub, Nat.reduceMul, Nat.reduceLT, Nat.reduceLeDiff, Nat.reduceBEq, Nat.le_refl, Nat.zero_le, Nat.lt_irrefl, beq_self_eq_true, Nat.succ_ne_zero, Option.some.injEq, Prod.mk.injEq, Int32.reduceLT, Int32.reduceLE, y_24, y_26, y_27, y_28, rt_24_0, rt_26_1, rt_26_2, uI_mm, hi, t1, t2, t3, t4, t5, b1, c0, c2, c3, c4, c5, c6, q1, g1, g2]
  rfl
theorem p_adv (n : Nat) (J : Nat → Nat → Int64) (f : Nat) {i : Nat} (h : RdC I tp i) (hk : 2 ≤ kn tp i) : FX5_advance n [.ref 24] (mm I J f) = some (none, mm (avI I tp (i + 1)) J f) ∧ RdC (avI I tp (i + 1)) tp (i + 1) := by
  have hz := zl_next tp h.2.2 hk
  exact ⟨p_advance n J f h.1 (by rw [h.2.1.1, nI_1]) hz, avI_rd h.1 hz⟩
def ftI (I : Nat → Nat → Int32) (e : Nat × Nat) : Nat → Nat → Int32 := u2 (u2 I 24 11 (nI e.1)) 24 12 (nI e.2)
theorem ftI_o {e : Nat × Nat} {b j : Nat} (h : b ≠ 24) : ftI I e b j = I b j := by unfold ftI; rw [u2_a h, u2_a h]
theorem ftI_j {e : Nat × Nat} {j : Nat} (h1 : j ≠ 11) (h2 : j ≠ 12) : ftI I e 24 j = I 24 j := by unfold ftI; rw [u2_j h2, u2_j h1]
theorem ftI_ft (e : Nat × Nat) : FtR (ftI I e) e := ⟨by unfold ftI; rw [u2_j (by decide), u2_s], by unfold ftI; rw [u2_s]⟩
set_option maxHeartbeats 4000000 in
theorem p_refuse (n : Nat) (J : Nat → Nat → Int64) (f : Nat) {i : Nat} (h : RdC I tp i) : FX5_refuse n [.ref 24] (mm I J f) = some (some (.int 0), mm (ftI I (rf tp i)) J f) := by
  obtain ⟨-, ⟨-, h5, h6⟩, -⟩ := h
  have hk := kn_rg tp i
  have t6 : ∀ x, u2 I 24 11 x 24 6 = nI (pl tp i) := fun x => by rw [u2_j (by decide)]; exact h6
  have e1 : nI (kn tp i) = 1 ↔ kn tp i = 1 := nI_eq (by omega) (by decide)
  by_cases e : kn tp i = 1
  · have e' := e1.mpr e
    have er : rf tp i = (1, pl tp i) := by unfold rf; rw [if_pos e]
    simp only [eX5_refuse, kX5_refuse_0, kX5_refuse_14, x_no, x_cst, x_ldI, x_ldJ, x_ldA, x_stI, x_stJ, x_stA, x_inc, x_bin, x_un, x_i2l, x_bnJ, x_lshl, x_lcmp, x_dup, x_dp2, x_gI, x_gJ, x_gA, x_pI, x_pZ, x_pJ, x_pA, x_c0, x_c2, x_sw, x_cV, x_cS, x_rV, x_rI, x_rZ, x_rJ, x_mm, x_pop, x_dv, x_al, x_as, x_alJ, x_asJ, x_len, msel, mpl, mvr, mnw, List.getElem?_cons_zero, List.getElem?_cons_succ, List.set_cons_zero, List.set_cons_succ, List.length_cons, List.length_nil, List.drop_succ_cons, List.drop_zero, List.take_succ_cons, List.take_zero, List.reverse_cons, List.reverse_nil, List.nil_append, List.cons_append, List.append_nil, List.map_cons, List.map_nil, List.sum_cons, List.sum_nil, Option.toList_some, Option.toList_none, x_bs, Value.category, decide_eq_true_eq, decide_true, decide_false, if_true, if_false, Bool.false_eq_true, and_self, and_true, true_and, true_or, or_true, not_true_eq_false, not_false_eq_true, ↓reduceIte, reduceCtorEq, Nat.reduceEqDiff, Nat.reduceAdd, Nat.reduceSub, Nat.reduceMul, Nat.reduceLT, Nat.reduceLeDiff, Nat.reduceBEq, Nat.le_refl, Nat.zero_le, Nat.lt_irrefl, beq_self_eq_true, Nat.succ_ne_zero, Option.some.injEq, Prod.mk.injEq, Int32.reduceLT, Int32.reduceLE, y_24, h5, e', uI_mm, t6, er]
    rfl
  · have er : rf tp i = (2, pl tp i) := by unfold rf; rw [if_neg e]
    simp only [eX5_refuse, kX5_refuse_0, kX5_refuse_14, x_no, x_cst, x_ldI, x_ldJ, x_ldA, x_stI, x_stJ, x_stA, x_inc, x_bin, x_un, x_i2l, x_bnJ, x_lshl, x_lcmp, x_dup, x_dp2, x_gI, x_gJ, x_gA, x_pI, x_pZ, x_pJ, x_pA, x_c0, x_c2, x_sw, x_cV, x_cS, x_rV, x_rI, x_rZ, x_rJ, x_mm, x_pop, x_dv, x_al, x_as, x_alJ, x_asJ, x_len, msel, mpl, mvr, mnw, List.getElem?_cons_zero, List.getElem?_cons_succ, List.set_cons_zero, List.set_cons_succ, List.length_cons, List.length_nil, List.drop_succ_cons, List.drop_zero, List.take_succ_cons, List.take_zero, List.reverse_cons, List.reverse_nil, List.nil_append, List.cons_append, List.append_nil, List.map_cons, List.map_nil, List.sum_cons, List.sum_nil, Option.toList_some, Option.toList_none, x_bs, Value.category, decide_eq_true_eq, decide_true, decide_false, if_true, if_false, Bool.false_eq_true, and_self, and_true, true_and, true_or, or_true, not_true_eq_false, not_false_eq_true, ↓reduceIte, reduceCtorEq, Nat.reduceEqDiff, Nat.reduceAdd, Nat.reduceSub, Nat.reduceMul, Nat.reduceLT, Nat.reduceLeDiff, Nat.reduceBEq, Nat.le_refl, Nat.zero_le, Nat.lt_irrefl, beq_self_eq_true, Nat.succ_ne_zero, Option.some.injEq, Prod.mk.injEq, Int32.reduceLT, Int32.reduceLE, y_24, h5, e1, e, uI_mm, t6, er]
    rfl
theorem p_fail (n : Nat) (J : Nat → Nat → Int64) (f : Nat) (w p : Nat) : FX5_fail n [.ref 24, .int (nI w), .int (nI p)] (mm I J f) = some (some (.int 0), mm (ftI I (w, p)) J f) := by
  simp only [eX5_fail, kX5_fail_0, x_no, x_cst, x_ldI, x_ldJ, x_ldA, x_stI, x_stJ, x_stA, x_inc, x_bin, x_un, x_i2l, x_bnJ, x_lshl, x_lcmp, x_dup, x_dp2, x_gI, x_gJ, x_gA, x_pI, x_pZ, x_pJ, x_pA, x_c0, x_c2, x_sw, x_cV, x_cS, x_rV, x_rI, x_rZ, x_rJ, x_mm, x_pop, x_dv, x_al, x_as, x_alJ, x_asJ, x_len, msel, mpl, mvr, mnw, List.getElem?_cons_zero, List.getElem?_cons_succ, List.set_cons_zero, List.set_cons_succ, List.length_cons, List.length_nil, List.drop_succ_cons, List.drop_zero, List.take_succ_cons, List.take_zero, List.reverse_cons, List.reverse_nil, List.nil_append, List.cons_append, List.append_nil, List.map_cons, List.map_nil, List.sum_cons, List.sum_nil, Option.toList_some, Option.toList_none, x_bs, Value.category, decide_eq_true_eq, decide_true, decide_false, if_true, if_false, Bool.false_eq_true, and_self, and_true, true_and, true_or, or_true, not_true_eq_false, not_false_eq_true, ↓reduceIte, reduceCtorEq, Nat.reduceEqDiff, Nat.reduceAdd, Nat.reduceSub, Nat.reduceMul, Nat.reduceLT, Nat.reduceLeDiff, Nat.reduceBEq, Nat.le_refl, Nat.zero_le, Nat.lt_irrefl, beq_self_eq_true, Nat.succ_ne_zero, Option.some.injEq, Prod.mk.injEq, Int32.reduceLT, Int32.reduceLE, y_24, uI_mm]
  rfl
set_option maxHeartbeats 4000000 in
theorem p_take (n : Nat) (J : Nat → Nat → Int64) (f : Nat) {i : Nat} (h : RdC I tp i) {k : Nat} (hk : 2 ≤ k ∧ k ≤ 33) : FX5_take n [.ref 24, .int (nI k)] (mm I J f) = if kn tp i = k then some (some (.int 1), mm (avI I tp (i + 1)) J f) else some (some (.int 0), mm (ftI I (rf tp i)) J f) := by
  have hk33 := kn_rg tp i
  have h5 := h.2.1.2.1
  have e1 : nI (kn tp i) = nI k ↔ kn tp i = k := nI_eq (by omega) (by omega)
  by_cases e : kn tp i = k
  · have e' := e1.mpr e
    rw [if_pos e]
    simp only [eX5_take, kX5_take_0, x_no, x_cst, x_ldI, x_ldJ, x_ldA, x_stI, x_stJ, x_stA, x_inc, x_bin, x_un, x_i2l, x_bnJ, x_lshl, x_lcmp, x_dup, x_dp2, x_gI, x_gJ, x_gA, x_pI, x_pZ, x_pJ, x_pA, x_c0, x_c2, x_sw, x_cV, x_cS, x_rV, x_rI, x_rZ, x_rJ, x_mm, x_pop, x_dv, x_al, x_as, x_alJ, x_asJ, x_len, msel, mpl, mvr, mnw, List.getElem?_cons_zero, List.getElem?_cons_succ, List.set_cons_zero, List.set_cons_succ, List.length_cons, List.length_nil, List.drop_succ_cons, List.drop_zero, List.take_succ_cons, List.take_zero, List.reverse_cons, List.reverse_nil, List.nil_append, List.cons_append, List.append_nil, List.map_cons, List.map_nil, List.sum_cons, List.sum_nil, Option.toList_some, Option.toList_none, x_bs, Value.category, decide_eq_true_eq, decide_true, decide_false, if_true, if_false, Bool.false_eq_true, and_self, and_true, true_and, true_or, or_true, not_true_eq_false, not_false_eq_true, ↓reduceIte, reduceCtorEq, Nat.reduceEqDiff, Nat.reduceAdd, Nat.reduceSub, Nat.reduceMul, Nat.reduceLT, Nat.reduceLeDiff, Nat.reduceBEq, Nat.le_refl, Nat.zero_le, Nat.lt_irrefl, beq_self_eq_true, Nat.succ_ne_zero, Option.some.injEq, Prod.mk.injEq, Int32.reduceLT, Int32.reduceLE, y_24, h5, e', (p_adv n J f h (by omega)).1]
  · rw [if_neg e]
    simp only [eX5_take, kX5_take_0, x_no, x_cst, x_ldI, x_ldJ, x_ldA, x_stI, x_stJ, x_stA, x_inc, x_bin, x_un, x_i2l, x_bnJ, x_lshl, x_lcmp, x_dup, x_dp2, x_gI, x_gJ, x_gA, x_pI, x_pZ, x_pJ, x_pA, x_c0, x_c2, x_sw, x_cV, x_cS, x_rV, x_rI, x_rZ, x_rJ, x_mm, x_pop, x_dv, x_al, x_as, x_alJ, x_asJ, x_len, msel, mpl, mvr, mnw, List.getElem?_cons_zero, List.getElem?_cons_succ, List.set_cons_zero, List.set_cons_succ, List.length_cons, List.length_nil, List.drop_succ_cons, List.drop_zero, List.take_succ_cons, List.take_zero, List.reverse_cons, List.reverse_nil, List.nil_append, List.cons_append, List.append_nil, List.map_cons, List.map_nil, List.sum_cons, List.sum_nil, Option.toList_some, Option.toList_none, x_bs, Value.category, decide_eq_true_eq, decide_true, decide_false, if_true, if_false, Bool.false_eq_true, and_self, and_true, true_and, true_or, or_true, not_true_eq_false, not_false_eq_true, ↓reduceIte, reduceCtorEq, Nat.reduceEqDiff, Nat.reduceAdd, Nat.reduceSub, Nat.reduceMul, Nat.reduceLT, Nat.reduceLeDiff, Nat.reduceBEq, Nat.le_refl, Nat.zero_le, Nat.lt_irrefl, beq_self_eq_true, Nat.succ_ne_zero, Option.some.injEq, Prod.mk.injEq, Int32.reduceLT, Int32.reduceLE, y_24, h5, e1, e, p_refuse n J f h]
def nuI (I : Nat → Nat → Int32) (tp : List Nat) (i : Nat) : Nat → Nat → Int32 := u2 (u2 I 24 7 (nI (nvt tp i))) 24 8 (nI (pl tp i))
theorem nuI_o {b j i : Nat} (h : b ≠ 24) : nuI I tp i b j = I b j := by unfold nuI; rw [u2_a h, u2_a h]
theorem nuI_j {j i : Nat} (h1 : j ≠ 7) (h2 : j ≠ 8) : nuI I tp i 24 j = I 24 j := by unfold nuI; rw [u2_j h2, u2_j h1]
theorem nuI_rd {i : Nat} (h : RdC I tp i) : RdC (nuI I tp i) tp i := ⟨TkC_of h.1 (fun b j hb => nuI_o (by omega)), by rw [nuI_j (by decide) (by decide), nuI_j (by decide) (by decide), nuI_j (by decide) (by decide)]; exact h.2.1, h.2.2⟩
set_option maxHeartbeats 4000000 in
theorem p_takeNumber (hn : 300 < n) (J : Nat → Nat → Int64) (f : Nat) {i : Nat} (h : RdC I tp i) {lo hi : Nat} (hlo : lo < 2 ^ 31) (hhi : hi < 2 ^ 31) : FX5_takeNumber n [.ref 24, .int (nI lo), .int (nI hi)] (mm I J f) = if kn tp i = 2 then (if lo ≤ nvt tp i ∧ nvt tp i ≤ hi then some (some (.int 1), mm (avI (nuI I tp i) tp (i + 1)) J f) else some (some (.int 0), mm (ftI (nuI I tp i) (4, pl tp i)) J f)) else some (some (.int 0), mm (ftI I (rf tp i)) J f) := by
  have hk33 := kn_rg tp i
  obtain ⟨h4, h5, h6⟩ := h.2.1
  have e1 : nI (kn tp i) = 2 ↔ kn tp i = 2 := nI_eq (by omega) (by decide)
  by_cases e : kn tp i = 2
  · have e' := e1.mpr e
    rw [if_pos e]
    have hv := nvt_le tp e
    have q := p_numberFrom hn J f h.1.1 e
    have t6 : ∀ x, u2 I 24 7 x 24 6 = nI (pl tp i) := fun x => by rw [u2_j (by decide)]; exact h6
    have t7 : nuI I tp i 24 7 = nI (nvt tp i) := by unfold nuI; rw [u2_j (by decide), u2_s]
    have t8 : nuI I tp i 24 6 = nI (pl tp i) := by rw [nuI_j (by decide) (by decide)]; exact h6
    have en : u2 (u2 I 24 7 (nI (nvt tp i))) 24 8 (nI (pl tp i)) = nuI I tp i := rfl
    have c1 : nI (nvt tp i) < nI lo ↔ nvt tp i < lo := nI_ltI (by omega) hlo
    have c2 : nI (nvt tp i) ≤ nI hi ↔ nvt tp i ≤ hi := nI_leI (by omega) hhi
    have pf : FX5_fail n [.ref 24, .int 4, .int (nI (pl tp i))] (mm (nuI I tp i) J f) = some (some (.int 0), mm (ftI (nuI I tp i) (4, pl tp i)) J f) := p_fail n J f 4 (pl tp i)
    by_cases e2 : nvt tp i < lo
    · rw [if_neg (by omega)]
      simp only [eX5_takeNumber, kX5_takeNumber_0, kX5_takeNumber_52, kX5_takeNumber_63, x_no, x_cst, x_ldI, x_ldJ, x_ldA, x_stI, x_stJ, x_stA, x_inc, x_bin, x_un, x_i2l, x_bnJ, x_lshl, x_lcmp, x_dup, x_dp2, x_gI, x_gJ, x_gA, x_pI, x_pZ, x_pJ, x_pA, x_c0, x_c2, x_sw, x_cV, x_cS, x_rV, x_rI, x_rZ, x_rJ, x_mm, x_pop, x_dv, x_al, x_as, x_alJ, x_asJ, x_len, msel, mpl, mvr, mnw, List.getElem?_cons_zero, List.getElem?_cons_succ, List.set_cons_zero, List.set_cons_succ, List.length_cons, List.length_nil, List.drop_succ_cons, List.drop_zero, List.take_succ_cons, List.take_zero, List.reverse_cons, List.reverse_nil, List.nil_append, List.cons_append, List.append_nil, List.map_cons, List.map_nil, List.sum_cons, List.sum_nil, Option.toList_some, Option.toList_none, x_bs, Value.category, decide_eq_true_eq, decide_true, decide_false, if_true, if_false, Bool.false_eq_true, and_self, and_true, true_and, true_or, or_true, not_true_eq_false, not_false_eq_true, ↓reduceIte, reduceCtorEq, Nat.reduceEqDiff, Nat.reduceAdd, Nat.reduceSub, Nat.reduceMul, Nat.reduceLT, Nat.reduceLeDiff, Nat.reduceBEq, Nat.le_refl, Nat.zero_le, Nat.lt_irrefl, beq_self_eq_true, Nat.succ_ne_zero, Option.some.injEq, Prod.mk.injEq, Int32.reduceLT, Int32.reduceLE, y_24, y_26, rt_24_0, h5, e', h6, q, uI_mm, t6, en, t7, t8, c1, e2, pf]
    · by_cases e3 : nvt tp i ≤ hi
      · rw [if_pos (by omega)]
        simp only [eX5_takeNumber, kX5_takeNumber_0, kX5_takeNumber_52, kX5_takeNumber_63, x_no, x_cst, x_ldI, x_ldJ, x_ldA, x_stI, x_stJ, x_stA, x_inc, x_bin, x_un, x_i2l, x_bnJ, x_lshl, x_lcmp, x_dup, x_dp2, x_gI, x_gJ, x_gA, x_pI, x_pZ, x_pJ, x_pA, x_c0, x_c2, x_sw, x_cV, x_cS, x_rV, x_rI, x_rZ, x_rJ, x_mm, x_pop, x_dv, x_al, x_as, x_alJ, x_asJ, x_len, msel, mpl, mvr, mnw, List.getElem?_cons_zero, List.getElem?_cons_succ, List.set_cons_zero, List.set_cons_succ, List.length_cons, List.length_nil, List.drop_succ_cons, List.drop_zero, List.take_succ_cons, List.take_zero, List.reverse_cons, List.reverse_nil, List.nil_append, List.cons_append, List.append_nil, List.map_cons, List.map_nil, List.sum_cons, List.sum_nil, Option.toList_some, Option.toList_none, x_bs, Value.category, decide_eq_true_eq, decide_true, decide_false, if_true, if_false, Bool.false_eq_true, and_self, and_true, true_and, true_or, or_true, not_true_eq_false, not_false_eq_true, ↓reduceIte, reduceCtorEq, Nat.reduceEqDiff, Nat.reduceAdd, Nat.reduceSub, Nat.reduceMul, Nat.reduceLT, Nat.reduceLeDiff, Nat.reduceBEq, Nat.le_refl, Nat.zero_le, Nat.lt_irrefl, beq_self_eq_true, Nat.succ_ne_zero, Option.some.injEq, Prod.mk.injEq, Int32.reduceLT, Int32.reduceLE, y_24, y_26, rt_24_0, h5, e', h6, q, uI_mm, t6, en, t7, t8, c1, c2, e2, e3, (p_adv n J f (nuI_rd h) (by omega)).1]
      · rw [if_neg (by omega)]
        simp only [eX5_takeNumber, kX5_takeNumber_0, kX5_takeNumber_52, kX5_takeNumber_63, x_no, x_cst, x_ldI, x_ldJ, x_ldA, x_stI, x_stJ, x_stA, x_inc, x_bin, x_un, x_i2l, x_bnJ, x_lshl, x_lcmp, x_dup, x_dp2, x_gI, x_gJ, x_gA, x_pI, x_pZ, x_pJ, x_pA, x_c0, x_c2, x_sw, x_cV, x_cS, x_rV, x_rI, x_rZ, x_rJ, x_mm, x_pop, x_dv, x_al, x_as, x_alJ, x_asJ, x_len, msel, mpl, mvr, mnw, List.getElem?_cons_zero, List.getElem?_cons_succ, List.set_cons_zero, List.set_cons_succ, List.length_cons, List.length_nil, List.drop_succ_cons, List.drop_zero, List.take_succ_cons, List.take_zero, List.reverse_cons, List.reverse_nil, List.nil_append, List.cons_append, List.append_nil, List.map_cons, List.map_nil, List.sum_cons, List.sum_nil, Option.toList_some, Option.toList_none, x_bs, Value.category, decide_eq_true_eq, decide_true, decide_false, if_true, if_false, Bool.false_eq_true, and_self, and_true, true_and, true_or, or_true, not_true_eq_false, not_false_eq_true, ↓reduceIte, reduceCtorEq, Nat.reduceEqDiff, Nat.reduceAdd, Nat.reduceSub, Nat.reduceMul, Nat.reduceLT, Nat.reduceLeDiff, Nat.reduceBEq, Nat.le_refl, Nat.zero_le, Nat.lt_irrefl, beq_self_eq_true, Nat.succ_ne_zero, Option.some.injEq, Prod.mk.injEq, Int32.reduceLT, Int32.reduceLE, y_24, y_26, rt_24_0, h5, e', h6, q, uI_mm, t6, en, t7, t8, c1, c2, e2, e3, pf]
  · rw [if_neg e]
    simp only [eX5_takeNumber, kX5_takeNumber_0, kX5_takeNumber_52, kX5_takeNumber_63, x_no, x_cst, x_ldI, x_ldJ, x_ldA, x_stI, x_stJ, x_stA, x_inc, x_bin, x_un, x_i2l, x_bnJ, x_lshl, x_lcmp, x_dup, x_dp2, x_gI, x_gJ, x_gA, x_pI, x_pZ, x_pJ, x_pA, x_c0, x_c2, x_sw, x_cV, x_cS, x_rV, x_rI, x_rZ, x_rJ, x_mm, x_pop, x_dv, x_al, x_as, x_alJ, x_asJ, x_len, msel, mpl, mvr, mnw, List.getElem?_cons_zero, List.getElem?_cons_succ, List.set_cons_zero, List.set_cons_succ, List.length_cons, List.length_nil, List.drop_succ_cons, List.drop_zero, List.take_succ_cons, List.take_zero, List.reverse_cons, List.reverse_nil, List.nil_append, List.cons_append, List.append_nil, List.map_cons, List.map_nil, List.sum_cons, List.sum_nil, Option.toList_some, Option.toList_none, x_bs, Value.category, decide_eq_true_eq, decide_true, decide_false, if_true, if_false, Bool.false_eq_true, and_self, and_true, true_and, true_or, or_true, not_true_eq_false, not_false_eq_true, ↓reduceIte, reduceCtorEq, Nat.reduceEqDiff, Nat.reduceAdd, Nat.reduceSub, Nat.reduceMul, Nat.reduceLT, Nat.reduceLeDiff, Nat.reduceBEq, Nat.le_refl, Nat.zero_le, Nat.lt_irrefl, beq_self_eq_true, Nat.succ_ne_zero, Option.some.injEq, Prod.mk.injEq, Int32.reduceLT, Int32.reduceLE, y_24, h5, e1, e, p_refuse n J f h]
theorem fm_y {f : Nat} (hf : f = 18 ∨ f = 21) : LAY[f]? = some (4, 1) ∧ LAY[f + 1]? = some (0, 300) ∧ RT f f 0 = some (f + 1) := by
  rcases hf with rfl | rfl <;> exact ⟨rfl, rfl, rfl⟩
def adI (I : Nat → Nat → Int32) (f l : Nat) (x : Int32) : Nat → Nat → Int32 := u2 (u2 I (f + 1) l x) f 2 (nI (l + 1))
theorem adI_o {f l b j : Nat} {x : Int32} (h1 : b ≠ f) (h2 : b ≠ f + 1) : adI I f l x b j = I b j := by unfold adI; rw [u2_a h1, u2_a h2]
set_option maxHeartbeats 4000000 in
theorem p_addF (n : Nat) (J : Nat → Nat → Int64) {f : Nat} (hf : f = 18 ∨ f = 21) {l : Nat} (h : I f 2 = nI l) (hl : l < 300) (x : Int32) : FX1_add n [.ref f, .int x] (mm I J f) = some (none, mm (adI I f l x) J f) := by
  obtain ⟨y1, y2, r1⟩ := fm_y hf
  have c1 : ¬ nI l < 0 := nI_pos (by omega)
  have c2 : ¬ Int32.ofNat 300 ≤ nI l := lit_nle (k := 300) rfl (by decide) hl
  have c3 : (0 : Int32) ≤ nI l := nI_pos' (by omega)
  have c4 : (nI l).toNatClampNeg = l := nI_clamp (by omega)
  have e1 : ∀ x i, u2 I (f + 1) l x f i = I f i := fun x i => u2_a (by omega)
  simp only [eX1_add, kX1_add_0, kX1_add_39, x_no, x_cst, x_ldI, x_ldJ, x_ldA, x_stI, x_stJ, x_stA, x_inc, x_bin, x_un, x_i2l, x_bnJ, x_lshl, x_lcmp, x_dup, x_dp2, x_gI, x_gJ, x_gA, x_pI, x_pZ, x_pJ, x_pA, x_c0, x_c2, x_sw, x_cV, x_cS, x_rV, x_rI, x_rZ, x_rJ, x_mm, x_pop, x_dv, x_al, x_as, x_alJ, x_asJ, x_len, msel, mpl, mvr, mnw, List.getElem?_cons_zero, List.getElem?_cons_succ, List.set_cons_zero, List.set_cons_succ, List.length_cons, List.length_nil, List.drop_succ_cons, List.drop_zero, List.take_succ_cons, List.take_zero, List.reverse_cons, List.reverse_nil, List.nil_append, List.cons_append, List.append_nil, List.map_cons, List.map_nil, List.sum_cons, List.sum_nil, Option.toList_some, Option.toList_none, x_bs, Value.category, decide_eq_true_eq, decide_true, decide_false, if_true, if_false, Bool.false_eq_true, and_self, and_true, true_and, true_or, or_true, not_true_eq_false, not_false_eq_true, ↓reduceIte, reduceCtorEq, Nat.reduceEqDiff, Nat.reduceAdd, Nat.reduceSub, Nat.reduceMul, Nat.reduceLT, Nat.reduceLeDiff, Nat.reduceBEq, Nat.le_refl, Nat.zero_le, Nat.lt_irrefl, beq_self_eq_true, Nat.succ_ne_zero, Option.some.injEq, Prod.mk.injEq, Int32.reduceLT, Int32.reduceLE, y1, r1, y2, h, c1, c2, c3, c4, hl, uI_mm, e1, nI_1]
  rfl
theorem FC_add {f : Nat} {cs : List (Nat × Nat)} (t : Nat × Nat) (h : FC I f cs) (hl : cs.length < 300) : FC (adI I f cs.length (cc1 t)) f (cs ++ [t]) := by
  obtain ⟨h1, h2, h3⟩ := h
  refine ⟨by unfold adI; rw [u2_s]; simp, by simp; omega, fun i hi => ?_⟩
  unfold adI
  rw [u2_a (by omega)]
  by_cases e : i = cs.length
  · subst e
    rw [u2_s]; simp
  · simp only [List.length_append, List.length_cons, List.length_nil] at hi
    rw [u2_j e, h3 i (by omega), List.getD_eq_getElem?_getD, List.getD_eq_getElem?_getD, List.getElem?_append_left (by omega)]
theorem FC_fr {I' : Nat → Nat → Int32} {f : Nat} {cs : List (Nat × Nat)} (h : FC I f cs) (hI : ∀ b j, b = f ∨ b = f + 1 → I' b j = I b j) : FC I' f cs := ⟨by rw [hI _ _ (Or.inl rfl)]; exact h.1, h.2.1, fun i hi => by rw [hI _ _ (Or.inr rfl)]; exact h.2.2 i hi⟩
set_option maxHeartbeats 4000000 in
theorem p_levelOf (n : Nat) {k : Nat} (hk : k ≤ 33) (μ : mM) : FX5_levelOf n [.int (nI k)] μ = some (some (.int (if lev k = 9 then -1 else nI (lev k))), μ) := by
  rcases (show k = 0 ∨ k = 1 ∨ k = 2 ∨ k = 3 ∨ k = 4 ∨ k = 5 ∨ k = 6 ∨ k = 7 ∨ k = 8 ∨ k = 9 ∨ k = 10 ∨ k = 11 ∨ k = 12 ∨ k = 13 ∨ k = 14 ∨ k = 15 ∨ k = 16 ∨ k = 17 ∨ k = 18 ∨ k = 19 ∨ k = 20 ∨ k = 21 ∨ k = 22 ∨ k = 23 ∨ k = 24 ∨ k = 25 ∨ k = 26 ∨ k = 27 ∨ k = 28 ∨ k = 29 ∨ k = 30 ∨ k = 31 ∨ k = 32 ∨ k = 33 by omega) with rfl | rfl | rfl | rfl | rfl | rfl | rfl | rfl | rfl | rfl | rfl | rfl | rfl | rfl | rfl | rfl | rfl | rfl | rfl | rfl | rfl | rfl | rfl | rfl | rfl | rfl | rfl | rfl | rfl | rfl | rfl | rfl | rfl | rfl <;> rfl
end RdCl
