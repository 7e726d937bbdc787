/-! PURE: the class's jam -/
section JamC
variable {n : Nat} {I : Nat → Nat → Int32} {J : Nat → Nat → Int64} {tp : List Nat} {D : DR} {A : AS}
def fcI (I : Nat → Nat → Int32) (d s : Nat) : Nat → Nat → Int32 := cp (u2 I d 2 (I s 2)) (s + 1) (d + 1) 300
theorem p_Fcopy (hn : 300 < n) (f : Nat) {d s : Nat} (h : (d = 7 ∧ s = 18) ∨ (d = 10 ∧ s = 21)) : FX1_copyFrom n [.ref d, .ref s] (mm I J f) = some (none, mm (fcI I d s) J f) := by
  rcases h with ⟨rfl, rfl⟩ | ⟨rfl, rfl⟩
  · have pc := p_copyRow hn (by decide) y_19 y_8 (by decide) (u2 I 7 2 (I 18 2)) J f
    simp only [eX1_copyFrom, kX1_copyFrom_0, x_no, x_cst, x_ldI, x_ldJ, x_ldA, x_stI, x_stJ, x_stA, x_inc, x_bin, x_un, x_i2l, x_bnJ, x_lshl, x_lcmp, x_dup, x_dp2, x_gI, x_gJ, x_gA, x_pI, x_pZ, x_pJ, x_pA, x_c0, x_c2, x_sw, x_cV, x_cS, x_rV, x_rI, x_rZ, x_rJ, x_mm, x_pop, x_dv, x_al, x_as, x_alJ, x_asJ, x_len, msel, mpl, mvr, mnw, List.getElem?_cons_zero, List.getElem?_cons_succ, List.set_cons_zero, List.set_cons_succ, List.length_cons, List.length_nil, List.drop_succ_cons, List.drop_zero, List.take_succ_cons, List.take_zero, List.reverse_cons, List.reverse_nil, List.nil_append, List.cons_append, List.append_nil, List.map_cons, List.map_nil, List.sum_cons, List.sum_nil, Option.toList_some, Option.toList_none, x_bs, Value.category, decide_eq_true_eq, decide_true, decide_false, if_true, if_false, Bool.false_eq_true, and_self, and_true, true_and, true_or, or_true, not_true_eq_false, not_false_eq_true, ↓reduceIte, reduceCtorEq, Nat.reduceEqDiff, Nat.reduceAdd, Nat.reduceSub, Nat.reduceMul, Nat.reduceLT, Nat.reduceLeDiff, Nat.reduceBEq, Nat.le_refl, Nat.zero_le, Nat.lt_irrefl, beq_self_eq_true, Nat.succ_ne_zero, Option.some.injEq, Prod.mk.injEq, Int32.reduceLT, Int32.reduceLE, y_7, y_18, rt_7_0, rt_18_0, uI_mm, pc]
    rfl
  · have pc := p_copyRow hn (by decide) y_22 y_11 (by decide) (u2 I 10 2 (I 21 2)) J f
    simp only [eX1_copyFrom, kX1_copyFrom_0, x_no, x_cst, x_ldI, x_ldJ, x_ldA, x_stI, x_stJ, x_stA, x_inc, x_bin, x_un, x_i2l, x_bnJ, x_lshl, x_lcmp, x_dup, x_dp2, x_gI, x_gJ, x_gA, x_pI, x_pZ, x_pJ, x_pA, x_c0, x_c2, x_sw, x_cV, x_cS, x_rV, x_rI, x_rZ, x_rJ, x_mm, x_pop, x_dv, x_al, x_as, x_alJ, x_asJ, x_len, msel, mpl, mvr, mnw, List.getElem?_cons_zero, List.getElem?_cons_succ, List.set_cons_zero, List.set_cons_succ, List.length_cons, List.length_nil, List.drop_succ_cons, List.drop_zero, List.take_succ_cons, List.take_zero, List.reverse_cons, List.reverse_nil, List.nil_append, List.cons_append, List.append_nil, List.map_cons, List.map_nil, List.sum_cons, List.sum_nil, Option.toList_some, Option.toList_none, x_bs, Value.category, decide_eq_true_eq, decide_true, decide_false, if_true, if_false, Bool.false_eq_true, and_self, and_true, true_and, true_or, or_true, not_true_eq_false, not_false_eq_true, ↓reduceIte, reduceCtorEq, Nat.reduceEqDiff, Nat.reduceAdd, Nat.reduceSub, Nat.reduceMul, Nat.reduceLT, Nat.reduceLeDiff, Nat.reduceBEq, Nat.le_refl, Nat.zero_le, Nat.lt_irrefl, beq_self_eq_true, Nat.succ_ne_zero, Option.some.injEq, Prod.mk.injEq, Int32.reduceLT, Int32.reduceLE, y_10, y_21, rt_10_0, rt_21_0, uI_mm, pc]
    rfl
theorem fc_FC {d s : Nat} {c : List (Nat × Nat)} (h : FC I s c) (h1 : d + 1 < s) : FC (fcI I d s) d c := by
  refine ⟨?_, h.2.1, fun i hi => ?_⟩
  · unfold fcI; rw [cp_o (by omega), u2_s]; exact h.1
  · unfold fcI; rw [cp_d (by have := h.2.1; omega), u2_a (by omega)]; exact h.2.2 i hi
theorem fc_o {d s b j : Nat} (h1 : b ≠ d) (h2 : b ≠ d + 1) : fcI I d s b j = I b j := by unfold fcI; rw [cp_o h2, u2_a h1]
def jcI (I : Nat → Nat → Int32) : Nat → Nat → Int32 := cp (cp (cp (cp (u2 (u2 (u2 (u2 (u2 (u2 I 2 0 (I 13 0)) 2 1 (I 13 1)) 2 2 (I 13 2)) 2 3 (I 13 3)) 2 4 (I 13 4)) 2 5 (I 13 5)) 14 3 8) 15 4 8) 16 5 8) 17 6 8
theorem jc_o {b j : Nat} (h : b < 2 ∨ 6 < b) : jcI I b j = I b j := by
  unfold jcI
  rw [cp_o (by omega), cp_o (by omega), cp_o (by omega), cp_o (by omega), u2_a (by omega), u2_a (by omega), u2_a (by omega), u2_a (by omega), u2_a (by omega), u2_a (by omega)]
set_option maxHeartbeats 8000000 in
theorem p_Jcopy (hn : 300 < n) (f : Nat) (h : DC I J tp D) (h8 : (dc D).length ≤ 8) : ∃ I', FX4_copyFrom n [.ref 2, .ref 13] (mm I J f) = some (none, mm I' J f) ∧ TC I' (mkT D) ∧ ∀ b j, b < 2 ∨ 11 < b → I' b j = I b j := by
  obtain ⟨⟨a1, a2, a3, a4, a5, a6⟩, b1, c1, c2, e1⟩ := h
  refine ⟨fcI (fcI (jcI I) 7 18) 10 21, ?_, ⟨⟨?_, ?_, ?_, ?_, ?_, ?_⟩, fun j hj => ?_, ?_, ?_⟩, fun b j hb => ?_⟩
  · have c13 : ∀ (I' : Nat → Nat → Int32) k x j, u2 I' 2 k x 13 j = I' 13 j := fun I' k x j => u2_a (by decide)
    have pc1 := fun I' : Nat → Nat → Int32 => p_copyRow (n := n) (N := 8) (by omega) (by decide) y_14 y_3 (by decide) I' J f
    have pc2 := fun I' : Nat → Nat → Int32 => p_copyRow (n := n) (N := 8) (by omega) (by decide) y_15 y_4 (by decide) I' J f
    have pc3 := fun I' : Nat → Nat → Int32 => p_copyRow (n := n) (N := 8) (by omega) (by decide) y_16 y_5 (by decide) I' J f
    have pc4 := fun I' : Nat → Nat → Int32 => p_copyRow (n := n) (N := 8) (by omega) (by decide) y_17 y_6 (by decide) I' J f
    have pf1 := fun I' : Nat → Nat → Int32 => p_Fcopy (I := I') (J := J) hn f (Or.inl ⟨rfl, rfl⟩)
    have pf2 := fun I' : Nat → Nat → Int32 => p_Fcopy (I := I') (J := J) hn f (Or.inr ⟨rfl, rfl⟩)
    simp only [eX4_copyFrom, kX4_copyFrom_0, kX4_copyFrom_48, kX4_copyFrom_100, x_no, x_cst, x_ldI, x_ldJ, x_ldA, x_stI, x_stJ, x_stA, x_inc, x_bin, x_un, x_i2l, x_bnJ, x_lshl, x_lcmp, x_dup, x_dp2, x_gI, x_gJ, x_gA, x_pI, x_pZ, x_pJ, x_pA, x_c0, x_c2, x_sw, x_cV, x_cS, x_rV, x_rI, x_rZ, x_rJ, x_mm, x_pop, x_dv, x_al, x_as, x_alJ, x_asJ, x_len, msel, mpl, mvr, mnw, List.getElem?_cons_zero, List.getElem?_cons_succ, List.set_cons_zero, List.set_cons_succ, List.length_cons, List.length_nil, List.drop_succ_cons, List.drop_zero, List.take_succ_cons, List.take_zero, List.reverse_cons, List.reverse_nil, List.nil_append, List.cons_append, List.append_nil, List.map_cons, List.map_nil, List.sum_cons, List.sum_nil, Option.toList_some, Option.toList_none, x_bs, Value.category, decide_eq_true_eq, decide_true, decide_false, if_true, if_false, Bool.false_eq_true, and_self, and_true, true_and, true_or, or_true, not_true_eq_false, not_false_eq_true, ↓reduceIte, reduceCtorEq, Nat.reduceEqDiff, Nat.reduceAdd, Nat.reduceSub, Nat.reduceMul, Nat.reduceLT, Nat.reduceLeDiff, Nat.reduceBEq, Nat.le_refl, Nat.zero_le, Nat.lt_irrefl, beq_self_eq_true, Nat.succ_ne_zero, Option.some.injEq, Prod.mk.injEq, Int32.reduceLT, Int32.reduceLE, y_2, y_13, rt_2_6, rt_2_7, rt_2_8, rt_2_9, rt_2_10, rt_2_11, rt_13_6, rt_13_7, rt_13_8, rt_13_9, rt_13_10, rt_13_11, uI_mm, c13, pc1, pc2, pc3, pc4, pf1, pf2]
    rfl
  · rw [fc_o (by decide) (by decide), fc_o (by decide) (by decide)]; unfold jcI; rw [cp_o (by decide), cp_o (by decide), cp_o (by decide), cp_o (by decide), u2_j (by decide), u2_j (by decide), u2_j (by decide), u2_j (by decide), u2_j (by decide), u2_s]; exact a1
  · rw [fc_o (by decide) (by decide), fc_o (by decide) (by decide)]; unfold jcI; rw [cp_o (by decide), cp_o (by decide), cp_o (by decide), cp_o (by decide), u2_j (by decide), u2_j (by decide), u2_j (by decide), u2_j (by decide), u2_s]; exact a2
  · rw [fc_o (by decide) (by decide), fc_o (by decide) (by decide)]; unfold jcI; rw [cp_o (by decide), cp_o (by decide), cp_o (by decide), cp_o (by decide), u2_j (by decide), u2_j (by decide), u2_j (by decide), u2_s]; exact a3
  · rw [fc_o (by decide) (by decide), fc_o (by decide) (by decide)]; unfold jcI; rw [cp_o (by decide), cp_o (by decide), cp_o (by decide), cp_o (by decide), u2_j (by decide), u2_j (by decide), u2_s]; exact a4
  · rw [fc_o (by decide) (by decide), fc_o (by decide) (by decide)]; unfold jcI; rw [cp_o (by decide), cp_o (by decide), cp_o (by decide), cp_o (by decide), u2_j (by decide), u2_s]; exact a5
  · rw [fc_o (by decide) (by decide), fc_o (by decide) (by decide)]; unfold jcI; rw [cp_o (by decide), cp_o (by decide), cp_o (by decide), cp_o (by decide), u2_s]; exact a6
  · have hj : j < (dc D).length := hj
    have hj8 : j < 8 := by omega
    obtain ⟨⟨q1, q2, q3, q4⟩, -⟩ := b1 j hj
    have hm : (dc D)[j]? = some (dc D)[j] := List.getElem?_eq_getElem hj
    have hg : (dc D).getD j ce0 = (dc D)[j] := by rw [List.getD_eq_getElem?_getD, hm]; rfl
    rw [hg] at q1 q2 q3 q4
    have s1 : scl (mkS D) j = some (dc D)[j].2.1 := by show ((dc D)[j]?).map (fun e => e.2.1) = _; rw [hm]; rfl
    have s2 : shd (mkS D) j = (dc D)[j].2.2.1 := by show (((dc D)[j]?).map (fun e => e.2.2.1)).getD 0 = _; rw [hm]; rfl
    have s3 : sho (mkS D) j = (dc D)[j].2.2.2.1 := by show (((dc D)[j]?).map (fun e => e.2.2.2.1)).getD 0 = _; rw [hm]; rfl
    have s4 : sbo (mkS D) j = (dc D)[j].2.2.2.2 := by show (((dc D)[j]?).map (fun e => e.2.2.2.2)).getD 0 = _; rw [hm]; rfl
    show fcI (fcI (jcI I) 7 18) 10 21 3 j = oc (scl (mkS D) j) ∧ fcI (fcI (jcI I) 7 18) 10 21 4 j = nI (shd (mkS D) j) ∧ fcI (fcI (jcI I) 7 18) 10 21 5 j = nI (sho (mkS D) j) ∧ fcI (fcI (jcI I) 7 18) 10 21 6 j = nI (sbo (mkS D) j)
    rw [s1, s2, s3, s4]
    refine ⟨?_, ?_, ?_, ?_⟩
    · rw [fc_o (by decide) (by decide), fc_o (by decide) (by decide)]; unfold jcI; rw [cp_o (by decide), cp_o (by decide), cp_o (by decide), cp_d hj8, u2_a (by decide), u2_a (by decide), u2_a (by decide), u2_a (by decide), u2_a (by decide), u2_a (by decide)]; exact q1
    · rw [fc_o (by decide) (by decide), fc_o (by decide) (by decide)]; unfold jcI; rw [cp_o (by decide), cp_o (by decide), cp_d hj8, cp_o (by decide), u2_a (by decide), u2_a (by decide), u2_a (by decide), u2_a (by decide), u2_a (by decide), u2_a (by decide)]; exact q2
    · rw [fc_o (by decide) (by decide), fc_o (by decide) (by decide)]; unfold jcI; rw [cp_o (by decide), cp_d hj8, cp_o (by decide), cp_o (by decide), u2_a (by decide), u2_a (by decide), u2_a (by decide), u2_a (by decide), u2_a (by decide), u2_a (by decide)]; exact q3
    · rw [fc_o (by decide) (by decide), fc_o (by decide) (by decide)]; unfold jcI; rw [cp_d hj8, cp_o (by decide), cp_o (by decide), cp_o (by decide), u2_a (by decide), u2_a (by decide), u2_a (by decide), u2_a (by decide), u2_a (by decide), u2_a (by decide)]; exact q4
  · refine FC_fr (fc_FC (FC_fr c1 (fun b j hb => jc_o (by omega))) (by decide)) (fun b j hb => fc_o (by omega) (by omega))
  · refine fc_FC (FC_fr c2 (fun b j hb => ?_)) (by decide)
    rw [fc_o (by omega) (by omega), jc_o (by omega)]
  · rw [fc_o (by omega) (by omega), fc_o (by omega) (by omega), jc_o (by omega)]
def bxI (I : Nat → Nat → Int32) (q : Nat) : Nat → Nat → Int32 := fun b j => if b = 59 ∧ j < q then 0 else I b j
theorem bx_o {q b j : Nat} (h : b ≠ 59) : bxI I q b j = I b j := by simp [bxI, h]
theorem bx_s {q : Nat} : u2 (bxI I q) 59 q 0 = bxI I (q + 1) := by
  funext b j
  unfold bxI u2
  by_cases h : b = 59
  · by_cases h2 : j = q
    · simp [h, h2]
    · have : j < q + 1 ↔ j < q := by omega
      simp [h, h2, this]
  · simp [h]
theorem p_jloop (hn : 300 < n) (f : Nat) (x : Int32) : mit (kX11_jam_64 n) n [some (.ref 0), some (.int x), some (.int 0)] [] (mm I J f) = some (some (.int (I 2 2)), mm (bxI I 3) J f) := by
  have e0 : bxI I 0 = I := by funext b j; simp [bxI]
  have := mit_for (G := kX11_jam_64 n) (fun q => [some (.ref 0), some (.int x), some (.int (nI q))]) (fun q => mm (bxI I q) J f) (B := 3) (n := n) (v := some (some (.int (I 2 2)), mm (bxI I 3) J f)) (fun q hq r => ?_) (by omega) (fun r => ?_)
  · simp only [e0] at this
    exact this
  · have c1 : ¬ Int32.ofNat 3 ≤ nI q := by rw [show Int32.ofNat 3 = nI 3 from rfl, nI_leI (by decide) (by omega)]; omega
    have c2 : nI q < Int32.ofNat 3 := lit_lt (k := 3) rfl (by decide) hq
    have c3 : (0 : Int32) ≤ nI q := nI_pos' (by omega)
    have c4 : (nI q).toNatClampNeg = q := nI_clamp (by omega)
    have c5 : (0 : Int32) &&& 1 = 0 := by decide
    have c6 : ¬ nI q < 0 := nI_pos (by omega)
    have c7 : ¬ Int32.ofNat 3 ≤ nI q := c1
    simp only [kX11_jam_64, x_no, x_cst, x_ldI, x_ldJ, x_ldA, x_stI, x_stJ, x_stA, x_inc, x_bin, x_un, x_i2l, x_bnJ, x_lshl, x_lcmp, x_dup, x_dp2, x_gI, x_gJ, x_gA, x_pI, x_pZ, x_pJ, x_pA, x_c0, x_c2, x_sw, x_cV, x_cS, x_rV, x_rI, x_rZ, x_rJ, x_mm, x_pop, x_dv, x_al, x_as, x_alJ, x_asJ, x_len, msel, mpl, mvr, mnw, List.getElem?_cons_zero, List.getElem?_cons_succ, List.set_cons_zero, List.set_cons_succ, List.length_cons, List.length_nil, List.drop_succ_cons, List.drop_zero, List.take_succ_cons, List.take_zero, List.reverse_cons, List.reverse_nil, List.nil_append, List.cons_append, List.append_nil, List.map_cons, List.map_nil, List.sum_cons, List.sum_nil, Option.toList_some, Option.toList_none, x_bs, Value.category, decide_eq_true_eq, decide_true, decide_false, if_true, if_false, Bool.false_eq_true, and_self, and_true, true_and, true_or, or_true, not_true_eq_false, not_false_eq_true, ↓reduceIte, reduceCtorEq, Nat.reduceEqDiff, Nat.reduceAdd, Nat.reduceSub, Nat.reduceMul, Nat.reduceLT, Nat.reduceLeDiff, Nat.reduceBEq, Nat.le_refl, Nat.zero_le, Nat.lt_irrefl, beq_self_eq_true, Nat.succ_ne_zero, Option.some.injEq, Prod.mk.injEq, Int32.reduceLT, Int32.reduceLE, y_0, y_59, rt_0_15, c1, c2, c3, c4, c5, c6, hq, uI_mm, bx_s, nI_1]
  · have c1 : Int32.ofNat 3 ≤ nI 3 := by decide
    simp only [kX11_jam_64, x_no, x_cst, x_ldI, x_ldJ, x_ldA, x_stI, x_stJ, x_stA, x_inc, x_bin, x_un, x_i2l, x_bnJ, x_lshl, x_lcmp, x_dup, x_dp2, x_gI, x_gJ, x_gA, x_pI, x_pZ, x_pJ, x_pA, x_c0, x_c2, x_sw, x_cV, x_cS, x_rV, x_rI, x_rZ, x_rJ, x_mm, x_pop, x_dv, x_al, x_as, x_alJ, x_asJ, x_len, msel, mpl, mvr, mnw, List.getElem?_cons_zero, List.getElem?_cons_succ, List.set_cons_zero, List.set_cons_succ, List.length_cons, List.length_nil, List.drop_succ_cons, List.drop_zero, List.take_succ_cons, List.take_zero, List.reverse_cons, List.reverse_nil, List.nil_append, List.cons_append, List.append_nil, List.map_cons, List.map_nil, List.sum_cons, List.sum_nil, Option.toList_some, Option.toList_none, x_bs, Value.category, decide_eq_true_eq, decide_true, decide_false, if_true, if_false, Bool.false_eq_true, and_self, and_true, true_and, true_or, or_true, not_true_eq_false, not_false_eq_true, ↓reduceIte, reduceCtorEq, Nat.reduceEqDiff, Nat.reduceAdd, Nat.reduceSub, Nat.reduceMul, Nat.reduceLT, Nat.reduceLeDiff, Nat.reduceBEq, Nat.le_refl, Nat.zero_le, Nat.lt_irrefl, beq_self_eq_true, Nat.succ_ne_zero, Option.some.injEq, Prod.mk.injEq, Int32.reduceLT, Int32.reduceLE, y_0, y_2, y_59, rt_0_2, rt_0_15, c1, bx_o (show 2 ≠ 59 by decide)]
/-- what jam comes to -/
def jamR (A : AS) : EX2 DR := readP (aTp A) (zl (aTp A) + 2) 0 dr0
def aJam (A : AS) : Int32 := match jamR A with
  | .error _ => -1
  | .ok D => nI (dc D).length
def sJam (A : AS) : AS := match jamR A with
  | .error e => (aT A, aS A, aH A, aN A, aL A, aHd A, aTm A, aB A, [], e.1, some e.2)
  | .ok D => (mkT D, mkS D, [mkS D], 0, [], [], aTm A, fun _ => none, [], 0, none)
theorem p_forget (n : Nat) (f : Nat) : FX2_forget n [.ref 46] (mm I J f) = some (none, mm (u2 (u2 I 46 6 0) 46 9 0) J f) := by
  have c5 : (0 : Int32) &&& 1 = 0 := by decide
  simp only [eX2_forget, kX2_forget_0, x_no, x_cst, x_ldI, x_ldJ, x_ldA, x_stI, x_stJ, x_stA, x_inc, x_bin, x_un, x_i2l, x_bnJ, x_lshl, x_lcmp, x_dup, x_dp2, x_gI, x_gJ, x_gA, x_pI, x_pZ, x_pJ, x_pA, x_c0, x_c2, x_sw, x_cV, x_cS, x_rV, x_rI, x_rZ, x_rJ, x_mm, x_pop, x_dv, x_al, x_as, x_alJ, x_asJ, x_len, msel, mpl, mvr, mnw, List.getElem?_cons_zero, List.getElem?_cons_succ, List.set_cons_zero, List.set_cons_succ, List.length_cons, List.length_nil, List.drop_succ_cons, List.drop_zero, List.take_succ_cons, List.take_zero, List.reverse_cons, List.reverse_nil, List.nil_append, List.cons_append, List.append_nil, List.map_cons, List.map_nil, List.sum_cons, List.sum_nil, Option.toList_some, Option.toList_none, x_bs, Value.category, decide_eq_true_eq, decide_true, decide_false, if_true, if_false, Bool.false_eq_true, and_self, and_true, true_and, true_or, or_true, not_true_eq_false, not_false_eq_true, ↓reduceIte, reduceCtorEq, Nat.reduceEqDiff, Nat.reduceAdd, Nat.reduceSub, Nat.reduceMul, Nat.reduceLT, Nat.reduceLeDiff, Nat.reduceBEq, Nat.le_refl, Nat.zero_le, Nat.lt_irrefl, beq_self_eq_true, Nat.succ_ne_zero, Option.some.injEq, Prod.mk.injEq, Int32.reduceLT, Int32.reduceLE, y_46, uI_mm, c5]
set_option maxHeartbeats 8000000 in
theorem c_jam (hn : 2000 < n) (J : Nat → Nat → Int64) (f : Nat) (h : RC I A) : ∃ I' J' f', FX11_jam n [.ref 0] (mm I J f) = some (some (.int (aJam A)), mm I' J' f') ∧ RC I' (sJam A) ∧ lo I I' := by
  obtain ⟨h1, h2, h3, h4, h5, h6, h7, h8⟩ := h
  have z10 : ¬ (1 : Int32) = 0 := by decide
  have pr := p_reads (n := n) (I := u2 I 0 1 0) (J := J) (tp := aTp A) hn f h7.2.1 (fun i hi => by rw [u2_a (by decide)]; exact h7.2.2 i hi)
  have t1 := h7.1
  unfold sJam aJam jamR
  cases hr : readP (aTp A) (zl (aTp A) + 2) 0 dr0 with
  | error e =>
    obtain ⟨I1, J1, f1, k1, k2, k3⟩ := pr.1 e hr
    have fr : ∀ b j, b ≠ 0 → b < 13 ∨ 28 < b → I1 b j = I b j := fun b j b0 hb => by rw [k3 b j hb, u2_a b0]
    refine ⟨I1, J1, f1, ?_, ⟨SO_fr h1 (fun b j hb => fr b j (by omega) (by omega)), h2, HiC_of h3 (fun b j hb => fr b j (by omega) (by omega)), RowC_of h4 (fun b j hb => fr b j (by omega) (by omega)), HC_of h5 (fun b j b1 b2 => fr b j (by omega) (by omega)), BxC_of h6 (fun b j hb => fr b j (by omega) (by omega)), ⟨by rw [k3 0 1 (by decide), u2_s]; rfl, Nat.zero_le _, fun i hi => absurd hi (by show ¬ i < 0; omega)⟩, k2.1, k2.2⟩, fun b j hb => fr b j (by omega) (by omega)⟩
    simp only [eX11_jam, kX11_jam_0, x_no, x_cst, x_ldI, x_ldJ, x_ldA, x_stI, x_stJ, x_stA, x_inc, x_bin, x_un, x_i2l, x_bnJ, x_lshl, x_lcmp, x_dup, x_dp2, x_gI, x_gJ, x_gA, x_pI, x_pZ, x_pJ, x_pA, x_c0, x_c2, x_sw, x_cV, x_cS, x_rV, x_rI, x_rZ, x_rJ, x_mm, x_pop, x_dv, x_al, x_as, x_alJ, x_asJ, x_len, msel, mpl, mvr, mnw, List.getElem?_cons_zero, List.getElem?_cons_succ, List.set_cons_zero, List.set_cons_succ, List.length_cons, List.length_nil, List.drop_succ_cons, List.drop_zero, List.take_succ_cons, List.take_zero, List.reverse_cons, List.reverse_nil, List.nil_append, List.cons_append, List.append_nil, List.map_cons, List.map_nil, List.sum_cons, List.sum_nil, Option.toList_some, Option.toList_none, x_bs, Value.category, decide_eq_true_eq, decide_true, decide_false, if_true, if_false, Bool.false_eq_true, and_self, and_true, true_and, true_or, or_true, not_true_eq_false, not_false_eq_true, ↓reduceIte, reduceCtorEq, Nat.reduceEqDiff, Nat.reduceAdd, Nat.reduceSub, Nat.reduceMul, Nat.reduceLT, Nat.reduceLeDiff, Nat.reduceBEq, Nat.le_refl, Nat.zero_le, Nat.lt_irrefl, beq_self_eq_true, Nat.succ_ne_zero, Option.some.injEq, Prod.mk.injEq, Int32.reduceLT, Int32.reduceLE, y_0, y_24, rt_0_4, t1, uI_mm, k1, not_true_eq_false]
  | ok D =>
    obtain ⟨I1, J1, f1, k1, k2, k3, k4, k5⟩ := pr.2 D hr
    obtain ⟨I2, l1, l2, l3⟩ := p_Jcopy (n := n) (by omega) f1 k2 k4.2.2.2.1
    obtain ⟨m1, m2⟩ := mkT_rg k4
    obtain ⟨I3, o1, o2, o3⟩ := p_lay (n := n) (by omega) J1 f1 m1 l2
    have o2' : SO I3 29 (mkT D) (mkS D) := o2
    obtain ⟨I4, q1, q2, q3⟩ := p_beginH (n := n) (by omega) J1 f1 o2' m2
    have pf := p_forget (I := I4) (J := J1) n f1
    have pc := p_clear n J1 f1 (u2 (u2 I4 46 6 0) 46 9 0)
    obtain ⟨I5, hI5⟩ : ∃ I5, I5 = u2 (u2 (u2 I4 46 6 0) 46 9 0) 55 1 0 := ⟨_, rfl⟩
    rw [← hI5] at pc
    have pj := p_jloop (n := n) (I := I5) (J := J1) (by omega) f1 (nI (aTp A).length)
    have f5 : ∀ b j, b ≠ 46 → b ≠ 55 → I5 b j = I4 b j := fun b j b1 b2 => by rw [hI5, u2_a b2, u2_a b1, u2_a b1]
    have f35 : ∀ b j, b ≠ 46 → b ≠ 55 → b ≠ 44 → b ≠ 45 → b ≠ 59 → bxI I5 3 b j = I3 b j := fun b j b1 b2 b3 b4 b5 => by rw [bx_o b5, f5 b j b1 b2, q3 b j b3 b4]
    have f15 : ∀ b j, b < 2 ∨ (11 < b ∧ b < 29) ∨ (33 < b ∧ b ≠ 46 ∧ b ≠ 55 ∧ b ≠ 44 ∧ b ≠ 45 ∧ b ≠ 59) → bxI I5 3 b j = I1 b j := fun b j hb => by
      rw [f35 b j (by omega) (by omega) (by omega) (by omega) (by omega), o3 b j (by omega), l3 b j (by omega)]
    have e22 : I5 2 2 = nI (dc D).length := by
      rw [f5 2 2 (by decide) (by decide), q3 2 2 (by decide) (by decide)]
      exact o2'.2.2.1.1.2.2.1
    refine ⟨bxI I5 3, J1, f1, ?_, ⟨SO_fr o2' (fun b j hb => f35 b j (by omega) (by omega) (by omega) (by omega) (by omega)), m2, HiC_of q2 (fun b j hb => by rw [bx_o (by omega), f5 b j (by omega) (by omega)]), ⟨?_, Nat.zero_le _, fun i hi => absurd hi (by show ¬ i < 0; omega)⟩, ⟨Nat.zero_le _, ?_, ⟨?_, h5.2.2.1.2⟩, fun i hi => absurd hi (by show ¬ i < 0; omega), Or.inl ?_⟩, fun b hb => ?_, ⟨?_, Nat.zero_le _, fun i hi => absurd hi (by show ¬ i < 0; omega)⟩, ?_, ?_⟩, fun b j hb => ?_⟩
    · rw [e22] at pj
      simp only [eX11_jam, kX11_jam_0, kX11_jam_52, x_no, x_cst, x_ldI, x_ldJ, x_ldA, x_stI, x_stJ, x_stA, x_inc, x_bin, x_un, x_i2l, x_bnJ, x_lshl, x_lcmp, x_dup, x_dp2, x_gI, x_gJ, x_gA, x_pI, x_pZ, x_pJ, x_pA, x_c0, x_c2, x_sw, x_cV, x_cS, x_rV, x_rI, x_rZ, x_rJ, x_mm, x_pop, x_dv, x_al, x_as, x_alJ, x_asJ, x_len, msel, mpl, mvr, mnw, List.getElem?_cons_zero, List.getElem?_cons_succ, List.set_cons_zero, List.set_cons_succ, List.length_cons, List.length_nil, List.drop_succ_cons, List.drop_zero, List.take_succ_cons, List.take_zero, List.reverse_cons, List.reverse_nil, List.nil_append, List.cons_append, List.append_nil, List.map_cons, List.map_nil, List.sum_cons, List.sum_nil, Option.toList_some, Option.toList_none, x_bs, Value.category, decide_eq_true_eq, decide_true, decide_false, if_true, if_false, Bool.false_eq_true, and_self, and_true, true_and, true_or, or_true, not_true_eq_false, not_false_eq_true, ↓reduceIte, reduceCtorEq, Nat.reduceEqDiff, Nat.reduceAdd, Nat.reduceSub, Nat.reduceMul, Nat.reduceLT, Nat.reduceLeDiff, Nat.reduceBEq, Nat.le_refl, Nat.zero_le, Nat.lt_irrefl, beq_self_eq_true, Nat.succ_ne_zero, Option.some.injEq, Prod.mk.injEq, Int32.reduceLT, Int32.reduceLE, y_0, y_24, y_2, y_13, y_29, y_44, y_46, y_55, rt_0_2, rt_0_3, rt_0_4, rt_0_5, rt_0_9, rt_0_10, rt_0_12, t1, uI_mm, k1, z10, l1, o1, q1, pf, pc, pj, not_false_eq_true]
    · rw [bx_o (by decide), hI5, u2_s]; rfl
    · rw [bx_o (by decide), hI5, u2_a (by decide), u2_j (by decide), u2_s]; rfl
    · rw [bx_o (by decide), hI5, u2_a (by decide), u2_j (by decide), u2_j (by decide), q3 46 7 (by decide) (by decide), o3 46 7 (by decide), l3 46 7 (by decide), k5 46 7 (by decide), u2_a (by decide)]
      exact h5.2.2.1.1
    · rw [bx_o (by decide), hI5, u2_a (by decide), u2_s]
    · show bxI I5 3 59 b = 0
      simp [bxI, hb]
    · rw [f15 0 1 (by decide), k5 0 1 (by decide), u2_s]; rfl
    · rw [f15 24 11 (by decide)]; exact k3.1
    · rw [f15 24 12 (by decide)]; exact k3.2
    · rw [f15 b j (by omega), k5 b j (by omega), u2_a (by omega)]
end JamC
