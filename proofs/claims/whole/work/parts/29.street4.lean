/-! PURE: laid, copied, brought back -/
section Street4
variable {n : Nat} {I : Nat → Nat → Int32} {a : Nat} {T : TA} {S : SA}
def ld (I : Nat → Nat → Int32) (d q m : Nat) : Nat → Nat → Int32 := fun b i => if 30 ≤ b ∧ b ≤ 33 ∧ 4 * i + (b - 30) < m then I d (q + (4 * i + (b - 30))) else I b i
theorem ld_step (I : Nat → Nat → Int32) (d q j t : Nat) (ht : t < 4) : u2 (ld I d q (4 * j + t)) (30 + t) j (I d (q + (4 * j + t))) = ld I d q (4 * j + t + 1) := by
  funext b i
  unfold u2 ld
  by_cases hb : b = 30 + t ∧ i = j
  · obtain ⟨rfl, rfl⟩ := hb
    have h1 : 30 ≤ 30 + t ∧ 30 + t ≤ 33 ∧ 4 * i + (30 + t - 30) < 4 * i + t + 1 := by omega
    have h2 : 4 * i + (30 + t - 30) = 4 * i + t := by omega
    simp [h1, h2]
  · rw [if_neg hb]
    by_cases h1 : 30 ≤ b ∧ b ≤ 33 ∧ 4 * i + (b - 30) < 4 * j + t
    · have : 30 ≤ b ∧ b ≤ 33 ∧ 4 * i + (b - 30) < 4 * j + t + 1 := by omega
      rw [if_pos h1, if_pos this]
    · have : ¬ (30 ≤ b ∧ b ≤ 33 ∧ 4 * i + (b - 30) < 4 * j + t + 1) := by
        intro h2
        apply hb
        omega
      rw [if_neg h1, if_neg this]
theorem ld_o {d q m b i : Nat} (h : b < 30 ∨ 33 < b) : ld I d q m b i = I b i := by
  unfold ld
  rw [if_neg (by omega)]
def ldA (I : Nat → Nat → Int32) (d q : Nat) : Nat → Nat → Int32 := u2 (u2 (ld I d q 32) 29 5 (I d (q + 32))) 29 6 (I d (q + 33))
set_option maxHeartbeats 8000000 in
theorem p_load {d N : Nat} (hn : 8 < n) (hd : LAY[d]? = some (0, N)) (hd2 : d = 45 ∨ d = 58) (J : Nat → Nat → Int64) (f : Nat) (I : Nat → Nat → Int32) {q : Nat} (hq : q + 34 ≤ N) (hN : N < 2000) : FX8_load n [.ref 29, .ref d, .int (nI q)] (mm I J f) = some (none, mm (ldA I d q) J f) := by
  simp only [eX8_load, kX8_load_0, i_cst, i_ldI, i_ldJ, i_ldA, i_stI, i_stJ, i_stA, i_inc, i_bin, i_dv, i_un, i_i2l, i_bnJ, i_lshl, i_lcmp, i_dup, i_dp2, i_gI, i_gJ, i_gA, i_pI, i_pZ, i_pJ, i_pA, i_al, i_as, i_alJ, i_asJ, i_len, i_c0, i_c2, i_sw, msel, i_cV, i_cS, i_rV, i_rI, i_rZ, i_rJ, i_mm, i_pop, i_no, mpl, mvr, mnw, List.getElem?_cons_zero, List.getElem?_cons_succ, List.set_cons_zero, List.set_cons_succ, List.length_cons, List.length_nil, List.drop_succ_cons, List.drop_zero, List.take_succ_cons, List.take_zero, List.reverse_cons, List.reverse_nil, List.nil_append, List.cons_append, List.append_nil, List.map_cons, List.map_nil, List.sum_cons, List.sum_nil, Option.toList_some, Option.toList_none, Option.bind_some, Value.category, decide_eq_true_eq, decide_true, decide_false, if_true, if_false, Bool.false_eq_true, and_self, and_true, true_and, true_or, or_true, not_true_eq_false, not_false_eq_true, ↓reduceIte, reduceCtorEq, Nat.reduceEqDiff, Nat.reduceAdd, Nat.reduceSub, Nat.reduceMul, Nat.reduceLT, Nat.reduceLeDiff, Nat.reduceBEq, Nat.le_refl, Nat.zero_le, Nat.lt_irrefl, beq_self_eq_true, Nat.succ_ne_zero, Option.some.injEq, Prod.mk.injEq, Int32.reduceLT, Int32.reduceLE]
  have e0 : mm I J f = mm (ld I d q (4 * 0)) J f := by
    have : ld I d q (4 * 0) = I := by
      funext b i
      simp only [ld]
      rw [if_neg (by omega)]
    rw [this]
  rw [e0]
  have nd : ∀ m i, ld I d q m d i = I d i := fun m i => ld_o (by omega)
  have n29 : ∀ m i, ld I d q m 29 i = I 29 i := fun m i => ld_o (by omega)
  refine mit_for (fun j => [some (.ref 29), some (.ref d), some (.int (nI q)), some (.int (nI j)), if j = 0 then none else some (.int (nI (q + 4 * (j - 1))))]) (fun j => mm (ld I d q (4 * j)) J f) (B := 8) (fun j hj r => ?_) hn (fun r => ?_)
  · have t0 := ld_step I d q j 0 (by decide)
    have t1 := ld_step I d q j 1 (by decide)
    have t2 := ld_step I d q j 2 (by decide)
    have t3 := ld_step I d q j 3 (by decide)
    simp only [Nat.add_zero, Nat.reduceAdd, Nat.zero_add, Nat.add_assoc] at t0 t1 t2 t3
    have f0 : nI q + 4 * nI j = nI (q + 4 * j) := by rw [mulL 4 4 j rfl, nI_add]
    have j1 : (if j + 1 = 0 then none else some (Value.int (nI (q + 4 * (j + 1 - 1))))) = some (Value.int (nI (q + 4 * j))) := by simp
    simp only [kX8_load_2, kX8_load_42, i_cst, i_ldI, i_ldJ, i_ldA, i_stI, i_stJ, i_stA, i_inc, i_bin, i_dv, i_un, i_i2l, i_bnJ, i_lshl, i_lcmp, i_dup, i_dp2, i_gI, i_gJ, i_gA, i_pI, i_pZ, i_pJ, i_pA, i_al, i_as, i_alJ, i_asJ, i_len, i_c0, i_c2, i_sw, msel, i_cV, i_cS, i_rV, i_rI, i_rZ, i_rJ, i_mm, i_pop, i_no, mpl, mvr, mnw, List.getElem?_cons_zero, List.getElem?_cons_succ, List.set_cons_zero, List.set_cons_succ, List.length_cons, List.length_nil, List.drop_succ_cons, List.drop_zero, List.take_succ_cons, List.take_zero, List.reverse_cons, List.reverse_nil, List.nil_append, List.cons_append, List.append_nil, List.map_cons, List.map_nil, List.sum_cons, List.sum_nil, Option.toList_some, Option.toList_none, Option.bind_some, Value.category, decide_eq_true_eq, decide_true, decide_false, if_true, if_false, Bool.false_eq_true, and_self, and_true, true_and, true_or, or_true, not_true_eq_false, not_false_eq_true, ↓reduceIte, reduceCtorEq, Nat.reduceEqDiff, Nat.reduceAdd, Nat.reduceSub, Nat.reduceMul, Nat.reduceLT, Nat.reduceLeDiff, Nat.reduceBEq, Nat.le_refl, Nat.zero_le, Nat.lt_irrefl, beq_self_eq_true, Nat.succ_ne_zero, Option.some.injEq, Prod.mk.injEq, Int32.reduceLT, Int32.reduceLE, nle8 hj, y_29, rt_29_1, rt_29_2, rt_29_3, rt_29_4, f0, addL 1 1 _ rfl, addL 2 2 _ rfl, addL 3 3 _ rfl, Nat.add_assoc,
      p_atN n d (q + 4 * j) (mm (ld I d q (4 * j)) J f) hd (by omega) (show q + 4 * j < N by omega), nd, p_setN n 30 j _ (mm (ld I d q (4 * j)) J f) y_30 (by decide) hj, uI_mm, t0,
      p_atN n d (q + (4 * j + 1)) (mm (ld I d q (4 * j + 1)) J f) hd (by omega) (show q + (4 * j + 1) < N by omega), p_setN n 31 j _ (mm (ld I d q (4 * j + 1)) J f) y_31 (by decide) hj, t1,
      p_atN n d (q + (4 * j + 2)) (mm (ld I d q (4 * j + 2)) J f) hd (by omega) (show q + (4 * j + 2) < N by omega), p_setN n 32 j _ (mm (ld I d q (4 * j + 2)) J f) y_32 (by decide) hj, t2,
      p_atN n d (q + (4 * j + 3)) (mm (ld I d q (4 * j + 3)) J f) hd (by omega) (show q + (4 * j + 3) < N by omega), p_setN n 33 j _ (mm (ld I d q (4 * j + 3)) J f) y_33 (by decide) hj, t3, j1]
    rw [show 4 * (j + 1) = 4 * j + (3 + 1) by omega]
    rfl
  · have u1 : ∀ x, u2 (ld I d q 32) 29 5 x d (q + 33) = I d (q + 33) := fun x => by rw [u2_a (by omega), nd]
    simp only [kX8_load_2, i_cst, i_ldI, i_ldJ, i_ldA, i_stI, i_stJ, i_stA, i_inc, i_bin, i_dv, i_un, i_i2l, i_bnJ, i_lshl, i_lcmp, i_dup, i_dp2, i_gI, i_gJ, i_gA, i_pI, i_pZ, i_pJ, i_pA, i_al, i_as, i_alJ, i_asJ, i_len, i_c0, i_c2, i_sw, msel, i_cV, i_cS, i_rV, i_rI, i_rZ, i_rJ, i_mm, i_pop, i_no, mpl, mvr, mnw, List.getElem?_cons_zero, List.getElem?_cons_succ, List.set_cons_zero, List.set_cons_succ, List.length_cons, List.length_nil, List.drop_succ_cons, List.drop_zero, List.take_succ_cons, List.take_zero, List.reverse_cons, List.reverse_nil, List.nil_append, List.cons_append, List.append_nil, List.map_cons, List.map_nil, List.sum_cons, List.sum_nil, Option.toList_some, Option.toList_none, Option.bind_some, Value.category, decide_eq_true_eq, decide_true, decide_false, if_true, if_false, Bool.false_eq_true, and_self, and_true, true_and, true_or, or_true, not_true_eq_false, not_false_eq_true, ↓reduceIte, reduceCtorEq, Nat.reduceEqDiff, Nat.reduceAdd, Nat.reduceSub, Nat.reduceMul, Nat.reduceLT, Nat.reduceLeDiff, Nat.reduceBEq, Nat.le_refl, Nat.zero_le, Nat.lt_irrefl, beq_self_eq_true, Nat.succ_ne_zero, Option.some.injEq, Prod.mk.injEq, Int32.reduceLT, Int32.reduceLE, le88, y_29, addL 32 32 _ rfl, addL 1 1 _ rfl, show 4 * 8 = 32 from rfl, Nat.add_assoc, Nat.reduceAdd, p_atN n d (q + 32) (mm (ld I d q 32) J f) hd (by omega) (show q + 32 < N by omega), nd, uI_mm, p_atN n d (q + 33) (mm (u2 (ld I d q 32) 29 5 (I d (q + 32))) J f) hd (by omega) (show q + 33 < N by omega), u1, ldA]
/-- the cell d keeps S from q on -/
def SvC (I : Nat → Nat → Int32) (d q k : Nat) (S : SA) : Prop := (∀ j, j < k → I d (q + 4 * j) = oc (scl S j) ∧ I d (q + (4 * j + 1)) = nI (shd S j) ∧ I d (q + (4 * j + 2)) = nI (sho S j) ∧ I d (q + (4 * j + 3)) = nI (sbo S j)) ∧ I d (q + 32) = nI (syr S) ∧ I d (q + 33) = nI (ssd S)
theorem sv_at (I : Nat → Nat → Int32) (d q : Nat) {t : Nat} (ht : t < 34) : sv I d q 34 d (q + t) = src I t := by
  unfold sv
  rw [if_pos ⟨rfl, by omega, by omega⟩]
  congr 1
  omega
theorem sv_SvC {d q k : Nat} (hk : k ≤ 8) (h : SC I 29 k S) : SvC (sv I d q 34) d q k S := by
  obtain ⟨h1, h2, h3⟩ := h
  refine ⟨fun j hj => ?_, ?_, ?_⟩
  · obtain ⟨s0, s1, s2, s3⟩ := src4 I (show j < 8 by omega)
    obtain ⟨w0, w1, w2, w3⟩ := h1 j hj
    rw [sv_at I d q (show 4 * j < 34 by omega), sv_at I d q (show 4 * j + 1 < 34 by omega), sv_at I d q (show 4 * j + 2 < 34 by omega), sv_at I d q (show 4 * j + 3 < 34 by omega), s0, s1, s2, s3]
    exact ⟨w0, w1, w2, w3⟩
  · rw [sv_at I d q (by decide)]; exact h2
  · rw [sv_at I d q (by decide)]; exact h3
theorem ld_SC {d q k : Nat} (hk : k ≤ 8) (h : SvC I d q k S) : SC (ldA I d q) 29 k S := by
  obtain ⟨h1, h2, h3⟩ := h
  have e : ∀ t j, t < 4 → j < 8 → ldA I d q (30 + t) j = I d (q + (4 * j + t)) := by
    intro t j ht hj
    unfold ldA
    rw [u2_a (by omega), u2_a (by omega)]
    unfold ld
    rw [if_pos (by omega), show 30 + t - 30 = t by omega]
  refine ⟨fun j hj => ?_, ?_, ?_⟩
  · obtain ⟨w0, w1, w2, w3⟩ := h1 j hj
    refine ⟨?_, ?_, ?_, ?_⟩
    · exact (e 0 j (by decide) (by omega)).trans w0
    · exact (e 1 j (by decide) (by omega)).trans w1
    · exact (e 2 j (by decide) (by omega)).trans w2
    · exact (e 3 j (by decide) (by omega)).trans w3
  · unfold ldA
    rw [u2_j (by decide), u2_s]; exact h2
  · unfold ldA
    rw [u2_s]; exact h3
theorem ldA_o {d q b i : Nat} (h : b < 29 ∨ 33 < b) : ldA I d q b i = I b i := by
  unfold ldA
  rw [u2_a (by omega), u2_a (by omega), ld_o (by omega)]
set_option maxHeartbeats 8000000 in
theorem p_copyFrom (hn : 8 < n) (J : Nat → Nat → Int64) (f : Nat) (o : SO I 29 T S) : ∃ I', FX8_copyFrom n [.ref 34, .ref 29] (mm I J f) = some (none, mm I' J f) ∧ SO I' 34 T S ∧ ∀ b j, b < 34 ∨ 38 < b → I' b j = I b j := by
  refine ⟨u2 (u2 (cp (cp (cp (cp I 30 35 8) 31 36 8) 32 37 8) 33 38 8) 34 5 (I 29 5)) 34 6 (I 29 6), ?_, ?_, ?_⟩
  · have c29 : ∀ i, cp (cp (cp (cp I 30 35 8) 31 36 8) 32 37 8) 33 38 8 29 i = I 29 i := fun i => by rw [cp_o (by decide), cp_o (by decide), cp_o (by decide), cp_o (by decide)]
    have c29' : ∀ x i, u2 (cp (cp (cp (cp I 30 35 8) 31 36 8) 32 37 8) 33 38 8) 34 5 x 29 i = I 29 i := fun x i => by rw [u2_a (by decide), c29]
    simp only [eX8_copyFrom, kX8_copyFrom_0, kX8_copyFrom_52, i_cst, i_ldI, i_ldJ, i_ldA, i_stI, i_stJ, i_stA, i_inc, i_bin, i_dv, i_un, i_i2l, i_bnJ, i_lshl, i_lcmp, i_dup, i_dp2, i_gI, i_gJ, i_gA, i_pI, i_pZ, i_pJ, i_pA, i_al, i_as, i_alJ, i_asJ, i_len, i_c0, i_c2, i_sw, msel, i_cV, i_cS, i_rV, i_rI, i_rZ, i_rJ, i_mm, i_pop, i_no, mpl, mvr, mnw, List.getElem?_cons_zero, List.getElem?_cons_succ, List.set_cons_zero, List.set_cons_succ, List.length_cons, List.length_nil, List.drop_succ_cons, List.drop_zero, List.take_succ_cons, List.take_zero, List.reverse_cons, List.reverse_nil, List.nil_append, List.cons_append, List.append_nil, List.map_cons, List.map_nil, List.sum_cons, List.sum_nil, Option.toList_some, Option.toList_none, Option.bind_some, Value.category, decide_eq_true_eq, decide_true, decide_false, if_true, if_false, Bool.false_eq_true, and_self, and_true, true_and, true_or, or_true, not_true_eq_false, not_false_eq_true, ↓reduceIte, reduceCtorEq, Nat.reduceEqDiff, Nat.reduceAdd, Nat.reduceSub, Nat.reduceMul, Nat.reduceLT, Nat.reduceLeDiff, Nat.reduceBEq, Nat.le_refl, Nat.zero_le, Nat.lt_irrefl, beq_self_eq_true, Nat.succ_ne_zero, Option.some.injEq, Prod.mk.injEq, Int32.reduceLT, Int32.reduceLE, y_29, y_34, rt_29_1, rt_29_2, rt_29_3, rt_29_4, rt_34_1, rt_34_2, rt_34_3, rt_34_4, p_copyRow hn (by decide) y_30 y_35 (by decide), p_copyRow hn (by decide) y_31 y_36 (by decide), p_copyRow hn (by decide) y_32 y_37 (by decide), p_copyRow hn (by decide) y_33 y_38 (by decide), uI_mm, c29, c29']
  · obtain ⟨-, ht, hT, hR, h1, h2, h3⟩ := o
    refine ⟨Or.inr rfl, ht, TC_of (fun b i q1 q2 _ => ?_) hT, hR, fun j hj => ?_, ?_, ?_⟩
    · rw [u2_a (by omega), u2_a (by omega), cp_o (by omega), cp_o (by omega), cp_o (by omega), cp_o (by omega)]
    · have hj8 : j < 8 := by have := ht.1; omega
      obtain ⟨w0, w1, w2, w3⟩ := h1 j hj
      refine ⟨?_, ?_, ?_, ?_⟩
      · show u2 _ _ _ _ 35 j = _
        rw [u2_a (by decide), u2_a (by decide), cp_o (by decide), cp_o (by decide), cp_o (by decide), cp_d hj8]; exact w0
      · show u2 _ _ _ _ 36 j = _
        rw [u2_a (by decide), u2_a (by decide), cp_o (by decide), cp_o (by decide), cp_d hj8, cp_o (by decide)]; exact w1
      · show u2 _ _ _ _ 37 j = _
        rw [u2_a (by decide), u2_a (by decide), cp_o (by decide), cp_d hj8, cp_o (by decide), cp_o (by decide)]; exact w2
      · show u2 _ _ _ _ 38 j = _
        rw [u2_a (by decide), u2_a (by decide), cp_d hj8, cp_o (by decide), cp_o (by decide), cp_o (by decide)]; exact w3
    · rw [u2_j (by decide), u2_s]; exact h2
    · rw [u2_s]; exact h3
  · intro b j hb
    rw [u2_a (by omega), u2_a (by omega), cp_o (by omega), cp_o (by omega), cp_o (by omega), cp_o (by omega)]
set_option maxHeartbeats 8000000 in
theorem p_lay (hn : 8 < n) (J : Nat → Nat → Int64) (f : Nat) (ht : TRg T) (hT : TC I T) : ∃ I', FX8_lay n [.ref 29] (mm I J f) = some (none, mm I' J f) ∧ SO I' 29 T (tS T) ∧ ∀ b j, b < 29 ∨ 33 < b → I' b j = I b j := by
  refine ⟨u2 (u2 (cp (cp (cp (cp I 3 30 8) 4 31 8) 5 32 8) 6 33 8) 29 5 0) 29 6 (I 2 4), ?_, ?_, ?_⟩
  · have c2 : ∀ x i, u2 (cp (cp (cp (cp I 3 30 8) 4 31 8) 5 32 8) 6 33 8) 29 5 x 2 i = I 2 i := fun x i => by rw [u2_a (by decide), cp_o (by decide), cp_o (by decide), cp_o (by decide), cp_o (by decide)]
    simp only [eX8_lay, kX8_lay_0, kX8_lay_56, i_cst, i_ldI, i_ldJ, i_ldA, i_stI, i_stJ, i_stA, i_inc, i_bin, i_dv, i_un, i_i2l, i_bnJ, i_lshl, i_lcmp, i_dup, i_dp2, i_gI, i_gJ, i_gA, i_pI, i_pZ, i_pJ, i_pA, i_al, i_as, i_alJ, i_asJ, i_len, i_c0, i_c2, i_sw, msel, i_cV, i_cS, i_rV, i_rI, i_rZ, i_rJ, i_mm, i_pop, i_no, mpl, mvr, mnw, List.getElem?_cons_zero, List.getElem?_cons_succ, List.set_cons_zero, List.set_cons_succ, List.length_cons, List.length_nil, List.drop_succ_cons, List.drop_zero, List.take_succ_cons, List.take_zero, List.reverse_cons, List.reverse_nil, List.nil_append, List.cons_append, List.append_nil, List.map_cons, List.map_nil, List.sum_cons, List.sum_nil, Option.toList_some, Option.toList_none, Option.bind_some, Value.category, decide_eq_true_eq, decide_true, decide_false, if_true, if_false, Bool.false_eq_true, and_self, and_true, true_and, true_or, or_true, not_true_eq_false, not_false_eq_true, ↓reduceIte, reduceCtorEq, Nat.reduceEqDiff, Nat.reduceAdd, Nat.reduceSub, Nat.reduceMul, Nat.reduceLT, Nat.reduceLeDiff, Nat.reduceBEq, Nat.le_refl, Nat.zero_le, Nat.lt_irrefl, beq_self_eq_true, Nat.succ_ne_zero, Option.some.injEq, Prod.mk.injEq, Int32.reduceLT, Int32.reduceLE, y_29, y_2, rt_29_0, rt_29_1, rt_29_2, rt_29_3, rt_29_4, rt_2_6, rt_2_7, rt_2_8, rt_2_9, p_copyRow hn (by decide) y_3 y_30 (by decide), p_copyRow hn (by decide) y_4 y_31 (by decide), p_copyRow hn (by decide) y_5 y_32 (by decide), p_copyRow hn (by decide) y_6 y_33 (by decide), uI_mm, c2]
  · refine ⟨Or.inl rfl, ht, TC_of (fun b i q1 q2 _ => ?_) hT, ht.2.2.2.2.2.1, fun j hj => ?_, ?_, ?_⟩
    · rw [u2_a (by omega), u2_a (by omega), cp_o (by omega), cp_o (by omega), cp_o (by omega), cp_o (by omega)]
    · have hj8 : j < 8 := by have := ht.1; omega
      obtain ⟨w0, w1, w2, w3⟩ := hT.2.1 j hj
      refine ⟨?_, ?_, ?_, ?_⟩
      · show u2 _ _ _ _ 30 j = _
        rw [u2_a (by decide), u2_a (by decide), cp_o (by decide), cp_o (by decide), cp_o (by decide), cp_d hj8]; exact w0
      · show u2 _ _ _ _ 31 j = _
        rw [u2_a (by decide), u2_a (by decide), cp_o (by decide), cp_o (by decide), cp_d hj8, cp_o (by decide)]; exact w1
      · show u2 _ _ _ _ 32 j = _
        rw [u2_a (by decide), u2_a (by decide), cp_o (by decide), cp_d hj8, cp_o (by decide), cp_o (by decide)]; exact w2
      · show u2 _ _ _ _ 33 j = _
        rw [u2_a (by decide), u2_a (by decide), cp_d hj8, cp_o (by decide), cp_o (by decide), cp_o (by decide)]; exact w3
    · rw [u2_j (by decide), u2_s, ht.2.2.2.2.2.2.1]; rfl
    · rw [u2_s]; exact hT.1.2.2.2.2.1
  · intro b j hb
    rw [u2_a (by omega), u2_a (by omega), cp_o (by omega), cp_o (by omega), cp_o (by omega), cp_o (by omega)]
end Street4
