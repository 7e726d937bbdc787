/-! PURE: the class: turn, exchange, lot -/
theorem p_setL (n a j : Nat) (c v : Int32) (μ : mM) {N : Nat} (h : μ.2.2.2[a]? = some (0, N)) (hN : N < 2 ^ 31) (hj : j < N) (hc : c = nI j) : FX11_set n [.ref a, .int c, .int v] μ = some (none, uI μ a j v) := by
  rw [hc]; exact p_setN n a j v μ h hN hj
theorem p_atL (n a j : Nat) (c : Int32) (μ : mM) {N : Nat} (h : μ.2.2.2[a]? = some (0, N)) (hN : N < 2 ^ 31) (hj : j < N) (hc : c = nI j) : FX11_at n [.ref a, .int c] μ = some (some (.int (μ.1 a j)), μ) := by
  rw [hc]; exact p_atN n a j μ h hN hj
def fd3 (I : Nat → Nat → Int32) (x y z : Int32) : Nat → Nat → Int32 := u2 (u2 (u2 I 57 0 x) 57 1 y) 57 2 z
theorem fd3_o {I : Nat → Nat → Int32} {x y z : Int32} {b i : Nat} (h : b ≠ 57) : fd3 I x y z b i = I b i := by
  unfold fd3
  rw [u2_a h, u2_a h, u2_a h]
theorem fd3_0 {I : Nat → Nat → Int32} {x y z : Int32} : fd3 I x y z 57 0 = x ∧ fd3 I x y z 57 1 = y ∧ fd3 I x y z 57 2 = z := by
  unfold fd3
  refine ⟨?_, ?_, ?_⟩
  · rw [u2_j (by decide), u2_j (by decide), u2_s]
  · rw [u2_j (by decide), u2_s]
  · rw [u2_s]
theorem p_find (n : Nat) (x y z : Int32) (I : Nat → Nat → Int32) (J : Nat → Nat → Int64) (f : Nat) : FX11_find n [.ref 0, .int x, .int y, .int z] (mm I J f) = some (none, mm (fd3 I x y z) J f) := by
  have e0 := fun I => p_setL n 57 0 0 x (mm I J f) y_57 (by decide) (by decide) rfl
  have e1 := fun I => p_setL n 57 1 1 y (mm I J f) y_57 (by decide) (by decide) rfl
  have e2 := fun I => p_setL n 57 2 2 z (mm I J f) y_57 (by decide) (by decide) rfl
  simp only [eX11_find, kX11_find_0, i_cst, i_ldI, i_ldJ, i_ldA, i_stI, i_stJ, i_stA, i_inc, i_bin, i_dv, i_un, i_i2l, i_bnJ, i_lshl, i_lcmp, i_dup, i_dp2, i_gI, i_gJ, i_gA, i_pI, i_pZ, i_pJ, i_pA, i_al, i_as, i_alJ, i_asJ, i_len, i_c0, i_c2, i_sw, msel, i_cV, i_cS, i_rV, i_rI, i_rZ, i_rJ, i_mm, i_pop, i_no, mpl, mvr, mnw, List.getElem?_cons_zero, List.getElem?_cons_succ, List.set_cons_zero, List.set_cons_succ, List.length_cons, List.length_nil, List.drop_succ_cons, List.drop_zero, List.take_succ_cons, List.take_zero, List.reverse_cons, List.reverse_nil, List.nil_append, List.cons_append, List.append_nil, List.map_cons, List.map_nil, List.sum_cons, List.sum_nil, Option.toList_some, Option.toList_none, Option.bind_some, Value.category, decide_eq_true_eq, decide_true, decide_false, if_true, if_false, Bool.false_eq_true, and_self, and_true, true_and, true_or, or_true, not_true_eq_false, not_false_eq_true, ↓reduceIte, reduceCtorEq, Nat.reduceEqDiff, Nat.reduceAdd, Nat.reduceSub, Nat.reduceMul, Nat.reduceLT, Nat.reduceLeDiff, Nat.reduceBEq, Nat.le_refl, Nat.zero_le, Nat.lt_irrefl, beq_self_eq_true, Nat.succ_ne_zero, Option.some.injEq, Prod.mk.injEq, Int32.reduceLT, Int32.reduceLE, y_0, rt_0_13, e0, e1, e2, uI_mm, fd3]
section Turn
variable {n : Nat} {I : Nat → Nat → Int32} {T : TA} {S : SA}
/-- found: the best, as 4 * car + heading or 8 * car + other, and how many are free then -/
def FQ (I : Nat → Nat → Int32) (k : Nat) (q : Option Nat × Int32) : Prop := I 57 0 = ffI (q.1.map (· / k)) ∧ I 57 1 = ffI (q.1.map (· % k)) ∧ I 57 2 = q.2
theorem FQ_new {I : Nat → Nat → Int32} {k a b : Nat} (hb : b < k) (z : Int32) : FQ (fd3 I (nI a) (nI b) z) k (some (k * a + b), z) := by
  obtain ⟨h0, h1, h2⟩ := fd3_0 (I := I) (x := nI a) (y := nI b) (z := z)
  refine ⟨?_, ?_, h2⟩
  · rw [h0]
    show nI a = nI ((k * a + b) / k)
    rw [Nat.mul_add_div (by omega), Nat.div_eq_of_lt hb, Nat.add_zero]
  · rw [h1]
    show nI b = nI ((k * a + b) % k)
    rw [Nat.mul_add_mod, Nat.mod_eq_of_lt hb]
theorem FQ_of {I I' : Nat → Nat → Int32} {k : Nat} {q : Option Nat × Int32} (h : ∀ j, I' 57 j = I 57 j) (hq : FQ I k q) : FQ I' k q := by
  unfold FQ
  rw [h, h, h]; exact hq
def hdS (S : SA) (c h : Nat) : SA := setHd S (fun j => if j = c then h else shd S j)
def tuH (T : TA) (S : SA) (c : Nat) : Nat → Option Nat × Int32 → Option Nat × Int32
  | 0, q => q
  | h + 1, q => if ¬ shd S c = h ∧ (tuH T S c h q).2 < nI (freeN T (hdS S c h)) then (some (4 * c + h), nI (freeN T (hdS S c h))) else tuH T S c h q
def tuC (T : TA) (S : SA) : Nat → Option Nat × Int32
  | 0 => (none, -1)
  | c + 1 => if inA T S c = true then tuH T S c 4 (tuC T S c) else tuC T S c
theorem SO_fr {a : Nat} {I' : Nat → Nat → Int32} (o : SO I a T S) (h : ∀ b j, (2 ≤ b ∧ b ≤ 11 ∧ b ≠ 9) ∨ (a ≤ b ∧ b ≤ a + 4) → I' b j = I b j) : SO I' a T S := by
  obtain ⟨ha, ht, hT, hR, hS⟩ := o
  exact ⟨ha, ht, TC_of (fun b j h1 h2 h3 => h b j (Or.inl ⟨h1, h2, h3⟩)) hT, hR, SC_of (fun b j h1 h2 => h b j (Or.inr ⟨h1, h2⟩)) hS⟩
set_option maxHeartbeats 8000000 in
theorem p_tryTurns (hn : 300 < n) (J : Nat → Nat → Int64) (f : Nat) (o : SO I 29 T S) (o2 : SO I 34 T S) {q : Option Nat × Int32} (hq : FQ I 4 q) {c : Nat} (hc : inA T S c = true) : ∃ I', FX11_tryTurns n [.ref 0, .int (nI c)] (mm I J f) = some (none, mm I' J f) ∧ SO I' 34 T S ∧ FQ I' 4 (tuH T S c 4 q) ∧ ∀ b j, b ≠ 36 → b ≠ 57 → I' b j = I b j := by
  obtain ⟨h8, hk, -⟩ := rd_cl o hc
  have hown := (o.2.2.2.2.1 c hk).2.1
  simp only [Nat.reduceAdd] at hown
  have hr4 := (o.2.2.2.1.1 c hk).2.1
  simp only [eX11_tryTurns, kX11_tryTurns_0, i_cst, i_ldI, i_ldJ, i_ldA, i_stI, i_stJ, i_stA, i_inc, i_bin, i_dv, i_un, i_i2l, i_bnJ, i_lshl, i_lcmp, i_dup, i_dp2, i_gI, i_gJ, i_gA, i_pI, i_pZ, i_pJ, i_pA, i_al, i_as, i_alJ, i_asJ, i_len, i_c0, i_c2, i_sw, msel, i_cV, i_cS, i_rV, i_rI, i_rZ, i_rJ, i_mm, i_pop, i_no, mpl, mvr, mnw, List.getElem?_cons_zero, List.getElem?_cons_succ, List.set_cons_zero, List.set_cons_succ, List.length_cons, List.length_nil, List.drop_succ_cons, List.drop_zero, List.take_succ_cons, List.take_zero, List.reverse_cons, List.reverse_nil, List.nil_append, List.cons_append, List.append_nil, List.map_cons, List.map_nil, List.sum_cons, List.sum_nil, Option.toList_some, Option.toList_none, Option.bind_some, Value.category, decide_eq_true_eq, decide_true, decide_false, if_true, if_false, Bool.false_eq_true, and_self, and_true, true_and, true_or, or_true, not_true_eq_false, not_false_eq_true, ↓reduceIte, reduceCtorEq, Nat.reduceEqDiff, Nat.reduceAdd, Nat.reduceSub, Nat.reduceMul, Nat.reduceLT, Nat.reduceLeDiff, Nat.reduceBEq, Nat.le_refl, Nat.zero_le, Nat.lt_irrefl, beq_self_eq_true, Nat.succ_ne_zero, Option.some.injEq, Prod.mk.injEq, Int32.reduceLT, Int32.reduceLE, y_0, y_29, rt_0_5, rt_29_2, p_atN n 31 c (mm I J f) y_31 (by decide) h8, hown]
  refine mit_ind (G := kX11_tryTurns_14 n) (fun d L μ => ∃ (h x : Nat) (I' : Nat → Nat → Int32) (x4 : Option Value), h + d = 4 ∧ x < 4 ∧ μ = mm I' J f ∧ SO I' 34 T (hdS S c x) ∧ FQ I' 4 (tuH T S c h q) ∧ (∀ b j, b ≠ 36 → b ≠ 57 → I' b j = I b j) ∧ L = [some (.ref 0), some (.int (nI c)), some (.int (nI (shd S c))), some (.int (nI h)), x4]) (fun v => ∃ I', v = some (none, mm I' J f) ∧ SO I' 34 T S ∧ FQ I' 4 (tuH T S c 4 q) ∧ ∀ b j, b ≠ 36 → b ≠ 57 → I' b j = I b j) ?_ ?_ 4 n _ _ (by omega) ⟨0, shd S c, I, none, rfl, hr4, rfl, SO_congr o2 (fun j _ => ⟨rfl, by
      show (if j = c then shd S c else shd S j) = shd S j
      split <;> simp_all, rfl, rfl⟩) rfl rfl, hq, fun _ _ _ _ => rfl, rfl⟩
  · rintro L μ ⟨h, x, I', x4, hh, hx, rfl, hO, hQ, hI, rfl⟩
    have : h = 4 := by omega
    subst this
    refine ⟨_, fun r => ?_, u2 I' 36 c (nI (shd S c)), rfl, SO_congr (SO_hd hr4 hO) (fun j _ => ⟨rfl, ?_, rfl, rfl⟩) rfl rfl, FQ_of (fun j => u2_a (by decide)) hQ, fun b j h1 h2 => by rw [u2_a h1]; exact hI b j h1 h2⟩
    · simp only [kX11_tryTurns_14, i_cst, i_ldI, i_ldJ, i_ldA, i_stI, i_stJ, i_stA, i_inc, i_bin, i_dv, i_un, i_i2l, i_bnJ, i_lshl, i_lcmp, i_dup, i_dp2, i_gI, i_gJ, i_gA, i_pI, i_pZ, i_pJ, i_pA, i_al, i_as, i_alJ, i_asJ, i_len, i_c0, i_c2, i_sw, msel, i_cV, i_cS, i_rV, i_rI, i_rZ, i_rJ, i_mm, i_pop, i_no, mpl, mvr, mnw, List.getElem?_cons_zero, List.getElem?_cons_succ, List.set_cons_zero, List.set_cons_succ, List.length_cons, List.length_nil, List.drop_succ_cons, List.drop_zero, List.take_succ_cons, List.take_zero, List.reverse_cons, List.reverse_nil, List.nil_append, List.cons_append, List.append_nil, List.map_cons, List.map_nil, List.sum_cons, List.sum_nil, Option.toList_some, Option.toList_none, Option.bind_some, Value.category, decide_eq_true_eq, decide_true, decide_false, if_true, if_false, Bool.false_eq_true, and_self, and_true, true_and, true_or, or_true, not_true_eq_false, not_false_eq_true, ↓reduceIte, reduceCtorEq, Nat.reduceEqDiff, Nat.reduceAdd, Nat.reduceSub, Nat.reduceMul, Nat.reduceLT, Nat.reduceLeDiff, Nat.reduceBEq, Nat.le_refl, Nat.zero_le, Nat.lt_irrefl, beq_self_eq_true, Nat.succ_ne_zero, Option.some.injEq, Prod.mk.injEq, Int32.reduceLT, Int32.reduceLE, show (4 : Int32) ≤ nI 4 by decide, y_0, y_34, rt_0_6, rt_34_2, p_setN n 36 c _ (mm I' J f) y_36 (by decide) h8, uI_mm]
    · show shd S j = (if j = c then shd S c else if j = c then x else shd S j)
      split <;> simp_all
  · rintro d L μ ⟨h, x, I', x4, hh, hx, rfl, hO, hQ, hI, rfl⟩
    refine Or.inr ?_
    have h4 : h < 4 := by omega
    have c1 : ¬ (4 : Int32) ≤ nI h := lit_nle (k := 4) rfl (by decide) h4
    have hO1 : SO (u2 I' 36 c (nI h)) 34 T (hdS S c h) := SO_congr (SO_hd h4 hO) (fun j _ => ⟨rfl, by
      show (if j = c then h else shd S j) = (if j = c then h else if j = c then x else shd S j)
      split <;> simp_all, rfl, rfl⟩) rfl rfl
    have hfree := p_whoIsFree (show 8 < n by omega) J f hO1
    have eown : nI h = nI (shd S c) ↔ h = shd S c := nI_eq (by omega) (by omega)
    have hQ1 : FQ (u2 I' 36 c (nI h)) 4 (tuH T S c h q) := FQ_of (fun j => u2_a (by decide)) hQ
    have e2 := p_atL n 57 2 2 (mm (u2 I' 36 c (nI h)) J f) y_57 (by decide) (by decide) rfl
    have eq2 : u2 I' 36 c (nI h) 57 2 = (tuH T S c h q).2 := hQ1.2.2
    by_cases hcond : ¬ shd S c = h ∧ (tuH T S c h q).2 < nI (freeN T (hdS S c h))
    · have ev : tuH T S c (h + 1) q = (some (4 * c + h), nI (freeN T (hdS S c h))) := by rw [tuH, if_pos hcond]
      refine ⟨_, _, ⟨h + 1, h, fd3 (u2 I' 36 c (nI h)) (nI c) (nI h) (nI (freeN T (hdS S c h))), some (.int (nI (freeN T (hdS S c h)))), by omega, h4, rfl, SO_fr hO1 (fun b j hb => fd3_o (by omega)), by rw [ev]; exact FQ_new h4 _, fun b j h1 h2 => by rw [fd3_o h2, u2_a h1]; exact hI b j h1 h2, rfl⟩, fun r => ?_⟩
      simp only [kX11_tryTurns_14, kX11_tryTurns_62, kX11_tryTurns_69, i_cst, i_ldI, i_ldJ, i_ldA, i_stI, i_stJ, i_stA, i_inc, i_bin, i_dv, i_un, i_i2l, i_bnJ, i_lshl, i_lcmp, i_dup, i_dp2, i_gI, i_gJ, i_gA, i_pI, i_pZ, i_pJ, i_pA, i_al, i_as, i_alJ, i_asJ, i_len, i_c0, i_c2, i_sw, msel, i_cV, i_cS, i_rV, i_rI, i_rZ, i_rJ, i_mm, i_pop, i_no, mpl, mvr, mnw, List.getElem?_cons_zero, List.getElem?_cons_succ, List.set_cons_zero, List.set_cons_succ, List.length_cons, List.length_nil, List.drop_succ_cons, List.drop_zero, List.take_succ_cons, List.take_zero, List.reverse_cons, List.reverse_nil, List.nil_append, List.cons_append, List.append_nil, List.map_cons, List.map_nil, List.sum_cons, List.sum_nil, Option.toList_some, Option.toList_none, Option.bind_some, Value.category, decide_eq_true_eq, decide_true, decide_false, if_true, if_false, Bool.false_eq_true, and_self, and_true, true_and, true_or, or_true, not_true_eq_false, not_false_eq_true, ↓reduceIte, reduceCtorEq, Nat.reduceEqDiff, Nat.reduceAdd, Nat.reduceSub, Nat.reduceMul, Nat.reduceLT, Nat.reduceLeDiff, Nat.reduceBEq, Nat.le_refl, Nat.zero_le, Nat.lt_irrefl, beq_self_eq_true, Nat.succ_ne_zero, Option.some.injEq, Prod.mk.injEq, Int32.reduceLT, Int32.reduceLE, c1, y_0, y_34, rt_0_6, rt_0_13, rt_34_2, p_setN n 36 c _ (mm I' J f) y_36 (by decide) h8, uI_mm, hfree, p_bitCount, bc_free, eown, fun q => hcond.1 (Eq.symm q), e2, eq2, Int32.not_le.mpr hcond.2, p_find, nI_1]
      rw [if_neg (fun q => hcond.1 q.symm)]
    · have ev : tuH T S c (h + 1) q = tuH T S c h q := by rw [tuH, if_neg hcond]
      refine ⟨_, _, ⟨h + 1, h, u2 I' 36 c (nI h), some (.int (nI (freeN T (hdS S c h)))), by omega, h4, rfl, hO1, by rw [ev]; exact hQ1, fun b j h1 h2 => by rw [u2_a h1]; exact hI b j h1 h2, rfl⟩, fun r => ?_⟩
      by_cases e : h = shd S c
      · simp only [kX11_tryTurns_14, kX11_tryTurns_62, kX11_tryTurns_69, i_cst, i_ldI, i_ldJ, i_ldA, i_stI, i_stJ, i_stA, i_inc, i_bin, i_dv, i_un, i_i2l, i_bnJ, i_lshl, i_lcmp, i_dup, i_dp2, i_gI, i_gJ, i_gA, i_pI, i_pZ, i_pJ, i_pA, i_al, i_as, i_alJ, i_asJ, i_len, i_c0, i_c2, i_sw, msel, i_cV, i_cS, i_rV, i_rI, i_rZ, i_rJ, i_mm, i_pop, i_no, mpl, mvr, mnw, List.getElem?_cons_zero, List.getElem?_cons_succ, List.set_cons_zero, List.set_cons_succ, List.length_cons, List.length_nil, List.drop_succ_cons, List.drop_zero, List.take_succ_cons, List.take_zero, List.reverse_cons, List.reverse_nil, List.nil_append, List.cons_append, List.append_nil, List.map_cons, List.map_nil, List.sum_cons, List.sum_nil, Option.toList_some, Option.toList_none, Option.bind_some, Value.category, decide_eq_true_eq, decide_true, decide_false, if_true, if_false, Bool.false_eq_true, and_self, and_true, true_and, true_or, or_true, not_true_eq_false, not_false_eq_true, ↓reduceIte, reduceCtorEq, Nat.reduceEqDiff, Nat.reduceAdd, Nat.reduceSub, Nat.reduceMul, Nat.reduceLT, Nat.reduceLeDiff, Nat.reduceBEq, Nat.le_refl, Nat.zero_le, Nat.lt_irrefl, beq_self_eq_true, Nat.succ_ne_zero, Option.some.injEq, Prod.mk.injEq, Int32.reduceLT, Int32.reduceLE, c1, y_0, y_34, rt_0_6, rt_0_13, rt_34_2, p_setN n 36 c _ (mm I' J f) y_36 (by decide) h8, uI_mm, hfree, p_bitCount, bc_free, eown, nI_1]
        rw [if_pos e]
      · have hle : nI (freeN T (hdS S c h)) ≤ (tuH T S c h q).2 := Int32.not_lt.mp (fun w => hcond ⟨fun z => e z.symm, w⟩)
        simp only [kX11_tryTurns_14, kX11_tryTurns_62, kX11_tryTurns_69, i_cst, i_ldI, i_ldJ, i_ldA, i_stI, i_stJ, i_stA, i_inc, i_bin, i_dv, i_un, i_i2l, i_bnJ, i_lshl, i_lcmp, i_dup, i_dp2, i_gI, i_gJ, i_gA, i_pI, i_pZ, i_pJ, i_pA, i_al, i_as, i_alJ, i_asJ, i_len, i_c0, i_c2, i_sw, msel, i_cV, i_cS, i_rV, i_rI, i_rZ, i_rJ, i_mm, i_pop, i_no, mpl, mvr, mnw, List.getElem?_cons_zero, List.getElem?_cons_succ, List.set_cons_zero, List.set_cons_succ, List.length_cons, List.length_nil, List.drop_succ_cons, List.drop_zero, List.take_succ_cons, List.take_zero, List.reverse_cons, List.reverse_nil, List.nil_append, List.cons_append, List.append_nil, List.map_cons, List.map_nil, List.sum_cons, List.sum_nil, Option.toList_some, Option.toList_none, Option.bind_some, Value.category, decide_eq_true_eq, decide_true, decide_false, if_true, if_false, Bool.false_eq_true, and_self, and_true, true_and, true_or, or_true, not_true_eq_false, not_false_eq_true, ↓reduceIte, reduceCtorEq, Nat.reduceEqDiff, Nat.reduceAdd, Nat.reduceSub, Nat.reduceMul, Nat.reduceLT, Nat.reduceLeDiff, Nat.reduceBEq, Nat.le_refl, Nat.zero_le, Nat.lt_irrefl, beq_self_eq_true, Nat.succ_ne_zero, Option.some.injEq, Prod.mk.injEq, Int32.reduceLT, Int32.reduceLE, c1, y_0, y_34, rt_0_6, rt_0_13, rt_34_2, p_setN n 36 c _ (mm I' J f) y_36 (by decide) h8, uI_mm, hfree, p_bitCount, bc_free, eown, e, e2, eq2, hle, nI_1]
/-- what a question may change: what is thought, operands, found -/
def QF (I I' : Nat → Nat → Int32) : Prop := ∀ b j, b ≠ 9 → b ≠ 12 → (b < 34 ∨ 38 < b) → b ≠ 57 → I' b j = I b j
def aTurn (T : TA) (S : SA) (w : Int32) : Int32 := if 0 ≤ w ∧ w < 3 then (if w = 0 then ffI ((tuC T S 8).1.map (· / 4)) else if w = 1 then ffI ((tuC T S 8).1.map (· % 4)) else (tuC T S 8).2) else -1
theorem tuC_none (T : TA) (S : SA) (h : ∀ j, j < 8 → inA T S j = false) : ∀ k, k ≤ 8 → tuC T S k = (none, -1) := by
  intro k
  induction k with
  | zero => intro _; rfl
  | succ k ih =>
    intro hk
    rw [tuC, if_neg (by simp [h k (by omega)])]
    exact ih (by omega)
theorem cn_zero {P : Nat → Bool} : ∀ k, cn P k = 0 → ∀ j, j < k → P j = false := by
  intro k
  induction k with
  | zero => intro _ j hj; omega
  | succ k ih =>
    intro h j hj
    unfold cn at h
    by_cases hP : P k = true
    · rw [if_pos hP] at h; omega
    · rw [if_neg hP] at h
      by_cases e : j = k
      · subst e; simpa using hP
      · exact ih h j (by omega)
set_option maxHeartbeats 8000000 in
theorem c_turn (hn : 300 < n) (J : Nat → Nat → Int64) (f : Nat) (o : SO I 29 T S) (w : Int32) : ∃ I', FX11_turn n [.ref 0, .int w] (mm I J f) = some (some (.int (aTurn T S w)), mm I' J f) ∧ QF I I' := by
  have rf : QF I I := fun _ _ _ _ _ _ => rfl
  have lit3 : Int32.ofNat 3 = (3 : Int32) := rfl
  by_cases w0 : w < 0
  · refine ⟨I, ?_, rf⟩
    simp only [eX11_turn, kX11_turn_0, kX11_turn_23, i_cst, i_ldI, i_ldJ, i_ldA, i_stI, i_stJ, i_stA, i_inc, i_bin, i_dv, i_un, i_i2l, i_bnJ, i_lshl, i_lcmp, i_dup, i_dp2, i_gI, i_gJ, i_gA, i_pI, i_pZ, i_pJ, i_pA, i_al, i_as, i_alJ, i_asJ, i_len, i_c0, i_c2, i_sw, msel, i_cV, i_cS, i_rV, i_rI, i_rZ, i_rJ, i_mm, i_pop, i_no, mpl, mvr, mnw, List.getElem?_cons_zero, List.getElem?_cons_succ, List.set_cons_zero, List.set_cons_succ, List.length_cons, List.length_nil, List.drop_succ_cons, List.drop_zero, List.take_succ_cons, List.take_zero, List.reverse_cons, List.reverse_nil, List.nil_append, List.cons_append, List.append_nil, List.map_cons, List.map_nil, List.sum_cons, List.sum_nil, Option.toList_some, Option.toList_none, Option.bind_some, Value.category, decide_eq_true_eq, decide_true, decide_false, if_true, if_false, Bool.false_eq_true, and_self, and_true, true_and, true_or, or_true, not_true_eq_false, not_false_eq_true, ↓reduceIte, reduceCtorEq, Nat.reduceEqDiff, Nat.reduceAdd, Nat.reduceSub, Nat.reduceMul, Nat.reduceLT, Nat.reduceLeDiff, Nat.reduceBEq, Nat.le_refl, Nat.zero_le, Nat.lt_irrefl, beq_self_eq_true, Nat.succ_ne_zero, Option.some.injEq, Prod.mk.injEq, Int32.reduceLT, Int32.reduceLE, w0, aTurn, nn0 w0, false_and]
  by_cases w1 : 3 ≤ w
  · refine ⟨I, ?_, rf⟩
    simp only [eX11_turn, kX11_turn_0, kX11_turn_23, i_cst, i_ldI, i_ldJ, i_ldA, i_stI, i_stJ, i_stA, i_inc, i_bin, i_dv, i_un, i_i2l, i_bnJ, i_lshl, i_lcmp, i_dup, i_dp2, i_gI, i_gJ, i_gA, i_pI, i_pZ, i_pJ, i_pA, i_al, i_as, i_alJ, i_asJ, i_len, i_c0, i_c2, i_sw, msel, i_cV, i_cS, i_rV, i_rI, i_rZ, i_rJ, i_mm, i_pop, i_no, mpl, mvr, mnw, List.getElem?_cons_zero, List.getElem?_cons_succ, List.set_cons_zero, List.set_cons_succ, List.length_cons, List.length_nil, List.drop_succ_cons, List.drop_zero, List.take_succ_cons, List.take_zero, List.reverse_cons, List.reverse_nil, List.nil_append, List.cons_append, List.append_nil, List.map_cons, List.map_nil, List.sum_cons, List.sum_nil, Option.toList_some, Option.toList_none, Option.bind_some, Value.category, decide_eq_true_eq, decide_true, decide_false, if_true, if_false, Bool.false_eq_true, and_self, and_true, true_and, true_or, or_true, not_true_eq_false, not_false_eq_true, ↓reduceIte, reduceCtorEq, Nat.reduceEqDiff, Nat.reduceAdd, Nat.reduceSub, Nat.reduceMul, Nat.reduceLT, Nat.reduceLeDiff, Nat.reduceBEq, Nat.le_refl, Nat.zero_le, Nat.lt_irrefl, beq_self_eq_true, Nat.succ_ne_zero, Option.some.injEq, Prod.mk.injEq, Int32.reduceLT, Int32.reduceLE, w0, y_0, rt_0_13, y_57, lit3, w1, aTurn, Int32.not_lt.mpr w1, and_false]
  have hw : 0 ≤ w ∧ w < 3 := ⟨Int32.not_lt.mp w0, Int32.not_le.mp w1⟩
  have hm := p_howMany (show 8 < n by omega) J f o
  by_cases hz : manyA T S = 0
  · have hno := tuC_none T S (cn_zero 8 hz) 8 (Nat.le_refl _)
    refine ⟨I, ?_, rf⟩
    have : aTurn T S w = -1 := by
      unfold aTurn
      rw [if_pos hw, hno]
      by_cases e0 : w = 0
      · rw [if_pos e0]; rfl
      · rw [if_neg e0]
        split <;> rfl
    simp only [eX11_turn, kX11_turn_0, kX11_turn_23, i_cst, i_ldI, i_ldJ, i_ldA, i_stI, i_stJ, i_stA, i_inc, i_bin, i_dv, i_un, i_i2l, i_bnJ, i_lshl, i_lcmp, i_dup, i_dp2, i_gI, i_gJ, i_gA, i_pI, i_pZ, i_pJ, i_pA, i_al, i_as, i_alJ, i_asJ, i_len, i_c0, i_c2, i_sw, msel, i_cV, i_cS, i_rV, i_rI, i_rZ, i_rJ, i_mm, i_pop, i_no, mpl, mvr, mnw, List.getElem?_cons_zero, List.getElem?_cons_succ, List.set_cons_zero, List.set_cons_succ, List.length_cons, List.length_nil, List.drop_succ_cons, List.drop_zero, List.take_succ_cons, List.take_zero, List.reverse_cons, List.reverse_nil, List.nil_append, List.cons_append, List.append_nil, List.map_cons, List.map_nil, List.sum_cons, List.sum_nil, Option.toList_some, Option.toList_none, Option.bind_some, Value.category, decide_eq_true_eq, decide_true, decide_false, if_true, if_false, Bool.false_eq_true, and_self, and_true, true_and, true_or, or_true, not_true_eq_false, not_false_eq_true, ↓reduceIte, reduceCtorEq, Nat.reduceEqDiff, Nat.reduceAdd, Nat.reduceSub, Nat.reduceMul, Nat.reduceLT, Nat.reduceLeDiff, Nat.reduceBEq, Nat.le_refl, Nat.zero_le, Nat.lt_irrefl, beq_self_eq_true, Nat.succ_ne_zero, Option.some.injEq, Prod.mk.injEq, Int32.reduceLT, Int32.reduceLE, w0, y_0, y_29, rt_0_5, rt_0_13, y_57, lit3, w1, hm, hz, show nI 0 = 0 from rfl, this]
  · have hz' : ¬ nI (manyA T S) = 0 := nI_ne0 (by omega) (by have := cn_le (inA T S) 8; unfold manyA; omega)
    obtain ⟨I1, g1, g2, g3⟩ := p_copyFrom (show 8 < n by omega) J f o
    obtain ⟨j3, hj3, rfl⟩ := nI_of w0
    have hj3' : j3 < 3 := by
      have := hw.2
      rw [show (3 : Int32) = nI 3 from rfl, nI_ltI hj3 (by decide)] at this; exact this
    simp only [eX11_turn, kX11_turn_0, kX11_turn_23, i_cst, i_ldI, i_ldJ, i_ldA, i_stI, i_stJ, i_stA, i_inc, i_bin, i_dv, i_un, i_i2l, i_bnJ, i_lshl, i_lcmp, i_dup, i_dp2, i_gI, i_gJ, i_gA, i_pI, i_pZ, i_pJ, i_pA, i_al, i_as, i_alJ, i_asJ, i_len, i_c0, i_c2, i_sw, msel, i_cV, i_cS, i_rV, i_rI, i_rZ, i_rJ, i_mm, i_pop, i_no, mpl, mvr, mnw, List.getElem?_cons_zero, List.getElem?_cons_succ, List.set_cons_zero, List.set_cons_succ, List.length_cons, List.length_nil, List.drop_succ_cons, List.drop_zero, List.take_succ_cons, List.take_zero, List.reverse_cons, List.reverse_nil, List.nil_append, List.cons_append, List.append_nil, List.map_cons, List.map_nil, List.sum_cons, List.sum_nil, Option.toList_some, Option.toList_none, Option.bind_some, Value.category, decide_eq_true_eq, decide_true, decide_false, if_true, if_false, Bool.false_eq_true, and_self, and_true, true_and, true_or, or_true, not_true_eq_false, not_false_eq_true, ↓reduceIte, reduceCtorEq, Nat.reduceEqDiff, Nat.reduceAdd, Nat.reduceSub, Nat.reduceMul, Nat.reduceLT, Nat.reduceLeDiff, Nat.reduceBEq, Nat.le_refl, Nat.zero_le, Nat.lt_irrefl, beq_self_eq_true, Nat.succ_ne_zero, Option.some.injEq, Prod.mk.injEq, Int32.reduceLT, Int32.reduceLE, w0, y_0, y_29, y_34, rt_0_5, rt_0_6, rt_0_13, y_57, lit3, w1, hm, hz', g1, p_find]
    refine mit_ind (G := kX11_turn_45 n) (fun d L μ => ∃ (c : Nat) (I' : Nat → Nat → Int32), c + d = 8 ∧ μ = mm I' J f ∧ SO I' 34 T S ∧ FQ I' 4 (tuC T S c) ∧ QF I I' ∧ L = [some (.ref 0), some (.int (nI j3)), some (.int (nI c))]) (fun v => ∃ I', v = some (some (.int (aTurn T S (nI j3))), mm I' J f) ∧ QF I I') ?_ ?_ 8 n _ _ (by omega) ⟨0, _, rfl, rfl, SO_fr g2 (fun b j hb => fd3_o (by omega)), ⟨fd3_0.1, fd3_0.2.1, fd3_0.2.2⟩, fun b j _ _ h3 h4 => by rw [fd3_o h4]; exact g3 b j h3, rfl⟩
    · rintro L μ ⟨c, I', hc, rfl, hO, hQ, hI, rfl⟩
      have : c = 8 := by omega
      subst this
      refine ⟨_, fun r => ?_, I', rfl, hI⟩
      simp only [kX11_turn_45, i_cst, i_ldI, i_ldJ, i_ldA, i_stI, i_stJ, i_stA, i_inc, i_bin, i_dv, i_un, i_i2l, i_bnJ, i_lshl, i_lcmp, i_dup, i_dp2, i_gI, i_gJ, i_gA, i_pI, i_pZ, i_pJ, i_pA, i_al, i_as, i_alJ, i_asJ, i_len, i_c0, i_c2, i_sw, msel, i_cV, i_cS, i_rV, i_rI, i_rZ, i_rJ, i_mm, i_pop, i_no, mpl, mvr, mnw, List.getElem?_cons_zero, List.getElem?_cons_succ, List.set_cons_zero, List.set_cons_succ, List.length_cons, List.length_nil, List.drop_succ_cons, List.drop_zero, List.take_succ_cons, List.take_zero, List.reverse_cons, List.reverse_nil, List.nil_append, List.cons_append, List.append_nil, List.map_cons, List.map_nil, List.sum_cons, List.sum_nil, Option.toList_some, Option.toList_none, Option.bind_some, Value.category, decide_eq_true_eq, decide_true, decide_false, if_true, if_false, Bool.false_eq_true, and_self, and_true, true_and, true_or, or_true, not_true_eq_false, not_false_eq_true, ↓reduceIte, reduceCtorEq, Nat.reduceEqDiff, Nat.reduceAdd, Nat.reduceSub, Nat.reduceMul, Nat.reduceLT, Nat.reduceLeDiff, Nat.reduceBEq, Nat.le_refl, Nat.zero_le, Nat.lt_irrefl, beq_self_eq_true, Nat.succ_ne_zero, Option.some.injEq, Prod.mk.injEq, Int32.reduceLT, Int32.reduceLE, le88, y_0, rt_0_13, p_atN n 57 j3 (mm I' J f) y_57 (by decide) hj3']
      have : I' 57 j3 = aTurn T S (nI j3) := by
        unfold aTurn
        rw [if_pos hw]
        rcases (show j3 = 0 ∨ j3 = 1 ∨ j3 = 2 by omega) with rfl | rfl | rfl
        · rw [if_pos (by decide)]; exact hQ.1
        · rw [if_neg (by decide), if_pos (by decide)]; exact hQ.2.1
        · rw [if_neg (by decide), if_neg (by decide)]; exact hQ.2.2
      rw [this]
    · rintro d L μ ⟨c, I', hc, rfl, hO, hQ, hI, rfl⟩
      refine Or.inr ?_
      have hc8 : c < 8 := by omega
      have o' : SO I' 29 T S := SO_fr o (fun b j hb => hI b j (by omega) (by omega) (by omega) (by omega))
      by_cases h : inA T S c = true
      · obtain ⟨I2, q1, q2, q3, q4⟩ := p_tryTurns hn J f o' hO hQ h
        refine ⟨_, _, ⟨c + 1, I2, by omega, rfl, q2, by rw [tuC, if_pos h]; exact q3, fun b j h1 h2 h3 h4 => by rw [q4 b j (by omega) h4]; exact hI b j h1 h2 h3 h4, rfl⟩, fun r => ?_⟩
        simp only [kX11_turn_45, kX11_turn_67, i_cst, i_ldI, i_ldJ, i_ldA, i_stI, i_stJ, i_stA, i_inc, i_bin, i_dv, i_un, i_i2l, i_bnJ, i_lshl, i_lcmp, i_dup, i_dp2, i_gI, i_gJ, i_gA, i_pI, i_pZ, i_pJ, i_pA, i_al, i_as, i_alJ, i_asJ, i_len, i_c0, i_c2, i_sw, msel, i_cV, i_cS, i_rV, i_rI, i_rZ, i_rJ, i_mm, i_pop, i_no, mpl, mvr, mnw, List.getElem?_cons_zero, List.getElem?_cons_succ, List.set_cons_zero, List.set_cons_succ, List.length_cons, List.length_nil, List.drop_succ_cons, List.drop_zero, List.take_succ_cons, List.take_zero, List.reverse_cons, List.reverse_nil, List.nil_append, List.cons_append, List.append_nil, List.map_cons, List.map_nil, List.sum_cons, List.sum_nil, Option.toList_some, Option.toList_none, Option.bind_some, Value.category, decide_eq_true_eq, decide_true, decide_false, if_true, if_false, Bool.false_eq_true, and_self, and_true, true_and, true_or, or_true, not_true_eq_false, not_false_eq_true, ↓reduceIte, reduceCtorEq, Nat.reduceEqDiff, Nat.reduceAdd, Nat.reduceSub, Nat.reduceMul, Nat.reduceLT, Nat.reduceLeDiff, Nat.reduceBEq, Nat.le_refl, Nat.zero_le, Nat.lt_irrefl, beq_self_eq_true, Nat.succ_ne_zero, Option.some.injEq, Prod.mk.injEq, Int32.reduceLT, Int32.reduceLE, nle8 hc8, y_0, y_29, rt_0_5, p_isInA n J f o' (show c < 2 ^ 31 by omega), b2i_eq0, h, q1, nI_1]
      · refine ⟨_, _, ⟨c + 1, I', by omega, rfl, hO, by rw [tuC, if_neg h]; exact hQ, hI, rfl⟩, fun r => ?_⟩
        simp only [kX11_turn_45, kX11_turn_67, i_cst, i_ldI, i_ldJ, i_ldA, i_stI, i_stJ, i_stA, i_inc, i_bin, i_dv, i_un, i_i2l, i_bnJ, i_lshl, i_lcmp, i_dup, i_dp2, i_gI, i_gJ, i_gA, i_pI, i_pZ, i_pJ, i_pA, i_al, i_as, i_alJ, i_asJ, i_len, i_c0, i_c2, i_sw, msel, i_cV, i_cS, i_rV, i_rI, i_rZ, i_rJ, i_mm, i_pop, i_no, mpl, mvr, mnw, List.getElem?_cons_zero, List.getElem?_cons_succ, List.set_cons_zero, List.set_cons_succ, List.length_cons, List.length_nil, List.drop_succ_cons, List.drop_zero, List.take_succ_cons, List.take_zero, List.reverse_cons, List.reverse_nil, List.nil_append, List.cons_append, List.append_nil, List.map_cons, List.map_nil, List.sum_cons, List.sum_nil, Option.toList_some, Option.toList_none, Option.bind_some, Value.category, decide_eq_true_eq, decide_true, decide_false, if_true, if_false, Bool.false_eq_true, and_self, and_true, true_and, true_or, or_true, not_true_eq_false, not_false_eq_true, ↓reduceIte, reduceCtorEq, Nat.reduceEqDiff, Nat.reduceAdd, Nat.reduceSub, Nat.reduceMul, Nat.reduceLT, Nat.reduceLeDiff, Nat.reduceBEq, Nat.le_refl, Nat.zero_le, Nat.lt_irrefl, beq_self_eq_true, Nat.succ_ne_zero, Option.some.injEq, Prod.mk.injEq, Int32.reduceLT, Int32.reduceLE, nle8 hc8, y_0, y_29, rt_0_5, p_isInA n J f o' (show c < 2 ^ 31 by omega), b2i_eq0, h, nI_1]
end Turn
