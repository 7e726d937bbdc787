/-! PURE: the class's ACTS -/
section Acts
variable {n : Nat} {I : Nat → Nat → Int32} {T : TA} {S : SA} {A : AS}
theorem SO_hd9 {h c : Nat} (hh : h < 4) (o : SO I 29 T S) : SO (u2 I 31 c (nI h)) 29 T (hdS S c h) := by
  obtain ⟨ha, ht, hT, hR, h1, h2, h3⟩ := o
  refine ⟨ha, ht, TC_of (fun b i _ h2 _ => u2_a (by omega)) hT, ⟨fun j hj => ?_, hR.2⟩, fun j hj => ?_, ?_, ?_⟩
  · obtain ⟨w1, w2, w3, w4⟩ := hR.1 j hj
    refine ⟨w1, ?_, w3, w4⟩
    show (if j = c then h else shd S j) < 4
    split <;> omega
  · obtain ⟨w1, w2, w3, w4⟩ := h1 j hj
    refine ⟨by rw [u2_a (by omega)]; exact w1, ?_, by rw [u2_a (by omega)]; exact w3, by rw [u2_a (by omega)]; exact w4⟩
    show u2 I 31 c (nI h) 31 j = nI (if j = c then h else shd S j)
    by_cases e : j = c
    · subst e; rw [u2_s, if_pos rfl]
    · rw [u2_j e, if_neg e]; exact w2
  · rw [u2_a (by decide)]; exact h2
  · rw [u2_a (by decide)]; exact h3
def clS (S : SA) (c : Nat) (p : Option Nat) : SA := setCl S (fun j => if j = c then p else scl S j)
theorem SO_cl9 {c : Nat} {p : Option Nat} (hp : ∀ q, p = some q → q < tC T * tR T) (o : SO I 29 T S) : SO (u2 I 30 c (oc p)) 29 T (clS S c p) := by
  obtain ⟨ha, ht, hT, hR, h1, h2, h3⟩ := o
  refine ⟨ha, ht, TC_of (fun b i _ h2 _ => u2_a (by omega)) hT, ⟨fun j hj => ?_, hR.2⟩, fun j hj => ?_, ?_, ?_⟩
  · obtain ⟨w1, w2, w3, w4⟩ := hR.1 j hj
    refine ⟨fun q hq => ?_, w2, w3, w4⟩
    have hq : (if j = c then p else scl S j) = some q := hq
    split at hq
    · exact hp q hq
    · exact w1 q hq
  · obtain ⟨w1, w2, w3, w4⟩ := h1 j hj
    refine ⟨?_, by rw [u2_a (by omega)]; exact w2, by rw [u2_a (by omega)]; exact w3, by rw [u2_a (by omega)]; exact w4⟩
    show u2 I 30 c (oc p) 30 j = oc (if j = c then p else scl S j)
    by_cases e : j = c
    · subst e; rw [u2_s, if_pos rfl]
    · rw [u2_j e, if_neg e]; exact w1
  · rw [u2_a (by decide)]; exact h2
  · rw [u2_a (by decide)]; exact h3
def boS (S : SA) (c b : Nat) : SA := (scl S, shd S, sho S, fun j => if j = c then b else sbo S j, syr S, ssd S)
theorem SO_bo9 {b c : Nat} (hh : b ≤ 9) (o : SO I 29 T S) : SO (u2 I 33 c (nI b)) 29 T (boS S c b) := by
  obtain ⟨ha, ht, hT, hR, h1, h2, h3⟩ := o
  refine ⟨ha, ht, TC_of (fun b i _ h2 _ => u2_a (by omega)) hT, ⟨fun j hj => ?_, hR.2⟩, fun j hj => ?_, ?_, ?_⟩
  · obtain ⟨w1, w2, w3, w4⟩ := hR.1 j hj
    refine ⟨w1, w2, w3, ?_⟩
    show (if j = c then b else sbo S j) ≤ 9
    split <;> omega
  · obtain ⟨w1, w2, w3, w4⟩ := h1 j hj
    refine ⟨by rw [u2_a (by omega)]; exact w1, by rw [u2_a (by omega)]; exact w2, by rw [u2_a (by omega)]; exact w3, ?_⟩
    show u2 I 33 c (nI b) 33 j = nI (if j = c then b else sbo S j)
    by_cases e : j = c
    · subst e; rw [u2_s, if_pos rfl]
    · rw [u2_j e, if_neg e]; exact w4
  · rw [u2_a (by decide)]; exact h2
  · rw [u2_a (by decide)]; exact h3
def act (A : AS) (S : SA) : AS := (aT A, S, pushH (aH A) (aN A) S, aN A + 1 - (aN A + 1 - 40), aL A, aHd A, aTm A, aB A, aTp A, aFk A, aFp A)
/-- an ACT: the street has changed, then it is kept -/
theorem p_act (hn : 1400 < n) (J : Nat → Nat → Int64) (f : Nat) {I1 : Nat → Nat → Int32} {S' : SA} (h : RC I A) (o : SO I1 29 (aT A) S') (hy : syr S' ≤ 999) (hI : ∀ b j, b ≠ 9 → b ≠ 12 → (b < 29 ∨ 33 < b) → I1 b j = I b j) : ∃ I', FX3_keep n [.ref 44] (mm I1 J f) = some (none, mm I' J f) ∧ RC I' (act A S') ∧ SO I' 29 (aT A) S' ∧ (∀ b j, b ≠ 44 → b ≠ 45 → I' b j = I1 b j) ∧ lo I I' := by
  obtain ⟨h1, h2, h3, h4, h5, h6, h7, h8⟩ := h
  have hS : SOk (aT A) S' := ⟨o.2.2.2.1, hy⟩
  obtain ⟨I', k1, k2, k3⟩ := p_keep hn J f o hS (HiC_of h3 (fun b j hb => hI b j (by omega) (by omega) (by omega)))
  have o' : SO I' 29 (aT A) S' := SO_fr o (fun b j hb => k3 b j (by omega) (by omega))
  refine ⟨I', k1, ⟨o', hS, k2, RowC_of h4 (fun b j hb => by rw [k3 b j (by omega) (by omega), hI b j (by omega) (by omega) (by omega)]), HC_of h5 (fun b j b1 b2 => by rw [k3 b j (by omega) (by omega), hI b j (by omega) (by omega) (by omega)]), BxC_of h6 (fun b j hb => by rw [k3 b j (by omega) (by omega), hI b j (by omega) (by omega) (by omega)]), TpC_of h7 (fun b j hb => by rw [k3 b j (by omega) (by omega), hI b j (by omega) (by omega) (by omega)]), FtC_of h8 (fun j => by rw [k3 24 j (by omega) (by omega), hI 24 j (by omega) (by omega) (by omega)])⟩, o', k3, fun b j hb => by rw [k3 b j (by omega) (by omega), hI b j (by omega) (by omega) (by omega)]⟩
def yeaS (T : TA) (S : SA) : SA := (scl S, shd S, sho (softS T S), (brk T (softS T S) 8).2.1, syr S + 1, (brk T (softS T S) 8).1)
def aYear (A : AS) : Int32 := if syr (aS A) < 999 then (brk (aT A) (softS (aT A) (aS A)) 8).2.2 else -1
def sYear (A : AS) : AS := if syr (aS A) < 999 then act A (yeaS (aT A) (aS A)) else A
set_option maxHeartbeats 4000000 in
theorem c_year (hn : 1400 < n) (J : Nat → Nat → Int64) (f : Nat) (h : RC I A) : ∃ I', FX11_year n [.ref 0] (mm I J f) = some (some (.int (aYear A)), mm I' J f) ∧ RC I' (sYear A) ∧ lo I I' := by
  have o := h.1
  have e5 : I 29 5 = nI (syr (aS A)) := o.2.2.2.2.2.1
  have hyr := h.2.1.2
  by_cases hy : syr (aS A) < 999
  · obtain ⟨I1, a1, a2, a3⟩ := p_soften (show 300 < n by omega) J f o
    obtain ⟨I2, b1, b2, b3⟩ := p_breakLamps (show 8 < n by omega) J f a2
    have e5' : I2 29 5 = nI (syr (aS A)) := b2.2.2.2.2.2.1
    have o3 : SO (u2 I2 29 5 (nI (syr (aS A) + 1))) 29 (aT A) (yeaS (aT A) (aS A)) := by
      obtain ⟨q1, q2, q3, q4, q5⟩ := b2
      refine ⟨q1, q2, TC_of (fun b i h1 h2 _ => u2_a (by omega)) q3, ⟨q4.1, ?_, q4.2.2⟩, ⟨fun i hi => ?_, u2_s, ?_⟩⟩
      · show syr (aS A) + 1 ≤ 2000
        omega
      · rw [u2_a (by omega), u2_a (by omega), u2_a (by omega), u2_a (by omega)]
        exact q5.1 i hi
      · rw [u2_j (by decide)]; exact q5.2.2
    obtain ⟨I3, c1, c2, c3, c4, c5⟩ := p_act hn J f h o3 (by show syr (aS A) + 1 ≤ 999; omega) (fun b j h1 h2 h3 => by rw [u2_a (by omega), b3 b j (by omega) (by omega), a3 b j h1 h2 (by omega)])
    refine ⟨I3, ?_, by unfold sYear; rw [if_pos hy]; exact c2, c5⟩
    have k1 : nI (syr (aS A)) < 999 := lit_lt (k := 999) rfl (by decide) hy
    simp only [eX11_year, kX11_year_0, i_cst, i_ldI, i_ldJ, i_ldA, i_stI, i_stJ, i_stA, i_inc, i_bin, i_dv, i_un, i_i2l, i_bnJ, i_lshl, i_lcmp, i_dup, i_dp2, i_gI, i_gJ, i_gA, i_pI, i_pZ, i_pJ, i_pA, i_al, i_as, i_alJ, i_asJ, i_len, i_c0, i_c2, i_sw, msel, i_cV, i_cS, i_rV, i_rI, i_rZ, i_rJ, i_mm, i_pop, i_no, mpl, mvr, mnw, List.getElem?_cons_zero, List.getElem?_cons_succ, List.set_cons_zero, List.set_cons_succ, List.length_cons, List.length_nil, List.drop_succ_cons, List.drop_zero, List.take_succ_cons, List.take_zero, List.reverse_cons, List.reverse_nil, List.nil_append, List.cons_append, List.append_nil, List.map_cons, List.map_nil, List.sum_cons, List.sum_nil, Option.toList_some, Option.toList_none, Option.bind_some, Value.category, decide_eq_true_eq, decide_true, decide_false, if_true, if_false, Bool.false_eq_true, and_self, and_true, true_and, true_or, or_true, not_true_eq_false, not_false_eq_true, ↓reduceIte, reduceCtorEq, Nat.reduceEqDiff, Nat.reduceAdd, Nat.reduceSub, Nat.reduceMul, Nat.reduceLT, Nat.reduceLeDiff, Nat.reduceBEq, Nat.le_refl, Nat.zero_le, Nat.lt_irrefl, beq_self_eq_true, Nat.succ_ne_zero, Option.some.injEq, Prod.mk.injEq, Int32.reduceLT, Int32.reduceLE, y_0, y_29, y_44, rt_0_5, rt_0_9, e5, k1, a1, b1, e5', nI_1, uI_mm, c1, aYear, hy]
  · refine ⟨I, ?_, by unfold sYear; rw [if_neg hy]; exact h, fun _ _ _ => rfl⟩
    have k1 : ¬ nI (syr (aS A)) < 999 := lit_nlt (k := 999) rfl (by omega) (by omega)
    simp only [eX11_year, kX11_year_0, i_cst, i_ldI, i_ldJ, i_ldA, i_stI, i_stJ, i_stA, i_inc, i_bin, i_dv, i_un, i_i2l, i_bnJ, i_lshl, i_lcmp, i_dup, i_dp2, i_gI, i_gJ, i_gA, i_pI, i_pZ, i_pJ, i_pA, i_al, i_as, i_alJ, i_asJ, i_len, i_c0, i_c2, i_sw, msel, i_cV, i_cS, i_rV, i_rI, i_rZ, i_rJ, i_mm, i_pop, i_no, mpl, mvr, mnw, List.getElem?_cons_zero, List.getElem?_cons_succ, List.set_cons_zero, List.set_cons_succ, List.length_cons, List.length_nil, List.drop_succ_cons, List.drop_zero, List.take_succ_cons, List.take_zero, List.reverse_cons, List.reverse_nil, List.nil_append, List.cons_append, List.append_nil, List.map_cons, List.map_nil, List.sum_cons, List.sum_nil, Option.toList_some, Option.toList_none, Option.bind_some, Value.category, decide_eq_true_eq, decide_true, decide_false, if_true, if_false, Bool.false_eq_true, and_self, and_true, true_and, true_or, or_true, not_true_eq_false, not_false_eq_true, ↓reduceIte, reduceCtorEq, Nat.reduceEqDiff, Nat.reduceAdd, Nat.reduceSub, Nat.reduceMul, Nat.reduceLT, Nat.reduceLeDiff, Nat.reduceBEq, Nat.le_refl, Nat.zero_le, Nat.lt_irrefl, beq_self_eq_true, Nat.succ_ne_zero, Option.some.injEq, Prod.mk.injEq, Int32.reduceLT, Int32.reduceLE, y_0, y_29, rt_0_5, e5, k1, aYear, hy]
set_option maxHeartbeats 4000000 in
theorem p_takeOff (hn : 1400 < n) (J : Nat → Nat → Int64) (f : Nat) (h : RC I A) {c : Nat} (hc : inA (aT A) (aS A) c = true) : ∃ I', FX11_takeOff n [.ref 0, .int (nI c)] (mm I J f) = some (some (.int (nI (manyA (aT A) (clS (aS A) c none)))), mm I' J f) ∧ RC I' (act A (clS (aS A) c none)) ∧ lo I I' := by
  have o := h.1
  have h8 := (rd_cl o hc).1
  have o1 : SO (u2 I 30 c (-1)) 29 (aT A) (clS (aS A) c none) := SO_cl9 (p := none) (fun q hq => by cases hq) o
  obtain ⟨I3, c1, c2, c3, c4, c5⟩ := p_act hn J f h o1 h.2.1.2 (fun b j h1 h2 h3 => u2_a (by omega))
  refine ⟨I3, ?_, c2, c5⟩
  simp only [eX11_takeOff, kX11_takeOff_0, i_cst, i_ldI, i_ldJ, i_ldA, i_stI, i_stJ, i_stA, i_inc, i_bin, i_dv, i_un, i_i2l, i_bnJ, i_lshl, i_lcmp, i_dup, i_dp2, i_gI, i_gJ, i_gA, i_pI, i_pZ, i_pJ, i_pA, i_al, i_as, i_alJ, i_asJ, i_len, i_c0, i_c2, i_sw, msel, i_cV, i_cS, i_rV, i_rI, i_rZ, i_rJ, i_mm, i_pop, i_no, mpl, mvr, mnw, List.getElem?_cons_zero, List.getElem?_cons_succ, List.set_cons_zero, List.set_cons_succ, List.length_cons, List.length_nil, List.drop_succ_cons, List.drop_zero, List.take_succ_cons, List.take_zero, List.reverse_cons, List.reverse_nil, List.nil_append, List.cons_append, List.append_nil, List.map_cons, List.map_nil, List.sum_cons, List.sum_nil, Option.toList_some, Option.toList_none, Option.bind_some, Value.category, decide_eq_true_eq, decide_true, decide_false, if_true, if_false, Bool.false_eq_true, and_self, and_true, true_and, true_or, or_true, not_true_eq_false, not_false_eq_true, ↓reduceIte, reduceCtorEq, Nat.reduceEqDiff, Nat.reduceAdd, Nat.reduceSub, Nat.reduceMul, Nat.reduceLT, Nat.reduceLeDiff, Nat.reduceBEq, Nat.le_refl, Nat.zero_le, Nat.lt_irrefl, beq_self_eq_true, Nat.succ_ne_zero, Option.some.injEq, Prod.mk.injEq, Int32.reduceLT, Int32.reduceLE, y_0, y_29, y_44, rt_0_5, rt_0_9, rt_29_1, p_setN n 30 c _ (mm I J f) y_30 (by decide) h8, uI_mm, c1, p_howMany (show 8 < n by omega) J f c3]
def letB (A : AS) (c : Int32) : Bool := inI (aT A) (aS A) c && decide (barA (aT A) (aS A) c.toNatClampNeg = 0)
def aOff (A : AS) (b : Bool) (c : Int32) : Int32 := if b = true then nI (manyA (aT A) (clS (aS A) c.toNatClampNeg none)) else -1
def sOff (A : AS) (b : Bool) (c : Int32) : AS := if b = true then act A (clS (aS A) c.toNatClampNeg none) else A
set_option maxHeartbeats 4000000 in
theorem c_tow (hn : 1400 < n) (J : Nat → Nat → Int64) (f : Nat) (h : RC I A) (c : Int32) : ∃ I', FX11_tow n [.ref 0, .int c] (mm I J f) = some (some (.int (aOff A (inI (aT A) (aS A) c) c)), mm I' J f) ∧ RC I' (sOff A (inI (aT A) (aS A) c) c) ∧ lo I I' := by
  have hin := p_isInI n J f h.1 c
  cases e : inI (aT A) (aS A) c
  · refine ⟨I, ?_, h, fun _ _ _ => rfl⟩
    simp only [eX11_tow, kX11_tow_0, kX11_tow_20, i_cst, i_ldI, i_ldJ, i_ldA, i_stI, i_stJ, i_stA, i_inc, i_bin, i_dv, i_un, i_i2l, i_bnJ, i_lshl, i_lcmp, i_dup, i_dp2, i_gI, i_gJ, i_gA, i_pI, i_pZ, i_pJ, i_pA, i_al, i_as, i_alJ, i_asJ, i_len, i_c0, i_c2, i_sw, msel, i_cV, i_cS, i_rV, i_rI, i_rZ, i_rJ, i_mm, i_pop, i_no, mpl, mvr, mnw, List.getElem?_cons_zero, List.getElem?_cons_succ, List.set_cons_zero, List.set_cons_succ, List.length_cons, List.length_nil, List.drop_succ_cons, List.drop_zero, List.take_succ_cons, List.take_zero, List.reverse_cons, List.reverse_nil, List.nil_append, List.cons_append, List.append_nil, List.map_cons, List.map_nil, List.sum_cons, List.sum_nil, Option.toList_some, Option.toList_none, Option.bind_some, Value.category, decide_eq_true_eq, decide_true, decide_false, if_true, if_false, Bool.false_eq_true, and_self, and_true, true_and, true_or, or_true, not_true_eq_false, not_false_eq_true, ↓reduceIte, reduceCtorEq, Nat.reduceEqDiff, Nat.reduceAdd, Nat.reduceSub, Nat.reduceMul, Nat.reduceLT, Nat.reduceLeDiff, Nat.reduceBEq, Nat.le_refl, Nat.zero_le, Nat.lt_irrefl, beq_self_eq_true, Nat.succ_ne_zero, Option.some.injEq, Prod.mk.injEq, Int32.reduceLT, Int32.reduceLE, y_0, y_29, rt_0_5, hin, b2i_eq0, e, aOff]
  · obtain ⟨k, hk, rfl, hk2⟩ := inI_ex e
    obtain ⟨I', c1, c2, c3⟩ := p_takeOff hn J f h hk
    refine ⟨I', ?_, by unfold sOff; rw [if_pos rfl, nI_clamp hk2]; exact c2, c3⟩
    simp only [eX11_tow, kX11_tow_0, kX11_tow_20, i_cst, i_ldI, i_ldJ, i_ldA, i_stI, i_stJ, i_stA, i_inc, i_bin, i_dv, i_un, i_i2l, i_bnJ, i_lshl, i_lcmp, i_dup, i_dp2, i_gI, i_gJ, i_gA, i_pI, i_pZ, i_pJ, i_pA, i_al, i_as, i_alJ, i_asJ, i_len, i_c0, i_c2, i_sw, msel, i_cV, i_cS, i_rV, i_rI, i_rZ, i_rJ, i_mm, i_pop, i_no, mpl, mvr, mnw, List.getElem?_cons_zero, List.getElem?_cons_succ, List.set_cons_zero, List.set_cons_succ, List.length_cons, List.length_nil, List.drop_succ_cons, List.drop_zero, List.take_succ_cons, List.take_zero, List.reverse_cons, List.reverse_nil, List.nil_append, List.cons_append, List.append_nil, List.map_cons, List.map_nil, List.sum_cons, List.sum_nil, Option.toList_some, Option.toList_none, Option.bind_some, Value.category, decide_eq_true_eq, decide_true, decide_false, if_true, if_false, Bool.false_eq_true, and_self, and_true, true_and, true_or, or_true, not_true_eq_false, not_false_eq_true, ↓reduceIte, reduceCtorEq, Nat.reduceEqDiff, Nat.reduceAdd, Nat.reduceSub, Nat.reduceMul, Nat.reduceLT, Nat.reduceLeDiff, Nat.reduceBEq, Nat.le_refl, Nat.zero_le, Nat.lt_irrefl, beq_self_eq_true, Nat.succ_ne_zero, Option.some.injEq, Prod.mk.injEq, Int32.reduceLT, Int32.reduceLE, y_0, y_29, rt_0_5, hin, b2i_eq0, e, aOff, c1, nI_clamp hk2]
set_option maxHeartbeats 4000000 in
theorem c_let (hn : 1400 < n) (J : Nat → Nat → Int64) (f : Nat) (h : RC I A) (c : Int32) : ∃ I', FX11_let n [.ref 0, .int c] (mm I J f) = some (some (.int (aOff A (letB A c) c)), mm I' J f) ∧ RC I' (sOff A (letB A c) c) ∧ lo I I' := by
  have hin := p_isInI n J f h.1 c
  by_cases e : inI (aT A) (aS A) c = true
  · obtain ⟨k, hk, rfl, hk2⟩ := inI_ex e
    have hb := p_whoBars (show 8 < n by omega) J f h.1 hk2
    by_cases e2 : barA (aT A) (aS A) k = 0
    · have hl : letB A (nI k) = true := by simp [letB, e, nI_clamp hk2, e2]
      obtain ⟨I', c1, c2, c3⟩ := p_takeOff hn J f h hk
      refine ⟨I', ?_, by unfold sOff; rw [if_pos hl, nI_clamp hk2]; exact c2, c3⟩
      simp only [eX11_let, kX11_let_0, kX11_let_30, kX11_let_31, i_cst, i_ldI, i_ldJ, i_ldA, i_stI, i_stJ, i_stA, i_inc, i_bin, i_dv, i_un, i_i2l, i_bnJ, i_lshl, i_lcmp, i_dup, i_dp2, i_gI, i_gJ, i_gA, i_pI, i_pZ, i_pJ, i_pA, i_al, i_as, i_alJ, i_asJ, i_len, i_c0, i_c2, i_sw, msel, i_cV, i_cS, i_rV, i_rI, i_rZ, i_rJ, i_mm, i_pop, i_no, mpl, mvr, mnw, List.getElem?_cons_zero, List.getElem?_cons_succ, List.set_cons_zero, List.set_cons_succ, List.length_cons, List.length_nil, List.drop_succ_cons, List.drop_zero, List.take_succ_cons, List.take_zero, List.reverse_cons, List.reverse_nil, List.nil_append, List.cons_append, List.append_nil, List.map_cons, List.map_nil, List.sum_cons, List.sum_nil, Option.toList_some, Option.toList_none, Option.bind_some, Value.category, decide_eq_true_eq, decide_true, decide_false, if_true, if_false, Bool.false_eq_true, and_self, and_true, true_and, true_or, or_true, not_true_eq_false, not_false_eq_true, ↓reduceIte, reduceCtorEq, Nat.reduceEqDiff, Nat.reduceAdd, Nat.reduceSub, Nat.reduceMul, Nat.reduceLT, Nat.reduceLeDiff, Nat.reduceBEq, Nat.le_refl, Nat.zero_le, Nat.lt_irrefl, beq_self_eq_true, Nat.succ_ne_zero, Option.some.injEq, Prod.mk.injEq, Int32.reduceLT, Int32.reduceLE, y_0, y_29, rt_0_5, hin, b2i_eq0, e, hb, e2, aOff, hl, c1, nI_clamp hk2]
    · have hl : letB A (nI k) = false := by simp [letB, nI_clamp hk2, e2]
      refine ⟨I, ?_, by unfold sOff; rw [hl]; exact h, fun _ _ _ => rfl⟩
      simp only [eX11_let, kX11_let_0, kX11_let_30, kX11_let_31, i_cst, i_ldI, i_ldJ, i_ldA, i_stI, i_stJ, i_stA, i_inc, i_bin, i_dv, i_un, i_i2l, i_bnJ, i_lshl, i_lcmp, i_dup, i_dp2, i_gI, i_gJ, i_gA, i_pI, i_pZ, i_pJ, i_pA, i_al, i_as, i_alJ, i_asJ, i_len, i_c0, i_c2, i_sw, msel, i_cV, i_cS, i_rV, i_rI, i_rZ, i_rJ, i_mm, i_pop, i_no, mpl, mvr, mnw, List.getElem?_cons_zero, List.getElem?_cons_succ, List.set_cons_zero, List.set_cons_succ, List.length_cons, List.length_nil, List.drop_succ_cons, List.drop_zero, List.take_succ_cons, List.take_zero, List.reverse_cons, List.reverse_nil, List.nil_append, List.cons_append, List.append_nil, List.map_cons, List.map_nil, List.sum_cons, List.sum_nil, Option.toList_some, Option.toList_none, Option.bind_some, Value.category, decide_eq_true_eq, decide_true, decide_false, if_true, if_false, Bool.false_eq_true, and_self, and_true, true_and, true_or, or_true, not_true_eq_false, not_false_eq_true, ↓reduceIte, reduceCtorEq, Nat.reduceEqDiff, Nat.reduceAdd, Nat.reduceSub, Nat.reduceMul, Nat.reduceLT, Nat.reduceLeDiff, Nat.reduceBEq, Nat.le_refl, Nat.zero_le, Nat.lt_irrefl, beq_self_eq_true, Nat.succ_ne_zero, Option.some.injEq, Prod.mk.injEq, Int32.reduceLT, Int32.reduceLE, y_0, y_29, rt_0_5, hin, b2i_eq0, e, hb, e2, aOff, hl]
  · have hl : letB A c = false := by simp [letB, e]
    refine ⟨I, ?_, by unfold sOff; rw [hl]; exact h, fun _ _ _ => rfl⟩
    simp only [eX11_let, kX11_let_0, kX11_let_30, kX11_let_31, i_cst, i_ldI, i_ldJ, i_ldA, i_stI, i_stJ, i_stA, i_inc, i_bin, i_dv, i_un, i_i2l, i_bnJ, i_lshl, i_lcmp, i_dup, i_dp2, i_gI, i_gJ, i_gA, i_pI, i_pZ, i_pJ, i_pA, i_al, i_as, i_alJ, i_asJ, i_len, i_c0, i_c2, i_sw, msel, i_cV, i_cS, i_rV, i_rI, i_rZ, i_rJ, i_mm, i_pop, i_no, mpl, mvr, mnw, List.getElem?_cons_zero, List.getElem?_cons_succ, List.set_cons_zero, List.set_cons_succ, List.length_cons, List.length_nil, List.drop_succ_cons, List.drop_zero, List.take_succ_cons, List.take_zero, List.reverse_cons, List.reverse_nil, List.nil_append, List.cons_append, List.append_nil, List.map_cons, List.map_nil, List.sum_cons, List.sum_nil, Option.toList_some, Option.toList_none, Option.bind_some, Value.category, decide_eq_true_eq, decide_true, decide_false, if_true, if_false, Bool.false_eq_true, and_self, and_true, true_and, true_or, or_true, not_true_eq_false, not_false_eq_true, ↓reduceIte, reduceCtorEq, Nat.reduceEqDiff, Nat.reduceAdd, Nat.reduceSub, Nat.reduceMul, Nat.reduceLT, Nat.reduceLeDiff, Nat.reduceBEq, Nat.le_refl, Nat.zero_le, Nat.lt_irrefl, beq_self_eq_true, Nat.succ_ne_zero, Option.some.injEq, Prod.mk.injEq, Int32.reduceLT, Int32.reduceLE, y_0, y_29, rt_0_5, hin, b2i_eq0, e, aOff, hl]
def polB (A : AS) (c : Int32) : Bool := inI (aT A) (aS A) c && decide (sbo (aS A) c.toNatClampNeg < 9)
def aPolish (A : AS) (c : Int32) : Int32 := if polB A c = true then nI (sbo (aS A) c.toNatClampNeg + 1) else -1
def sPolish (A : AS) (c : Int32) : AS := if polB A c = true then act A (boS (aS A) c.toNatClampNeg (sbo (aS A) c.toNatClampNeg + 1)) else A
set_option maxHeartbeats 4000000 in
theorem c_polish (hn : 1400 < n) (J : Nat → Nat → Int64) (f : Nat) (h : RC I A) (c : Int32) : ∃ I', FX11_polish n [.ref 0, .int c] (mm I J f) = some (some (.int (aPolish A c)), mm I' J f) ∧ RC I' (sPolish A c) ∧ lo I I' := by
  have hin := p_isInI n J f h.1 c
  by_cases e : inI (aT A) (aS A) c = true
  · obtain ⟨k, hk, rfl, hk2⟩ := inI_ex e
    obtain ⟨h8, hkt, -⟩ := rd_cl h.1 hk
    have e33 : I 33 k = nI (sbo (aS A) k) := (h.1.2.2.2.2.1 k hkt).2.2.2
    have hat := p_atN n 33 k (mm I J f) y_33 (by decide) h8
    have hb9 := (h.1.2.2.2.1.1 k hkt).2.2.2
    by_cases e2 : sbo (aS A) k < 9
    · have hl : polB A (nI k) = true := by simp [polB, e, nI_clamp hk2, e2]
      have c1 : nI (sbo (aS A) k) < 9 := lit_lt (k := 9) rfl (by decide) e2
      have o1 := SO_bo9 (c := k) (show sbo (aS A) k + 1 ≤ 9 by omega) h.1
      obtain ⟨I3, d1, d2, d3, d4, d5⟩ := p_act hn J f h o1 h.2.1.2 (fun b j h1 h2 h3 => u2_a (by omega))
      have e33' : I3 33 k = nI (sbo (aS A) k + 1) := by rw [d4 33 k (by decide) (by decide), u2_s]
      refine ⟨I3, ?_, by unfold sPolish; rw [if_pos hl, nI_clamp hk2]; exact d2, d5⟩
      simp only [eX11_polish, kX11_polish_0, kX11_polish_27, kX11_polish_53, i_cst, i_ldI, i_ldJ, i_ldA, i_stI, i_stJ, i_stA, i_inc, i_bin, i_dv, i_un, i_i2l, i_bnJ, i_lshl, i_lcmp, i_dup, i_dp2, i_gI, i_gJ, i_gA, i_pI, i_pZ, i_pJ, i_pA, i_al, i_as, i_alJ, i_asJ, i_len, i_c0, i_c2, i_sw, msel, i_cV, i_cS, i_rV, i_rI, i_rZ, i_rJ, i_mm, i_pop, i_no, mpl, mvr, mnw, List.getElem?_cons_zero, List.getElem?_cons_succ, List.set_cons_zero, List.set_cons_succ, List.length_cons, List.length_nil, List.drop_succ_cons, List.drop_zero, List.take_succ_cons, List.take_zero, List.reverse_cons, List.reverse_nil, List.nil_append, List.cons_append, List.append_nil, List.map_cons, List.map_nil, List.sum_cons, List.sum_nil, Option.toList_some, Option.toList_none, Option.bind_some, Value.category, decide_eq_true_eq, decide_true, decide_false, if_true, if_false, Bool.false_eq_true, and_self, and_true, true_and, true_or, or_true, not_true_eq_false, not_false_eq_true, ↓reduceIte, reduceCtorEq, Nat.reduceEqDiff, Nat.reduceAdd, Nat.reduceSub, Nat.reduceMul, Nat.reduceLT, Nat.reduceLeDiff, Nat.reduceBEq, Nat.le_refl, Nat.zero_le, Nat.lt_irrefl, beq_self_eq_true, Nat.succ_ne_zero, Option.some.injEq, Prod.mk.injEq, Int32.reduceLT, Int32.reduceLE, y_0, y_29, y_44, rt_0_5, rt_0_9, rt_29_4, hin, b2i_eq0, e, hat, e33, c1, nI_1, p_setN n 33 k _ (mm I J f) y_33 (by decide) h8, uI_mm, d1, p_atN n 33 k (mm I3 J f) y_33 (by decide) h8, e33', aPolish, hl, nI_clamp hk2]
    · have hl : polB A (nI k) = false := by simp [polB, nI_clamp hk2, e2]
      have c1 : ¬ nI (sbo (aS A) k) < 9 := lit_nlt (k := 9) rfl (by omega) (by omega)
      refine ⟨I, ?_, by unfold sPolish; rw [hl]; exact h, fun _ _ _ => rfl⟩
      simp only [eX11_polish, kX11_polish_0, kX11_polish_27, kX11_polish_53, i_cst, i_ldI, i_ldJ, i_ldA, i_stI, i_stJ, i_stA, i_inc, i_bin, i_dv, i_un, i_i2l, i_bnJ, i_lshl, i_lcmp, i_dup, i_dp2, i_gI, i_gJ, i_gA, i_pI, i_pZ, i_pJ, i_pA, i_al, i_as, i_alJ, i_asJ, i_len, i_c0, i_c2, i_sw, msel, i_cV, i_cS, i_rV, i_rI, i_rZ, i_rJ, i_mm, i_pop, i_no, mpl, mvr, mnw, List.getElem?_cons_zero, List.getElem?_cons_succ, List.set_cons_zero, List.set_cons_succ, List.length_cons, List.length_nil, List.drop_succ_cons, List.drop_zero, List.take_succ_cons, List.take_zero, List.reverse_cons, List.reverse_nil, List.nil_append, List.cons_append, List.append_nil, List.map_cons, List.map_nil, List.sum_cons, List.sum_nil, Option.toList_some, Option.toList_none, Option.bind_some, Value.category, decide_eq_true_eq, decide_true, decide_false, if_true, if_false, Bool.false_eq_true, and_self, and_true, true_and, true_or, or_true, not_true_eq_false, not_false_eq_true, ↓reduceIte, reduceCtorEq, Nat.reduceEqDiff, Nat.reduceAdd, Nat.reduceSub, Nat.reduceMul, Nat.reduceLT, Nat.reduceLeDiff, Nat.reduceBEq, Nat.le_refl, Nat.zero_le, Nat.lt_irrefl, beq_self_eq_true, Nat.succ_ne_zero, Option.some.injEq, Prod.mk.injEq, Int32.reduceLT, Int32.reduceLE, y_0, y_29, rt_0_5, rt_29_4, hin, b2i_eq0, e, hat, e33, c1, aPolish, hl]
  · have hl : polB A c = false := by simp [polB, e]
    refine ⟨I, ?_, by unfold sPolish; rw [hl]; exact h, fun _ _ _ => rfl⟩
    simp only [eX11_polish, kX11_polish_0, kX11_polish_27, kX11_polish_53, i_cst, i_ldI, i_ldJ, i_ldA, i_stI, i_stJ, i_stA, i_inc, i_bin, i_dv, i_un, i_i2l, i_bnJ, i_lshl, i_lcmp, i_dup, i_dp2, i_gI, i_gJ, i_gA, i_pI, i_pZ, i_pJ, i_pA, i_al, i_as, i_alJ, i_asJ, i_len, i_c0, i_c2, i_sw, msel, i_cV, i_cS, i_rV, i_rI, i_rZ, i_rJ, i_mm, i_pop, i_no, mpl, mvr, mnw, List.getElem?_cons_zero, List.getElem?_cons_succ, List.set_cons_zero, List.set_cons_succ, List.length_cons, List.length_nil, List.drop_succ_cons, List.drop_zero, List.take_succ_cons, List.take_zero, List.reverse_cons, List.reverse_nil, List.nil_append, List.cons_append, List.append_nil, List.map_cons, List.map_nil, List.sum_cons, List.sum_nil, Option.toList_some, Option.toList_none, Option.bind_some, Value.category, decide_eq_true_eq, decide_true, decide_false, if_true, if_false, Bool.false_eq_true, and_self, and_true, true_and, true_or, or_true, not_true_eq_false, not_false_eq_true, ↓reduceIte, reduceCtorEq, Nat.reduceEqDiff, Nat.reduceAdd, Nat.reduceSub, Nat.reduceMul, Nat.reduceLT, Nat.reduceLeDiff, Nat.reduceBEq, Nat.le_refl, Nat.zero_le, Nat.lt_irrefl, beq_self_eq_true, Nat.succ_ne_zero, Option.some.injEq, Prod.mk.injEq, Int32.reduceLT, Int32.reduceLE, y_0, y_29, rt_0_5, hin, b2i_eq0, e, aPolish, hl]
def steB (A : AS) (c w : Int32) : Bool := inI (aT A) (aS A) c && hdI w && !decide (shd (aS A) c.toNatClampNeg = w.toNatClampNeg)
def aSteer (A : AS) (c w : Int32) : Int32 := if steB A c w = true then barA (aT A) (hdS (aS A) c.toNatClampNeg w.toNatClampNeg) c.toNatClampNeg else -1
def sSteer (A : AS) (c w : Int32) : AS := if steB A c w = true then act A (hdS (aS A) c.toNatClampNeg w.toNatClampNeg) else A
theorem hdI_ex {w : Int32} (h : hdI w = true) : ∃ g, g < 4 ∧ w = nI g := by
  simp only [hdI, decide_eq_true_eq] at h
  obtain ⟨g, hg, rfl⟩ := nI_of (x := w) (Int32.not_lt.mpr h.1)
  have := h.2
  rw [show (4 : Int32) = nI 4 from rfl, nI_ltI hg (by decide)] at this
  exact ⟨g, this, rfl⟩
set_option maxHeartbeats 4000000 in
theorem c_steer (hn : 1400 < n) (J : Nat → Nat → Int64) (f : Nat) (h : RC I A) (c w : Int32) : ∃ I', FX11_steer n [.ref 0, .int c, .int w] (mm I J f) = some (some (.int (aSteer A c w)), mm I' J f) ∧ RC I' (sSteer A c w) ∧ lo I I' := by
  have hin := p_isInI n J f h.1 c
  have hl : b2i (0 ≤ w ∧ w < 4) = b2i (hdI w = true) := b2i_congr (by simp [hdI])
  by_cases e : inI (aT A) (aS A) c = true
  · by_cases e1 : hdI w = true
    · obtain ⟨k, hk, rfl, hk2⟩ := inI_ex e
      obtain ⟨g, hg, rfl⟩ := hdI_ex e1
      obtain ⟨h8, hkt, -⟩ := rd_cl h.1 hk
      have e31 : I 31 k = nI (shd (aS A) k) := (h.1.2.2.2.2.1 k hkt).2.1
      have hat := p_atN n 31 k (mm I J f) y_31 (by decide) h8
      have hb4 := (h.1.2.2.2.1.1 k hkt).2.1
      have heq := nI_eq (show shd (aS A) k < 2 ^ 31 by omega) (show g < 2 ^ 31 by omega)
      by_cases e2 : shd (aS A) k = g
      · have hb : steB A (nI k) (nI g) = false := by simp [steB, nI_clamp hk2, nI_clamp (show g < 2 ^ 31 by omega), e2]
        refine ⟨I, ?_, by unfold sSteer; rw [hb]; exact h, fun _ _ _ => rfl⟩
        simp only [eX11_steer, kX11_steer_0, kX11_steer_33, kX11_steer_54, i_cst, i_ldI, i_ldJ, i_ldA, i_stI, i_stJ, i_stA, i_inc, i_bin, i_dv, i_un, i_i2l, i_bnJ, i_lshl, i_lcmp, i_dup, i_dp2, i_gI, i_gJ, i_gA, i_pI, i_pZ, i_pJ, i_pA, i_al, i_as, i_alJ, i_asJ, i_len, i_c0, i_c2, i_sw, msel, i_cV, i_cS, i_rV, i_rI, i_rZ, i_rJ, i_mm, i_pop, i_no, mpl, mvr, mnw, List.getElem?_cons_zero, List.getElem?_cons_succ, List.set_cons_zero, List.set_cons_succ, List.length_cons, List.length_nil, List.drop_succ_cons, List.drop_zero, List.take_succ_cons, List.take_zero, List.reverse_cons, List.reverse_nil, List.nil_append, List.cons_append, List.append_nil, List.map_cons, List.map_nil, List.sum_cons, List.sum_nil, Option.toList_some, Option.toList_none, Option.bind_some, Value.category, decide_eq_true_eq, decide_true, decide_false, if_true, if_false, Bool.false_eq_true, and_self, and_true, true_and, true_or, or_true, not_true_eq_false, not_false_eq_true, ↓reduceIte, reduceCtorEq, Nat.reduceEqDiff, Nat.reduceAdd, Nat.reduceSub, Nat.reduceMul, Nat.reduceLT, Nat.reduceLeDiff, Nat.reduceBEq, Nat.le_refl, Nat.zero_le, Nat.lt_irrefl, beq_self_eq_true, Nat.succ_ne_zero, Option.some.injEq, Prod.mk.injEq, Int32.reduceLT, Int32.reduceLE, y_0, y_29, rt_0_5, rt_29_2, hin, b2i_eq0, e, p_isHeading, hl, e1, hat, e31, heq, e2, aSteer, hb]
      · have hb : steB A (nI k) (nI g) = true := by simp [steB, e, e1, nI_clamp hk2, nI_clamp (show g < 2 ^ 31 by omega), e2]
        have o1 := SO_hd9 (c := k) hg h.1
        obtain ⟨I3, d1, d2, d3, d4, d5⟩ := p_act hn J f h o1 h.2.1.2 (fun b j h1 h2 h3 => u2_a (by omega))
        refine ⟨I3, ?_, by unfold sSteer; rw [if_pos hb, nI_clamp hk2, nI_clamp (show g < 2 ^ 31 by omega)]; exact d2, d5⟩
        simp only [eX11_steer, kX11_steer_0, kX11_steer_33, kX11_steer_54, i_cst, i_ldI, i_ldJ, i_ldA, i_stI, i_stJ, i_stA, i_inc, i_bin, i_dv, i_un, i_i2l, i_bnJ, i_lshl, i_lcmp, i_dup, i_dp2, i_gI, i_gJ, i_gA, i_pI, i_pZ, i_pJ, i_pA, i_al, i_as, i_alJ, i_asJ, i_len, i_c0, i_c2, i_sw, msel, i_cV, i_cS, i_rV, i_rI, i_rZ, i_rJ, i_mm, i_pop, i_no, mpl, mvr, mnw, List.getElem?_cons_zero, List.getElem?_cons_succ, List.set_cons_zero, List.set_cons_succ, List.length_cons, List.length_nil, List.drop_succ_cons, List.drop_zero, List.take_succ_cons, List.take_zero, List.reverse_cons, List.reverse_nil, List.nil_append, List.cons_append, List.append_nil, List.map_cons, List.map_nil, List.sum_cons, List.sum_nil, Option.toList_some, Option.toList_none, Option.bind_some, Value.category, decide_eq_true_eq, decide_true, decide_false, if_true, if_false, Bool.false_eq_true, and_self, and_true, true_and, true_or, or_true, not_true_eq_false, not_false_eq_true, ↓reduceIte, reduceCtorEq, Nat.reduceEqDiff, Nat.reduceAdd, Nat.reduceSub, Nat.reduceMul, Nat.reduceLT, Nat.reduceLeDiff, Nat.reduceBEq, Nat.le_refl, Nat.zero_le, Nat.lt_irrefl, beq_self_eq_true, Nat.succ_ne_zero, Option.some.injEq, Prod.mk.injEq, Int32.reduceLT, Int32.reduceLE, y_0, y_29, y_44, rt_0_5, rt_0_9, rt_29_2, hin, b2i_eq0, e, p_isHeading, hl, e1, hat, e31, heq, e2, p_setN n 31 k _ (mm I J f) y_31 (by decide) h8, uI_mm, d1, p_whoBars (show 8 < n by omega) J f d3 hk2, aSteer, hb, nI_clamp hk2, nI_clamp (show g < 2 ^ 31 by omega)]
    · have hb : steB A c w = false := by simp [steB, e1]
      refine ⟨I, ?_, by unfold sSteer; rw [hb]; exact h, fun _ _ _ => rfl⟩
      simp only [eX11_steer, kX11_steer_0, kX11_steer_33, kX11_steer_54, i_cst, i_ldI, i_ldJ, i_ldA, i_stI, i_stJ, i_stA, i_inc, i_bin, i_dv, i_un, i_i2l, i_bnJ, i_lshl, i_lcmp, i_dup, i_dp2, i_gI, i_gJ, i_gA, i_pI, i_pZ, i_pJ, i_pA, i_al, i_as, i_alJ, i_asJ, i_len, i_c0, i_c2, i_sw, msel, i_cV, i_cS, i_rV, i_rI, i_rZ, i_rJ, i_mm, i_pop, i_no, mpl, mvr, mnw, List.getElem?_cons_zero, List.getElem?_cons_succ, List.set_cons_zero, List.set_cons_succ, List.length_cons, List.length_nil, List.drop_succ_cons, List.drop_zero, List.take_succ_cons, List.take_zero, List.reverse_cons, List.reverse_nil, List.nil_append, List.cons_append, List.append_nil, List.map_cons, List.map_nil, List.sum_cons, List.sum_nil, Option.toList_some, Option.toList_none, Option.bind_some, Value.category, decide_eq_true_eq, decide_true, decide_false, if_true, if_false, Bool.false_eq_true, and_self, and_true, true_and, true_or, or_true, not_true_eq_false, not_false_eq_true, ↓reduceIte, reduceCtorEq, Nat.reduceEqDiff, Nat.reduceAdd, Nat.reduceSub, Nat.reduceMul, Nat.reduceLT, Nat.reduceLeDiff, Nat.reduceBEq, Nat.le_refl, Nat.zero_le, Nat.lt_irrefl, beq_self_eq_true, Nat.succ_ne_zero, Option.some.injEq, Prod.mk.injEq, Int32.reduceLT, Int32.reduceLE, y_0, y_29, rt_0_5, hin, b2i_eq0, e, p_isHeading, hl, e1, aSteer, hb]
  · have hb : steB A c w = false := by simp [steB, e]
    refine ⟨I, ?_, by unfold sSteer; rw [hb]; exact h, fun _ _ _ => rfl⟩
    simp only [eX11_steer, kX11_steer_0, kX11_steer_33, kX11_steer_54, i_cst, i_ldI, i_ldJ, i_ldA, i_stI, i_stJ, i_stA, i_inc, i_bin, i_dv, i_un, i_i2l, i_bnJ, i_lshl, i_lcmp, i_dup, i_dp2, i_gI, i_gJ, i_gA, i_pI, i_pZ, i_pJ, i_pA, i_al, i_as, i_alJ, i_asJ, i_len, i_c0, i_c2, i_sw, msel, i_cV, i_cS, i_rV, i_rI, i_rZ, i_rJ, i_mm, i_pop, i_no, mpl, mvr, mnw, List.getElem?_cons_zero, List.getElem?_cons_succ, List.set_cons_zero, List.set_cons_succ, List.length_cons, List.length_nil, List.drop_succ_cons, List.drop_zero, List.take_succ_cons, List.take_zero, List.reverse_cons, List.reverse_nil, List.nil_append, List.cons_append, List.append_nil, List.map_cons, List.map_nil, List.sum_cons, List.sum_nil, Option.toList_some, Option.toList_none, Option.bind_some, Value.category, decide_eq_true_eq, decide_true, decide_false, if_true, if_false, Bool.false_eq_true, and_self, and_true, true_and, true_or, or_true, not_true_eq_false, not_false_eq_true, ↓reduceIte, reduceCtorEq, Nat.reduceEqDiff, Nat.reduceAdd, Nat.reduceSub, Nat.reduceMul, Nat.reduceLT, Nat.reduceLeDiff, Nat.reduceBEq, Nat.le_refl, Nat.zero_le, Nat.lt_irrefl, beq_self_eq_true, Nat.succ_ne_zero, Option.some.injEq, Prod.mk.injEq, Int32.reduceLT, Int32.reduceLE, y_0, y_29, rt_0_5, hin, b2i_eq0, e, aSteer, hb]
def putB (A : AS) (c p : Int32) : Bool := hasI (aT A) c && !inI (aT A) (aS A) c && cellI (aT A) p && decide (whoAtA (aT A) (aS A) p = -1)
def aPut (A : AS) (c p : Int32) : Int32 := if putB A c p = true then barA (aT A) (clS (aS A) c.toNatClampNeg (some p.toNatClampNeg)) c.toNatClampNeg else -1
def sPut (A : AS) (c p : Int32) : AS := if putB A c p = true then act A (clS (aS A) c.toNatClampNeg (some p.toNatClampNeg)) else A
set_option maxHeartbeats 4000000 in
theorem c_put (hn : 1400 < n) (J : Nat → Nat → Int64) (f : Nat) (h : RC I A) (c p : Int32) : ∃ I', FX11_put n [.ref 0, .int c, .int p] (mm I J f) = some (some (.int (aPut A c p)), mm I' J f) ∧ RC I' (sPut A c p) ∧ lo I I' := by
  have hoff := p_isOff n J f h.1 c
  have hcell := p_hasCellI n J f h.1.2.1 h.1.2.2.1 p
  have hwho := p_whoIsAt (show 8 < n by omega) J f h.1 p
  by_cases e : (hasI (aT A) c && !inI (aT A) (aS A) c) = true
  · by_cases e1 : cellI (aT A) p = true
    · by_cases e2 : whoAtA (aT A) (aS A) p = -1
      · have hb : putB A c p = true := by unfold putB; rw [e, e1, decide_eq_true e2]; rfl
        obtain ⟨k, hk, rfl⟩ : ∃ k, k < tk (aT A) ∧ c = nI k := by
          simp only [Bool.and_eq_true] at e
          rcases cI c with h0 | ⟨j, hj, rfl⟩
          · rw [hasI_neg h0] at e; cases e.1
          · rw [hasI_nI hj] at e
            exact ⟨j, by simpa using e.1, rfl⟩
        have h8 : k < 8 := by have := h.1.2.1.1; omega
        have hk2 : k < 2 ^ 31 := by omega
        obtain ⟨q, hq1, hq2, rfl⟩ := cellI_ex h.1.2.1 e1
        have o1 : SO (u2 I 30 k (nI q)) 29 (aT A) (clS (aS A) k (some q)) := SO_cl9 (p := some q) (fun z hz => by cases hz; exact hq2) h.1
        obtain ⟨I3, d1, d2, d3, d4, d5⟩ := p_act hn J f h o1 h.2.1.2 (fun b j h1 h2 h3 => u2_a (by omega))
        refine ⟨I3, ?_, by unfold sPut; rw [if_pos hb, nI_clamp hk2, nI_clamp (show q < 2 ^ 31 by omega)]; exact d2, d5⟩
        simp only [eX11_put, kX11_put_0, kX11_put_31, kX11_put_52, i_cst, i_ldI, i_ldJ, i_ldA, i_stI, i_stJ, i_stA, i_inc, i_bin, i_dv, i_un, i_i2l, i_bnJ, i_lshl, i_lcmp, i_dup, i_dp2, i_gI, i_gJ, i_gA, i_pI, i_pZ, i_pJ, i_pA, i_al, i_as, i_alJ, i_asJ, i_len, i_c0, i_c2, i_sw, msel, i_cV, i_cS, i_rV, i_rI, i_rZ, i_rJ, i_mm, i_pop, i_no, mpl, mvr, mnw, List.getElem?_cons_zero, List.getElem?_cons_succ, List.set_cons_zero, List.set_cons_succ, List.length_cons, List.length_nil, List.drop_succ_cons, List.drop_zero, List.take_succ_cons, List.take_zero, List.reverse_cons, List.reverse_nil, List.nil_append, List.cons_append, List.append_nil, List.map_cons, List.map_nil, List.sum_cons, List.sum_nil, Option.toList_some, Option.toList_none, Option.bind_some, Value.category, decide_eq_true_eq, decide_true, decide_false, if_true, if_false, Bool.false_eq_true, and_self, and_true, true_and, true_or, or_true, not_true_eq_false, not_false_eq_true, ↓reduceIte, reduceCtorEq, Nat.reduceEqDiff, Nat.reduceAdd, Nat.reduceSub, Nat.reduceMul, Nat.reduceLT, Nat.reduceLeDiff, Nat.reduceBEq, Nat.le_refl, Nat.zero_le, Nat.lt_irrefl, beq_self_eq_true, Nat.succ_ne_zero, Option.some.injEq, Prod.mk.injEq, Int32.reduceLT, Int32.reduceLE, y_0, y_2, y_29, y_44, rt_0_2, rt_0_5, rt_0_9, rt_29_1, hoff, hcell, hwho, b2i_eq0, e, e1, e2, p_setN n 30 k _ (mm I J f) y_30 (by decide) h8, uI_mm, d1, p_whoBars (show 8 < n by omega) J f d3 hk2, aPut, hb, nI_clamp hk2, nI_clamp (show q < 2 ^ 31 by omega)]
      · have hb : putB A c p = false := by simp [putB, e2]
        refine ⟨I, ?_, by unfold sPut; rw [hb]; exact h, fun _ _ _ => rfl⟩
        simp only [eX11_put, kX11_put_0, kX11_put_31, kX11_put_52, i_cst, i_ldI, i_ldJ, i_ldA, i_stI, i_stJ, i_stA, i_inc, i_bin, i_dv, i_un, i_i2l, i_bnJ, i_lshl, i_lcmp, i_dup, i_dp2, i_gI, i_gJ, i_gA, i_pI, i_pZ, i_pJ, i_pA, i_al, i_as, i_alJ, i_asJ, i_len, i_c0, i_c2, i_sw, msel, i_cV, i_cS, i_rV, i_rI, i_rZ, i_rJ, i_mm, i_pop, i_no, mpl, mvr, mnw, List.getElem?_cons_zero, List.getElem?_cons_succ, List.set_cons_zero, List.set_cons_succ, List.length_cons, List.length_nil, List.drop_succ_cons, List.drop_zero, List.take_succ_cons, List.take_zero, List.reverse_cons, List.reverse_nil, List.nil_append, List.cons_append, List.append_nil, List.map_cons, List.map_nil, List.sum_cons, List.sum_nil, Option.toList_some, Option.toList_none, Option.bind_some, Value.category, decide_eq_true_eq, decide_true, decide_false, if_true, if_false, Bool.false_eq_true, and_self, and_true, true_and, true_or, or_true, not_true_eq_false, not_false_eq_true, ↓reduceIte, reduceCtorEq, Nat.reduceEqDiff, Nat.reduceAdd, Nat.reduceSub, Nat.reduceMul, Nat.reduceLT, Nat.reduceLeDiff, Nat.reduceBEq, Nat.le_refl, Nat.zero_le, Nat.lt_irrefl, beq_self_eq_true, Nat.succ_ne_zero, Option.some.injEq, Prod.mk.injEq, Int32.reduceLT, Int32.reduceLE, y_0, y_2, y_29, rt_0_2, rt_0_5, hoff, hcell, hwho, b2i_eq0, e, e1, e2, aPut, hb]
    · have hb : putB A c p = false := by simp [putB, e1]
      refine ⟨I, ?_, by unfold sPut; rw [hb]; exact h, fun _ _ _ => rfl⟩
      simp only [eX11_put, kX11_put_0, kX11_put_31, kX11_put_52, i_cst, i_ldI, i_ldJ, i_ldA, i_stI, i_stJ, i_stA, i_inc, i_bin, i_dv, i_un, i_i2l, i_bnJ, i_lshl, i_lcmp, i_dup, i_dp2, i_gI, i_gJ, i_gA, i_pI, i_pZ, i_pJ, i_pA, i_al, i_as, i_alJ, i_asJ, i_len, i_c0, i_c2, i_sw, msel, i_cV, i_cS, i_rV, i_rI, i_rZ, i_rJ, i_mm, i_pop, i_no, mpl, mvr, mnw, List.getElem?_cons_zero, List.getElem?_cons_succ, List.set_cons_zero, List.set_cons_succ, List.length_cons, List.length_nil, List.drop_succ_cons, List.drop_zero, List.take_succ_cons, List.take_zero, List.reverse_cons, List.reverse_nil, List.nil_append, List.cons_append, List.append_nil, List.map_cons, List.map_nil, List.sum_cons, List.sum_nil, Option.toList_some, Option.toList_none, Option.bind_some, Value.category, decide_eq_true_eq, decide_true, decide_false, if_true, if_false, Bool.false_eq_true, and_self, and_true, true_and, true_or, or_true, not_true_eq_false, not_false_eq_true, ↓reduceIte, reduceCtorEq, Nat.reduceEqDiff, Nat.reduceAdd, Nat.reduceSub, Nat.reduceMul, Nat.reduceLT, Nat.reduceLeDiff, Nat.reduceBEq, Nat.le_refl, Nat.zero_le, Nat.lt_irrefl, beq_self_eq_true, Nat.succ_ne_zero, Option.some.injEq, Prod.mk.injEq, Int32.reduceLT, Int32.reduceLE, y_0, y_2, rt_0_2, hoff, hcell, b2i_eq0, e, e1, aPut, hb]
  · have hb : putB A c p = false := by
      unfold putB
      rw [Bool.not_eq_true] at e
      rw [e]; rfl
    refine ⟨I, ?_, by unfold sPut; rw [hb]; exact h, fun _ _ _ => rfl⟩
    simp only [eX11_put, kX11_put_0, kX11_put_31, kX11_put_52, i_cst, i_ldI, i_ldJ, i_ldA, i_stI, i_stJ, i_stA, i_inc, i_bin, i_dv, i_un, i_i2l, i_bnJ, i_lshl, i_lcmp, i_dup, i_dp2, i_gI, i_gJ, i_gA, i_pI, i_pZ, i_pJ, i_pA, i_al, i_as, i_alJ, i_asJ, i_len, i_c0, i_c2, i_sw, msel, i_cV, i_cS, i_rV, i_rI, i_rZ, i_rJ, i_mm, i_pop, i_no, mpl, mvr, mnw, List.getElem?_cons_zero, List.getElem?_cons_succ, List.set_cons_zero, List.set_cons_succ, List.length_cons, List.length_nil, List.drop_succ_cons, List.drop_zero, List.take_succ_cons, List.take_zero, List.reverse_cons, List.reverse_nil, List.nil_append, List.cons_append, List.append_nil, List.map_cons, List.map_nil, List.sum_cons, List.sum_nil, Option.toList_some, Option.toList_none, Option.bind_some, Value.category, decide_eq_true_eq, decide_true, decide_false, if_true, if_false, Bool.false_eq_true, and_self, and_true, true_and, true_or, or_true, not_true_eq_false, not_false_eq_true, ↓reduceIte, reduceCtorEq, Nat.reduceEqDiff, Nat.reduceAdd, Nat.reduceSub, Nat.reduceMul, Nat.reduceLT, Nat.reduceLeDiff, Nat.reduceBEq, Nat.le_refl, Nat.zero_le, Nat.lt_irrefl, beq_self_eq_true, Nat.succ_ne_zero, Option.some.injEq, Prod.mk.injEq, Int32.reduceLT, Int32.reduceLE, y_0, hoff, b2i_eq0, e, aPut, hb]
def goS (A : AS) (q : Nat) : AS := (aT A, (aH A).getD q sa0, aH A, q, aL A, aHd A, aTm A, aB A, aTp A, aFk A, aFp A)
/-- back or on to another place of the history -/
theorem RC_go (h : RC I A) {q : Nat} (hq : q < (aH A).length) : RC (ldA (u2 I 44 2 (nI q)) 45 (34 * q)) (goS A q) ∧ lo I (ldA (u2 I 44 2 (nI q)) 45 (34 * q)) := by
  obtain ⟨h1, h2, ⟨a1, a2, a3, a4, a5⟩, h4, h5, h6, h7, h8⟩ := h
  have hk8 := h1.2.1.1
  have fo : ∀ b j, (b < 29 ∨ 33 < b) → b ≠ 44 → ldA (u2 I 44 2 (nI q)) 45 (34 * q) b j = I b j := fun b j hb h44 => by rw [ldA_o hb, u2_a h44]
  have f45 : ∀ j, ldA (u2 I 44 2 (nI q)) 45 (34 * q) 45 j = I 45 j := fun j => fo 45 j (by decide) (by decide)
  refine ⟨⟨⟨Or.inl rfl, h1.2.1, TC_of (fun b j b1 b2 b3 => fo b j (by omega) (by omega)) h1.2.2.1, (a5 q hq).2.1, ld_SC hk8 (SvC_of (a5 q hq).1 (fun j => u2_a (by decide)))⟩, (a5 q hq).2, ⟨hq, a2, ?_, ?_, fun i hi => ⟨SvC_of (a5 i hi).1 f45, (a5 i hi).2⟩⟩, RowC_of h4 (fun b j hb => fo b j (by omega) (by omega)), HC_of h5 (fun b j b1 b2 => fo b j (by omega) (by omega)), BxC_of h6 (fun b j hb => fo b j (by omega) (by omega)), TpC_of h7 (fun b j hb => fo b j (by omega) (by omega)), FtC_of h8 (fun j => fo 24 j (by omega) (by omega))⟩, fun b j hb => fo b j (by omega) (by omega)⟩
  · rw [ldA_o (by decide), u2_s]; rfl
  · rw [ldA_o (by decide), u2_j (by decide)]; exact a4
def undB (A : AS) : Bool := decide (0 < aN A)
def sUndo (A : AS) : AS := if undB A = true then goS A (aN A - 1) else A
set_option maxHeartbeats 4000000 in
theorem c_undo (hn : 1400 < n) (J : Nat → Nat → Int64) (f : Nat) (h : RC I A) : ∃ I', FX11_undo n [.ref 0] (mm I J f) = some (some (.int (b2i (undB A = true))), mm I' J f) ∧ RC I' (sUndo A) ∧ lo I I' := by
  obtain ⟨a1, a2, a3, a4, a5⟩ := h.2.2.1
  by_cases e : 0 < aN A
  · have hb : undB A = true := by simp [undB, e]
    obtain ⟨r1, r2⟩ := RC_go h (q := aN A - 1) (by omega)
    have hp := p_load (n := n) (d := 45) (N := 1394) (by omega) y_45 (Or.inl rfl) J f (u2 I 44 2 (nI (aN A - 1))) (q := 34 * (aN A - 1)) (by omega) (by decide)
    refine ⟨_, ?_, by unfold sUndo; rw [if_pos hb]; exact r1, r2⟩
    have c1 : (0 : Int32) < nI (aN A) := by rw [show (0 : Int32) = nI 0 from rfl, nI_ltI (by decide) (by omega)]; exact e
    have c2 : nI (aN A) - 1 = nI (aN A - 1) := by rw [show (1 : Int32) = nI 1 from rfl, pk_sub (by omega)]
    have f0 : nI (aN A - 1) * 34 = nI (34 * (aN A - 1)) := by rw [show (34 : Int32) = nI 34 from rfl, pk_mul, Nat.mul_comm]
    simp only [eX11_undo, kX11_undo_0, eX3_stepBack, kX3_stepBack_0, i_cst, i_ldI, i_ldJ, i_ldA, i_stI, i_stJ, i_stA, i_inc, i_bin, i_dv, i_un, i_i2l, i_bnJ, i_lshl, i_lcmp, i_dup, i_dp2, i_gI, i_gJ, i_gA, i_pI, i_pZ, i_pJ, i_pA, i_al, i_as, i_alJ, i_asJ, i_len, i_c0, i_c2, i_sw, msel, i_cV, i_cS, i_rV, i_rI, i_rZ, i_rJ, i_mm, i_pop, i_no, mpl, mvr, mnw, List.getElem?_cons_zero, List.getElem?_cons_succ, List.set_cons_zero, List.set_cons_succ, List.length_cons, List.length_nil, List.drop_succ_cons, List.drop_zero, List.take_succ_cons, List.take_zero, List.reverse_cons, List.reverse_nil, List.nil_append, List.cons_append, List.append_nil, List.map_cons, List.map_nil, List.sum_cons, List.sum_nil, Option.toList_some, Option.toList_none, Option.bind_some, Value.category, decide_eq_true_eq, decide_true, decide_false, if_true, if_false, Bool.false_eq_true, and_self, and_true, true_and, true_or, or_true, not_true_eq_false, not_false_eq_true, ↓reduceIte, reduceCtorEq, Nat.reduceEqDiff, Nat.reduceAdd, Nat.reduceSub, Nat.reduceMul, Nat.reduceLT, Nat.reduceLeDiff, Nat.reduceBEq, Nat.le_refl, Nat.zero_le, Nat.lt_irrefl, beq_self_eq_true, Nat.succ_ne_zero, Option.some.injEq, Prod.mk.injEq, Int32.reduceLT, Int32.reduceLE, y_0, y_29, y_44, rt_0_9, rt_44_0, rt_44_1, a3, c1, c2, uI_mm, u2_s, f0, hp, hb, b2i]
  · have hb : undB A = false := by simp [undB, e]
    refine ⟨I, ?_, by unfold sUndo; rw [hb]; exact h, fun _ _ _ => rfl⟩
    have c1 : ¬ (0 : Int32) < nI (aN A) := by rw [show (0 : Int32) = nI 0 from rfl, nI_ltI (by decide) (by omega)]; exact e
    simp only [eX11_undo, kX11_undo_0, eX3_stepBack, kX3_stepBack_0, i_cst, i_ldI, i_ldJ, i_ldA, i_stI, i_stJ, i_stA, i_inc, i_bin, i_dv, i_un, i_i2l, i_bnJ, i_lshl, i_lcmp, i_dup, i_dp2, i_gI, i_gJ, i_gA, i_pI, i_pZ, i_pJ, i_pA, i_al, i_as, i_alJ, i_asJ, i_len, i_c0, i_c2, i_sw, msel, i_cV, i_cS, i_rV, i_rI, i_rZ, i_rJ, i_mm, i_pop, i_no, mpl, mvr, mnw, List.getElem?_cons_zero, List.getElem?_cons_succ, List.set_cons_zero, List.set_cons_succ, List.length_cons, List.length_nil, List.drop_succ_cons, List.drop_zero, List.take_succ_cons, List.take_zero, List.reverse_cons, List.reverse_nil, List.nil_append, List.cons_append, List.append_nil, List.map_cons, List.map_nil, List.sum_cons, List.sum_nil, Option.toList_some, Option.toList_none, Option.bind_some, Value.category, decide_eq_true_eq, decide_true, decide_false, if_true, if_false, Bool.false_eq_true, and_self, and_true, true_and, true_or, or_true, not_true_eq_false, not_false_eq_true, ↓reduceIte, reduceCtorEq, Nat.reduceEqDiff, Nat.reduceAdd, Nat.reduceSub, Nat.reduceMul, Nat.reduceLT, Nat.reduceLeDiff, Nat.reduceBEq, Nat.le_refl, Nat.zero_le, Nat.lt_irrefl, beq_self_eq_true, Nat.succ_ne_zero, Option.some.injEq, Prod.mk.injEq, Int32.reduceLT, Int32.reduceLE, y_0, y_44, rt_0_9, a3, c1, hb, b2i]
def redB (A : AS) : Bool := decide (aN A + 1 < (aH A).length)
def sRedo (A : AS) : AS := if redB A = true then goS A (aN A + 1) else A
set_option maxHeartbeats 4000000 in
theorem c_redo (hn : 1400 < n) (J : Nat → Nat → Int64) (f : Nat) (h : RC I A) : ∃ I', FX11_redo n [.ref 0] (mm I J f) = some (some (.int (b2i (redB A = true))), mm I' J f) ∧ RC I' (sRedo A) ∧ lo I I' := by
  obtain ⟨a1, a2, a3, a4, a5⟩ := h.2.2.1
  by_cases e : aN A + 1 < (aH A).length
  · have hb : redB A = true := by simp [redB, e]
    obtain ⟨r1, r2⟩ := RC_go h (q := aN A + 1) e
    have hp := p_load (n := n) (d := 45) (N := 1394) (by omega) y_45 (Or.inl rfl) J f (u2 I 44 2 (nI (aN A + 1))) (q := 34 * (aN A + 1)) (by omega) (by decide)
    refine ⟨_, ?_, by unfold sRedo; rw [if_pos hb]; exact r1, r2⟩
    have c1 : nI (aN A) < nI ((aH A).length - 1) := by rw [nI_ltI (by omega) (by omega)]; omega
    have f0 : nI (aN A + 1) * 34 = nI (34 * (aN A + 1)) := by rw [show (34 : Int32) = nI 34 from rfl, pk_mul, Nat.mul_comm]
    simp only [eX11_redo, kX11_redo_0, eX3_stepOn, kX3_stepOn_0, i_cst, i_ldI, i_ldJ, i_ldA, i_stI, i_stJ, i_stA, i_inc, i_bin, i_dv, i_un, i_i2l, i_bnJ, i_lshl, i_lcmp, i_dup, i_dp2, i_gI, i_gJ, i_gA, i_pI, i_pZ, i_pJ, i_pA, i_al, i_as, i_alJ, i_asJ, i_len, i_c0, i_c2, i_sw, msel, i_cV, i_cS, i_rV, i_rI, i_rZ, i_rJ, i_mm, i_pop, i_no, mpl, mvr, mnw, List.getElem?_cons_zero, List.getElem?_cons_succ, List.set_cons_zero, List.set_cons_succ, List.length_cons, List.length_nil, List.drop_succ_cons, List.drop_zero, List.take_succ_cons, List.take_zero, List.reverse_cons, List.reverse_nil, List.nil_append, List.cons_append, List.append_nil, List.map_cons, List.map_nil, List.sum_cons, List.sum_nil, Option.toList_some, Option.toList_none, Option.bind_some, Value.category, decide_eq_true_eq, decide_true, decide_false, if_true, if_false, Bool.false_eq_true, and_self, and_true, true_and, true_or, or_true, not_true_eq_false, not_false_eq_true, ↓reduceIte, reduceCtorEq, Nat.reduceEqDiff, Nat.reduceAdd, Nat.reduceSub, Nat.reduceMul, Nat.reduceLT, Nat.reduceLeDiff, Nat.reduceBEq, Nat.le_refl, Nat.zero_le, Nat.lt_irrefl, beq_self_eq_true, Nat.succ_ne_zero, Option.some.injEq, Prod.mk.injEq, Int32.reduceLT, Int32.reduceLE, y_0, y_29, y_44, rt_0_9, rt_44_0, rt_44_1, a3, a4, c1, nI_1, uI_mm, u2_s, f0, hp, hb, b2i]
  · have hb : redB A = false := by simp [redB, e]
    refine ⟨I, ?_, by unfold sRedo; rw [hb]; exact h, fun _ _ _ => rfl⟩
    have c1 : ¬ nI (aN A) < nI ((aH A).length - 1) := by rw [nI_ltI (by omega) (by omega)]; omega
    simp only [eX11_redo, kX11_redo_0, eX3_stepOn, kX3_stepOn_0, i_cst, i_ldI, i_ldJ, i_ldA, i_stI, i_stJ, i_stA, i_inc, i_bin, i_dv, i_un, i_i2l, i_bnJ, i_lshl, i_lcmp, i_dup, i_dp2, i_gI, i_gJ, i_gA, i_pI, i_pZ, i_pJ, i_pA, i_al, i_as, i_alJ, i_asJ, i_len, i_c0, i_c2, i_sw, msel, i_cV, i_cS, i_rV, i_rI, i_rZ, i_rJ, i_mm, i_pop, i_no, mpl, mvr, mnw, List.getElem?_cons_zero, List.getElem?_cons_succ, List.set_cons_zero, List.set_cons_succ, List.length_cons, List.length_nil, List.drop_succ_cons, List.drop_zero, List.take_succ_cons, List.take_zero, List.reverse_cons, List.reverse_nil, List.nil_append, List.cons_append, List.append_nil, List.map_cons, List.map_nil, List.sum_cons, List.sum_nil, Option.toList_some, Option.toList_none, Option.bind_some, Value.category, decide_eq_true_eq, decide_true, decide_false, if_true, if_false, Bool.false_eq_true, and_self, and_true, true_and, true_or, or_true, not_true_eq_false, not_false_eq_true, ↓reduceIte, reduceCtorEq, Nat.reduceEqDiff, Nat.reduceAdd, Nat.reduceSub, Nat.reduceMul, Nat.reduceLT, Nat.reduceLeDiff, Nat.reduceBEq, Nat.le_refl, Nat.zero_le, Nat.lt_irrefl, beq_self_eq_true, Nat.succ_ne_zero, Option.some.injEq, Prod.mk.injEq, Int32.reduceLT, Int32.reduceLE, y_0, y_44, rt_0_9, a3, a4, c1, hb, b2i]
end Acts
