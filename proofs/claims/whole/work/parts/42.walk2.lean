/-! PURE: the class: walk, reach, window -/
section Walk2
variable {n : Nat} {I : Nat → Nat → Int32} {T : TA} {S : SA} {src : Nat → Bool}
def dsp (T : TA) (S : SA) (src : Nat → Bool) (p : Nat) : Option Nat := ds (wE T S) (wN T) (wm T) src p
theorem dsp_lt {p d : Nat} (h : dsp T S src p = some d) : d < wm T := by
  obtain ⟨_, h2, _⟩ := ffd_some _ 0 d h
  omega
set_option maxHeartbeats 4000000 in
theorem p_startAt (hn : 300 < n) (J : Nat → Nat → Int64) (f : Nat) (o : SO I 29 T S) {st : Nat → Option Nat} {Q : List Nat} (w : WC I st Q) (h : BI (wE T S) (wN T) (wm T) src st Q 0) (hz : ∀ p d, st p = some d → d = 0) {x : Option Nat} (hx : ∀ p, x = some p → p < 64 ∧ (opn T S p = true → src p = true)) : ∃ I' st' Q', FX10_startAt n [.ref 41, .int (ffI x)] (mm I J f) = some (none, mm I' J f) ∧ WC I' st' Q' ∧ BI (wE T S) (wN T) (wm T) src st' Q' 0 ∧ (∀ p d, st' p = some d → d = 0) ∧ extS st st' ∧ (∀ p, x = some p → opn T S p = true → st' p = some 0) ∧ WF I I' := by
  have hm := cell_max o.2.1
  have hwm : wm T = tC T * tR T := rfl
  by_cases hyes : ∃ p, x = some p ∧ opn T S p = true ∧ st p = none
  · obtain ⟨p, rfl, h2, h3⟩ := hyes
    have hpm := opn_lt h2
    have hlt : Q.length < 64 := by
      have h1 : Q.length = cn (fun q => (st q).isSome) (tC T * tR T) := h.num
      have h2' := cn_clr (P := fun _ => true) (c := p) (tC T * tR T) hpm rfl
      have h3' : cn (fun q => (st q).isSome) (tC T * tR T) ≤ cn (fun q => true && !decide (q = p)) (tC T * tR T) := cn_le_of _ (fun q hq hh => by
        by_cases e : q = p
        · subst e; rw [h3] at hh; cases hh
        · simp [e])
      have h4 := cn_le (fun _ => true) (tC T * tR T)
      omega
    obtain ⟨I3, g1, g2, g3⟩ := p_come_yes (show 8 < n by omega) J f o w h2 h3 hlt 0
    have hz0 : ∀ b, b < Q.length → stv st (Q.getD b 0) ≤ 0 := fun b hb => by
      obtain ⟨d, hd⟩ := Option.isSome_iff_exists.mp (h.que b hb).1
      have := hz _ d hd
      simp only [stv, hd, Option.getD_some]; omega
    refine ⟨I3, uST st p 0, Q ++ [p], ?_, g2, h.come hpm h2 h3 (by simp [lv, h2, (hx p rfl).2 h2]) hz0 ⟨fun _ => Nat.zero_le _, Nat.zero_le _⟩ (Nat.zero_le _), ?_, ext_u h3, fun q hq _ => by cases hq; simp [uST], g3⟩
    · rw [nI_0] at g1
      simp only [eX10_startAt, kX10_startAt_0, i_cst, i_ldI, i_ldJ, i_ldA, i_stI, i_stJ, i_stA, i_inc, i_bin, i_dv, i_un, i_i2l, i_bnJ, i_lshl, i_lcmp, i_dup, i_dp2, i_gI, i_gJ, i_gA, i_pI, i_pZ, i_pJ, i_pA, i_al, i_as, i_alJ, i_asJ, i_len, i_c0, i_c2, i_sw, msel, i_cV, i_cS, i_rV, i_rI, i_rZ, i_rJ, i_mm, i_pop, i_no, mpl, mvr, mnw, List.getElem?_cons_zero, List.getElem?_cons_succ, List.set_cons_zero, List.set_cons_succ, List.length_cons, List.length_nil, List.drop_succ_cons, List.drop_zero, List.take_succ_cons, List.take_zero, List.reverse_cons, List.reverse_nil, List.nil_append, List.cons_append, List.append_nil, List.map_cons, List.map_nil, List.sum_cons, List.sum_nil, Option.toList_some, Option.toList_none, Option.bind_some, Value.category, decide_eq_true_eq, decide_true, decide_false, if_true, if_false, Bool.false_eq_true, and_self, and_true, true_and, true_or, or_true, not_true_eq_false, not_false_eq_true, ↓reduceIte, reduceCtorEq, Nat.reduceEqDiff, Nat.reduceAdd, Nat.reduceSub, Nat.reduceMul, Nat.reduceLT, Nat.reduceLeDiff, Nat.reduceBEq, Nat.le_refl, Nat.zero_le, Nat.lt_irrefl, beq_self_eq_true, Nat.succ_ne_zero, Option.some.injEq, Prod.mk.injEq, Int32.reduceLT, Int32.reduceLE, y_41, g1]
    · intro q d hd
      unfold uST at hd
      split at hd
      · cases hd; rfl
      · exact hz q d hd
  · have hno := p_come_no (show 8 < n by omega) J f o w (fun p d hd => by have := hz p d hd; omega) (x := x) (fun p hp hE hn2 => hyes ⟨p, hp, hE, hn2⟩) (fun p hp => (hx p hp).1) 0
    refine ⟨I, st, Q, ?_, w, h, hz, fun _ _ h => h, fun p hp hE => ?_, fun _ _ _ => rfl⟩
    · simp only [eX10_startAt, kX10_startAt_0, i_cst, i_ldI, i_ldJ, i_ldA, i_stI, i_stJ, i_stA, i_inc, i_bin, i_dv, i_un, i_i2l, i_bnJ, i_lshl, i_lcmp, i_dup, i_dp2, i_gI, i_gJ, i_gA, i_pI, i_pZ, i_pJ, i_pA, i_al, i_as, i_alJ, i_asJ, i_len, i_c0, i_c2, i_sw, msel, i_cV, i_cS, i_rV, i_rI, i_rZ, i_rJ, i_mm, i_pop, i_no, mpl, mvr, mnw, List.getElem?_cons_zero, List.getElem?_cons_succ, List.set_cons_zero, List.set_cons_succ, List.length_cons, List.length_nil, List.drop_succ_cons, List.drop_zero, List.take_succ_cons, List.take_zero, List.reverse_cons, List.reverse_nil, List.nil_append, List.cons_append, List.append_nil, List.map_cons, List.map_nil, List.sum_cons, List.sum_nil, Option.toList_some, Option.toList_none, Option.bind_some, Value.category, decide_eq_true_eq, decide_true, decide_false, if_true, if_false, Bool.false_eq_true, and_self, and_true, true_and, true_or, or_true, not_true_eq_false, not_false_eq_true, ↓reduceIte, reduceCtorEq, Nat.reduceEqDiff, Nat.reduceAdd, Nat.reduceSub, Nat.reduceMul, Nat.reduceLT, Nat.reduceLeDiff, Nat.reduceBEq, Nat.le_refl, Nat.zero_le, Nat.lt_irrefl, beq_self_eq_true, Nat.succ_ne_zero, Option.some.injEq, Prod.mk.injEq, Int32.reduceLT, Int32.reduceLE, y_41, hno]
    · cases e : st p with
      | none => exact absurd ⟨p, hp, hE, e⟩ hyes
      | some d => rw [hz p d e]
def aWalk (T : TA) (S : SA) (p q : Int32) : Int32 := if cellI T p = true ∧ cellI T q = true then ffI (dsp T S (fun j => decide (j = p.toNatClampNeg)) q.toNatClampNeg) else -1
def aReach (T : TA) (S : SA) (p : Int32) : Int32 := if cellI T p = true then nI (cn (fun q => (dsp T S (fun j => decide (j = p.toNatClampNeg)) q).isSome) (wm T)) else -1
theorem cellI_ex (ht : TRg T) {c : Int32} (h : cellI T c = true) : ∃ q, q < 64 ∧ q < wm T ∧ c = nI q := by
  rcases cI c with h0 | ⟨q, hq, rfl⟩
  · rw [cellI_neg h0] at h; cases h
  · rw [cellI_nI hq] at h
    simp only [decide_eq_true_eq] at h
    exact ⟨q, Nat.lt_of_lt_of_le h (cell_max ht), h, rfl⟩
/-- from one cell all over -/
theorem p_from (hn : 300 < n) (J : Nat → Nat → Int64) (f : Nat) (o : SO I 29 T S) {q : Nat} (hq : q < 64) : ∃ I1 I2 I3 st Q, FX10_begin n [.ref 41] (mm I J f) = some (none, mm I1 J f) ∧ FX10_startAt n [.ref 41, .int (nI q)] (mm I1 J f) = some (none, mm I2 J f) ∧ FX10_spread n [.ref 41] (mm I2 J f) = some (none, mm I3 J f) ∧ WC I3 st Q ∧ (∀ p, st p = dsp T S (fun j => decide (j = q)) p) ∧ Q.length = cn (fun p => (st p).isSome) (wm T) ∧ WF I I3 := by
  obtain ⟨I1, a1, a2, a3⟩ := p_begin hn J f I
  obtain ⟨I2, st2, Q2, b1, b2, b3, b4, b5, b6, b7⟩ := p_startAt (src := fun j => decide (j = q)) hn J f (SO_WF o a3) a2 BI.nil (fun p d h => by cases h) (x := some q) (fun p hp => by cases hp; exact ⟨hq, fun _ => by simp⟩)
  obtain ⟨I3, st3, Q3, c1, c2, c3, c4, c5⟩ := p_spread hn J f (SO_WF o (a3.tr b7)) b2 b3
  refine ⟨I1, I2, I3, st3, Q3, a1, b1, c1, c2, ?_, c3.num, (a3.tr b7).tr c5⟩
  exact c3.fin (Nat.le_refl _) (fun p hp => opn_lt hp) (fun p hp hs => c4 p 0 (b6 p (by
    simp only [decide_eq_true_eq] at hs
    rw [hs]) hp))
set_option maxHeartbeats 4000000 in
theorem c_walk (hn : 300 < n) (J : Nat → Nat → Int64) (f : Nat) (o : SO I 29 T S) (p q : Int32) : ∃ I', FX11_walk n [.ref 0, .int p, .int q] (mm I J f) = some (some (.int (aWalk T S p q)), mm I' J f) ∧ WF I I' := by
  have hp := p_hasCellI n J f o.2.1 o.2.2.1 p
  have hq := p_hasCellI n J f o.2.1 o.2.2.1 q
  by_cases e1 : cellI T p = true
  · by_cases e2 : cellI T q = true
    · obtain ⟨p', hp1, hp2, rfl⟩ := cellI_ex o.2.1 e1
      obtain ⟨q', hq1, hq2, rfl⟩ := cellI_ex o.2.1 e2
      obtain ⟨I1, I2, I3, st, Q, a1, a2, a3, a4, a5, a6, a7⟩ := p_from hn J f o hp1
      refine ⟨I3, ?_, a7⟩
      have e3 : I3 42 q' = ffI (dsp T S (fun j => decide (j = p')) q') := by rw [a4.1 q' hq1, a5]
      simp only [eX11_walk, kX11_walk_0, kX11_walk_22, kX11_walk_54, i_cst, i_ldI, i_ldJ, i_ldA, i_stI, i_stJ, i_stA, i_inc, i_bin, i_dv, i_un, i_i2l, i_bnJ, i_lshl, i_lcmp, i_dup, i_dp2, i_gI, i_gJ, i_gA, i_pI, i_pZ, i_pJ, i_pA, i_al, i_as, i_alJ, i_asJ, i_len, i_c0, i_c2, i_sw, msel, i_cV, i_cS, i_rV, i_rI, i_rZ, i_rJ, i_mm, i_pop, i_no, mpl, mvr, mnw, List.getElem?_cons_zero, List.getElem?_cons_succ, List.set_cons_zero, List.set_cons_succ, List.length_cons, List.length_nil, List.drop_succ_cons, List.drop_zero, List.take_succ_cons, List.take_zero, List.reverse_cons, List.reverse_nil, List.nil_append, List.cons_append, List.append_nil, List.map_cons, List.map_nil, List.sum_cons, List.sum_nil, Option.toList_some, Option.toList_none, Option.bind_some, Value.category, decide_eq_true_eq, decide_true, decide_false, if_true, if_false, Bool.false_eq_true, and_self, and_true, true_and, true_or, or_true, not_true_eq_false, not_false_eq_true, ↓reduceIte, reduceCtorEq, Nat.reduceEqDiff, Nat.reduceAdd, Nat.reduceSub, Nat.reduceMul, Nat.reduceLT, Nat.reduceLeDiff, Nat.reduceBEq, Nat.le_refl, Nat.zero_le, Nat.lt_irrefl, beq_self_eq_true, Nat.succ_ne_zero, Option.some.injEq, Prod.mk.injEq, Int32.reduceLT, Int32.reduceLE, y_0, y_2, y_41, rt_0_2, rt_0_8, rt_41_1, hp, hq, b2i_eq0, e1, e2, a1, a2, a3, p_atN n 42 q' (mm I3 J f) y_42 (by decide) hq1, e3, aWalk, nI_clamp (show p' < 2 ^ 31 by omega), nI_clamp (show q' < 2 ^ 31 by omega)]
    · refine ⟨I, ?_, fun _ _ _ => rfl⟩
      simp only [eX11_walk, kX11_walk_0, kX11_walk_22, kX11_walk_54, i_cst, i_ldI, i_ldJ, i_ldA, i_stI, i_stJ, i_stA, i_inc, i_bin, i_dv, i_un, i_i2l, i_bnJ, i_lshl, i_lcmp, i_dup, i_dp2, i_gI, i_gJ, i_gA, i_pI, i_pZ, i_pJ, i_pA, i_al, i_as, i_alJ, i_asJ, i_len, i_c0, i_c2, i_sw, msel, i_cV, i_cS, i_rV, i_rI, i_rZ, i_rJ, i_mm, i_pop, i_no, mpl, mvr, mnw, List.getElem?_cons_zero, List.getElem?_cons_succ, List.set_cons_zero, List.set_cons_succ, List.length_cons, List.length_nil, List.drop_succ_cons, List.drop_zero, List.take_succ_cons, List.take_zero, List.reverse_cons, List.reverse_nil, List.nil_append, List.cons_append, List.append_nil, List.map_cons, List.map_nil, List.sum_cons, List.sum_nil, Option.toList_some, Option.toList_none, Option.bind_some, Value.category, decide_eq_true_eq, decide_true, decide_false, if_true, if_false, Bool.false_eq_true, and_self, and_true, true_and, true_or, or_true, not_true_eq_false, not_false_eq_true, ↓reduceIte, reduceCtorEq, Nat.reduceEqDiff, Nat.reduceAdd, Nat.reduceSub, Nat.reduceMul, Nat.reduceLT, Nat.reduceLeDiff, Nat.reduceBEq, Nat.le_refl, Nat.zero_le, Nat.lt_irrefl, beq_self_eq_true, Nat.succ_ne_zero, Option.some.injEq, Prod.mk.injEq, Int32.reduceLT, Int32.reduceLE, y_0, y_2, rt_0_2, hp, hq, b2i_eq0, e1, e2, aWalk, and_false]
  · refine ⟨I, ?_, fun _ _ _ => rfl⟩
    simp only [eX11_walk, kX11_walk_0, kX11_walk_22, kX11_walk_54, i_cst, i_ldI, i_ldJ, i_ldA, i_stI, i_stJ, i_stA, i_inc, i_bin, i_dv, i_un, i_i2l, i_bnJ, i_lshl, i_lcmp, i_dup, i_dp2, i_gI, i_gJ, i_gA, i_pI, i_pZ, i_pJ, i_pA, i_al, i_as, i_alJ, i_asJ, i_len, i_c0, i_c2, i_sw, msel, i_cV, i_cS, i_rV, i_rI, i_rZ, i_rJ, i_mm, i_pop, i_no, mpl, mvr, mnw, List.getElem?_cons_zero, List.getElem?_cons_succ, List.set_cons_zero, List.set_cons_succ, List.length_cons, List.length_nil, List.drop_succ_cons, List.drop_zero, List.take_succ_cons, List.take_zero, List.reverse_cons, List.reverse_nil, List.nil_append, List.cons_append, List.append_nil, List.map_cons, List.map_nil, List.sum_cons, List.sum_nil, Option.toList_some, Option.toList_none, Option.bind_some, Value.category, decide_eq_true_eq, decide_true, decide_false, if_true, if_false, Bool.false_eq_true, and_self, and_true, true_and, true_or, or_true, not_true_eq_false, not_false_eq_true, ↓reduceIte, reduceCtorEq, Nat.reduceEqDiff, Nat.reduceAdd, Nat.reduceSub, Nat.reduceMul, Nat.reduceLT, Nat.reduceLeDiff, Nat.reduceBEq, Nat.le_refl, Nat.zero_le, Nat.lt_irrefl, beq_self_eq_true, Nat.succ_ne_zero, Option.some.injEq, Prod.mk.injEq, Int32.reduceLT, Int32.reduceLE, y_0, y_2, rt_0_2, hp, b2i_eq0, e1, aWalk, false_and]
set_option maxHeartbeats 4000000 in
theorem c_reach (hn : 300 < n) (J : Nat → Nat → Int64) (f : Nat) (o : SO I 29 T S) (p : Int32) : ∃ I', FX11_reach n [.ref 0, .int p] (mm I J f) = some (some (.int (aReach T S p)), mm I' J f) ∧ WF I I' := by
  have hp := p_hasCellI n J f o.2.1 o.2.2.1 p
  by_cases e1 : cellI T p = true
  · obtain ⟨p', hp1, hp2, rfl⟩ := cellI_ex o.2.1 e1
    obtain ⟨I1, I2, I3, st, Q, a1, a2, a3, a4, a5, a6, a7⟩ := p_from hn J f o hp1
    refine ⟨I3, ?_, a7⟩
    have e3 : I3 41 3 = nI (cn (fun q => (dsp T S (fun j => decide (j = p')) q).isSome) (wm T)) := by
      rw [a4.2.2, a6]
      congr 2
      funext q
      rw [a5]
    simp only [eX11_reach, kX11_reach_0, i_cst, i_ldI, i_ldJ, i_ldA, i_stI, i_stJ, i_stA, i_inc, i_bin, i_dv, i_un, i_i2l, i_bnJ, i_lshl, i_lcmp, i_dup, i_dp2, i_gI, i_gJ, i_gA, i_pI, i_pZ, i_pJ, i_pA, i_al, i_as, i_alJ, i_asJ, i_len, i_c0, i_c2, i_sw, msel, i_cV, i_cS, i_rV, i_rI, i_rZ, i_rJ, i_mm, i_pop, i_no, mpl, mvr, mnw, List.getElem?_cons_zero, List.getElem?_cons_succ, List.set_cons_zero, List.set_cons_succ, List.length_cons, List.length_nil, List.drop_succ_cons, List.drop_zero, List.take_succ_cons, List.take_zero, List.reverse_cons, List.reverse_nil, List.nil_append, List.cons_append, List.append_nil, List.map_cons, List.map_nil, List.sum_cons, List.sum_nil, Option.toList_some, Option.toList_none, Option.bind_some, Value.category, decide_eq_true_eq, decide_true, decide_false, if_true, if_false, Bool.false_eq_true, and_self, and_true, true_and, true_or, or_true, not_true_eq_false, not_false_eq_true, ↓reduceIte, reduceCtorEq, Nat.reduceEqDiff, Nat.reduceAdd, Nat.reduceSub, Nat.reduceMul, Nat.reduceLT, Nat.reduceLeDiff, Nat.reduceBEq, Nat.le_refl, Nat.zero_le, Nat.lt_irrefl, beq_self_eq_true, Nat.succ_ne_zero, Option.some.injEq, Prod.mk.injEq, Int32.reduceLT, Int32.reduceLE, y_0, y_2, y_41, rt_0_2, rt_0_8, hp, b2i_eq0, e1, a1, a2, a3, e3, aReach, nI_clamp (show p' < 2 ^ 31 by omega)]
  · refine ⟨I, ?_, fun _ _ _ => rfl⟩
    simp only [eX11_reach, kX11_reach_0, i_cst, i_ldI, i_ldJ, i_ldA, i_stI, i_stJ, i_stA, i_inc, i_bin, i_dv, i_un, i_i2l, i_bnJ, i_lshl, i_lcmp, i_dup, i_dp2, i_gI, i_gJ, i_gA, i_pI, i_pZ, i_pJ, i_pA, i_al, i_as, i_alJ, i_asJ, i_len, i_c0, i_c2, i_sw, msel, i_cV, i_cS, i_rV, i_rI, i_rZ, i_rJ, i_mm, i_pop, i_no, mpl, mvr, mnw, List.getElem?_cons_zero, List.getElem?_cons_succ, List.set_cons_zero, List.set_cons_succ, List.length_cons, List.length_nil, List.drop_succ_cons, List.drop_zero, List.take_succ_cons, List.take_zero, List.reverse_cons, List.reverse_nil, List.nil_append, List.cons_append, List.append_nil, List.map_cons, List.map_nil, List.sum_cons, List.sum_nil, Option.toList_some, Option.toList_none, Option.bind_some, Value.category, decide_eq_true_eq, decide_true, decide_false, if_true, if_false, Bool.false_eq_true, and_self, and_true, true_and, true_or, or_true, not_true_eq_false, not_false_eq_true, ↓reduceIte, reduceCtorEq, Nat.reduceEqDiff, Nat.reduceAdd, Nat.reduceSub, Nat.reduceMul, Nat.reduceLT, Nat.reduceLeDiff, Nat.reduceBEq, Nat.le_refl, Nat.zero_le, Nat.lt_irrefl, beq_self_eq_true, Nat.succ_ne_zero, Option.some.injEq, Prod.mk.injEq, Int32.reduceLT, Int32.reduceLE, y_0, y_2, rt_0_2, hp, b2i_eq0, e1, aReach]
/-- the least one beside that is nearer -/
def nrP (C R : Nat) (D : Nat → Option Nat) (p d s : Nat) : Bool := match bes C R p s with
  | some q => decide (D q = some d)
  | none => false
def ndr (C R : Nat) (D : Nat → Option Nat) (p : Nat) : Option Nat := match D p with
  | some (d + 1) => (ffd (nrP C R D p d) 0 4).bind (fun s => bes C R p s)
  | _ => none
def way (C R : Nat) (D : Nat → Option Nat) : Nat → Option Nat → List Nat
  | 0, _ => []
  | _ + 1, none => []
  | k + 1, some p => p :: way C R D k (ndr C R D p)
set_option maxHeartbeats 4000000 in
theorem p_nearer (hn : 300 < n) (J : Nat → Nat → Int64) (f : Nat) (o : SO I 29 T S) {st : Nat → Option Nat} {Q : List Nat} (w : WC I st Q) (hb : ∀ p d, st p = some d → d < 64) {p : Nat} (hp : p < wm T) (hv : (st p).isSome = true) : FX10_nearer n [.ref 41, .int (nI p)] (mm I J f) = some (some (.int (ffI (ndr (tC T) (tR T) st p))), mm I J f) := by
  have hC := o.2.1.2.1
  have hm := cell_max o.2.1
  have hwm : wm T = tC T * tR T := rfl
  have hp64 : p < 64 := by omega
  obtain ⟨d, hd⟩ := Option.isSome_iff_exists.mp hv
  have hat := p_atN n 42 p (mm I J f) y_42 (by decide) hp64
  have e42 : I 42 p = nI d := by rw [w.1 p hp64, hd]; rfl
  simp only [eX10_nearer, kX10_nearer_0, i_cst, i_ldI, i_ldJ, i_ldA, i_stI, i_stJ, i_stA, i_inc, i_bin, i_dv, i_un, i_i2l, i_bnJ, i_lshl, i_lcmp, i_dup, i_dp2, i_gI, i_gJ, i_gA, i_pI, i_pZ, i_pJ, i_pA, i_al, i_as, i_alJ, i_asJ, i_len, i_c0, i_c2, i_sw, msel, i_cV, i_cS, i_rV, i_rI, i_rZ, i_rJ, i_mm, i_pop, i_no, mpl, mvr, mnw, List.getElem?_cons_zero, List.getElem?_cons_succ, List.set_cons_zero, List.set_cons_succ, List.length_cons, List.length_nil, List.drop_succ_cons, List.drop_zero, List.take_succ_cons, List.take_zero, List.reverse_cons, List.reverse_nil, List.nil_append, List.cons_append, List.append_nil, List.map_cons, List.map_nil, List.sum_cons, List.sum_nil, Option.toList_some, Option.toList_none, Option.bind_some, Value.category, decide_eq_true_eq, decide_true, decide_false, if_true, if_false, Bool.false_eq_true, and_self, and_true, true_and, true_or, or_true, not_true_eq_false, not_false_eq_true, ↓reduceIte, reduceCtorEq, Nat.reduceEqDiff, Nat.reduceAdd, Nat.reduceSub, Nat.reduceMul, Nat.reduceLT, Nat.reduceLeDiff, Nat.reduceBEq, Nat.le_refl, Nat.zero_le, Nat.lt_irrefl, beq_self_eq_true, Nat.succ_ne_zero, Option.some.injEq, Prod.mk.injEq, Int32.reduceLT, Int32.reduceLE, y_41, rt_41_1, hat, e42]
  cases d with
  | zero =>
    have c1 : nI 0 - 1 < 0 := by decide
    have ev : ndr (tC T) (tR T) st p = none := by simp [ndr, hd]
    rw [ev, show n = (n - 1) + 1 by omega, mit_succ]
    simp only [kX10_nearer_13, kX10_nearer_64, i_cst, i_ldI, i_ldJ, i_ldA, i_stI, i_stJ, i_stA, i_inc, i_bin, i_dv, i_un, i_i2l, i_bnJ, i_lshl, i_lcmp, i_dup, i_dp2, i_gI, i_gJ, i_gA, i_pI, i_pZ, i_pJ, i_pA, i_al, i_as, i_alJ, i_asJ, i_len, i_c0, i_c2, i_sw, msel, i_cV, i_cS, i_rV, i_rI, i_rZ, i_rJ, i_mm, i_pop, i_no, mpl, mvr, mnw, List.getElem?_cons_zero, List.getElem?_cons_succ, List.set_cons_zero, List.set_cons_succ, List.length_cons, List.length_nil, List.drop_succ_cons, List.drop_zero, List.take_succ_cons, List.take_zero, List.reverse_cons, List.reverse_nil, List.nil_append, List.cons_append, List.append_nil, List.map_cons, List.map_nil, List.sum_cons, List.sum_nil, Option.toList_some, Option.toList_none, Option.bind_some, Value.category, decide_eq_true_eq, decide_true, decide_false, if_true, if_false, Bool.false_eq_true, and_self, and_true, true_and, true_or, or_true, not_true_eq_false, not_false_eq_true, ↓reduceIte, reduceCtorEq, Nat.reduceEqDiff, Nat.reduceAdd, Nat.reduceSub, Nat.reduceMul, Nat.reduceLT, Nat.reduceLeDiff, Nat.reduceBEq, Nat.le_refl, Nat.zero_le, Nat.lt_irrefl, beq_self_eq_true, Nat.succ_ne_zero, Option.some.injEq, Prod.mk.injEq, Int32.reduceLT, Int32.reduceLE, show ¬ (4 : Int32) ≤ 0 by decide, c1, ffI]
  | succ d =>
    have c1 : nI (d + 1) - 1 = nI d := nI_pred d
    have hd64 := hb p _ hd
    have c2 : ¬ nI d < 0 := nI_pos (by omega)
    rw [c1]
    have ev : ndr (tC T) (tR T) st p = (ffd (nrP (tC T) (tR T) st p d) 0 4).bind (fun s => bes (tC T) (tR T) p s) := by simp [ndr, hd]
    rw [ev, show some (some (Value.int (ffI ((ffd (nrP (tC T) (tR T) st p d) 0 4).bind (fun s => bes (tC T) (tR T) p s)))), mm I J f) = match ffd (nrP (tC T) (tR T) st p d) 0 4 with
      | some s => some (some (Value.int (ffI (bes (tC T) (tR T) p s))), mm I J f)
      | none => some (some (Value.int (-1)), mm I J f) by cases ffd (nrP (tC T) (tR T) st p d) 0 4 <;> rfl]
    refine mit_find (fun s => [some (.ref 41), some (.int (nI p)), some (.int (nI d)), some (.int (nI s)), if s = 0 then none else some (.int (ffI (bes (tC T) (tR T) p (s - 1))))]) (fun _ => mm I J f) (B := 4) (nrP (tC T) (tR T) st p d) (fun s => some (some (Value.int (ffI (bes (tC T) (tR T) p s))), mm I J f)) (fun s hs r => ?_) (by omega) (fun r => ?_)
    · have cs : ¬ (4 : Int32) ≤ nI s := lit_nle (k := 4) rfl (by decide) hs
      have hbs := p_beside n J f o.2.1 o.2.2.1 hp64 hs
      cases e : bes (tC T) (tR T) p s with
      | none =>
        rw [e] at hbs
        have e1 : nrP (tC T) (tR T) st p d s = false := by simp [nrP, e]
        have e2 : ffI none = -1 := rfl
        rw [e2] at hbs
        simp only [kX10_nearer_13, kX10_nearer_58, i_cst, i_ldI, i_ldJ, i_ldA, i_stI, i_stJ, i_stA, i_inc, i_bin, i_dv, i_un, i_i2l, i_bnJ, i_lshl, i_lcmp, i_dup, i_dp2, i_gI, i_gJ, i_gA, i_pI, i_pZ, i_pJ, i_pA, i_al, i_as, i_alJ, i_asJ, i_len, i_c0, i_c2, i_sw, msel, i_cV, i_cS, i_rV, i_rI, i_rZ, i_rJ, i_mm, i_pop, i_no, mpl, mvr, mnw, List.getElem?_cons_zero, List.getElem?_cons_succ, List.set_cons_zero, List.set_cons_succ, List.length_cons, List.length_nil, List.drop_succ_cons, List.drop_zero, List.take_succ_cons, List.take_zero, List.reverse_cons, List.reverse_nil, List.nil_append, List.cons_append, List.append_nil, List.map_cons, List.map_nil, List.sum_cons, List.sum_nil, Option.toList_some, Option.toList_none, Option.bind_some, Value.category, decide_eq_true_eq, decide_true, decide_false, if_true, if_false, Bool.false_eq_true, and_self, and_true, true_and, true_or, or_true, not_true_eq_false, not_false_eq_true, ↓reduceIte, reduceCtorEq, Nat.reduceEqDiff, Nat.reduceAdd, Nat.reduceSub, Nat.reduceMul, Nat.reduceLT, Nat.reduceLeDiff, Nat.reduceBEq, Nat.le_refl, Nat.zero_le, Nat.lt_irrefl, beq_self_eq_true, Nat.succ_ne_zero, Option.some.injEq, Prod.mk.injEq, Int32.reduceLT, Int32.reduceLE, cs, c2, y_41, y_29, y_2, rt_41_0, rt_29_0, hbs, e1, nI_1, Nat.add_sub_cancel, e, e2]
      | some q =>
        rw [e, ffI_s] at hbs
        have hq : q < 64 := Nat.lt_of_lt_of_le (bes_lt hC hp e) hm
        have e3 : ¬ nI q = -1 := nI_n1 (by omega)
        have hat2 := p_atN n 42 q (mm I J f) y_42 (by decide) hq
        have e4 : I 42 q = nI d ↔ st q = some d := by
          rw [w.1 q hq]
          cases e5 : st q with
          | none =>
            simp only [ffI, reduceCtorEq, iff_false]
            exact fun h => nI_n1 (show d < 2 ^ 31 by omega) h.symm
          | some v =>
            have := hb q v e5
            simp only [ffI, Option.some.injEq]
            exact nI_eq (by omega) (by omega)
        by_cases e6 : st q = some d
        · have e1 : nrP (tC T) (tR T) st p d s = true := by simp [nrP, e, e6]
          simp only [kX10_nearer_13, kX10_nearer_58, i_cst, i_ldI, i_ldJ, i_ldA, i_stI, i_stJ, i_stA, i_inc, i_bin, i_dv, i_un, i_i2l, i_bnJ, i_lshl, i_lcmp, i_dup, i_dp2, i_gI, i_gJ, i_gA, i_pI, i_pZ, i_pJ, i_pA, i_al, i_as, i_alJ, i_asJ, i_len, i_c0, i_c2, i_sw, msel, i_cV, i_cS, i_rV, i_rI, i_rZ, i_rJ, i_mm, i_pop, i_no, mpl, mvr, mnw, List.getElem?_cons_zero, List.getElem?_cons_succ, List.set_cons_zero, List.set_cons_succ, List.length_cons, List.length_nil, List.drop_succ_cons, List.drop_zero, List.take_succ_cons, List.take_zero, List.reverse_cons, List.reverse_nil, List.nil_append, List.cons_append, List.append_nil, List.map_cons, List.map_nil, List.sum_cons, List.sum_nil, Option.toList_some, Option.toList_none, Option.bind_some, Value.category, decide_eq_true_eq, decide_true, decide_false, if_true, if_false, Bool.false_eq_true, and_self, and_true, true_and, true_or, or_true, not_true_eq_false, not_false_eq_true, ↓reduceIte, reduceCtorEq, Nat.reduceEqDiff, Nat.reduceAdd, Nat.reduceSub, Nat.reduceMul, Nat.reduceLT, Nat.reduceLeDiff, Nat.reduceBEq, Nat.le_refl, Nat.zero_le, Nat.lt_irrefl, beq_self_eq_true, Nat.succ_ne_zero, Option.some.injEq, Prod.mk.injEq, Int32.reduceLT, Int32.reduceLE, cs, c2, y_41, y_29, y_2, rt_41_0, rt_41_1, rt_29_0, hbs, e1, e3, hat2, e4.mpr e6, e, ffI_s]
        · have e1 : nrP (tC T) (tR T) st p d s = false := by simp [nrP, e, e6]
          have e7 : ¬ I 42 q = nI d := fun h => e6 (e4.mp h)
          simp only [kX10_nearer_13, kX10_nearer_58, i_cst, i_ldI, i_ldJ, i_ldA, i_stI, i_stJ, i_stA, i_inc, i_bin, i_dv, i_un, i_i2l, i_bnJ, i_lshl, i_lcmp, i_dup, i_dp2, i_gI, i_gJ, i_gA, i_pI, i_pZ, i_pJ, i_pA, i_al, i_as, i_alJ, i_asJ, i_len, i_c0, i_c2, i_sw, msel, i_cV, i_cS, i_rV, i_rI, i_rZ, i_rJ, i_mm, i_pop, i_no, mpl, mvr, mnw, List.getElem?_cons_zero, List.getElem?_cons_succ, List.set_cons_zero, List.set_cons_succ, List.length_cons, List.length_nil, List.drop_succ_cons, List.drop_zero, List.take_succ_cons, List.take_zero, List.reverse_cons, List.reverse_nil, List.nil_append, List.cons_append, List.append_nil, List.map_cons, List.map_nil, List.sum_cons, List.sum_nil, Option.toList_some, Option.toList_none, Option.bind_some, Value.category, decide_eq_true_eq, decide_true, decide_false, if_true, if_false, Bool.false_eq_true, and_self, and_true, true_and, true_or, or_true, not_true_eq_false, not_false_eq_true, ↓reduceIte, reduceCtorEq, Nat.reduceEqDiff, Nat.reduceAdd, Nat.reduceSub, Nat.reduceMul, Nat.reduceLT, Nat.reduceLeDiff, Nat.reduceBEq, Nat.le_refl, Nat.zero_le, Nat.lt_irrefl, beq_self_eq_true, Nat.succ_ne_zero, Option.some.injEq, Prod.mk.injEq, Int32.reduceLT, Int32.reduceLE, cs, c2, y_41, y_29, y_2, rt_41_0, rt_41_1, rt_29_0, hbs, e1, e3, hat2, e7, nI_1, Nat.add_sub_cancel, e, ffI_s]
    · have cs : (4 : Int32) ≤ nI 4 := by decide
      simp only [kX10_nearer_13, kX10_nearer_64, i_cst, i_ldI, i_ldJ, i_ldA, i_stI, i_stJ, i_stA, i_inc, i_bin, i_dv, i_un, i_i2l, i_bnJ, i_lshl, i_lcmp, i_dup, i_dp2, i_gI, i_gJ, i_gA, i_pI, i_pZ, i_pJ, i_pA, i_al, i_as, i_alJ, i_asJ, i_len, i_c0, i_c2, i_sw, msel, i_cV, i_cS, i_rV, i_rI, i_rZ, i_rJ, i_mm, i_pop, i_no, mpl, mvr, mnw, List.getElem?_cons_zero, List.getElem?_cons_succ, List.set_cons_zero, List.set_cons_succ, List.length_cons, List.length_nil, List.drop_succ_cons, List.drop_zero, List.take_succ_cons, List.take_zero, List.reverse_cons, List.reverse_nil, List.nil_append, List.cons_append, List.append_nil, List.map_cons, List.map_nil, List.sum_cons, List.sum_nil, Option.toList_some, Option.toList_none, Option.bind_some, Value.category, decide_eq_true_eq, decide_true, decide_false, if_true, if_false, Bool.false_eq_true, and_self, and_true, true_and, true_or, or_true, not_true_eq_false, not_false_eq_true, ↓reduceIte, reduceCtorEq, Nat.reduceEqDiff, Nat.reduceAdd, Nat.reduceSub, Nat.reduceMul, Nat.reduceLT, Nat.reduceLeDiff, Nat.reduceBEq, Nat.le_refl, Nat.zero_le, Nat.lt_irrefl, beq_self_eq_true, Nat.succ_ne_zero, Option.some.injEq, Prod.mk.injEq, Int32.reduceLT, Int32.reduceLE, cs]
theorem ndr_ok {D : Nat → Option Nat} {p q : Nat} (hC : 1 ≤ tC T ∧ tC T ≤ 8) (hp : p < wm T) (h : ndr (tC T) (tR T) D p = some q) : q < wm T ∧ (D q).isSome = true := by
  unfold ndr at h
  split at h
  · obtain ⟨s, h1, h2⟩ := Option.bind_eq_some_iff.mp h
    obtain ⟨_, _, h3, _⟩ := ffd_some _ 0 s h1
    simp only [nrP, h2, decide_eq_true_eq] at h3
    exact ⟨bes_lt hC hp h2, by simp [h3]⟩
  · cases h
set_option maxHeartbeats 4000000 in
theorem p_layWayFrom (hn : 300 < n) (J : Nat → Nat → Int64) (f : Nat) (o : SO I 29 T S) {st : Nat → Option Nat} {Q : List Nat} (w : WC I st Q) (hb : ∀ p d, st p = some d → d < 64) (hr : RowC I []) {p : Nat} (hp : p < wm T) : ∃ I', FX10_layWayFrom n [.ref 41, .int (nI p), .ref 55] (mm I J f) = some (none, mm I' J f) ∧ RowC I' ((way (tC T) (tR T) st 16 (if (st p).isSome = true then some p else none)).map nI) ∧ ∀ b j, b ≠ 55 → b ≠ 56 → I' b j = I b j := by
  have hC := o.2.1.2.1
  have hm := cell_max o.2.1
  have hwm : wm T = tC T * tR T := rfl
  have hp64 : p < 64 := by omega
  have body : ∀ x : Option Nat, (∀ q, x = some q → q < wm T ∧ (st q).isSome = true) → ∃ I', mit (kX10_layWayFrom_21 n) n [some (.ref 41), some (.int (nI p)), some (.ref 55), some (.int (ffI x)), some (.int 0)] [] (mm I J f) = some (none, mm I' J f) ∧ RowC I' ((way (tC T) (tR T) st 16 x).map nI) ∧ ∀ b j, b ≠ 55 → b ≠ 56 → I' b j = I b j := by
    intro x hx
    refine mit_ind (G := kX10_layWayFrom_21 n) (fun d L μ => ∃ (i : Nat) (I' : Nat → Nat → Int32) (y : Option Nat) (l : List Nat), i + d = 16 ∧ l.length = i ∧ μ = mm I' J f ∧ RowC I' (l.map nI) ∧ (∀ b j, b ≠ 55 → b ≠ 56 → I' b j = I b j) ∧ (∀ q, y = some q → q < wm T ∧ (st q).isSome = true) ∧ way (tC T) (tR T) st 16 x = l ++ way (tC T) (tR T) st d y ∧ L = [some (.ref 41), some (.int (nI p)), some (.ref 55), some (.int (ffI y)), some (.int (nI i))]) (fun v => ∃ I', v = some (none, mm I' J f) ∧ RowC I' ((way (tC T) (tR T) st 16 x).map nI) ∧ ∀ b j, b ≠ 55 → b ≠ 56 → I' b j = I b j) ?_ ?_ 16 n _ _ (by omega) ⟨0, I, x, [], rfl, rfl, rfl, hr, fun _ _ _ _ => rfl, hx, by simp, rfl⟩
    · rintro L μ ⟨i, I', y, l, hi, hl, rfl, hR, hI, hy, hw, rfl⟩
      have : i = 16 := by omega
      subst this
      refine ⟨_, fun r => ?_, I', rfl, by rw [hw]; simpa [way] using hR, hI⟩
      simp only [kX10_layWayFrom_21, kX10_layWayFrom_50, i_cst, i_ldI, i_ldJ, i_ldA, i_stI, i_stJ, i_stA, i_inc, i_bin, i_dv, i_un, i_i2l, i_bnJ, i_lshl, i_lcmp, i_dup, i_dp2, i_gI, i_gJ, i_gA, i_pI, i_pZ, i_pJ, i_pA, i_al, i_as, i_alJ, i_asJ, i_len, i_c0, i_c2, i_sw, msel, i_cV, i_cS, i_rV, i_rI, i_rZ, i_rJ, i_mm, i_pop, i_no, mpl, mvr, mnw, List.getElem?_cons_zero, List.getElem?_cons_succ, List.set_cons_zero, List.set_cons_succ, List.length_cons, List.length_nil, List.drop_succ_cons, List.drop_zero, List.take_succ_cons, List.take_zero, List.reverse_cons, List.reverse_nil, List.nil_append, List.cons_append, List.append_nil, List.map_cons, List.map_nil, List.sum_cons, List.sum_nil, Option.toList_some, Option.toList_none, Option.bind_some, Value.category, decide_eq_true_eq, decide_true, decide_false, if_true, if_false, Bool.false_eq_true, and_self, and_true, true_and, true_or, or_true, not_true_eq_false, not_false_eq_true, ↓reduceIte, reduceCtorEq, Nat.reduceEqDiff, Nat.reduceAdd, Nat.reduceSub, Nat.reduceMul, Nat.reduceLT, Nat.reduceLeDiff, Nat.reduceBEq, Nat.le_refl, Nat.zero_le, Nat.lt_irrefl, beq_self_eq_true, Nat.succ_ne_zero, Option.some.injEq, Prod.mk.injEq, Int32.reduceLT, Int32.reduceLE, show (16 : Int32) ≤ nI 16 by decide]
    · rintro d L μ ⟨i, I', y, l, hi, hl, rfl, hR, hI, hy, hw, rfl⟩
      have c1 : ¬ (16 : Int32) ≤ nI i := lit_nle (k := 16) rfl (by decide) (by omega)
      cases y with
      | none =>
        refine Or.inl ⟨_, fun r => ?_, I', rfl, by rw [hw]; simpa [way] using hR, hI⟩
        simp only [kX10_layWayFrom_21, kX10_layWayFrom_50, i_cst, i_ldI, i_ldJ, i_ldA, i_stI, i_stJ, i_stA, i_inc, i_bin, i_dv, i_un, i_i2l, i_bnJ, i_lshl, i_lcmp, i_dup, i_dp2, i_gI, i_gJ, i_gA, i_pI, i_pZ, i_pJ, i_pA, i_al, i_as, i_alJ, i_asJ, i_len, i_c0, i_c2, i_sw, msel, i_cV, i_cS, i_rV, i_rI, i_rZ, i_rJ, i_mm, i_pop, i_no, mpl, mvr, mnw, List.getElem?_cons_zero, List.getElem?_cons_succ, List.set_cons_zero, List.set_cons_succ, List.length_cons, List.length_nil, List.drop_succ_cons, List.drop_zero, List.take_succ_cons, List.take_zero, List.reverse_cons, List.reverse_nil, List.nil_append, List.cons_append, List.append_nil, List.map_cons, List.map_nil, List.sum_cons, List.sum_nil, Option.toList_some, Option.toList_none, Option.bind_some, Value.category, decide_eq_true_eq, decide_true, decide_false, if_true, if_false, Bool.false_eq_true, and_self, and_true, true_and, true_or, or_true, not_true_eq_false, not_false_eq_true, ↓reduceIte, reduceCtorEq, Nat.reduceEqDiff, Nat.reduceAdd, Nat.reduceSub, Nat.reduceMul, Nat.reduceLT, Nat.reduceLeDiff, Nat.reduceBEq, Nat.le_refl, Nat.zero_le, Nat.lt_irrefl, beq_self_eq_true, Nat.succ_ne_zero, Option.some.injEq, Prod.mk.injEq, Int32.reduceLT, Int32.reduceLE, c1, ffI]
      | some q =>
        obtain ⟨hq1, hq2⟩ := hy q rfl
        have c2 : ¬ nI q = -1 := nI_n1 (by omega)
        obtain ⟨I2, a1, a2, a3⟩ := p_add n J f hR (by simp; omega) (nI q)
        have w2 : WC I2 st Q := ⟨fun p hp => by rw [a3 42 p (by decide) (by decide), hI 42 p (by decide) (by decide)]; exact w.1 p hp, fun a ha => by rw [a3 43 a (by decide) (by decide), hI 43 a (by decide) (by decide)]; exact w.2.1 a ha, by rw [a3 41 3 (by decide) (by decide), hI 41 3 (by decide) (by decide)]; exact w.2.2⟩
        have o2 : SO I2 29 T S := SO_fr o (fun b j hb => by rw [a3 b j (by omega) (by omega), hI b j (by omega) (by omega)])
        have hnr := p_nearer hn J f o2 w2 hb hq1 hq2
        refine Or.inr ⟨_, _, ⟨i + 1, I2, ndr (tC T) (tR T) st q, l ++ [q], by omega, by simp [hl], rfl, by simpa using a2, fun b j h1 h2 => by rw [a3 b j h1 h2]; exact hI b j h1 h2, fun z hz => ndr_ok hC hq1 hz, by rw [hw]; simp [way], rfl⟩, fun r => ?_⟩
        rw [ffI_s]
        simp only [kX10_layWayFrom_21, kX10_layWayFrom_50, i_cst, i_ldI, i_ldJ, i_ldA, i_stI, i_stJ, i_stA, i_inc, i_bin, i_dv, i_un, i_i2l, i_bnJ, i_lshl, i_lcmp, i_dup, i_dp2, i_gI, i_gJ, i_gA, i_pI, i_pZ, i_pJ, i_pA, i_al, i_as, i_alJ, i_asJ, i_len, i_c0, i_c2, i_sw, msel, i_cV, i_cS, i_rV, i_rI, i_rZ, i_rJ, i_mm, i_pop, i_no, mpl, mvr, mnw, List.getElem?_cons_zero, List.getElem?_cons_succ, List.set_cons_zero, List.set_cons_succ, List.length_cons, List.length_nil, List.drop_succ_cons, List.drop_zero, List.take_succ_cons, List.take_zero, List.reverse_cons, List.reverse_nil, List.nil_append, List.cons_append, List.append_nil, List.map_cons, List.map_nil, List.sum_cons, List.sum_nil, Option.toList_some, Option.toList_none, Option.bind_some, Value.category, decide_eq_true_eq, decide_true, decide_false, if_true, if_false, Bool.false_eq_true, and_self, and_true, true_and, true_or, or_true, not_true_eq_false, not_false_eq_true, ↓reduceIte, reduceCtorEq, Nat.reduceEqDiff, Nat.reduceAdd, Nat.reduceSub, Nat.reduceMul, Nat.reduceLT, Nat.reduceLeDiff, Nat.reduceBEq, Nat.le_refl, Nat.zero_le, Nat.lt_irrefl, beq_self_eq_true, Nat.succ_ne_zero, Option.some.injEq, Prod.mk.injEq, Int32.reduceLT, Int32.reduceLE, c1, c2, y_41, y_55, a1, hnr, nI_1]
  have hat := p_atN n 42 p (mm I J f) y_42 (by decide) hp64
  cases e : st p with
  | none =>
    obtain ⟨I', h1, h2, h3⟩ := body none (fun q hq => by cases hq)
    refine ⟨I', ?_, by simpa using h2, h3⟩
    have e42 : I 42 p = -1 := by rw [w.1 p hp64, e]; rfl
    simp only [eX10_layWayFrom, kX10_layWayFrom_0, kX10_layWayFrom_17, i_cst, i_ldI, i_ldJ, i_ldA, i_stI, i_stJ, i_stA, i_inc, i_bin, i_dv, i_un, i_i2l, i_bnJ, i_lshl, i_lcmp, i_dup, i_dp2, i_gI, i_gJ, i_gA, i_pI, i_pZ, i_pJ, i_pA, i_al, i_as, i_alJ, i_asJ, i_len, i_c0, i_c2, i_sw, msel, i_cV, i_cS, i_rV, i_rI, i_rZ, i_rJ, i_mm, i_pop, i_no, mpl, mvr, mnw, List.getElem?_cons_zero, List.getElem?_cons_succ, List.set_cons_zero, List.set_cons_succ, List.length_cons, List.length_nil, List.drop_succ_cons, List.drop_zero, List.take_succ_cons, List.take_zero, List.reverse_cons, List.reverse_nil, List.nil_append, List.cons_append, List.append_nil, List.map_cons, List.map_nil, List.sum_cons, List.sum_nil, Option.toList_some, Option.toList_none, Option.bind_some, Value.category, decide_eq_true_eq, decide_true, decide_false, if_true, if_false, Bool.false_eq_true, and_self, and_true, true_and, true_or, or_true, not_true_eq_false, not_false_eq_true, ↓reduceIte, reduceCtorEq, Nat.reduceEqDiff, Nat.reduceAdd, Nat.reduceSub, Nat.reduceMul, Nat.reduceLT, Nat.reduceLeDiff, Nat.reduceBEq, Nat.le_refl, Nat.zero_le, Nat.lt_irrefl, beq_self_eq_true, Nat.succ_ne_zero, Option.some.injEq, Prod.mk.injEq, Int32.reduceLT, Int32.reduceLE, y_41, rt_41_1, hat, e42]
    exact h1
  | some d =>
    obtain ⟨I', h1, h2, h3⟩ := body (some p) (fun q hq => by cases hq; exact ⟨hp, by simp [e]⟩)
    refine ⟨I', ?_, by simpa using h2, h3⟩
    have e42 : ¬ I 42 p = -1 := by
      rw [w.1 p hp64, e]
      exact nI_n1 (by have := hb p d e; omega)
    simp only [eX10_layWayFrom, kX10_layWayFrom_0, kX10_layWayFrom_17, i_cst, i_ldI, i_ldJ, i_ldA, i_stI, i_stJ, i_stA, i_inc, i_bin, i_dv, i_un, i_i2l, i_bnJ, i_lshl, i_lcmp, i_dup, i_dp2, i_gI, i_gJ, i_gA, i_pI, i_pZ, i_pJ, i_pA, i_al, i_as, i_alJ, i_asJ, i_len, i_c0, i_c2, i_sw, msel, i_cV, i_cS, i_rV, i_rI, i_rZ, i_rJ, i_mm, i_pop, i_no, mpl, mvr, mnw, List.getElem?_cons_zero, List.getElem?_cons_succ, List.set_cons_zero, List.set_cons_succ, List.length_cons, List.length_nil, List.drop_succ_cons, List.drop_zero, List.take_succ_cons, List.take_zero, List.reverse_cons, List.reverse_nil, List.nil_append, List.cons_append, List.append_nil, List.map_cons, List.map_nil, List.sum_cons, List.sum_nil, Option.toList_some, Option.toList_none, Option.bind_some, Value.category, decide_eq_true_eq, decide_true, decide_false, if_true, if_false, Bool.false_eq_true, and_self, and_true, true_and, true_or, or_true, not_true_eq_false, not_false_eq_true, ↓reduceIte, reduceCtorEq, Nat.reduceEqDiff, Nat.reduceAdd, Nat.reduceSub, Nat.reduceMul, Nat.reduceLT, Nat.reduceLeDiff, Nat.reduceBEq, Nat.le_refl, Nat.zero_le, Nat.lt_irrefl, beq_self_eq_true, Nat.succ_ne_zero, Option.some.injEq, Prod.mk.injEq, Int32.reduceLT, Int32.reduceLE, y_41, rt_41_1, hat, e42]
    exact h1
def srcW (T : TA) (S : SA) (c : Nat) : Nat → Bool := fun q => nb (tC T) (tR T) (pos S c) q
def aWindow (T : TA) (S : SA) (p c : Int32) : Int32 := if cellI T p = true ∧ inI T S c = true then ffI (dsp T S (srcW T S c.toNatClampNeg) p.toNatClampNeg) else -1
def wayW (T : TA) (S : SA) (p c : Nat) : List Nat := way (tC T) (tR T) (dsp T S (srcW T S c)) 16 (if (dsp T S (srcW T S c) p).isSome = true then some p else none)
def lWindow (T : TA) (S : SA) (p c : Int32) : List Int32 := if cellI T p = true ∧ inI T S c = true then (wayW T S p.toNatClampNeg c.toNatClampNeg).map nI else []
set_option maxHeartbeats 8000000 in
theorem c_window (hn : 300 < n) (J : Nat → Nat → Int64) (f : Nat) (o : SO I 29 T S) (p c : Int32) : ∃ I', FX11_window n [.ref 0, .int p, .int c] (mm I J f) = some (some (.int (aWindow T S p c)), mm I' J f) ∧ RowC I' (lWindow T S p c) ∧ ∀ b j, (b < 41 ∨ 43 < b) → b ≠ 55 → b ≠ 56 → I' b j = I b j := by
  have o1 : SO (u2 I 55 1 0) 29 T S := SO_fr o (fun b j hb => u2_a (by omega))
  have hC := o.2.1.2.1
  have hm := cell_max o.2.1
  have hwm : wm T = tC T * tR T := rfl
  have hp := p_hasCellI n J f o1.2.1 o1.2.2.1 p
  have hc := p_isInI n J f o1 c
  by_cases e1 : cellI T p = true
  · by_cases e2 : inI T S c = true
    · obtain ⟨p', hp1, hp2, rfl⟩ := cellI_ex o.2.1 e1
      obtain ⟨k, hk, rfl, hk2⟩ := inI_ex e2
      obtain ⟨h8, hkt, hcl, hcl2, hcl3⟩ := rd_cl o hk
      obtain ⟨I1, a1, a2, a3⟩ := p_begin hn J f (u2 I 55 1 0)
      simp only [aWindow, lWindow, e1, e2, and_self, if_true, nI_clamp (show p' < 2 ^ 31 by omega), nI_clamp hk2]
      simp only [eX11_window, kX11_window_0, kX11_window_29, i_cst, i_ldI, i_ldJ, i_ldA, i_stI, i_stJ, i_stA, i_inc, i_bin, i_dv, i_un, i_i2l, i_bnJ, i_lshl, i_lcmp, i_dup, i_dp2, i_gI, i_gJ, i_gA, i_pI, i_pZ, i_pJ, i_pA, i_al, i_as, i_alJ, i_asJ, i_len, i_c0, i_c2, i_sw, msel, i_cV, i_cS, i_rV, i_rI, i_rZ, i_rJ, i_mm, i_pop, i_no, mpl, mvr, mnw, List.getElem?_cons_zero, List.getElem?_cons_succ, List.set_cons_zero, List.set_cons_succ, List.length_cons, List.length_nil, List.drop_succ_cons, List.drop_zero, List.take_succ_cons, List.take_zero, List.reverse_cons, List.reverse_nil, List.nil_append, List.cons_append, List.append_nil, List.map_cons, List.map_nil, List.sum_cons, List.sum_nil, Option.toList_some, Option.toList_none, Option.bind_some, Value.category, decide_eq_true_eq, decide_true, decide_false, if_true, if_false, Bool.false_eq_true, and_self, and_true, true_and, true_or, or_true, not_true_eq_false, not_false_eq_true, ↓reduceIte, reduceCtorEq, Nat.reduceEqDiff, Nat.reduceAdd, Nat.reduceSub, Nat.reduceMul, Nat.reduceLT, Nat.reduceLeDiff, Nat.reduceBEq, Nat.le_refl, Nat.zero_le, Nat.lt_irrefl, beq_self_eq_true, Nat.succ_ne_zero, Option.some.injEq, Prod.mk.injEq, Int32.reduceLT, Int32.reduceLE, y_0, y_2, y_29, y_55, y_41, rt_0_2, rt_0_5, rt_0_8, rt_0_12, p_clear, hp, hc, b2i_eq0, e1, e2, a1]
      refine mit_ind (G := kX11_window_40 n) (fun d L μ => ∃ (s : Nat) (I' : Nat → Nat → Int32) (st : Nat → Option Nat) (Q : List Nat), s + d = 4 ∧ μ = mm I' J f ∧ WC I' st Q ∧ BI (wE T S) (wN T) (wm T) (srcW T S k) st Q 0 ∧ (∀ p d, st p = some d → d = 0) ∧ (∀ s', s' < s → ∀ q, bes (tC T) (tR T) (pos S k) s' = some q → opn T S q = true → st q = some 0) ∧ WF (u2 I 55 1 0) I' ∧ L = [some (.ref 0), some (.int (nI p')), some (.int (nI k)), some (.int (nI s))]) (fun v => ∃ I', v = some (some (.int (ffI (dsp T S (srcW T S k) p'))), mm I' J f) ∧ RowC I' ((wayW T S p' k).map nI) ∧ ∀ b j, (b < 41 ∨ 43 < b) → b ≠ 55 → b ≠ 56 → I' b j = I b j) ?_ ?_ 4 n _ _ (by omega) ⟨0, I1, fun _ => none, [], rfl, rfl, a2, BI.nil, (fun p d h => by cases h), (fun s' hs' => by omega), a3, rfl⟩
      · rintro L μ ⟨s, I', st, Q, hs, rfl, w', hB, hz, hdn, hF, rfl⟩
        have : s = 4 := by omega
        subst this
        obtain ⟨I3, st3, Q3, c1, c2, c3, c4, c5⟩ := p_spread hn J f (SO_WF o1 hF) w' hB
        have hfin := c3.fin (Nat.le_refl _) (fun p hp => opn_lt hp) (fun q hq hs => by
          obtain ⟨s', hs', hb⟩ := nb_iff.mp hs
          exact c4 q 0 (hdn s' hs' q hb hq))
        have hfe : st3 = dsp T S (srcW T S k) := funext hfin
        subst hfe
        have hF3 := hF.tr c5
        have o3 := SO_WF o1 hF3
        have hr3 : RowC I3 [] := RowC_of (RowC_nil I) (fun b j hb => hF3 b j (by omega))
        obtain ⟨I4, d1, d2, d3⟩ := p_layWayFrom hn J f o3 c2 (fun q d hd => by have := dsp_lt hd; omega) hr3 hp2
        have e42 : I4 42 p' = ffI (dsp T S (srcW T S k) p') := by rw [d3 42 p' (by decide) (by decide)]; exact c2.1 p' hp1
        refine ⟨_, fun r => ?_, I4, rfl, d2, fun b j h1 h2 h3 => by rw [d3 b j h2 h3, hF3 b j h1, u2_a h2]⟩
        have cs : (4 : Int32) ≤ nI 4 := by decide
        simp only [kX11_window_40, i_cst, i_ldI, i_ldJ, i_ldA, i_stI, i_stJ, i_stA, i_inc, i_bin, i_dv, i_un, i_i2l, i_bnJ, i_lshl, i_lcmp, i_dup, i_dp2, i_gI, i_gJ, i_gA, i_pI, i_pZ, i_pJ, i_pA, i_al, i_as, i_alJ, i_asJ, i_len, i_c0, i_c2, i_sw, msel, i_cV, i_cS, i_rV, i_rI, i_rZ, i_rJ, i_mm, i_pop, i_no, mpl, mvr, mnw, List.getElem?_cons_zero, List.getElem?_cons_succ, List.set_cons_zero, List.set_cons_succ, List.length_cons, List.length_nil, List.drop_succ_cons, List.drop_zero, List.take_succ_cons, List.take_zero, List.reverse_cons, List.reverse_nil, List.nil_append, List.cons_append, List.append_nil, List.map_cons, List.map_nil, List.sum_cons, List.sum_nil, Option.toList_some, Option.toList_none, Option.bind_some, Value.category, decide_eq_true_eq, decide_true, decide_false, if_true, if_false, Bool.false_eq_true, and_self, and_true, true_and, true_or, or_true, not_true_eq_false, not_false_eq_true, ↓reduceIte, reduceCtorEq, Nat.reduceEqDiff, Nat.reduceAdd, Nat.reduceSub, Nat.reduceMul, Nat.reduceLT, Nat.reduceLeDiff, Nat.reduceBEq, Nat.le_refl, Nat.zero_le, Nat.lt_irrefl, beq_self_eq_true, Nat.succ_ne_zero, Option.some.injEq, Prod.mk.injEq, Int32.reduceLT, Int32.reduceLE, cs, y_0, y_41, y_55, rt_0_8, rt_0_12, rt_41_1, c1, d1, p_atN n 42 p' (mm I4 J f) y_42 (by decide) hp1, e42]
      · rintro d L μ ⟨s, I', st, Q, hs, rfl, w', hB, hz, hdn, hF, rfl⟩
        refine Or.inr ?_
        have cs : ¬ (4 : Int32) ≤ nI s := lit_nle (k := 4) rfl (by decide) (by omega)
        have o2 := SO_WF o1 hF
        have hpos := pos_lt o hk
        have hbs := p_beside n J f o2.2.1 o2.2.2.1 hpos (show s < 4 by omega)
        obtain ⟨I2, st2, Q2, b1, b2, b3, b4, b5, b6, b7⟩ := p_startAt hn J f o2 w' hB hz (x := bes (tC T) (tR T) (pos S k) s) (fun q hq => ⟨Nat.lt_of_lt_of_le (bes_lt hC hcl3 hq) hm, fun _ => nb_iff.mpr ⟨s, by omega, hq⟩⟩)
        have e30 : I' 30 k = nI (pos S k) := by
          have := (rd_cl o2 hk).2.2.1
          simp only [Nat.reduceAdd] at this
          rw [this, hcl2]; rfl
        refine ⟨_, _, ⟨s + 1, I2, st2, Q2, by omega, rfl, b2, b3, b4, ?_, hF.tr b7, rfl⟩, fun r => ?_⟩
        · intro s' hs' q hb hq
          by_cases e : s' = s
          · subst e; exact b6 q hb hq
          · exact b5 q 0 (hdn s' (by omega) q hb hq)
        · simp only [kX11_window_40, i_cst, i_ldI, i_ldJ, i_ldA, i_stI, i_stJ, i_stA, i_inc, i_bin, i_dv, i_un, i_i2l, i_bnJ, i_lshl, i_lcmp, i_dup, i_dp2, i_gI, i_gJ, i_gA, i_pI, i_pZ, i_pJ, i_pA, i_al, i_as, i_alJ, i_asJ, i_len, i_c0, i_c2, i_sw, msel, i_cV, i_cS, i_rV, i_rI, i_rZ, i_rJ, i_mm, i_pop, i_no, mpl, mvr, mnw, List.getElem?_cons_zero, List.getElem?_cons_succ, List.set_cons_zero, List.set_cons_succ, List.length_cons, List.length_nil, List.drop_succ_cons, List.drop_zero, List.take_succ_cons, List.take_zero, List.reverse_cons, List.reverse_nil, List.nil_append, List.cons_append, List.append_nil, List.map_cons, List.map_nil, List.sum_cons, List.sum_nil, Option.toList_some, Option.toList_none, Option.bind_some, Value.category, decide_eq_true_eq, decide_true, decide_false, if_true, if_false, Bool.false_eq_true, and_self, and_true, true_and, true_or, or_true, not_true_eq_false, not_false_eq_true, ↓reduceIte, reduceCtorEq, Nat.reduceEqDiff, Nat.reduceAdd, Nat.reduceSub, Nat.reduceMul, Nat.reduceLT, Nat.reduceLeDiff, Nat.reduceBEq, Nat.le_refl, Nat.zero_le, Nat.lt_irrefl, beq_self_eq_true, Nat.succ_ne_zero, Option.some.injEq, Prod.mk.injEq, Int32.reduceLT, Int32.reduceLE, cs, y_0, y_2, y_29, y_41, rt_0_2, rt_0_5, rt_0_8, rt_29_1, p_atN n 30 k (mm I' J f) y_30 (by decide) h8, e30, hbs, b1, nI_1]
    · refine ⟨u2 I 55 1 0, ?_, by simpa [lWindow, e2] using RowC_nil I, fun b j _ h _ => u2_a h⟩
      simp only [eX11_window, kX11_window_0, kX11_window_29, kX11_window_40, i_cst, i_ldI, i_ldJ, i_ldA, i_stI, i_stJ, i_stA, i_inc, i_bin, i_dv, i_un, i_i2l, i_bnJ, i_lshl, i_lcmp, i_dup, i_dp2, i_gI, i_gJ, i_gA, i_pI, i_pZ, i_pJ, i_pA, i_al, i_as, i_alJ, i_asJ, i_len, i_c0, i_c2, i_sw, msel, i_cV, i_cS, i_rV, i_rI, i_rZ, i_rJ, i_mm, i_pop, i_no, mpl, mvr, mnw, List.getElem?_cons_zero, List.getElem?_cons_succ, List.set_cons_zero, List.set_cons_succ, List.length_cons, List.length_nil, List.drop_succ_cons, List.drop_zero, List.take_succ_cons, List.take_zero, List.reverse_cons, List.reverse_nil, List.nil_append, List.cons_append, List.append_nil, List.map_cons, List.map_nil, List.sum_cons, List.sum_nil, Option.toList_some, Option.toList_none, Option.bind_some, Value.category, decide_eq_true_eq, decide_true, decide_false, if_true, if_false, Bool.false_eq_true, and_self, and_true, true_and, true_or, or_true, not_true_eq_false, not_false_eq_true, ↓reduceIte, reduceCtorEq, Nat.reduceEqDiff, Nat.reduceAdd, Nat.reduceSub, Nat.reduceMul, Nat.reduceLT, Nat.reduceLeDiff, Nat.reduceBEq, Nat.le_refl, Nat.zero_le, Nat.lt_irrefl, beq_self_eq_true, Nat.succ_ne_zero, Option.some.injEq, Prod.mk.injEq, Int32.reduceLT, Int32.reduceLE, y_0, y_2, y_29, y_55, rt_0_2, rt_0_5, rt_0_12, p_clear, hp, hc, b2i_eq0, e1, e2, aWindow, and_false]
  · refine ⟨u2 I 55 1 0, ?_, by simpa [lWindow, e1] using RowC_nil I, fun b j _ h _ => u2_a h⟩
    simp only [eX11_window, kX11_window_0, kX11_window_29, kX11_window_40, i_cst, i_ldI, i_ldJ, i_ldA, i_stI, i_stJ, i_stA, i_inc, i_bin, i_dv, i_un, i_i2l, i_bnJ, i_lshl, i_lcmp, i_dup, i_dp2, i_gI, i_gJ, i_gA, i_pI, i_pZ, i_pJ, i_pA, i_al, i_as, i_alJ, i_asJ, i_len, i_c0, i_c2, i_sw, msel, i_cV, i_cS, i_rV, i_rI, i_rZ, i_rJ, i_mm, i_pop, i_no, mpl, mvr, mnw, List.getElem?_cons_zero, List.getElem?_cons_succ, List.set_cons_zero, List.set_cons_succ, List.length_cons, List.length_nil, List.drop_succ_cons, List.drop_zero, List.take_succ_cons, List.take_zero, List.reverse_cons, List.reverse_nil, List.nil_append, List.cons_append, List.append_nil, List.map_cons, List.map_nil, List.sum_cons, List.sum_nil, Option.toList_some, Option.toList_none, Option.bind_some, Value.category, decide_eq_true_eq, decide_true, decide_false, if_true, if_false, Bool.false_eq_true, and_self, and_true, true_and, true_or, or_true, not_true_eq_false, not_false_eq_true, ↓reduceIte, reduceCtorEq, Nat.reduceEqDiff, Nat.reduceAdd, Nat.reduceSub, Nat.reduceMul, Nat.reduceLT, Nat.reduceLeDiff, Nat.reduceBEq, Nat.le_refl, Nat.zero_le, Nat.lt_irrefl, beq_self_eq_true, Nat.succ_ne_zero, Option.some.injEq, Prod.mk.injEq, Int32.reduceLT, Int32.reduceLE, y_0, y_2, y_29, y_55, rt_0_2, rt_0_12, p_clear, hp, b2i_eq0, e1, aWindow, false_and]
end Walk2
