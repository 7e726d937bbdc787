/-! PURE: the class's Walks -/
def opn (T : TA) (S : SA) (p : Nat) : Bool := decide (p < tC T * tR T) && decide (whoAtA T S (nI p) = -1)
def WC (I : Nat → Nat → Int32) (st : Nat → Option Nat) (Q : List Nat) : Prop := (∀ p, p < 64 → I 42 p = ffI (st p)) ∧ (∀ a, a < Q.length → I 43 a = nI (Q.getD a 0)) ∧ I 41 3 = nI Q.length
def WF (I I' : Nat → Nat → Int32) : Prop := ∀ b j, (b < 41 ∨ 43 < b) → I' b j = I b j
theorem WF.tr {I I' I'' : Nat → Nat → Int32} (h1 : WF I I') (h2 : WF I' I'') : WF I I'' := fun b j h => (h2 b j h).trans (h1 b j h)
theorem SO_WF {I I' : Nat → Nat → Int32} {T : TA} {S : SA} (o : SO I 29 T S) (h : WF I I') : SO I' 29 T S := SO_fr o (fun b j hb => h b j (by omega))
theorem BI.nil {E : Nat → Bool} {N : Nat → Nat → Bool} {m : Nat} {src : Nat → Bool} : BI E N m src (fun _ => none) [] 0 := by
  refine ⟨fun p d h => (by cases h), fun a ha => by simp at ha, ?_, fun a ha => by omega, fun a b _ hb => by simp at hb, fun h => by simp at h, fun a ha => by simp at ha, fun p d h => by cases h⟩
  exact ((cn_ex m).mpr (fun j _ => rfl)).symm
theorem BI.next {E : Nat → Bool} {N : Nat → Nat → Bool} {m : Nat} {src : Nat → Bool} {st : Nat → Option Nat} {Q : List Nat} {i : Nat} (h : BI E N m src st Q i) (hi : i < Q.length) (hd : ∀ q, E q = true → q < m → N (Q.getD i 0) q = true → ∃ d, st q = some d ∧ d ≤ stv st (Q.getD i 0) + 1) : BI E N m src st Q (i + 1) := by
  refine ⟨h.vis, h.que, h.num, fun a ha ha2 => ?_, h.inc, fun hi2 b hb => ?_, h.idx, h.opn⟩
  · by_cases e : a = i
    · subst e; exact hd
    · exact h.don a (by omega) ha2
  · have h1 := h.lim hi b hb
    have h2 := h.inc i (i + 1) (by omega) hi2
    omega
def extS (st st' : Nat → Option Nat) : Prop := ∀ p d, st p = some d → st' p = some d
theorem ext_u {st : Nat → Option Nat} {p x : Nat} (h : st p = none) : extS st (uST st p x) := by
  intro q d hd
  unfold uST
  rw [if_neg (fun e => by rw [e, h] at hd; cases hd)]
  exact hd
section Walks
variable {n : Nat} {I : Nat → Nat → Int32} {T : TA} {S : SA}
theorem opn_lt {p : Nat} (h : opn T S p = true) : p < tC T * tR T := by
  simp only [opn, Bool.and_eq_true, decide_eq_true_eq] at h; exact h.1
set_option maxHeartbeats 4000000 in
theorem p_beside (n : Nat) (J : Nat → Nat → Int64) (f : Nat) (ht : TRg T) (hT : TC I T) {p s : Nat} (hp : p < 64) (hs : s < 4) : FX4_beside n [.ref 2, .int (nI p), .int (nI s)] (mm I J f) = some (some (.int (ffI (bes (tC T) (tR T) p s))), mm I J f) := by
  have m1 : p % tC T < 2 ^ 30 := Nat.lt_of_le_of_lt (Nat.mod_le _ _) (by omega)
  have m2 : p / tC T < 2 ^ 30 := Nat.lt_of_le_of_lt (Nat.div_le_self _ _) (by omega)
  have hC := ht.2.1
  have hR := ht.2.2.1
  have r1 := p_rowOf n (show p < 2 ^ 30 by omega) J f ht hT
  have r2 := p_columnOf n (show p < 2 ^ 30 by omega) J f ht hT
  have z : ∀ k, k < 2 ^ 30 → (nI k ≤ 0 ↔ k = 0) := fun k hk => by
    rw [show (0 : Int32) = nI 0 from rfl, nI_leI (by omega) (by decide)]; omega
  have l1 : nI (tC T) - 1 = nI (tC T - 1) := by rw [show (1 : Int32) = nI 1 from rfl, pk_sub (by omega)]
  have l2 : nI (tR T) - 1 = nI (tR T - 1) := by rw [show (1 : Int32) = nI 1 from rfl, pk_sub (by omega)]
  rw [eX4_beside, kX4_beside_0]
  simp only [i_ldI, List.getElem?_cons_zero, List.getElem?_cons_succ]
  rcases (show s = 0 ∨ s = 1 ∨ s = 2 ∨ s = 3 by omega) with rfl | rfl | rfl | rfl
  · rw [sw_eq (by decide)]
    simp only [kX4_beside_46, kX4_beside_62, kX4_beside_84, kX4_beside_109, i_cst, i_ldI, i_ldJ, i_ldA, i_stI, i_stJ, i_stA, i_inc, i_bin, i_dv, i_un, i_i2l, i_bnJ, i_lshl, i_lcmp, i_dup, i_dp2, i_gI, i_gJ, i_gA, i_pI, i_pZ, i_pJ, i_pA, i_al, i_as, i_alJ, i_asJ, i_len, i_c0, i_c2, i_sw, msel, i_cV, i_cS, i_rV, i_rI, i_rZ, i_rJ, i_mm, i_pop, i_no, mpl, mvr, mnw, List.getElem?_cons_zero, List.getElem?_cons_succ, List.set_cons_zero, List.set_cons_succ, List.length_cons, List.length_nil, List.drop_succ_cons, List.drop_zero, List.take_succ_cons, List.take_zero, List.reverse_cons, List.reverse_nil, List.nil_append, List.cons_append, List.append_nil, List.map_cons, List.map_nil, List.sum_cons, List.sum_nil, Option.toList_some, Option.toList_none, Option.bind_some, Value.category, decide_eq_true_eq, decide_true, decide_false, if_true, if_false, Bool.false_eq_true, and_self, and_true, true_and, true_or, or_true, not_true_eq_false, not_false_eq_true, ↓reduceIte, reduceCtorEq, Nat.reduceEqDiff, Nat.reduceAdd, Nat.reduceSub, Nat.reduceMul, Nat.reduceLT, Nat.reduceLeDiff, Nat.reduceBEq, Nat.le_refl, Nat.zero_le, Nat.lt_irrefl, beq_self_eq_true, Nat.succ_ne_zero, Option.some.injEq, Prod.mk.injEq, Int32.reduceLT, Int32.reduceLE, y_2, r1, hT.1.1, z _ m2, bes]
    by_cases e : p / tC T = 0
    · simp [e, ffI]
    · have hle : tC T ≤ p := by
        rcases Nat.lt_or_ge p (tC T) with h | h
        · exact absurd (Nat.div_eq_of_lt h) e
        · exact h
      rw [if_neg e, if_pos (Nat.pos_of_ne_zero e), pk_sub hle]; rfl
  · rw [sw_ne (by decide), sw_eq (by decide)]
    simp only [kX4_beside_46, kX4_beside_62, kX4_beside_84, kX4_beside_109, i_cst, i_ldI, i_ldJ, i_ldA, i_stI, i_stJ, i_stA, i_inc, i_bin, i_dv, i_un, i_i2l, i_bnJ, i_lshl, i_lcmp, i_dup, i_dp2, i_gI, i_gJ, i_gA, i_pI, i_pZ, i_pJ, i_pA, i_al, i_as, i_alJ, i_asJ, i_len, i_c0, i_c2, i_sw, msel, i_cV, i_cS, i_rV, i_rI, i_rZ, i_rJ, i_mm, i_pop, i_no, mpl, mvr, mnw, List.getElem?_cons_zero, List.getElem?_cons_succ, List.set_cons_zero, List.set_cons_succ, List.length_cons, List.length_nil, List.drop_succ_cons, List.drop_zero, List.take_succ_cons, List.take_zero, List.reverse_cons, List.reverse_nil, List.nil_append, List.cons_append, List.append_nil, List.map_cons, List.map_nil, List.sum_cons, List.sum_nil, Option.toList_some, Option.toList_none, Option.bind_some, Value.category, decide_eq_true_eq, decide_true, decide_false, if_true, if_false, Bool.false_eq_true, and_self, and_true, true_and, true_or, or_true, not_true_eq_false, not_false_eq_true, ↓reduceIte, reduceCtorEq, Nat.reduceEqDiff, Nat.reduceAdd, Nat.reduceSub, Nat.reduceMul, Nat.reduceLT, Nat.reduceLeDiff, Nat.reduceBEq, Nat.le_refl, Nat.zero_le, Nat.lt_irrefl, beq_self_eq_true, Nat.succ_ne_zero, Option.some.injEq, Prod.mk.injEq, Int32.reduceLT, Int32.reduceLE, y_2, r2, hT.1.1, z _ m1, bes]
    by_cases e : p % tC T = 0
    · simp [e, ffI]
    · have hle : 1 ≤ p := by
        rcases Nat.eq_zero_or_pos p with h | h
        · subst h; simp at e
        · exact h
      have l3 : nI p - 1 = nI (p - 1) := by rw [show (1 : Int32) = nI 1 from rfl, pk_sub hle]
      rw [if_neg e, if_pos (Nat.pos_of_ne_zero e), l3]; rfl
  · rw [sw_ne (by decide), sw_ne (by decide), sw_eq (by decide)]
    simp only [kX4_beside_46, kX4_beside_62, kX4_beside_84, kX4_beside_109, i_cst, i_ldI, i_ldJ, i_ldA, i_stI, i_stJ, i_stA, i_inc, i_bin, i_dv, i_un, i_i2l, i_bnJ, i_lshl, i_lcmp, i_dup, i_dp2, i_gI, i_gJ, i_gA, i_pI, i_pZ, i_pJ, i_pA, i_al, i_as, i_alJ, i_asJ, i_len, i_c0, i_c2, i_sw, msel, i_cV, i_cS, i_rV, i_rI, i_rZ, i_rJ, i_mm, i_pop, i_no, mpl, mvr, mnw, List.getElem?_cons_zero, List.getElem?_cons_succ, List.set_cons_zero, List.set_cons_succ, List.length_cons, List.length_nil, List.drop_succ_cons, List.drop_zero, List.take_succ_cons, List.take_zero, List.reverse_cons, List.reverse_nil, List.nil_append, List.cons_append, List.append_nil, List.map_cons, List.map_nil, List.sum_cons, List.sum_nil, Option.toList_some, Option.toList_none, Option.bind_some, Value.category, decide_eq_true_eq, decide_true, decide_false, if_true, if_false, Bool.false_eq_true, and_self, and_true, true_and, true_or, or_true, not_true_eq_false, not_false_eq_true, ↓reduceIte, reduceCtorEq, Nat.reduceEqDiff, Nat.reduceAdd, Nat.reduceSub, Nat.reduceMul, Nat.reduceLT, Nat.reduceLeDiff, Nat.reduceBEq, Nat.le_refl, Nat.zero_le, Nat.lt_irrefl, beq_self_eq_true, Nat.succ_ne_zero, Option.some.injEq, Prod.mk.injEq, Int32.reduceLT, Int32.reduceLE, y_2, r2, hT.1.1, l1, nI_leI (show tC T - 1 < 2 ^ 31 by omega) (show p % tC T < 2 ^ 31 by omega), bes, nI_1]
    by_cases e : p % tC T < tC T - 1
    · simp [e, ffI, Nat.not_le.mpr e]
    · simp [e, ffI, Nat.not_lt.mp e]
  · rw [sw_ne (by decide), sw_ne (by decide), sw_ne (by decide), sw_no]
    simp only [kX4_beside_46, kX4_beside_62, kX4_beside_84, kX4_beside_109, i_cst, i_ldI, i_ldJ, i_ldA, i_stI, i_stJ, i_stA, i_inc, i_bin, i_dv, i_un, i_i2l, i_bnJ, i_lshl, i_lcmp, i_dup, i_dp2, i_gI, i_gJ, i_gA, i_pI, i_pZ, i_pJ, i_pA, i_al, i_as, i_alJ, i_asJ, i_len, i_c0, i_c2, i_sw, msel, i_cV, i_cS, i_rV, i_rI, i_rZ, i_rJ, i_mm, i_pop, i_no, mpl, mvr, mnw, List.getElem?_cons_zero, List.getElem?_cons_succ, List.set_cons_zero, List.set_cons_succ, List.length_cons, List.length_nil, List.drop_succ_cons, List.drop_zero, List.take_succ_cons, List.take_zero, List.reverse_cons, List.reverse_nil, List.nil_append, List.cons_append, List.append_nil, List.map_cons, List.map_nil, List.sum_cons, List.sum_nil, Option.toList_some, Option.toList_none, Option.bind_some, Value.category, decide_eq_true_eq, decide_true, decide_false, if_true, if_false, Bool.false_eq_true, and_self, and_true, true_and, true_or, or_true, not_true_eq_false, not_false_eq_true, ↓reduceIte, reduceCtorEq, Nat.reduceEqDiff, Nat.reduceAdd, Nat.reduceSub, Nat.reduceMul, Nat.reduceLT, Nat.reduceLeDiff, Nat.reduceBEq, Nat.le_refl, Nat.zero_le, Nat.lt_irrefl, beq_self_eq_true, Nat.succ_ne_zero, Option.some.injEq, Prod.mk.injEq, Int32.reduceLT, Int32.reduceLE, y_2, r1, hT.1.1, hT.1.2.1, l2, nI_leI (show tR T - 1 < 2 ^ 31 by omega) (show p / tC T < 2 ^ 31 by omega), bes]
    by_cases e : p / tC T < tR T - 1
    · simp [e, ffI, Nat.not_le.mpr e, nI_add]
    · simp [e, ffI, Nat.not_lt.mp e]
set_option maxHeartbeats 4000000 in
theorem p_come_no (hn : 8 < n) (J : Nat → Nat → Int64) (f : Nat) (o : SO I 29 T S) {st : Nat → Option Nat} {Q : List Nat} (w : WC I st Q) (hst : ∀ p d, st p = some d → d < 64) {x : Option Nat} (hx : ∀ p, x = some p → opn T S p = true → st p ≠ none) (hx2 : ∀ p, x = some p → p < 64) (v : Int32) : FX10_come n [.ref 41, .int (ffI x), .int v] (mm I J f) = some (none, mm I J f) := by
  cases x with
  | none =>
    have hc := p_hasCellI n J f o.2.1 o.2.2.1 (-1)
    have e : cellI T (-1) = false := cellI_neg (by decide)
    rw [e] at hc
    simp only [eX10_come, kX10_come_0, kX10_come_48, kX10_come_69, i_cst, i_ldI, i_ldJ, i_ldA, i_stI, i_stJ, i_stA, i_inc, i_bin, i_dv, i_un, i_i2l, i_bnJ, i_lshl, i_lcmp, i_dup, i_dp2, i_gI, i_gJ, i_gA, i_pI, i_pZ, i_pJ, i_pA, i_al, i_as, i_alJ, i_asJ, i_len, i_c0, i_c2, i_sw, msel, i_cV, i_cS, i_rV, i_rI, i_rZ, i_rJ, i_mm, i_pop, i_no, mpl, mvr, mnw, List.getElem?_cons_zero, List.getElem?_cons_succ, List.set_cons_zero, List.set_cons_succ, List.length_cons, List.length_nil, List.drop_succ_cons, List.drop_zero, List.take_succ_cons, List.take_zero, List.reverse_cons, List.reverse_nil, List.nil_append, List.cons_append, List.append_nil, List.map_cons, List.map_nil, List.sum_cons, List.sum_nil, Option.toList_some, Option.toList_none, Option.bind_some, Value.category, decide_eq_true_eq, decide_true, decide_false, if_true, if_false, Bool.false_eq_true, and_self, and_true, true_and, true_or, or_true, not_true_eq_false, not_false_eq_true, ↓reduceIte, reduceCtorEq, Nat.reduceEqDiff, Nat.reduceAdd, Nat.reduceSub, Nat.reduceMul, Nat.reduceLT, Nat.reduceLeDiff, Nat.reduceBEq, Nat.le_refl, Nat.zero_le, Nat.lt_irrefl, beq_self_eq_true, Nat.succ_ne_zero, Option.some.injEq, Prod.mk.injEq, Int32.reduceLT, Int32.reduceLE, y_41, y_29, y_2, rt_41_0, rt_29_0, ffI, hc, b2i_eq0]
  | some p =>
    have hp := hx2 p rfl
    have hc := p_hasCellI n J f o.2.1 o.2.2.1 (nI p)
    rw [cellI_nI (by omega)] at hc
    have hw := p_whoIsAt hn J f o (nI p)
    rw [ffI_s]
    by_cases e1 : p < tC T * tR T
    · by_cases e2 : whoAtA T S (nI p) = -1
      · have e3 := hx p rfl (by simp [opn, e1, e2])
        have e4 : ¬ ffI (st p) = -1 := by
          rw [ffI_n1 (hst p) (by decide)]; exact e3
        simp only [eX10_come, kX10_come_0, kX10_come_48, kX10_come_69, i_cst, i_ldI, i_ldJ, i_ldA, i_stI, i_stJ, i_stA, i_inc, i_bin, i_dv, i_un, i_i2l, i_bnJ, i_lshl, i_lcmp, i_dup, i_dp2, i_gI, i_gJ, i_gA, i_pI, i_pZ, i_pJ, i_pA, i_al, i_as, i_alJ, i_asJ, i_len, i_c0, i_c2, i_sw, msel, i_cV, i_cS, i_rV, i_rI, i_rZ, i_rJ, i_mm, i_pop, i_no, mpl, mvr, mnw, List.getElem?_cons_zero, List.getElem?_cons_succ, List.set_cons_zero, List.set_cons_succ, List.length_cons, List.length_nil, List.drop_succ_cons, List.drop_zero, List.take_succ_cons, List.take_zero, List.reverse_cons, List.reverse_nil, List.nil_append, List.cons_append, List.append_nil, List.map_cons, List.map_nil, List.sum_cons, List.sum_nil, Option.toList_some, Option.toList_none, Option.bind_some, Value.category, decide_eq_true_eq, decide_true, decide_false, if_true, if_false, Bool.false_eq_true, and_self, and_true, true_and, true_or, or_true, not_true_eq_false, not_false_eq_true, ↓reduceIte, reduceCtorEq, Nat.reduceEqDiff, Nat.reduceAdd, Nat.reduceSub, Nat.reduceMul, Nat.reduceLT, Nat.reduceLeDiff, Nat.reduceBEq, Nat.le_refl, Nat.zero_le, Nat.lt_irrefl, beq_self_eq_true, Nat.succ_ne_zero, Option.some.injEq, Prod.mk.injEq, Int32.reduceLT, Int32.reduceLE, y_41, y_29, y_2, rt_41_0, rt_41_1, rt_29_0, hc, b2i_eq0, e1, hw, e2, p_atN n 42 p (mm I J f) y_42 (by decide) hp, w.1 p hp, e4]
      · simp only [eX10_come, kX10_come_0, kX10_come_48, kX10_come_69, i_cst, i_ldI, i_ldJ, i_ldA, i_stI, i_stJ, i_stA, i_inc, i_bin, i_dv, i_un, i_i2l, i_bnJ, i_lshl, i_lcmp, i_dup, i_dp2, i_gI, i_gJ, i_gA, i_pI, i_pZ, i_pJ, i_pA, i_al, i_as, i_alJ, i_asJ, i_len, i_c0, i_c2, i_sw, msel, i_cV, i_cS, i_rV, i_rI, i_rZ, i_rJ, i_mm, i_pop, i_no, mpl, mvr, mnw, List.getElem?_cons_zero, List.getElem?_cons_succ, List.set_cons_zero, List.set_cons_succ, List.length_cons, List.length_nil, List.drop_succ_cons, List.drop_zero, List.take_succ_cons, List.take_zero, List.reverse_cons, List.reverse_nil, List.nil_append, List.cons_append, List.append_nil, List.map_cons, List.map_nil, List.sum_cons, List.sum_nil, Option.toList_some, Option.toList_none, Option.bind_some, Value.category, decide_eq_true_eq, decide_true, decide_false, if_true, if_false, Bool.false_eq_true, and_self, and_true, true_and, true_or, or_true, not_true_eq_false, not_false_eq_true, ↓reduceIte, reduceCtorEq, Nat.reduceEqDiff, Nat.reduceAdd, Nat.reduceSub, Nat.reduceMul, Nat.reduceLT, Nat.reduceLeDiff, Nat.reduceBEq, Nat.le_refl, Nat.zero_le, Nat.lt_irrefl, beq_self_eq_true, Nat.succ_ne_zero, Option.some.injEq, Prod.mk.injEq, Int32.reduceLT, Int32.reduceLE, y_41, y_29, y_2, rt_41_0, rt_41_1, rt_29_0, hc, b2i_eq0, e1, hw, e2]
    · simp only [eX10_come, kX10_come_0, kX10_come_48, kX10_come_69, i_cst, i_ldI, i_ldJ, i_ldA, i_stI, i_stJ, i_stA, i_inc, i_bin, i_dv, i_un, i_i2l, i_bnJ, i_lshl, i_lcmp, i_dup, i_dp2, i_gI, i_gJ, i_gA, i_pI, i_pZ, i_pJ, i_pA, i_al, i_as, i_alJ, i_asJ, i_len, i_c0, i_c2, i_sw, msel, i_cV, i_cS, i_rV, i_rI, i_rZ, i_rJ, i_mm, i_pop, i_no, mpl, mvr, mnw, List.getElem?_cons_zero, List.getElem?_cons_succ, List.set_cons_zero, List.set_cons_succ, List.length_cons, List.length_nil, List.drop_succ_cons, List.drop_zero, List.take_succ_cons, List.take_zero, List.reverse_cons, List.reverse_nil, List.nil_append, List.cons_append, List.append_nil, List.map_cons, List.map_nil, List.sum_cons, List.sum_nil, Option.toList_some, Option.toList_none, Option.bind_some, Value.category, decide_eq_true_eq, decide_true, decide_false, if_true, if_false, Bool.false_eq_true, and_self, and_true, true_and, true_or, or_true, not_true_eq_false, not_false_eq_true, ↓reduceIte, reduceCtorEq, Nat.reduceEqDiff, Nat.reduceAdd, Nat.reduceSub, Nat.reduceMul, Nat.reduceLT, Nat.reduceLeDiff, Nat.reduceBEq, Nat.le_refl, Nat.zero_le, Nat.lt_irrefl, beq_self_eq_true, Nat.succ_ne_zero, Option.some.injEq, Prod.mk.injEq, Int32.reduceLT, Int32.reduceLE, y_41, y_29, y_2, rt_41_0, rt_29_0, hc, b2i_eq0, e1]
set_option maxHeartbeats 4000000 in
theorem p_come_yes (hn : 8 < n) (J : Nat → Nat → Int64) (f : Nat) (o : SO I 29 T S) {st : Nat → Option Nat} {Q : List Nat} (w : WC I st Q) {p : Nat} (hE : opn T S p = true) (hs : st p = none) (hQ : Q.length < 64) (v : Nat) : ∃ I', FX10_come n [.ref 41, .int (ffI (some p)), .int (nI v)] (mm I J f) = some (none, mm I' J f) ∧ WC I' (uST st p v) (Q ++ [p]) ∧ WF I I' := by
  have hp : p < 64 := Nat.lt_of_lt_of_le (opn_lt hE) (cell_max o.2.1)
  have hc := p_hasCellI n J f o.2.1 o.2.2.1 (nI p)
  rw [cellI_nI (by omega)] at hc
  have hw := p_whoIsAt hn J f o (nI p)
  simp only [opn, Bool.and_eq_true, decide_eq_true_eq] at hE
  have e4 : ffI (st p) = -1 := by rw [hs]; rfl
  refine ⟨u2 (u2 (u2 I 42 p (nI v)) 43 Q.length (nI p)) 41 3 (nI (Q.length + 1)), ?_, ⟨fun q hq => ?_, fun a ha => ?_, ?_⟩, fun b j hb => by rw [u2_a (by omega), u2_a (by omega), u2_a (by omega)]⟩
  · rw [ffI_s]
    have f1 : ∀ x i, u2 I 42 p x 41 i = I 41 i := fun x i => u2_a (by decide)
    have f2 : ∀ x y i, u2 (u2 I 42 p x) 43 Q.length y 41 i = I 41 i := fun x y i => by rw [u2_a (by decide), u2_a (by decide)]
    simp only [eX10_come, kX10_come_0, kX10_come_48, kX10_come_69, i_cst, i_ldI, i_ldJ, i_ldA, i_stI, i_stJ, i_stA, i_inc, i_bin, i_dv, i_un, i_i2l, i_bnJ, i_lshl, i_lcmp, i_dup, i_dp2, i_gI, i_gJ, i_gA, i_pI, i_pZ, i_pJ, i_pA, i_al, i_as, i_alJ, i_asJ, i_len, i_c0, i_c2, i_sw, msel, i_cV, i_cS, i_rV, i_rI, i_rZ, i_rJ, i_mm, i_pop, i_no, mpl, mvr, mnw, List.getElem?_cons_zero, List.getElem?_cons_succ, List.set_cons_zero, List.set_cons_succ, List.length_cons, List.length_nil, List.drop_succ_cons, List.drop_zero, List.take_succ_cons, List.take_zero, List.reverse_cons, List.reverse_nil, List.nil_append, List.cons_append, List.append_nil, List.map_cons, List.map_nil, List.sum_cons, List.sum_nil, Option.toList_some, Option.toList_none, Option.bind_some, Value.category, decide_eq_true_eq, decide_true, decide_false, if_true, if_false, Bool.false_eq_true, and_self, and_true, true_and, true_or, or_true, not_true_eq_false, not_false_eq_true, ↓reduceIte, reduceCtorEq, Nat.reduceEqDiff, Nat.reduceAdd, Nat.reduceSub, Nat.reduceMul, Nat.reduceLT, Nat.reduceLeDiff, Nat.reduceBEq, Nat.le_refl, Nat.zero_le, Nat.lt_irrefl, beq_self_eq_true, Nat.succ_ne_zero, Option.some.injEq, Prod.mk.injEq, Int32.reduceLT, Int32.reduceLE, y_41, y_29, y_2, rt_41_0, rt_41_1, rt_41_2, rt_29_0, hc, b2i_eq0, hE.1, hw, hE.2, p_atN n 42 p (mm I J f) y_42 (by decide) hp, w.1 p hp, e4, p_setN n 42 p _ (mm I J f) y_42 (by decide) hp, uI_mm, f1, f2, w.2.2, p_setN n 43 Q.length _ (mm (u2 I 42 p (nI v)) J f) y_43 (by decide) hQ, nI_1]
  · rw [u2_a (by decide), u2_a (by decide)]
    unfold uST
    by_cases e : q = p
    · subst e; rw [u2_s, if_pos rfl]; rfl
    · rw [u2_j e, if_neg e]; exact w.1 q hq
  · rw [u2_a (by decide), getD_app]
    simp only [List.length_append, List.length_cons, List.length_nil] at ha
    by_cases e : a = Q.length
    · subst e; rw [u2_s, if_pos rfl]
    · rw [u2_j e, if_neg e, u2_a (by decide)]; exact w.2.1 a (by omega)
  · rw [u2_s]; simp
def bgI (I : Nat → Nat → Int32) (k : Nat) : Nat → Nat → Int32 := fun b i => if b = 42 ∧ i < k then -1 else if b = 41 ∧ i = 3 then 0 else I b i
set_option maxHeartbeats 4000000 in
theorem p_begin (hn : 300 < n) (J : Nat → Nat → Int64) (f : Nat) (I : Nat → Nat → Int32) : ∃ I', FX10_begin n [.ref 41] (mm I J f) = some (none, mm I' J f) ∧ WC I' (fun _ => none) [] ∧ WF I I' := by
  refine ⟨bgI I 64, ?_, ⟨fun p hp => by simp [bgI, hp, ffI], fun a ha => by simp at ha, by simp [bgI, nI_0]⟩, fun b j hb => by simp [bgI, show ¬ b = 42 by omega, show ¬ b = 41 by omega]⟩
  simp only [eX10_begin, kX10_begin_0, i_cst, i_ldI, i_ldJ, i_ldA, i_stI, i_stJ, i_stA, i_inc, i_bin, i_dv, i_un, i_i2l, i_bnJ, i_lshl, i_lcmp, i_dup, i_dp2, i_gI, i_gJ, i_gA, i_pI, i_pZ, i_pJ, i_pA, i_al, i_as, i_alJ, i_asJ, i_len, i_c0, i_c2, i_sw, msel, i_cV, i_cS, i_rV, i_rI, i_rZ, i_rJ, i_mm, i_pop, i_no, mpl, mvr, mnw, List.getElem?_cons_zero, List.getElem?_cons_succ, List.set_cons_zero, List.set_cons_succ, List.length_cons, List.length_nil, List.drop_succ_cons, List.drop_zero, List.take_succ_cons, List.take_zero, List.reverse_cons, List.reverse_nil, List.nil_append, List.cons_append, List.append_nil, List.map_cons, List.map_nil, List.sum_cons, List.sum_nil, Option.toList_some, Option.toList_none, Option.bind_some, Value.category, decide_eq_true_eq, decide_true, decide_false, if_true, if_false, Bool.false_eq_true, and_self, and_true, true_and, true_or, or_true, not_true_eq_false, not_false_eq_true, ↓reduceIte, reduceCtorEq, Nat.reduceEqDiff, Nat.reduceAdd, Nat.reduceSub, Nat.reduceMul, Nat.reduceLT, Nat.reduceLeDiff, Nat.reduceBEq, Nat.le_refl, Nat.zero_le, Nat.lt_irrefl, beq_self_eq_true, Nat.succ_ne_zero, Option.some.injEq, Prod.mk.injEq, Int32.reduceLT, Int32.reduceLE, y_41]
  have e0 : uI (mm I J f) 41 3 0 = mm (bgI I 0) J f := by
    rw [uI_mm]
    congr 1
    funext b i
    simp [u2, bgI]
  rw [e0]
  refine mit_for (fun j => [some (.ref 41), some (.int (nI j))]) (fun j => mm (bgI I j) J f) (B := 64) (fun j hj r => ?_) (by omega) (fun r => ?_)
  · have c1 : ¬ Int32.ofNat 64 ≤ nI j := lit_nle (k := 64) rfl (by decide) hj
    have c3 : (0 : Int32) ≤ nI j := nI_pos' (by omega)
    have c4 : (nI j).toNatClampNeg = j := nI_clamp (by omega)
    have e1 : uI (mm (bgI I j) J f) 42 j (-1) = mm (bgI I (j + 1)) J f := by
      rw [uI_mm]
      congr 1
      funext b i
      unfold u2 bgI
      by_cases h1 : b = 42
      · by_cases h2 : i = j
        · simp [h1, h2]
        · have : (i < j) = (i < j + 1) := by apply propext; omega
          simp [h1, h2, this]
      · simp [h1]
    simp only [kX10_begin_7, i_cst, i_ldI, i_ldJ, i_ldA, i_stI, i_stJ, i_stA, i_inc, i_bin, i_dv, i_un, i_i2l, i_bnJ, i_lshl, i_lcmp, i_dup, i_dp2, i_gI, i_gJ, i_gA, i_pI, i_pZ, i_pJ, i_pA, i_al, i_as, i_alJ, i_asJ, i_len, i_c0, i_c2, i_sw, msel, i_cV, i_cS, i_rV, i_rI, i_rZ, i_rJ, i_mm, i_pop, i_no, mpl, mvr, mnw, List.getElem?_cons_zero, List.getElem?_cons_succ, List.set_cons_zero, List.set_cons_succ, List.length_cons, List.length_nil, List.drop_succ_cons, List.drop_zero, List.take_succ_cons, List.take_zero, List.reverse_cons, List.reverse_nil, List.nil_append, List.cons_append, List.append_nil, List.map_cons, List.map_nil, List.sum_cons, List.sum_nil, Option.toList_some, Option.toList_none, Option.bind_some, Value.category, decide_eq_true_eq, decide_true, decide_false, if_true, if_false, Bool.false_eq_true, and_self, and_true, true_and, true_or, or_true, not_true_eq_false, not_false_eq_true, ↓reduceIte, reduceCtorEq, Nat.reduceEqDiff, Nat.reduceAdd, Nat.reduceSub, Nat.reduceMul, Nat.reduceLT, Nat.reduceLeDiff, Nat.reduceBEq, Nat.le_refl, Nat.zero_le, Nat.lt_irrefl, beq_self_eq_true, Nat.succ_ne_zero, Option.some.injEq, Prod.mk.injEq, Int32.reduceLT, Int32.reduceLE, y_41, y_42, rt_41_1, c1, c3, c4, hj, e1, nI_1]
  · have c1 : Int32.ofNat 64 ≤ nI 64 := by decide
    simp only [kX10_begin_7, i_cst, i_ldI, i_ldJ, i_ldA, i_stI, i_stJ, i_stA, i_inc, i_bin, i_dv, i_un, i_i2l, i_bnJ, i_lshl, i_lcmp, i_dup, i_dp2, i_gI, i_gJ, i_gA, i_pI, i_pZ, i_pJ, i_pA, i_al, i_as, i_alJ, i_asJ, i_len, i_c0, i_c2, i_sw, msel, i_cV, i_cS, i_rV, i_rI, i_rZ, i_rJ, i_mm, i_pop, i_no, mpl, mvr, mnw, List.getElem?_cons_zero, List.getElem?_cons_succ, List.set_cons_zero, List.set_cons_succ, List.length_cons, List.length_nil, List.drop_succ_cons, List.drop_zero, List.take_succ_cons, List.take_zero, List.reverse_cons, List.reverse_nil, List.nil_append, List.cons_append, List.append_nil, List.map_cons, List.map_nil, List.sum_cons, List.sum_nil, Option.toList_some, Option.toList_none, Option.bind_some, Value.category, decide_eq_true_eq, decide_true, decide_false, if_true, if_false, Bool.false_eq_true, and_self, and_true, true_and, true_or, or_true, not_true_eq_false, not_false_eq_true, ↓reduceIte, reduceCtorEq, Nat.reduceEqDiff, Nat.reduceAdd, Nat.reduceSub, Nat.reduceMul, Nat.reduceLT, Nat.reduceLeDiff, Nat.reduceBEq, Nat.le_refl, Nat.zero_le, Nat.lt_irrefl, beq_self_eq_true, Nat.succ_ne_zero, Option.some.injEq, Prod.mk.injEq, Int32.reduceLT, Int32.reduceLE, y_41, y_42, rt_41_1, c1]
abbrev wE (T : TA) (S : SA) : Nat → Bool := opn T S
abbrev wN (T : TA) : Nat → Nat → Bool := nb (tC T) (tR T)
abbrev wm (T : TA) : Nat := tC T * tR T
set_option maxHeartbeats 8000000 in
theorem p_spread (hn : 300 < n) (J : Nat → Nat → Int64) (f : Nat) (o : SO I 29 T S) {src : Nat → Bool} {st : Nat → Option Nat} {Q : List Nat} (w : WC I st Q) (h : BI (wE T S) (wN T) (wm T) src st Q 0) : ∃ I' st' Q', FX10_spread n [.ref 41] (mm I J f) = some (none, mm I' J f) ∧ WC I' st' Q' ∧ BI (wE T S) (wN T) (wm T) src st' Q' Q'.length ∧ extS st st' ∧ WF I I' := by
  have hC := o.2.1.2.1
  have hm := cell_max o.2.1
  have hwm : wm T = tC T * tR T := rfl
  simp only [eX10_spread, kX10_spread_0, i_cst, i_ldI, i_ldJ, i_ldA, i_stI, i_stJ, i_stA, i_inc, i_bin, i_dv, i_un, i_i2l, i_bnJ, i_lshl, i_lcmp, i_dup, i_dp2, i_gI, i_gJ, i_gA, i_pI, i_pZ, i_pJ, i_pA, i_al, i_as, i_alJ, i_asJ, i_len, i_c0, i_c2, i_sw, msel, i_cV, i_cS, i_rV, i_rI, i_rZ, i_rJ, i_mm, i_pop, i_no, mpl, mvr, mnw, List.getElem?_cons_zero, List.getElem?_cons_succ, List.set_cons_zero, List.set_cons_succ, List.length_cons, List.length_nil, List.drop_succ_cons, List.drop_zero, List.take_succ_cons, List.take_zero, List.reverse_cons, List.reverse_nil, List.nil_append, List.cons_append, List.append_nil, List.map_cons, List.map_nil, List.sum_cons, List.sum_nil, Option.toList_some, Option.toList_none, Option.bind_some, Value.category, decide_eq_true_eq, decide_true, decide_false, if_true, if_false, Bool.false_eq_true, and_self, and_true, true_and, true_or, or_true, not_true_eq_false, not_false_eq_true, ↓reduceIte, reduceCtorEq, Nat.reduceEqDiff, Nat.reduceAdd, Nat.reduceSub, Nat.reduceMul, Nat.reduceLT, Nat.reduceLeDiff, Nat.reduceBEq, Nat.le_refl, Nat.zero_le, Nat.lt_irrefl, beq_self_eq_true, Nat.succ_ne_zero, Option.some.injEq, Prod.mk.injEq, Int32.reduceLT, Int32.reduceLE]
  refine mit_ind2 (G := kX10_spread_2 n) (fun d L μ => ∃ (i : Nat) (I' : Nat → Nat → Int32) (st' : Nat → Option Nat) (Q' : List Nat) (x2 x3 : Option Value), i + d = 64 ∧ μ = mm I' J f ∧ i ≤ Q'.length ∧ WC I' st' Q' ∧ BI (wE T S) (wN T) (wm T) src st' Q' i ∧ extS st st' ∧ WF I I' ∧ L = [some (.ref 41), some (.int (nI i)), x2, x3]) (fun v => ∃ I' st' Q', v = some (none, mm I' J f) ∧ WC I' st' Q' ∧ BI (wE T S) (wN T) (wm T) src st' Q' Q'.length ∧ extS st st' ∧ WF I I') ?_ ?_ 64 n _ _ (by omega) ⟨0, I, st, Q, none, none, rfl, rfl, Nat.zero_le _, w, h, fun _ _ h => h, fun _ _ _ => rfl, rfl⟩
  · rintro L μ ⟨i, I', st', Q', x2, x3, hi, rfl, hiQ, w', h', hx, hF, rfl⟩ r
    have hlen := h'.len
    have ei : i = Q'.length := by omega
    have c1 : nI Q'.length ≤ nI i := by rw [nI_leI (by omega) (by omega)]; omega
    refine ⟨I', st', Q', ?_, w', ei ▸ h', hx, hF⟩
    simp only [kX10_spread_2, kX10_spread_71, i_cst, i_ldI, i_ldJ, i_ldA, i_stI, i_stJ, i_stA, i_inc, i_bin, i_dv, i_un, i_i2l, i_bnJ, i_lshl, i_lcmp, i_dup, i_dp2, i_gI, i_gJ, i_gA, i_pI, i_pZ, i_pJ, i_pA, i_al, i_as, i_alJ, i_asJ, i_len, i_c0, i_c2, i_sw, msel, i_cV, i_cS, i_rV, i_rI, i_rZ, i_rJ, i_mm, i_pop, i_no, mpl, mvr, mnw, List.getElem?_cons_zero, List.getElem?_cons_succ, List.set_cons_zero, List.set_cons_succ, List.length_cons, List.length_nil, List.drop_succ_cons, List.drop_zero, List.take_succ_cons, List.take_zero, List.reverse_cons, List.reverse_nil, List.nil_append, List.cons_append, List.append_nil, List.map_cons, List.map_nil, List.sum_cons, List.sum_nil, Option.toList_some, Option.toList_none, Option.bind_some, Value.category, decide_eq_true_eq, decide_true, decide_false, if_true, if_false, Bool.false_eq_true, and_self, and_true, true_and, true_or, or_true, not_true_eq_false, not_false_eq_true, ↓reduceIte, reduceCtorEq, Nat.reduceEqDiff, Nat.reduceAdd, Nat.reduceSub, Nat.reduceMul, Nat.reduceLT, Nat.reduceLeDiff, Nat.reduceBEq, Nat.le_refl, Nat.zero_le, Nat.lt_irrefl, beq_self_eq_true, Nat.succ_ne_zero, Option.some.injEq, Prod.mk.injEq, Int32.reduceLT, Int32.reduceLE, y_41, w'.2.2, c1]
  · rintro d L μ ⟨i, I', st', Q', x2, x3, hi, rfl, hiQ, w', h', hx, hF, rfl⟩ r
    have hlen := h'.len
    by_cases hiL : i < Q'.length
    · refine Or.inr ?_
      have c1 : ¬ nI Q'.length ≤ nI i := by rw [nI_leI (by omega) (by omega)]; omega
      have c2 : ¬ Int32.ofNat 64 ≤ nI i := lit_nle (k := 64) rfl (by decide) (by omega)
      have c3 : (0 : Int32) ≤ nI i := nI_pos' (by omega)
      have c4 : (nI i).toNatClampNeg = i := nI_clamp (by omega)
      have c5 : i < 64 := by omega
      have hcm := (h'.que i hiL).2
      have hc64 : Q'.getD i 0 < 64 := by omega
      obtain ⟨x, hx0⟩ := Option.isSome_iff_exists.mp (h'.que i hiL).1
      have hxi : x < 64 := by
        have := h'.idx i hiL
        simp only [stv, hx0, Option.getD_some] at this; omega
      have inner : ∃ I2 st2 Q2, i < Q2.length ∧ WC I2 st2 Q2 ∧ BI (wE T S) (wN T) (wm T) src st2 Q2 (i + 1) ∧ extS st st2 ∧ WF I I2 ∧ mit (kX10_spread_28 n r) n [some (.ref 41), some (.int (nI i)), some (.int (nI (Q'.getD i 0))), some (.int 0)] [] (mm I' J f) = r [some (.ref 41), some (.int (nI (i + 1))), some (.int (nI (Q'.getD i 0))), some (.int (nI 4))] [] (mm I2 J f) := by
        refine mit_ind (G := kX10_spread_28 n r) (fun d L μ => ∃ (s : Nat) (I2 : Nat → Nat → Int32) (st2 : Nat → Option Nat) (Q2 : List Nat), s + d = 4 ∧ μ = mm I2 J f ∧ i < Q2.length ∧ Q2.getD i 0 = Q'.getD i 0 ∧ st2 (Q'.getD i 0) = some x ∧ WC I2 st2 Q2 ∧ BI (wE T S) (wN T) (wm T) src st2 Q2 i ∧ (∀ s', s' < s → ∀ q, bes (tC T) (tR T) (Q'.getD i 0) s' = some q → opn T S q = true → ∃ d, st2 q = some d ∧ d ≤ x + 1) ∧ extS st st2 ∧ WF I I2 ∧ L = [some (.ref 41), some (.int (nI i)), some (.int (nI (Q'.getD i 0))), some (.int (nI s))]) (fun v => ∃ I2 st2 Q2, i < Q2.length ∧ WC I2 st2 Q2 ∧ BI (wE T S) (wN T) (wm T) src st2 Q2 (i + 1) ∧ extS st st2 ∧ WF I I2 ∧ v = r [some (.ref 41), some (.int (nI (i + 1))), some (.int (nI (Q'.getD i 0))), some (.int (nI 4))] [] (mm I2 J f)) ?_ ?_ 4 n _ _ (by omega) ⟨0, I', st', Q', rfl, rfl, hiL, rfl, hx0, w', h', fun s' hs' => by omega, hx, hF, rfl⟩
        · rintro L μ ⟨s, I2, st2, Q2, hs, rfl, hi2, hq2, hst2, w2, h2, hd2, hx2, hF2, rfl⟩
          have : s = 4 := by omega
          subst this
          refine ⟨_, fun r' => ?_, I2, st2, Q2, hi2, w2, h2.next hi2 (fun q hq hqm hN => ?_), hx2, hF2, rfl⟩
          · have c : (4 : Int32) ≤ nI 4 := by decide
            simp only [kX10_spread_28, i_cst, i_ldI, i_ldJ, i_ldA, i_stI, i_stJ, i_stA, i_inc, i_bin, i_dv, i_un, i_i2l, i_bnJ, i_lshl, i_lcmp, i_dup, i_dp2, i_gI, i_gJ, i_gA, i_pI, i_pZ, i_pJ, i_pA, i_al, i_as, i_alJ, i_asJ, i_len, i_c0, i_c2, i_sw, msel, i_cV, i_cS, i_rV, i_rI, i_rZ, i_rJ, i_mm, i_pop, i_no, mpl, mvr, mnw, List.getElem?_cons_zero, List.getElem?_cons_succ, List.set_cons_zero, List.set_cons_succ, List.length_cons, List.length_nil, List.drop_succ_cons, List.drop_zero, List.take_succ_cons, List.take_zero, List.reverse_cons, List.reverse_nil, List.nil_append, List.cons_append, List.append_nil, List.map_cons, List.map_nil, List.sum_cons, List.sum_nil, Option.toList_some, Option.toList_none, Option.bind_some, Value.category, decide_eq_true_eq, decide_true, decide_false, if_true, if_false, Bool.false_eq_true, and_self, and_true, true_and, true_or, or_true, not_true_eq_false, not_false_eq_true, ↓reduceIte, reduceCtorEq, Nat.reduceEqDiff, Nat.reduceAdd, Nat.reduceSub, Nat.reduceMul, Nat.reduceLT, Nat.reduceLeDiff, Nat.reduceBEq, Nat.le_refl, Nat.zero_le, Nat.lt_irrefl, beq_self_eq_true, Nat.succ_ne_zero, Option.some.injEq, Prod.mk.injEq, Int32.reduceLT, Int32.reduceLE, c, nI_1]
          · rw [hq2] at hN ⊢
            obtain ⟨s', hs', hb⟩ := nb_iff.mp hN
            obtain ⟨d', g1, g2⟩ := hd2 s' hs' q hb hq
            exact ⟨d', g1, by simp only [stv, hst2, Option.getD_some]; exact g2⟩
        · rintro d' L μ ⟨s, I2, st2, Q2, hs, rfl, hi2, hq2, hst2, w2, h2, hd2, hx2, hF2, rfl⟩
          refine Or.inr ?_
          have cs : ¬ (4 : Int32) ≤ nI s := lit_nle (k := 4) rfl (by decide) (by omega)
          have o2 := SO_WF o hF2
          have hbs := p_beside n J f o2.2.1 o2.2.2.1 hc64 (show s < 4 by omega)
          have hat := p_atN n 42 (Q'.getD i 0) (mm I2 J f) y_42 (by decide) hc64
          have e42 : I2 42 (Q'.getD i 0) = nI x := by rw [w2.1 _ hc64, hst2]; rfl
          have hlen2 := h2.len
          have hbound : ∀ p d, st2 p = some d → d < 64 := by
            intro p d hd
            obtain ⟨_, _, a, ha, e⟩ := h2.vis p d hd
            have := h2.idx a ha
            rw [e] at this
            simp only [stv, hd, Option.getD_some] at this
            omega
          have hbl : ∀ p, bes (tC T) (tR T) (Q'.getD i 0) s = some p → p < 64 := fun p hp => Nat.lt_of_lt_of_le (bes_lt hC hcm hp) hm
          by_cases hyes : ∃ p, bes (tC T) (tR T) (Q'.getD i 0) s = some p ∧ opn T S p = true ∧ st2 p = none
          · obtain ⟨p, hp1, hp2, hp3⟩ := hyes
            have hpm := bes_lt hC hcm hp1
            have hlt : Q2.length < 64 := by
              have h1 : Q2.length = cn (fun q => (st2 q).isSome) (tC T * tR T) := h2.num
              have h2' := cn_clr (P := fun _ => true) (c := p) (tC T * tR T) hpm rfl
              have h3 : cn (fun q => (st2 q).isSome) (tC T * tR T) ≤ cn (fun q => true && !decide (q = p)) (tC T * tR T) := cn_le_of _ (fun q hq hh => by
                by_cases e : q = p
                · subst e; rw [hp3] at hh; cases hh
                · simp [e])
              have h4 := cn_le (fun _ => true) (tC T * tR T)
              omega
            obtain ⟨I3, g1, g2, g3⟩ := p_come_yes (show 8 < n by omega) J f o2 w2 hp2 hp3 hlt (x + 1)
            have hstv : stv st2 (Q2.getD i 0) = x := by
              rw [hq2]
              unfold stv
              rw [hst2]
              rfl
            have hlvx := (h2.vis _ x hst2).1
            have h3 := h2.come (p := p) (x := x + 1) hpm hp2 hp3 (lv_succ.mpr (Or.inr ⟨hp2, Q'.getD i 0, hcm, hlvx, nb_iff.mpr ⟨s, by omega, hp1⟩⟩)) (fun b hb => by have := h2.lim hi2 b hb; rw [hstv] at this; exact this) ⟨fun _ => by rw [hstv]; omega, by omega⟩ (by have := h2.idx i hi2; rw [hstv] at this; omega)
            refine ⟨_, _, ⟨s + 1, I3, uST st2 p (x + 1), Q2 ++ [p], by omega, rfl, by simp; omega, by rw [getD_app, if_neg (by omega)]; exact hq2, ext_u hp3 _ _ hst2, g2, h3, ?_, fun q d hd => ext_u hp3 q d (hx2 q d hd), hF2.tr g3, rfl⟩, fun r' => ?_⟩
            · intro s' hs' q hb hq
              by_cases e : s' = s
              · subst e
                rw [hp1] at hb
                cases hb
                exact ⟨x + 1, by simp [uST], Nat.le_refl _⟩
              · obtain ⟨d', a1, a2⟩ := hd2 s' (by omega) q hb hq
                exact ⟨d', ext_u hp3 q d' a1, a2⟩
            · rw [hp1] at hbs
              simp only [kX10_spread_28, i_cst, i_ldI, i_ldJ, i_ldA, i_stI, i_stJ, i_stA, i_inc, i_bin, i_dv, i_un, i_i2l, i_bnJ, i_lshl, i_lcmp, i_dup, i_dp2, i_gI, i_gJ, i_gA, i_pI, i_pZ, i_pJ, i_pA, i_al, i_as, i_alJ, i_asJ, i_len, i_c0, i_c2, i_sw, msel, i_cV, i_cS, i_rV, i_rI, i_rZ, i_rJ, i_mm, i_pop, i_no, mpl, mvr, mnw, List.getElem?_cons_zero, List.getElem?_cons_succ, List.set_cons_zero, List.set_cons_succ, List.length_cons, List.length_nil, List.drop_succ_cons, List.drop_zero, List.take_succ_cons, List.take_zero, List.reverse_cons, List.reverse_nil, List.nil_append, List.cons_append, List.append_nil, List.map_cons, List.map_nil, List.sum_cons, List.sum_nil, Option.toList_some, Option.toList_none, Option.bind_some, Value.category, decide_eq_true_eq, decide_true, decide_false, if_true, if_false, Bool.false_eq_true, and_self, and_true, true_and, true_or, or_true, not_true_eq_false, not_false_eq_true, ↓reduceIte, reduceCtorEq, Nat.reduceEqDiff, Nat.reduceAdd, Nat.reduceSub, Nat.reduceMul, Nat.reduceLT, Nat.reduceLeDiff, Nat.reduceBEq, Nat.le_refl, Nat.zero_le, Nat.lt_irrefl, beq_self_eq_true, Nat.succ_ne_zero, Option.some.injEq, Prod.mk.injEq, Int32.reduceLT, Int32.reduceLE, cs, y_41, y_29, y_2, rt_41_0, rt_41_1, rt_29_0, hbs, hat, e42, nI_1, g1]
          · have hno := p_come_no (show 8 < n by omega) J f o2 w2 hbound (x := bes (tC T) (tR T) (Q'.getD i 0) s) (fun p hp hE hn2 => hyes ⟨p, hp, hE, hn2⟩) hbl (nI (x + 1))
            refine ⟨_, _, ⟨s + 1, I2, st2, Q2, by omega, rfl, hi2, hq2, hst2, w2, h2, ?_, hx2, hF2, rfl⟩, fun r' => ?_⟩
            · intro s' hs' q hb hq
              by_cases e : s' = s
              · subst e
                cases e2 : st2 q with
                | none => exact absurd ⟨q, hb, hq, e2⟩ hyes
                | some d' =>
                  refine ⟨d', rfl, ?_⟩
                  obtain ⟨_, _, a, ha, e3⟩ := h2.vis q d' e2
                  have := h2.lim hi2 a ha
                  rw [e3, hq2] at this
                  simp only [stv, e2, hst2, Option.getD_some] at this
                  exact this
              · exact hd2 s' (by omega) q hb hq
            · simp only [kX10_spread_28, i_cst, i_ldI, i_ldJ, i_ldA, i_stI, i_stJ, i_stA, i_inc, i_bin, i_dv, i_un, i_i2l, i_bnJ, i_lshl, i_lcmp, i_dup, i_dp2, i_gI, i_gJ, i_gA, i_pI, i_pZ, i_pJ, i_pA, i_al, i_as, i_alJ, i_asJ, i_len, i_c0, i_c2, i_sw, msel, i_cV, i_cS, i_rV, i_rI, i_rZ, i_rJ, i_mm, i_pop, i_no, mpl, mvr, mnw, List.getElem?_cons_zero, List.getElem?_cons_succ, List.set_cons_zero, List.set_cons_succ, List.length_cons, List.length_nil, List.drop_succ_cons, List.drop_zero, List.take_succ_cons, List.take_zero, List.reverse_cons, List.reverse_nil, List.nil_append, List.cons_append, List.append_nil, List.map_cons, List.map_nil, List.sum_cons, List.sum_nil, Option.toList_some, Option.toList_none, Option.bind_some, Value.category, decide_eq_true_eq, decide_true, decide_false, if_true, if_false, Bool.false_eq_true, and_self, and_true, true_and, true_or, or_true, not_true_eq_false, not_false_eq_true, ↓reduceIte, reduceCtorEq, Nat.reduceEqDiff, Nat.reduceAdd, Nat.reduceSub, Nat.reduceMul, Nat.reduceLT, Nat.reduceLeDiff, Nat.reduceBEq, Nat.le_refl, Nat.zero_le, Nat.lt_irrefl, beq_self_eq_true, Nat.succ_ne_zero, Option.some.injEq, Prod.mk.injEq, Int32.reduceLT, Int32.reduceLE, cs, y_41, y_29, y_2, rt_41_0, rt_41_1, rt_29_0, hbs, hat, e42, nI_1, hno]
      obtain ⟨I2, st2, Q2, q0, q1, q2, q3, q4, q5⟩ := inner
      refine ⟨_, _, ⟨i + 1, I2, st2, Q2, some (.int (nI (Q'.getD i 0))), some (.int (nI 4)), by omega, rfl, by omega, q1, q2, q3, q4, rfl⟩, ?_⟩
      rw [← q5]
      simp only [kX10_spread_2, kX10_spread_71, i_cst, i_ldI, i_ldJ, i_ldA, i_stI, i_stJ, i_stA, i_inc, i_bin, i_dv, i_un, i_i2l, i_bnJ, i_lshl, i_lcmp, i_dup, i_dp2, i_gI, i_gJ, i_gA, i_pI, i_pZ, i_pJ, i_pA, i_al, i_as, i_alJ, i_asJ, i_len, i_c0, i_c2, i_sw, msel, i_cV, i_cS, i_rV, i_rI, i_rZ, i_rJ, i_mm, i_pop, i_no, mpl, mvr, mnw, List.getElem?_cons_zero, List.getElem?_cons_succ, List.set_cons_zero, List.set_cons_succ, List.length_cons, List.length_nil, List.drop_succ_cons, List.drop_zero, List.take_succ_cons, List.take_zero, List.reverse_cons, List.reverse_nil, List.nil_append, List.cons_append, List.append_nil, List.map_cons, List.map_nil, List.sum_cons, List.sum_nil, Option.toList_some, Option.toList_none, Option.bind_some, Value.category, decide_eq_true_eq, decide_true, decide_false, if_true, if_false, Bool.false_eq_true, and_self, and_true, true_and, true_or, or_true, not_true_eq_false, not_false_eq_true, ↓reduceIte, reduceCtorEq, Nat.reduceEqDiff, Nat.reduceAdd, Nat.reduceSub, Nat.reduceMul, Nat.reduceLT, Nat.reduceLeDiff, Nat.reduceBEq, Nat.le_refl, Nat.zero_le, Nat.lt_irrefl, beq_self_eq_true, Nat.succ_ne_zero, Option.some.injEq, Prod.mk.injEq, Int32.reduceLT, Int32.reduceLE, y_41, y_43, rt_41_2, w'.2.2, c1, c2, c3, c4, c5, w'.2.1 i hiL]
    · refine Or.inl ?_
      have ei : i = Q'.length := by omega
      have c1 : nI Q'.length ≤ nI i := by rw [nI_leI (by omega) (by omega)]; omega
      refine ⟨I', st', Q', ?_, w', ei ▸ h', hx, hF⟩
      simp only [kX10_spread_2, kX10_spread_71, i_cst, i_ldI, i_ldJ, i_ldA, i_stI, i_stJ, i_stA, i_inc, i_bin, i_dv, i_un, i_i2l, i_bnJ, i_lshl, i_lcmp, i_dup, i_dp2, i_gI, i_gJ, i_gA, i_pI, i_pZ, i_pJ, i_pA, i_al, i_as, i_alJ, i_asJ, i_len, i_c0, i_c2, i_sw, msel, i_cV, i_cS, i_rV, i_rI, i_rZ, i_rJ, i_mm, i_pop, i_no, mpl, mvr, mnw, List.getElem?_cons_zero, List.getElem?_cons_succ, List.set_cons_zero, List.set_cons_succ, List.length_cons, List.length_nil, List.drop_succ_cons, List.drop_zero, List.take_succ_cons, List.take_zero, List.reverse_cons, List.reverse_nil, List.nil_append, List.cons_append, List.append_nil, List.map_cons, List.map_nil, List.sum_cons, List.sum_nil, Option.toList_some, Option.toList_none, Option.bind_some, Value.category, decide_eq_true_eq, decide_true, decide_false, if_true, if_false, Bool.false_eq_true, and_self, and_true, true_and, true_or, or_true, not_true_eq_false, not_false_eq_true, ↓reduceIte, reduceCtorEq, Nat.reduceEqDiff, Nat.reduceAdd, Nat.reduceSub, Nat.reduceMul, Nat.reduceLT, Nat.reduceLeDiff, Nat.reduceBEq, Nat.le_refl, Nat.zero_le, Nat.lt_irrefl, beq_self_eq_true, Nat.succ_ne_zero, Option.some.injEq, Prod.mk.injEq, Int32.reduceLT, Int32.reduceLE, y_41, w'.2.2, c1]
end Walks
