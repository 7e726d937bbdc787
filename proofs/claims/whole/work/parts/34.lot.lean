/-! PURE: the class: exchange, lot -/
/-- the same, where what comes behind may say how far -/
theorem mit_ind2 {G : mK → mK} (Inv : Nat → List (Option Value) → mM → Prop) (Q : Option mR → Prop) (h0 : ∀ L μ, Inv 0 L μ → ∀ r : mK, Q (G r L [] μ)) (hs : ∀ d L μ, Inv (d + 1) L μ → ∀ r : mK, Q (G r L [] μ) ∨ ∃ L' μ', Inv d L' μ' ∧ G r L [] μ = r L' [] μ') : ∀ (d n : Nat) (L : List (Option Value)) (μ : mM), d < n → Inv d L μ → Q (mit G n L [] μ) := by
  intro d
  induction d with
  | zero =>
    intro n L μ hn hI
    rw [show n = (n - 1) + 1 by omega, mit_succ]
    exact h0 L μ hI _
  | succ d ih =>
    intro n L μ hn hI
    rw [show n = (n - 1) + 1 by omega, mit_succ]
    rcases hs d L μ hI (mit G (n - 1)) with h1 | ⟨L', μ', h1, h2⟩
    · exact h1
    · rw [h2]; exact ih (n - 1) L' μ' (by omega) h1
section Lot
variable {n : Nat} {I : Nat → Nat → Int32} {T : TA} {S : SA}
def exS (S : SA) (c o : Nat) : SA := setCl S (fun j => if j = c then scl S o else if j = o then scl S c else scl S j)
def exH (T : TA) (S : SA) (c : Nat) : Nat → Option Nat × Int32 → Option Nat × Int32
  | 0, q => q
  | o + 1, q => if (c < o ∧ inA T S c = true ∧ inA T S o = true) ∧ (exH T S c o q).2 < nI (freeN T (exS S c o)) then (some (8 * c + o), nI (freeN T (exS S c o))) else exH T S c o q
def exC (T : TA) (S : SA) : Nat → Option Nat × Int32
  | 0 => (none, nI (freeN T S))
  | c + 1 => exH T S c 8 (exC T S c)
theorem exH_low (T : TA) (S : SA) (c : Nat) (q : Option Nat × Int32) : ∀ k, k ≤ c + 1 → exH T S c k q = q := by
  intro k
  induction k with
  | zero => intro _; rfl
  | succ k ih =>
    intro hk
    rw [exH, if_neg (fun z => absurd z.1.1 (by omega))]
    exact ih (by omega)
set_option maxHeartbeats 8000000 in
theorem p_tryExchange (hn : 300 < n) (J : Nat → Nat → Int64) (f : Nat) (o : SO I 29 T S) (o2 : SO I 34 T S) {q : Option Nat × Int32} (hq : FQ I 8 q) {c d : Nat} (hcd : c < d) (hc : inA T S c = true) (hd : inA T S d = true) : ∃ I', FX11_tryExchange n [.ref 0, .int (nI c), .int (nI d)] (mm I J f) = some (none, mm I' J f) ∧ SO I' 34 T S ∧ FQ I' 8 (if q.2 < nI (freeN T (exS S c d)) then (some (8 * c + d), nI (freeN T (exS S c d))) else q) ∧ ∀ b j, b ≠ 35 → b ≠ 57 → I' b j = I b j := by
  obtain ⟨h8, hk, hc1, hc2, hc3⟩ := rd_cl o hc
  obtain ⟨h8', hk', hd1, hd2, hd3⟩ := rd_cl o hd
  simp only [Nat.reduceAdd] at hc1 hd1
  have hpc : ∀ z, scl S c = some z → z < tC T * tR T := (o.2.2.2.1.1 c hk).1
  have hpd : ∀ z, scl S d = some z → z < tC T * tR T := (o.2.2.2.1.1 d hk').1
  have O1 : SO (u2 (u2 I 35 c (oc (scl S d))) 35 d (oc (scl S c))) 34 T (exS S c d) := SO_congr (SO_cl hpc (SO_cl hpd o2)) (fun j _ => ⟨by
    show (if j = c then scl S d else if j = d then scl S c else scl S j) = (if j = d then scl S c else if j = c then scl S d else scl S j)
    by_cases e1 : j = c
    · have : ¬ j = d := by omega
      simp [e1, show ¬ c = d by omega]
    · simp [e1], rfl, rfl, rfl⟩) rfl rfl
  have hfree := p_whoIsFree (show 8 < n by omega) J f O1
  have e2 := p_atL n 57 2 2 (mm (u2 (u2 I 35 c (oc (scl S d))) 35 d (oc (scl S c))) J f) y_57 (by decide) (by decide) rfl
  have eq2 : u2 (u2 I 35 c (oc (scl S d))) 35 d (oc (scl S c)) 57 2 = q.2 := by rw [u2_a (by decide), u2_a (by decide)]; exact hq.2.2
  have back : ∀ I', SO I' 34 T (exS S c d) → SO (u2 (u2 I' 35 c (oc (scl S c))) 35 d (oc (scl S d))) 34 T S := fun I' hI' => SO_congr (SO_cl hpd (SO_cl hpc hI')) (fun j _ => ⟨by
    show scl S j = (if j = d then scl S d else if j = c then scl S c else if j = c then scl S d else if j = d then scl S c else scl S j)
    by_cases e1 : j = d
    · simp [e1]
    · by_cases e3 : j = c
      · simp [e1, e3, show ¬ c = d by omega]
      · simp [e1, e3], rfl, rfl, rfl⟩) rfl rfl
  have s1 := fun (I' : Nat → Nat → Int32) (v : Int32) => p_setN n 35 c v (mm I' J f) y_35 (by decide) h8
  have s2 := fun (I' : Nat → Nat → Int32) (v : Int32) => p_setN n 35 d v (mm I' J f) y_35 (by decide) h8'
  by_cases hcond : q.2 < nI (freeN T (exS S c d))
  · rw [if_pos hcond]
    refine ⟨u2 (u2 (fd3 (u2 (u2 I 35 c (oc (scl S d))) 35 d (oc (scl S c))) (nI c) (nI d) (nI (freeN T (exS S c d)))) 35 c (oc (scl S c))) 35 d (oc (scl S d)), ?_, back _ (SO_fr O1 (fun b j hb => fd3_o (by omega))), FQ_of (fun j => by rw [u2_a (by decide), u2_a (by decide)]) (FQ_new h8' _), fun b j h1 h2 => by rw [u2_a h1, u2_a h1, fd3_o h2, u2_a h1, u2_a h1]⟩
    simp only [eX11_tryExchange, kX11_tryExchange_0, kX11_tryExchange_50, kX11_tryExchange_83, i_cst, i_ldI, i_ldJ, i_ldA, i_stI, i_stJ, i_stA, i_inc, i_bin, i_dv, i_un, i_i2l, i_bnJ, i_lshl, i_lcmp, i_dup, i_dp2, i_gI, i_gJ, i_gA, i_pI, i_pZ, i_pJ, i_pA, i_al, i_as, i_alJ, i_asJ, i_len, i_c0, i_c2, i_sw, msel, i_cV, i_cS, i_rV, i_rI, i_rZ, i_rJ, i_mm, i_pop, i_no, mpl, mvr, mnw, List.getElem?_cons_zero, List.getElem?_cons_succ, List.set_cons_zero, List.set_cons_succ, List.length_cons, List.length_nil, List.drop_succ_cons, List.drop_zero, List.take_succ_cons, List.take_zero, List.reverse_cons, List.reverse_nil, List.nil_append, List.cons_append, List.append_nil, List.map_cons, List.map_nil, List.sum_cons, List.sum_nil, Option.toList_some, Option.toList_none, Option.bind_some, Value.category, decide_eq_true_eq, decide_true, decide_false, if_true, if_false, Bool.false_eq_true, and_self, and_true, true_and, true_or, or_true, not_true_eq_false, not_false_eq_true, ↓reduceIte, reduceCtorEq, Nat.reduceEqDiff, Nat.reduceAdd, Nat.reduceSub, Nat.reduceMul, Nat.reduceLT, Nat.reduceLeDiff, Nat.reduceBEq, Nat.le_refl, Nat.zero_le, Nat.lt_irrefl, beq_self_eq_true, Nat.succ_ne_zero, Option.some.injEq, Prod.mk.injEq, Int32.reduceLT, Int32.reduceLE, y_0, y_29, y_34, rt_0_5, rt_0_6, rt_0_13, rt_29_1, rt_34_1, p_atN n 30 c (mm I J f) y_30 (by decide) h8, p_atN n 30 d (mm I J f) y_30 (by decide) h8', hc1, hd1, s1, s2, uI_mm, hfree, p_bitCount, bc_free, e2, eq2, Int32.not_le.mpr hcond, p_find]
  · rw [if_neg hcond]
    refine ⟨u2 (u2 (u2 (u2 I 35 c (oc (scl S d))) 35 d (oc (scl S c))) 35 c (oc (scl S c))) 35 d (oc (scl S d)), ?_, back _ O1, FQ_of (fun j => by rw [u2_a (by decide), u2_a (by decide), u2_a (by decide), u2_a (by decide)]) hq, fun b j h1 h2 => by rw [u2_a h1, u2_a h1, u2_a h1, u2_a h1]⟩
    simp only [eX11_tryExchange, kX11_tryExchange_0, kX11_tryExchange_50, kX11_tryExchange_83, i_cst, i_ldI, i_ldJ, i_ldA, i_stI, i_stJ, i_stA, i_inc, i_bin, i_dv, i_un, i_i2l, i_bnJ, i_lshl, i_lcmp, i_dup, i_dp2, i_gI, i_gJ, i_gA, i_pI, i_pZ, i_pJ, i_pA, i_al, i_as, i_alJ, i_asJ, i_len, i_c0, i_c2, i_sw, msel, i_cV, i_cS, i_rV, i_rI, i_rZ, i_rJ, i_mm, i_pop, i_no, mpl, mvr, mnw, List.getElem?_cons_zero, List.getElem?_cons_succ, List.set_cons_zero, List.set_cons_succ, List.length_cons, List.length_nil, List.drop_succ_cons, List.drop_zero, List.take_succ_cons, List.take_zero, List.reverse_cons, List.reverse_nil, List.nil_append, List.cons_append, List.append_nil, List.map_cons, List.map_nil, List.sum_cons, List.sum_nil, Option.toList_some, Option.toList_none, Option.bind_some, Value.category, decide_eq_true_eq, decide_true, decide_false, if_true, if_false, Bool.false_eq_true, and_self, and_true, true_and, true_or, or_true, not_true_eq_false, not_false_eq_true, ↓reduceIte, reduceCtorEq, Nat.reduceEqDiff, Nat.reduceAdd, Nat.reduceSub, Nat.reduceMul, Nat.reduceLT, Nat.reduceLeDiff, Nat.reduceBEq, Nat.le_refl, Nat.zero_le, Nat.lt_irrefl, beq_self_eq_true, Nat.succ_ne_zero, Option.some.injEq, Prod.mk.injEq, Int32.reduceLT, Int32.reduceLE, y_0, y_29, y_34, rt_0_5, rt_0_6, rt_0_13, rt_29_1, rt_34_1, p_atN n 30 c (mm I J f) y_30 (by decide) h8, p_atN n 30 d (mm I J f) y_30 (by decide) h8', hc1, hd1, s1, s2, uI_mm, hfree, p_bitCount, bc_free, e2, eq2, Int32.not_lt.mp hcond]
def aExchange (T : TA) (S : SA) (w : Int32) : Int32 := if (0 ≤ w ∧ w < 3) ∧ ¬ (exC T S 8).1 = none then (if w = 0 then ffI ((exC T S 8).1.map (· / 8)) else if w = 1 then ffI ((exC T S 8).1.map (· % 8)) else (exC T S 8).2) else -1
theorem exC_lt (T : TA) (S : SA) : ∀ k v, k ≤ 8 → (exC T S k).1 = some v → v < 64 := by
  have h1 : ∀ c o q, c < 8 → o ≤ 8 → (∀ v, q.1 = some v → v < 64) → ∀ v, (exH T S c o q).1 = some v → v < 64 := by
    intro c o
    induction o with
    | zero => intro q _ _ hq v h; exact hq v h
    | succ o ih =>
      intro q hc ho hq v h
      unfold exH at h
      split at h
      · cases h; omega
      · exact ih q hc (by omega) hq v h
  intro k
  induction k with
  | zero => intro v _ h; cases h
  | succ k ih =>
    intro v hk h
    exact h1 k 8 _ (by omega) (Nat.le_refl _) (fun v h => ih v (by omega) h) v h
set_option maxHeartbeats 8000000 in
theorem c_exchange (hn : 300 < n) (J : Nat → Nat → Int64) (f : Nat) (o : SO I 29 T S) (w : Int32) : ∃ I', FX11_exchange n [.ref 0, .int w] (mm I J f) = some (some (.int (aExchange T S w)), mm I' J f) ∧ QF I I' := by
  have rf : QF I I := fun _ _ _ _ _ _ => rfl
  have lit3 : Int32.ofNat 3 = (3 : Int32) := rfl
  by_cases w0 : w < 0
  · refine ⟨I, ?_, rf⟩
    simp only [eX11_exchange, kX11_exchange_0, kX11_exchange_13, i_cst, i_ldI, i_ldJ, i_ldA, i_stI, i_stJ, i_stA, i_inc, i_bin, i_dv, i_un, i_i2l, i_bnJ, i_lshl, i_lcmp, i_dup, i_dp2, i_gI, i_gJ, i_gA, i_pI, i_pZ, i_pJ, i_pA, i_al, i_as, i_alJ, i_asJ, i_len, i_c0, i_c2, i_sw, msel, i_cV, i_cS, i_rV, i_rI, i_rZ, i_rJ, i_mm, i_pop, i_no, mpl, mvr, mnw, List.getElem?_cons_zero, List.getElem?_cons_succ, List.set_cons_zero, List.set_cons_succ, List.length_cons, List.length_nil, List.drop_succ_cons, List.drop_zero, List.take_succ_cons, List.take_zero, List.reverse_cons, List.reverse_nil, List.nil_append, List.cons_append, List.append_nil, List.map_cons, List.map_nil, List.sum_cons, List.sum_nil, Option.toList_some, Option.toList_none, Option.bind_some, Value.category, decide_eq_true_eq, decide_true, decide_false, if_true, if_false, Bool.false_eq_true, and_self, and_true, true_and, true_or, or_true, not_true_eq_false, not_false_eq_true, ↓reduceIte, reduceCtorEq, Nat.reduceEqDiff, Nat.reduceAdd, Nat.reduceSub, Nat.reduceMul, Nat.reduceLT, Nat.reduceLeDiff, Nat.reduceBEq, Nat.le_refl, Nat.zero_le, Nat.lt_irrefl, beq_self_eq_true, Nat.succ_ne_zero, Option.some.injEq, Prod.mk.injEq, Int32.reduceLT, Int32.reduceLE, w0, aExchange, nn0 w0, false_and]
  by_cases w1 : w < 3
  · have hw : 0 ≤ w ∧ w < 3 := ⟨Int32.not_lt.mp w0, w1⟩
    obtain ⟨I1, g1, g2, g3⟩ := p_copyFrom (show 8 < n by omega) J f o
    have o1 : SO I1 29 T S := SO_fr o (fun b j hb => g3 b j (by omega))
    have hfree := p_whoIsFree (show 8 < n by omega) J f o1
    obtain ⟨j3, hj3, rfl⟩ := nI_of w0
    have hj3' : j3 < 3 := by
      have := hw.2
      rw [show (3 : Int32) = nI 3 from rfl, nI_ltI hj3 (by decide)] at this; exact this
    simp only [eX11_exchange, kX11_exchange_0, kX11_exchange_13, i_cst, i_ldI, i_ldJ, i_ldA, i_stI, i_stJ, i_stA, i_inc, i_bin, i_dv, i_un, i_i2l, i_bnJ, i_lshl, i_lcmp, i_dup, i_dp2, i_gI, i_gJ, i_gA, i_pI, i_pZ, i_pJ, i_pA, i_al, i_as, i_alJ, i_asJ, i_len, i_c0, i_c2, i_sw, msel, i_cV, i_cS, i_rV, i_rI, i_rZ, i_rJ, i_mm, i_pop, i_no, mpl, mvr, mnw, List.getElem?_cons_zero, List.getElem?_cons_succ, List.set_cons_zero, List.set_cons_succ, List.length_cons, List.length_nil, List.drop_succ_cons, List.drop_zero, List.take_succ_cons, List.take_zero, List.reverse_cons, List.reverse_nil, List.nil_append, List.cons_append, List.append_nil, List.map_cons, List.map_nil, List.sum_cons, List.sum_nil, Option.toList_some, Option.toList_none, Option.bind_some, Value.category, decide_eq_true_eq, decide_true, decide_false, if_true, if_false, Bool.false_eq_true, and_self, and_true, true_and, true_or, or_true, not_true_eq_false, not_false_eq_true, ↓reduceIte, reduceCtorEq, Nat.reduceEqDiff, Nat.reduceAdd, Nat.reduceSub, Nat.reduceMul, Nat.reduceLT, Nat.reduceLeDiff, Nat.reduceBEq, Nat.le_refl, Nat.zero_le, Nat.lt_irrefl, beq_self_eq_true, Nat.succ_ne_zero, Option.some.injEq, Prod.mk.injEq, Int32.reduceLT, Int32.reduceLE, w0, y_0, y_29, y_34, rt_0_5, rt_0_6, rt_0_13, y_57, lit3, w1, g1, hfree, p_bitCount, bc_free, p_find]
    refine mit_ind2 (G := kX11_exchange_44 n) (fun d L μ => ∃ (c : Nat) (I' : Nat → Nat → Int32) (x3 : Option Value), c + d = 8 ∧ μ = mm I' J f ∧ SO I' 34 T S ∧ FQ I' 8 (exC T S c) ∧ QF I I' ∧ L = [some (.ref 0), some (.int (nI j3)), some (.int (nI c)), x3]) (fun v => ∃ I', v = some (some (.int (aExchange T S (nI j3))), mm I' J f) ∧ QF I I') ?_ ?_ 8 n _ _ (by omega) ⟨0, _, none, rfl, rfl, SO_fr g2 (fun b j hb => fd3_o (by omega)), ⟨fd3_0.1, fd3_0.2.1, fd3_0.2.2⟩, fun b j _ _ h3 h4 => by rw [fd3_o h4]; exact g3 b j h3, rfl⟩
    · rintro L μ ⟨c, I', x3, hc, rfl, hO, hQ, hI, rfl⟩ r
      have : c = 8 := by omega
      subst this
      have e0 := p_atL n 57 0 0 (mm I' J f) y_57 (by decide) (by decide) rfl
      have eN : ffI ((exC T S 8).1.map (· / 8)) = -1 ↔ (exC T S 8).1 = none := by
        have := ffI_n1 (x := (exC T S 8).1.map (· / 8)) (k := 64) (fun v hv => by
          obtain ⟨u, hu, rfl⟩ := Option.map_eq_some_iff.mp hv
          have := exC_lt T S 8 u (Nat.le_refl _) hu
          omega) (by decide)
        rw [this, Option.map_eq_none_iff]
      refine ⟨I', ?_, hI⟩
      by_cases hno : (exC T S 8).1 = none
      · have hv : aExchange T S (nI j3) = -1 := by unfold aExchange; rw [if_neg (fun z => z.2 hno)]
        have e57 : I' 57 0 = -1 := hQ.1.trans (eN.mpr hno)
        simp only [kX11_exchange_44, kX11_exchange_124, i_cst, i_ldI, i_ldJ, i_ldA, i_stI, i_stJ, i_stA, i_inc, i_bin, i_dv, i_un, i_i2l, i_bnJ, i_lshl, i_lcmp, i_dup, i_dp2, i_gI, i_gJ, i_gA, i_pI, i_pZ, i_pJ, i_pA, i_al, i_as, i_alJ, i_asJ, i_len, i_c0, i_c2, i_sw, msel, i_cV, i_cS, i_rV, i_rI, i_rZ, i_rJ, i_mm, i_pop, i_no, mpl, mvr, mnw, List.getElem?_cons_zero, List.getElem?_cons_succ, List.set_cons_zero, List.set_cons_succ, List.length_cons, List.length_nil, List.drop_succ_cons, List.drop_zero, List.take_succ_cons, List.take_zero, List.reverse_cons, List.reverse_nil, List.nil_append, List.cons_append, List.append_nil, List.map_cons, List.map_nil, List.sum_cons, List.sum_nil, Option.toList_some, Option.toList_none, Option.bind_some, Value.category, decide_eq_true_eq, decide_true, decide_false, if_true, if_false, Bool.false_eq_true, and_self, and_true, true_and, true_or, or_true, not_true_eq_false, not_false_eq_true, ↓reduceIte, reduceCtorEq, Nat.reduceEqDiff, Nat.reduceAdd, Nat.reduceSub, Nat.reduceMul, Nat.reduceLT, Nat.reduceLeDiff, Nat.reduceBEq, Nat.le_refl, Nat.zero_le, Nat.lt_irrefl, beq_self_eq_true, Nat.succ_ne_zero, Option.some.injEq, Prod.mk.injEq, Int32.reduceLT, Int32.reduceLE, le88, y_0, rt_0_13, e0, e57, hv]
      · have : I' 57 j3 = aExchange T S (nI j3) := by
          unfold aExchange
          rw [if_pos ⟨hw, hno⟩]
          rcases (show j3 = 0 ∨ j3 = 1 ∨ j3 = 2 by omega) with rfl | rfl | rfl
          · rw [if_pos (by decide)]; exact hQ.1
          · rw [if_neg (by decide), if_pos (by decide)]; exact hQ.2.1
          · rw [if_neg (by decide), if_neg (by decide)]; exact hQ.2.2
        have e57 : ¬ I' 57 0 = -1 := fun z => hno (eN.mp (hQ.1.symm.trans z))
        simp only [kX11_exchange_44, kX11_exchange_124, i_cst, i_ldI, i_ldJ, i_ldA, i_stI, i_stJ, i_stA, i_inc, i_bin, i_dv, i_un, i_i2l, i_bnJ, i_lshl, i_lcmp, i_dup, i_dp2, i_gI, i_gJ, i_gA, i_pI, i_pZ, i_pJ, i_pA, i_al, i_as, i_alJ, i_asJ, i_len, i_c0, i_c2, i_sw, msel, i_cV, i_cS, i_rV, i_rI, i_rZ, i_rJ, i_mm, i_pop, i_no, mpl, mvr, mnw, List.getElem?_cons_zero, List.getElem?_cons_succ, List.set_cons_zero, List.set_cons_succ, List.length_cons, List.length_nil, List.drop_succ_cons, List.drop_zero, List.take_succ_cons, List.take_zero, List.reverse_cons, List.reverse_nil, List.nil_append, List.cons_append, List.append_nil, List.map_cons, List.map_nil, List.sum_cons, List.sum_nil, Option.toList_some, Option.toList_none, Option.bind_some, Value.category, decide_eq_true_eq, decide_true, decide_false, if_true, if_false, Bool.false_eq_true, and_self, and_true, true_and, true_or, or_true, not_true_eq_false, not_false_eq_true, ↓reduceIte, reduceCtorEq, Nat.reduceEqDiff, Nat.reduceAdd, Nat.reduceSub, Nat.reduceMul, Nat.reduceLT, Nat.reduceLeDiff, Nat.reduceBEq, Nat.le_refl, Nat.zero_le, Nat.lt_irrefl, beq_self_eq_true, Nat.succ_ne_zero, Option.some.injEq, Prod.mk.injEq, Int32.reduceLT, Int32.reduceLE, le88, y_0, rt_0_13, e0, e57, p_atN n 57 j3 (mm I' J f) y_57 (by decide) hj3', this]
    · rintro d L μ ⟨c, I', x3, hc, rfl, hO, hQ, hI, rfl⟩ r
      refine Or.inr ?_
      have hc8 : c < 8 := by omega
      -- the inner loop
      have inner : ∀ r : mK, ∃ I2, SO I2 34 T S ∧ FQ I2 8 (exC T S (c + 1)) ∧ QF I I2 ∧ mit (kX11_exchange_54 n r) n [some (.ref 0), some (.int (nI j3)), some (.int (nI c)), some (.int (nI (c + 1)))] [] (mm I' J f) = r [some (.ref 0), some (.int (nI j3)), some (.int (nI (c + 1))), some (.int (nI 8))] [] (mm I2 J f) := by
        intro r
        refine mit_ind (G := kX11_exchange_54 n r) (fun d L μ => ∃ (e : Nat) (I' : Nat → Nat → Int32), c < e ∧ e + d = 8 ∧ μ = mm I' J f ∧ SO I' 34 T S ∧ FQ I' 8 (exH T S c e (exC T S c)) ∧ QF I I' ∧ L = [some (.ref 0), some (.int (nI j3)), some (.int (nI c)), some (.int (nI e))]) (fun v => ∃ I2, SO I2 34 T S ∧ FQ I2 8 (exC T S (c + 1)) ∧ QF I I2 ∧ v = r [some (.ref 0), some (.int (nI j3)), some (.int (nI (c + 1))), some (.int (nI 8))] [] (mm I2 J f)) ?_ ?_ (8 - (c + 1)) n _ _ (by omega) ⟨c + 1, I', by omega, by omega, rfl, hO, by rw [exH_low T S c _ (c + 1) (Nat.le_refl _)]; exact hQ, hI, rfl⟩
        · rintro L μ ⟨e, I3, he, he2, rfl, hO3, hQ3, hI3, rfl⟩
          have : e = 8 := by omega
          subst this
          refine ⟨_, fun r' => ?_, I3, hO3, hQ3, hI3, rfl⟩
          simp only [kX11_exchange_54, i_cst, i_ldI, i_ldJ, i_ldA, i_stI, i_stJ, i_stA, i_inc, i_bin, i_dv, i_un, i_i2l, i_bnJ, i_lshl, i_lcmp, i_dup, i_dp2, i_gI, i_gJ, i_gA, i_pI, i_pZ, i_pJ, i_pA, i_al, i_as, i_alJ, i_asJ, i_len, i_c0, i_c2, i_sw, msel, i_cV, i_cS, i_rV, i_rI, i_rZ, i_rJ, i_mm, i_pop, i_no, mpl, mvr, mnw, List.getElem?_cons_zero, List.getElem?_cons_succ, List.set_cons_zero, List.set_cons_succ, List.length_cons, List.length_nil, List.drop_succ_cons, List.drop_zero, List.take_succ_cons, List.take_zero, List.reverse_cons, List.reverse_nil, List.nil_append, List.cons_append, List.append_nil, List.map_cons, List.map_nil, List.sum_cons, List.sum_nil, Option.toList_some, Option.toList_none, Option.bind_some, Value.category, decide_eq_true_eq, decide_true, decide_false, if_true, if_false, Bool.false_eq_true, and_self, and_true, true_and, true_or, or_true, not_true_eq_false, not_false_eq_true, ↓reduceIte, reduceCtorEq, Nat.reduceEqDiff, Nat.reduceAdd, Nat.reduceSub, Nat.reduceMul, Nat.reduceLT, Nat.reduceLeDiff, Nat.reduceBEq, Nat.le_refl, Nat.zero_le, Nat.lt_irrefl, beq_self_eq_true, Nat.succ_ne_zero, Option.some.injEq, Prod.mk.injEq, Int32.reduceLT, Int32.reduceLE, le88, nI_1]
        · rintro d L μ ⟨e, I3, he, he2, rfl, hO3, hQ3, hI3, rfl⟩
          refine Or.inr ?_
          have he8 : e < 8 := by omega
          have o' : SO I3 29 T S := SO_fr o (fun b j hb => hI3 b j (by omega) (by omega) (by omega) (by omega))
          by_cases h1 : inA T S c = true
          · by_cases h2 : inA T S e = true
            · obtain ⟨I4, q1, q2, q3, q4⟩ := p_tryExchange hn J f o' hO3 hQ3 he h1 h2
              have ev : exH T S c (e + 1) (exC T S c) = if (exH T S c e (exC T S c)).2 < nI (freeN T (exS S c e)) then (some (8 * c + e), nI (freeN T (exS S c e))) else exH T S c e (exC T S c) := by
                rw [exH]
                by_cases hz : (exH T S c e (exC T S c)).2 < nI (freeN T (exS S c e))
                · rw [if_pos ⟨⟨he, h1, h2⟩, hz⟩, if_pos hz]
                · rw [if_neg (fun z => hz z.2), if_neg hz]
              refine ⟨_, _, ⟨e + 1, I4, by omega, by omega, rfl, q2, by rw [ev]; exact q3, fun b j a1 a2 a3 a4 => by rw [q4 b j (by omega) a4]; exact hI3 b j a1 a2 a3 a4, rfl⟩, fun r' => ?_⟩
              simp only [kX11_exchange_54, kX11_exchange_88, i_cst, i_ldI, i_ldJ, i_ldA, i_stI, i_stJ, i_stA, i_inc, i_bin, i_dv, i_un, i_i2l, i_bnJ, i_lshl, i_lcmp, i_dup, i_dp2, i_gI, i_gJ, i_gA, i_pI, i_pZ, i_pJ, i_pA, i_al, i_as, i_alJ, i_asJ, i_len, i_c0, i_c2, i_sw, msel, i_cV, i_cS, i_rV, i_rI, i_rZ, i_rJ, i_mm, i_pop, i_no, mpl, mvr, mnw, List.getElem?_cons_zero, List.getElem?_cons_succ, List.set_cons_zero, List.set_cons_succ, List.length_cons, List.length_nil, List.drop_succ_cons, List.drop_zero, List.take_succ_cons, List.take_zero, List.reverse_cons, List.reverse_nil, List.nil_append, List.cons_append, List.append_nil, List.map_cons, List.map_nil, List.sum_cons, List.sum_nil, Option.toList_some, Option.toList_none, Option.bind_some, Value.category, decide_eq_true_eq, decide_true, decide_false, if_true, if_false, Bool.false_eq_true, and_self, and_true, true_and, true_or, or_true, not_true_eq_false, not_false_eq_true, ↓reduceIte, reduceCtorEq, Nat.reduceEqDiff, Nat.reduceAdd, Nat.reduceSub, Nat.reduceMul, Nat.reduceLT, Nat.reduceLeDiff, Nat.reduceBEq, Nat.le_refl, Nat.zero_le, Nat.lt_irrefl, beq_self_eq_true, Nat.succ_ne_zero, Option.some.injEq, Prod.mk.injEq, Int32.reduceLT, Int32.reduceLE, nle8 he8, y_0, y_29, rt_0_5, p_isInA n J f o' (show c < 2 ^ 31 by omega), p_isInA n J f o' (show e < 2 ^ 31 by omega), b2i_eq0, h1, h2, q1, nI_1]
            · have ev : exH T S c (e + 1) (exC T S c) = exH T S c e (exC T S c) := by rw [exH, if_neg (fun z => h2 z.1.2.2)]
              refine ⟨_, _, ⟨e + 1, I3, by omega, by omega, rfl, hO3, by rw [ev]; exact hQ3, hI3, rfl⟩, fun r' => ?_⟩
              simp only [kX11_exchange_54, kX11_exchange_88, i_cst, i_ldI, i_ldJ, i_ldA, i_stI, i_stJ, i_stA, i_inc, i_bin, i_dv, i_un, i_i2l, i_bnJ, i_lshl, i_lcmp, i_dup, i_dp2, i_gI, i_gJ, i_gA, i_pI, i_pZ, i_pJ, i_pA, i_al, i_as, i_alJ, i_asJ, i_len, i_c0, i_c2, i_sw, msel, i_cV, i_cS, i_rV, i_rI, i_rZ, i_rJ, i_mm, i_pop, i_no, mpl, mvr, mnw, List.getElem?_cons_zero, List.getElem?_cons_succ, List.set_cons_zero, List.set_cons_succ, List.length_cons, List.length_nil, List.drop_succ_cons, List.drop_zero, List.take_succ_cons, List.take_zero, List.reverse_cons, List.reverse_nil, List.nil_append, List.cons_append, List.append_nil, List.map_cons, List.map_nil, List.sum_cons, List.sum_nil, Option.toList_some, Option.toList_none, Option.bind_some, Value.category, decide_eq_true_eq, decide_true, decide_false, if_true, if_false, Bool.false_eq_true, and_self, and_true, true_and, true_or, or_true, not_true_eq_false, not_false_eq_true, ↓reduceIte, reduceCtorEq, Nat.reduceEqDiff, Nat.reduceAdd, Nat.reduceSub, Nat.reduceMul, Nat.reduceLT, Nat.reduceLeDiff, Nat.reduceBEq, Nat.le_refl, Nat.zero_le, Nat.lt_irrefl, beq_self_eq_true, Nat.succ_ne_zero, Option.some.injEq, Prod.mk.injEq, Int32.reduceLT, Int32.reduceLE, nle8 he8, y_0, y_29, rt_0_5, p_isInA n J f o' (show c < 2 ^ 31 by omega), p_isInA n J f o' (show e < 2 ^ 31 by omega), b2i_eq0, h1, h2, nI_1]
          · have ev : exH T S c (e + 1) (exC T S c) = exH T S c e (exC T S c) := by rw [exH, if_neg (fun z => h1 z.1.2.1)]
            refine ⟨_, _, ⟨e + 1, I3, by omega, by omega, rfl, hO3, by rw [ev]; exact hQ3, hI3, rfl⟩, fun r' => ?_⟩
            simp only [kX11_exchange_54, kX11_exchange_88, i_cst, i_ldI, i_ldJ, i_ldA, i_stI, i_stJ, i_stA, i_inc, i_bin, i_dv, i_un, i_i2l, i_bnJ, i_lshl, i_lcmp, i_dup, i_dp2, i_gI, i_gJ, i_gA, i_pI, i_pZ, i_pJ, i_pA, i_al, i_as, i_alJ, i_asJ, i_len, i_c0, i_c2, i_sw, msel, i_cV, i_cS, i_rV, i_rI, i_rZ, i_rJ, i_mm, i_pop, i_no, mpl, mvr, mnw, List.getElem?_cons_zero, List.getElem?_cons_succ, List.set_cons_zero, List.set_cons_succ, List.length_cons, List.length_nil, List.drop_succ_cons, List.drop_zero, List.take_succ_cons, List.take_zero, List.reverse_cons, List.reverse_nil, List.nil_append, List.cons_append, List.append_nil, List.map_cons, List.map_nil, List.sum_cons, List.sum_nil, Option.toList_some, Option.toList_none, Option.bind_some, Value.category, decide_eq_true_eq, decide_true, decide_false, if_true, if_false, Bool.false_eq_true, and_self, and_true, true_and, true_or, or_true, not_true_eq_false, not_false_eq_true, ↓reduceIte, reduceCtorEq, Nat.reduceEqDiff, Nat.reduceAdd, Nat.reduceSub, Nat.reduceMul, Nat.reduceLT, Nat.reduceLeDiff, Nat.reduceBEq, Nat.le_refl, Nat.zero_le, Nat.lt_irrefl, beq_self_eq_true, Nat.succ_ne_zero, Option.some.injEq, Prod.mk.injEq, Int32.reduceLT, Int32.reduceLE, nle8 he8, y_0, y_29, rt_0_5, p_isInA n J f o' (show c < 2 ^ 31 by omega), b2i_eq0, h1, nI_1]
      obtain ⟨I2, q1, q2, q3, q4⟩ := inner r
      refine ⟨_, _, ⟨c + 1, I2, some (.int (nI 8)), by omega, rfl, q1, q2, q3, rfl⟩, ?_⟩
      rw [← q4]
      simp only [kX11_exchange_44, i_cst, i_ldI, i_ldJ, i_ldA, i_stI, i_stJ, i_stA, i_inc, i_bin, i_dv, i_un, i_i2l, i_bnJ, i_lshl, i_lcmp, i_dup, i_dp2, i_gI, i_gJ, i_gA, i_pI, i_pZ, i_pJ, i_pA, i_al, i_as, i_alJ, i_asJ, i_len, i_c0, i_c2, i_sw, msel, i_cV, i_cS, i_rV, i_rI, i_rZ, i_rJ, i_mm, i_pop, i_no, mpl, mvr, mnw, List.getElem?_cons_zero, List.getElem?_cons_succ, List.set_cons_zero, List.set_cons_succ, List.length_cons, List.length_nil, List.drop_succ_cons, List.drop_zero, List.take_succ_cons, List.take_zero, List.reverse_cons, List.reverse_nil, List.nil_append, List.cons_append, List.append_nil, List.map_cons, List.map_nil, List.sum_cons, List.sum_nil, Option.toList_some, Option.toList_none, Option.bind_some, Value.category, decide_eq_true_eq, decide_true, decide_false, if_true, if_false, Bool.false_eq_true, and_self, and_true, true_and, true_or, or_true, not_true_eq_false, not_false_eq_true, ↓reduceIte, reduceCtorEq, Nat.reduceEqDiff, Nat.reduceAdd, Nat.reduceSub, Nat.reduceMul, Nat.reduceLT, Nat.reduceLeDiff, Nat.reduceBEq, Nat.le_refl, Nat.zero_le, Nat.lt_irrefl, beq_self_eq_true, Nat.succ_ne_zero, Option.some.injEq, Prod.mk.injEq, Int32.reduceLT, Int32.reduceLE, nle8 hc8, nI_1]
  · refine ⟨I, ?_, rf⟩
    simp only [eX11_exchange, kX11_exchange_0, kX11_exchange_13, i_cst, i_ldI, i_ldJ, i_ldA, i_stI, i_stJ, i_stA, i_inc, i_bin, i_dv, i_un, i_i2l, i_bnJ, i_lshl, i_lcmp, i_dup, i_dp2, i_gI, i_gJ, i_gA, i_pI, i_pZ, i_pJ, i_pA, i_al, i_as, i_alJ, i_asJ, i_len, i_c0, i_c2, i_sw, msel, i_cV, i_cS, i_rV, i_rI, i_rZ, i_rJ, i_mm, i_pop, i_no, mpl, mvr, mnw, List.getElem?_cons_zero, List.getElem?_cons_succ, List.set_cons_zero, List.set_cons_succ, List.length_cons, List.length_nil, List.drop_succ_cons, List.drop_zero, List.take_succ_cons, List.take_zero, List.reverse_cons, List.reverse_nil, List.nil_append, List.cons_append, List.append_nil, List.map_cons, List.map_nil, List.sum_cons, List.sum_nil, Option.toList_some, Option.toList_none, Option.bind_some, Value.category, decide_eq_true_eq, decide_true, decide_false, if_true, if_false, Bool.false_eq_true, and_self, and_true, true_and, true_or, or_true, not_true_eq_false, not_false_eq_true, ↓reduceIte, reduceCtorEq, Nat.reduceEqDiff, Nat.reduceAdd, Nat.reduceSub, Nat.reduceMul, Nat.reduceLT, Nat.reduceLeDiff, Nat.reduceBEq, Nat.le_refl, Nat.zero_le, Nat.lt_irrefl, beq_self_eq_true, Nat.succ_ne_zero, Option.some.injEq, Prod.mk.injEq, Int32.reduceLT, Int32.reduceLE, w0, y_0, rt_0_13, y_57, lit3, w1, aExchange, and_false, false_and]
/-- the best cell below k for one who is off, and how many are free then -/
def lotC (T : TA) (S : SA) (c : Nat) : Nat → Option Nat × Int32
  | 0 => (none, -1)
  | p + 1 => if (p < tC T * tR T ∧ whoAtA T S (nI p) = -1) ∧ (lotC T S c p).2 < nI (freeN T (setCl S (fun j => if j = c then some p else scl S j))) then (some p, nI (freeN T (setCl S (fun j => if j = c then some p else scl S j)))) else lotC T S c p
def aLot (T : TA) (S : SA) (c : Int32) : Int32 := if (hasI T c && !inI T S c) = true then ffI (lotC T S c.toNatClampNeg 64).1 else -1
set_option maxHeartbeats 8000000 in
theorem c_lot (hn : 300 < n) (J : Nat → Nat → Int64) (f : Nat) (o : SO I 29 T S) (c : Int32) : ∃ I', FX11_lot n [.ref 0, .int c] (mm I J f) = some (some (.int (aLot T S c)), mm I' J f) ∧ TF I I' := by
  have hoff := p_isOff n J f o c
  by_cases h : (hasI T c && !inI T S c) = true
  · obtain ⟨k, hk, rfl⟩ : ∃ k, k < tk T ∧ c = nI k := by
      simp only [Bool.and_eq_true] at h
      rcases cI c with h0 | ⟨j, hj, rfl⟩
      · rw [hasI_neg h0] at h; cases h.1
      · rw [hasI_nI hj] at h
        exact ⟨j, by simpa using h.1, rfl⟩
    have h8 : k < 8 := by have := o.2.1.1; omega
    obtain ⟨I1, g1, g2, g3⟩ := p_copyFrom (show 8 < n by omega) J f o
    simp only [eX11_lot, kX11_lot_0, i_cst, i_ldI, i_ldJ, i_ldA, i_stI, i_stJ, i_stA, i_inc, i_bin, i_dv, i_un, i_i2l, i_bnJ, i_lshl, i_lcmp, i_dup, i_dp2, i_gI, i_gJ, i_gA, i_pI, i_pZ, i_pJ, i_pA, i_al, i_as, i_alJ, i_asJ, i_len, i_c0, i_c2, i_sw, msel, i_cV, i_cS, i_rV, i_rI, i_rZ, i_rJ, i_mm, i_pop, i_no, mpl, mvr, mnw, List.getElem?_cons_zero, List.getElem?_cons_succ, List.set_cons_zero, List.set_cons_succ, List.length_cons, List.length_nil, List.drop_succ_cons, List.drop_zero, List.take_succ_cons, List.take_zero, List.reverse_cons, List.reverse_nil, List.nil_append, List.cons_append, List.append_nil, List.map_cons, List.map_nil, List.sum_cons, List.sum_nil, Option.toList_some, Option.toList_none, Option.bind_some, Value.category, decide_eq_true_eq, decide_true, decide_false, if_true, if_false, Bool.false_eq_true, and_self, and_true, true_and, true_or, or_true, not_true_eq_false, not_false_eq_true, ↓reduceIte, reduceCtorEq, Nat.reduceEqDiff, Nat.reduceAdd, Nat.reduceSub, Nat.reduceMul, Nat.reduceLT, Nat.reduceLeDiff, Nat.reduceBEq, Nat.le_refl, Nat.zero_le, Nat.lt_irrefl, beq_self_eq_true, Nat.succ_ne_zero, Option.some.injEq, Prod.mk.injEq, Int32.reduceLT, Int32.reduceLE, y_0, y_34, rt_0_5, rt_0_6, hoff, b2i_eq0, h, g1]
    refine mit_ind (G := kX11_lot_28 n) (fun d L μ => ∃ (p : Nat) (x : Option Nat) (I' : Nat → Nat → Int32) (x5 : Option Value), p + d = 64 ∧ (∀ z, x = some z → z < tC T * tR T) ∧ μ = mm I' J f ∧ SO I' 34 T (setCl S (fun j => if j = k then x else scl S j)) ∧ TF I I' ∧ L = [some (.ref 0), some (.int (nI k)), some (.int (ffI (lotC T S k p).1)), some (.int (lotC T S k p).2), some (.int (nI p)), x5]) (fun v => ∃ I', v = some (some (.int (aLot T S (nI k))), mm I' J f) ∧ TF I I') ?_ ?_ 64 n _ _ (by omega) ⟨0, scl S k, I1, none, rfl, (o.2.2.2.1.1 k hk).1, rfl, SO_congr g2 (fun j _ => ⟨by
        show (if j = k then scl S k else scl S j) = scl S j
        split <;> simp_all, rfl, rfl, rfl⟩) rfl rfl, fun b j _ _ h => g3 b j h, rfl⟩
    · rintro L μ ⟨p, x, I', x5, hp, hx, rfl, hO, hI, rfl⟩
      have : p = 64 := by omega
      subst this
      refine ⟨_, fun r => ?_, I', rfl, hI⟩
      have hv : aLot T S (nI k) = ffI (lotC T S k 64).1 := by unfold aLot; rw [if_pos h, nI_clamp (by omega)]
      simp only [kX11_lot_28, i_cst, i_ldI, i_ldJ, i_ldA, i_stI, i_stJ, i_stA, i_inc, i_bin, i_dv, i_un, i_i2l, i_bnJ, i_lshl, i_lcmp, i_dup, i_dp2, i_gI, i_gJ, i_gA, i_pI, i_pZ, i_pJ, i_pA, i_al, i_as, i_alJ, i_asJ, i_len, i_c0, i_c2, i_sw, msel, i_cV, i_cS, i_rV, i_rI, i_rZ, i_rJ, i_mm, i_pop, i_no, mpl, mvr, mnw, List.getElem?_cons_zero, List.getElem?_cons_succ, List.set_cons_zero, List.set_cons_succ, List.length_cons, List.length_nil, List.drop_succ_cons, List.drop_zero, List.take_succ_cons, List.take_zero, List.reverse_cons, List.reverse_nil, List.nil_append, List.cons_append, List.append_nil, List.map_cons, List.map_nil, List.sum_cons, List.sum_nil, Option.toList_some, Option.toList_none, Option.bind_some, Value.category, decide_eq_true_eq, decide_true, decide_false, if_true, if_false, Bool.false_eq_true, and_self, and_true, true_and, true_or, or_true, not_true_eq_false, not_false_eq_true, ↓reduceIte, reduceCtorEq, Nat.reduceEqDiff, Nat.reduceAdd, Nat.reduceSub, Nat.reduceMul, Nat.reduceLT, Nat.reduceLeDiff, Nat.reduceBEq, Nat.le_refl, Nat.zero_le, Nat.lt_irrefl, beq_self_eq_true, Nat.succ_ne_zero, Option.some.injEq, Prod.mk.injEq, Int32.reduceLT, Int32.reduceLE, show (64 : Int32) ≤ nI 64 by decide, hv]
    · rintro d L μ ⟨p, x, I', x5, hp, hx, rfl, hO, hI, rfl⟩
      refine Or.inr ?_
      have c1 : ¬ (64 : Int32) ≤ nI p := lit_nle (k := 64) rfl (by decide) (by omega)
      have o' := SO_TF o hI
      have hcell := p_hasCellI n J f o'.2.1 o'.2.2.1 (nI p)
      rw [cellI_nI (by omega)] at hcell
      have hwho := p_whoIsAt (show 8 < n by omega) J f o' (nI p)
      by_cases h1 : p < tC T * tR T
      · by_cases h2 : whoAtA T S (nI p) = -1
        · have hO1 : SO (u2 I' 35 k (nI p)) 34 T (setCl S (fun j => if j = k then some p else scl S j)) := SO_congr (SO_cl (c := k) (p := some p) (fun z hz => by cases hz; exact h1) hO) (fun j _ => ⟨by
            show (if j = k then some p else scl S j) = (if j = k then some p else if j = k then x else scl S j)
            split <;> simp_all, rfl, rfl, rfl⟩) rfl rfl
          have hfree := p_whoIsFree (show 8 < n by omega) J f hO1
          by_cases h3 : (lotC T S k p).2 < nI (freeN T (setCl S (fun j => if j = k then some p else scl S j)))
          · have ev : lotC T S k (p + 1) = (some p, nI (freeN T (setCl S (fun j => if j = k then some p else scl S j)))) := by rw [lotC, if_pos ⟨⟨h1, h2⟩, h3⟩]
            refine ⟨_, _, ⟨p + 1, some p, u2 I' 35 k (nI p), some (.int (nI (freeN T (setCl S (fun j => if j = k then some p else scl S j))))), by omega, fun z hz => by cases hz; exact h1, rfl, hO1, fun b j a1 a2 a3 => by rw [u2_a (by omega)]; exact hI b j a1 a2 a3, rfl⟩, fun r => ?_⟩
            simp only [kX11_lot_28, kX11_lot_83, kX11_lot_97, i_cst, i_ldI, i_ldJ, i_ldA, i_stI, i_stJ, i_stA, i_inc, i_bin, i_dv, i_un, i_i2l, i_bnJ, i_lshl, i_lcmp, i_dup, i_dp2, i_gI, i_gJ, i_gA, i_pI, i_pZ, i_pJ, i_pA, i_al, i_as, i_alJ, i_asJ, i_len, i_c0, i_c2, i_sw, msel, i_cV, i_cS, i_rV, i_rI, i_rZ, i_rJ, i_mm, i_pop, i_no, mpl, mvr, mnw, List.getElem?_cons_zero, List.getElem?_cons_succ, List.set_cons_zero, List.set_cons_succ, List.length_cons, List.length_nil, List.drop_succ_cons, List.drop_zero, List.take_succ_cons, List.take_zero, List.reverse_cons, List.reverse_nil, List.nil_append, List.cons_append, List.append_nil, List.map_cons, List.map_nil, List.sum_cons, List.sum_nil, Option.toList_some, Option.toList_none, Option.bind_some, Value.category, decide_eq_true_eq, decide_true, decide_false, if_true, if_false, Bool.false_eq_true, and_self, and_true, true_and, true_or, or_true, not_true_eq_false, not_false_eq_true, ↓reduceIte, reduceCtorEq, Nat.reduceEqDiff, Nat.reduceAdd, Nat.reduceSub, Nat.reduceMul, Nat.reduceLT, Nat.reduceLeDiff, Nat.reduceBEq, Nat.le_refl, Nat.zero_le, Nat.lt_irrefl, beq_self_eq_true, Nat.succ_ne_zero, Option.some.injEq, Prod.mk.injEq, Int32.reduceLT, Int32.reduceLE, c1, y_0, y_2, y_29, y_34, rt_0_2, rt_0_5, rt_0_6, rt_34_1, hcell, b2i_eq0, h1, hwho, h2, p_setN n 35 k _ (mm I' J f) y_35 (by decide) h8, uI_mm, hfree, p_bitCount, bc_free, Int32.not_le.mpr h3, nI_1, ev, ffI_s]
          · have ev : lotC T S k (p + 1) = lotC T S k p := by rw [lotC, if_neg (fun z => h3 z.2)]
            refine ⟨_, _, ⟨p + 1, some p, u2 I' 35 k (nI p), some (.int (nI (freeN T (setCl S (fun j => if j = k then some p else scl S j))))), by omega, fun z hz => by cases hz; exact h1, rfl, hO1, fun b j a1 a2 a3 => by rw [u2_a (by omega)]; exact hI b j a1 a2 a3, rfl⟩, fun r => ?_⟩
            simp only [kX11_lot_28, kX11_lot_83, kX11_lot_97, i_cst, i_ldI, i_ldJ, i_ldA, i_stI, i_stJ, i_stA, i_inc, i_bin, i_dv, i_un, i_i2l, i_bnJ, i_lshl, i_lcmp, i_dup, i_dp2, i_gI, i_gJ, i_gA, i_pI, i_pZ, i_pJ, i_pA, i_al, i_as, i_alJ, i_asJ, i_len, i_c0, i_c2, i_sw, msel, i_cV, i_cS, i_rV, i_rI, i_rZ, i_rJ, i_mm, i_pop, i_no, mpl, mvr, mnw, List.getElem?_cons_zero, List.getElem?_cons_succ, List.set_cons_zero, List.set_cons_succ, List.length_cons, List.length_nil, List.drop_succ_cons, List.drop_zero, List.take_succ_cons, List.take_zero, List.reverse_cons, List.reverse_nil, List.nil_append, List.cons_append, List.append_nil, List.map_cons, List.map_nil, List.sum_cons, List.sum_nil, Option.toList_some, Option.toList_none, Option.bind_some, Value.category, decide_eq_true_eq, decide_true, decide_false, if_true, if_false, Bool.false_eq_true, and_self, and_true, true_and, true_or, or_true, not_true_eq_false, not_false_eq_true, ↓reduceIte, reduceCtorEq, Nat.reduceEqDiff, Nat.reduceAdd, Nat.reduceSub, Nat.reduceMul, Nat.reduceLT, Nat.reduceLeDiff, Nat.reduceBEq, Nat.le_refl, Nat.zero_le, Nat.lt_irrefl, beq_self_eq_true, Nat.succ_ne_zero, Option.some.injEq, Prod.mk.injEq, Int32.reduceLT, Int32.reduceLE, c1, y_0, y_2, y_29, y_34, rt_0_2, rt_0_5, rt_0_6, rt_34_1, hcell, b2i_eq0, h1, hwho, h2, p_setN n 35 k _ (mm I' J f) y_35 (by decide) h8, uI_mm, hfree, p_bitCount, bc_free, Int32.not_lt.mp h3, nI_1, ev]
        · have ev : lotC T S k (p + 1) = lotC T S k p := by rw [lotC, if_neg (fun z => h2 z.1.2)]
          refine ⟨_, _, ⟨p + 1, x, I', x5, by omega, hx, rfl, hO, hI, rfl⟩, fun r => ?_⟩
          simp only [kX11_lot_28, kX11_lot_97, i_cst, i_ldI, i_ldJ, i_ldA, i_stI, i_stJ, i_stA, i_inc, i_bin, i_dv, i_un, i_i2l, i_bnJ, i_lshl, i_lcmp, i_dup, i_dp2, i_gI, i_gJ, i_gA, i_pI, i_pZ, i_pJ, i_pA, i_al, i_as, i_alJ, i_asJ, i_len, i_c0, i_c2, i_sw, msel, i_cV, i_cS, i_rV, i_rI, i_rZ, i_rJ, i_mm, i_pop, i_no, mpl, mvr, mnw, List.getElem?_cons_zero, List.getElem?_cons_succ, List.set_cons_zero, List.set_cons_succ, List.length_cons, List.length_nil, List.drop_succ_cons, List.drop_zero, List.take_succ_cons, List.take_zero, List.reverse_cons, List.reverse_nil, List.nil_append, List.cons_append, List.append_nil, List.map_cons, List.map_nil, List.sum_cons, List.sum_nil, Option.toList_some, Option.toList_none, Option.bind_some, Value.category, decide_eq_true_eq, decide_true, decide_false, if_true, if_false, Bool.false_eq_true, and_self, and_true, true_and, true_or, or_true, not_true_eq_false, not_false_eq_true, ↓reduceIte, reduceCtorEq, Nat.reduceEqDiff, Nat.reduceAdd, Nat.reduceSub, Nat.reduceMul, Nat.reduceLT, Nat.reduceLeDiff, Nat.reduceBEq, Nat.le_refl, Nat.zero_le, Nat.lt_irrefl, beq_self_eq_true, Nat.succ_ne_zero, Option.some.injEq, Prod.mk.injEq, Int32.reduceLT, Int32.reduceLE, c1, y_0, y_2, y_29, rt_0_2, rt_0_5, hcell, b2i_eq0, h1, hwho, h2, nI_1, ev]
      · have ev : lotC T S k (p + 1) = lotC T S k p := by rw [lotC, if_neg (fun z => h1 z.1.1)]
        refine ⟨_, _, ⟨p + 1, x, I', x5, by omega, hx, rfl, hO, hI, rfl⟩, fun r => ?_⟩
        simp only [kX11_lot_28, kX11_lot_97, i_cst, i_ldI, i_ldJ, i_ldA, i_stI, i_stJ, i_stA, i_inc, i_bin, i_dv, i_un, i_i2l, i_bnJ, i_lshl, i_lcmp, i_dup, i_dp2, i_gI, i_gJ, i_gA, i_pI, i_pZ, i_pJ, i_pA, i_al, i_as, i_alJ, i_asJ, i_len, i_c0, i_c2, i_sw, msel, i_cV, i_cS, i_rV, i_rI, i_rZ, i_rJ, i_mm, i_pop, i_no, mpl, mvr, mnw, List.getElem?_cons_zero, List.getElem?_cons_succ, List.set_cons_zero, List.set_cons_succ, List.length_cons, List.length_nil, List.drop_succ_cons, List.drop_zero, List.take_succ_cons, List.take_zero, List.reverse_cons, List.reverse_nil, List.nil_append, List.cons_append, List.append_nil, List.map_cons, List.map_nil, List.sum_cons, List.sum_nil, Option.toList_some, Option.toList_none, Option.bind_some, Value.category, decide_eq_true_eq, decide_true, decide_false, if_true, if_false, Bool.false_eq_true, and_self, and_true, true_and, true_or, or_true, not_true_eq_false, not_false_eq_true, ↓reduceIte, reduceCtorEq, Nat.reduceEqDiff, Nat.reduceAdd, Nat.reduceSub, Nat.reduceMul, Nat.reduceLT, Nat.reduceLeDiff, Nat.reduceBEq, Nat.le_refl, Nat.zero_le, Nat.lt_irrefl, beq_self_eq_true, Nat.succ_ne_zero, Option.some.injEq, Prod.mk.injEq, Int32.reduceLT, Int32.reduceLE, c1, y_0, y_2, rt_0_2, hcell, b2i_eq0, h1, nI_1, ev]
  · refine ⟨I, ?_, TF.rf⟩
    simp only [eX11_lot, kX11_lot_0, i_cst, i_ldI, i_ldJ, i_ldA, i_stI, i_stJ, i_stA, i_inc, i_bin, i_dv, i_un, i_i2l, i_bnJ, i_lshl, i_lcmp, i_dup, i_dp2, i_gI, i_gJ, i_gA, i_pI, i_pZ, i_pJ, i_pA, i_al, i_as, i_alJ, i_asJ, i_len, i_c0, i_c2, i_sw, msel, i_cV, i_cS, i_rV, i_rI, i_rZ, i_rJ, i_mm, i_pop, i_no, mpl, mvr, mnw, List.getElem?_cons_zero, List.getElem?_cons_succ, List.set_cons_zero, List.set_cons_succ, List.length_cons, List.length_nil, List.drop_succ_cons, List.drop_zero, List.take_succ_cons, List.take_zero, List.reverse_cons, List.reverse_nil, List.nil_append, List.cons_append, List.append_nil, List.map_cons, List.map_nil, List.sum_cons, List.sum_nil, Option.toList_some, Option.toList_none, Option.bind_some, Value.category, decide_eq_true_eq, decide_true, decide_false, if_true, if_false, Bool.false_eq_true, and_self, and_true, true_and, true_or, or_true, not_true_eq_false, not_false_eq_true, ↓reduceIte, reduceCtorEq, Nat.reduceEqDiff, Nat.reduceAdd, Nat.reduceSub, Nat.reduceMul, Nat.reduceLT, Nat.reduceLeDiff, Nat.reduceBEq, Nat.le_refl, Nat.zero_le, Nat.lt_irrefl, beq_self_eq_true, Nat.succ_ne_zero, Option.some.injEq, Prod.mk.injEq, Int32.reduceLT, Int32.reduceLE, y_0, hoff, b2i_eq0, h, aLot]
end Lot
