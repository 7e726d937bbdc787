/-! PURE: the class's Reader: names, cells -/
def LF24 (I I' : Nat → Nat → Int32) : Prop := ∀ b j, b ≠ 24 → I' b j = I b j
theorem LF24.lf {I I' : Nat → Nat → Int32} (h : LF24 I I') : LF I I' := fun b j hb => h b j (by omega)
theorem LF24.tr {I I' I'' : Nat → Nat → Int32} (h1 : LF24 I I') (h2 : LF24 I' I'') : LF24 I I'' := fun b j h => (h2 b j h).trans (h1 b j h)
section LineC5
variable {n : Nat} {I : Nat → Nat → Int32} {J : Nat → Nat → Int64} {tp : List Nat} {i : Nat} {D : DR}
theorem t_tkK (n : Nat) (f : Nat) (h : LC I J tp i D) {k : Nat} (hk : 2 ≤ k ∧ k ≤ 33) : (∀ e, tkK tp k i = .error e → ∃ I', FX5_take n [.ref 24, .int (nI k)] (mm I J f) = some (some (.int 0), mm I' J f) ∧ FtR I' e ∧ LF24 I I') ∧ ∀ i', tkK tp k i = .ok i' → ∃ I', FX5_take n [.ref 24, .int (nI k)] (mm I J f) = some (some (.int 1), mm I' J f) ∧ LC I' J tp i' D ∧ LF24 I I' := by
  have pt := p_take n J f h.1 hk
  unfold tkK
  by_cases e : kn tp i = k
  · rw [if_pos e] at pt
    rw [if_pos e]
    refine ⟨fun e hh => (by cases hh), fun i' hh => ?_⟩
    cases hh
    exact ⟨_, pt, LC_av h (zl_next tp h.1.2.2 (by omega)), fun b k hb => avI_o hb⟩
  · rw [if_neg e] at pt
    rw [if_neg e]
    refine ⟨fun e hh => ?_, fun i' hh => by cases hh⟩
    cases hh
    exact ⟨_, pt, ftI_ft _, fun b k hb => ftI_o hb⟩
theorem t_tkN (hn : 300 < n) (f : Nat) (h : LC I J tp i D) {lo hi : Nat} (hlo : lo < 2 ^ 31) (hhi : hi < 2 ^ 31) : (∀ e, tkN tp lo hi i = .error e → ∃ I', FX5_takeNumber n [.ref 24, .int (nI lo), .int (nI hi)] (mm I J f) = some (some (.int 0), mm I' J f) ∧ FtR I' e ∧ LF24 I I') ∧ ∀ p, tkN tp lo hi i = .ok p → ∃ I', FX5_takeNumber n [.ref 24, .int (nI lo), .int (nI hi)] (mm I J f) = some (some (.int 1), mm I' J f) ∧ LC I' J tp p.2 D ∧ (I' 24 7 = nI p.1 ∧ I' 24 8 = nI (pl tp i)) ∧ LF24 I I' := by
  have pt := p_takeNumber hn J f h.1 hlo hhi
  unfold tkN
  by_cases e : kn tp i = 2
  · rw [if_pos e] at pt
    rw [if_pos e]
    by_cases e2 : lo ≤ nvt tp i ∧ nvt tp i ≤ hi
    · rw [if_pos e2] at pt
      rw [if_pos e2]
      refine ⟨fun e hh => (by cases hh), fun p hh => ?_⟩
      cases hh
      refine ⟨_, pt, LC_av (LC_nu h) (zl_next tp h.1.2.2 (by omega)), ⟨?_, ?_⟩, fun b k hb => by rw [avI_o hb, nuI_o hb]⟩
      · rw [avI_j (by decide) (by decide) (by decide)]; unfold nuI; rw [u2_j (by decide), u2_s]
      · rw [avI_j (by decide) (by decide) (by decide)]; unfold nuI; rw [u2_s]
    · rw [if_neg e2] at pt
      rw [if_neg e2]
      refine ⟨fun e hh => ?_, fun i' hh => by cases hh⟩
      cases hh
      exact ⟨_, pt, ftI_ft _, fun b k hb => by rw [ftI_o hb, nuI_o hb]⟩
  · rw [if_neg e] at pt
    rw [if_neg e]
    refine ⟨fun e hh => ?_, fun i' hh => by cases hh⟩
    cases hh
    exact ⟨_, pt, ftI_ft _, fun b k hb => ftI_o hb⟩
/-- a cell of the draft's, at the new car's place -/
theorem LC_set {c : Nat} {v : Int32} (hc : 14 ≤ c ∧ c ≤ 17) (h : LC I J tp i D) : LC (u2 I c (dc D).length v) J tp i D := by
  obtain ⟨h1, ⟨a1, b1, c1, c2, e1⟩, h3⟩ := h
  have fo : ∀ b j, b ≠ c → u2 I c (dc D).length v b j = I b j := fun b j hb => u2_a hb
  have fj : ∀ b j, j < (dc D).length → u2 I c (dc D).length v b j = I b j := fun b j hb => u2_j (by omega)
  refine ⟨⟨TkC_of h1.1 (fun b j hb => fo b j (by omega)), by rw [fo 24 4 (by omega), fo 24 5 (by omega), fo 24 6 (by omega)]; exact h1.2.1, h1.2.2⟩, ⟨?_, fun j hj => ?_, FC_fr c1 (fun b j hb => fo b j (by omega)), FC_fr c2 (fun b j hb => fo b j (by omega)), ?_⟩, ?_⟩
  · rw [fo 13 0 (by omega), fo 13 1 (by omega), fo 13 2 (by omega), fo 13 3 (by omega), fo 13 4 (by omega), fo 13 5 (by omega)]; exact a1
  · rw [fj 14 j hj, fj 15 j hj, fj 16 j hj, fj 17 j hj]; exact b1 j hj
  · rw [fo 24 9 (by omega)]; exact e1
  · unfold NoF; rw [fo 24 11 (by omega), fo 24 12 (by omega)]; exact h3
theorem LC_J {v : Int64} (h : LC I J tp i D) : LC I (uJ2 J 25 (dc D).length v) tp i D := by
  obtain ⟨h1, ⟨a1, b1, c1, c2, e1⟩, h3⟩ := h
  refine ⟨h1, ⟨a1, fun j hj => ?_, c1, c2, e1⟩, h3⟩
  obtain ⟨g1, g2, g3⟩ := b1 j hj
  refine ⟨g1, ?_, g3⟩
  unfold uJ2
  rw [if_neg (by omega)]; exact g2
theorem getD_C {l : List CE} {x : CE} {j : Nat} : (l ++ [x]).getD j ce0 = if j = l.length then x else l.getD j ce0 := by
  by_cases h : j = l.length
  · subst h; simp
  · rw [if_neg h]
    by_cases h2 : j < l.length
    · simp [List.getElem?_append_left h2]
    · rw [List.getD_eq_getElem?_getD, List.getD_eq_getElem?_getD, List.getElem?_eq_none (show (l ++ [x]).length ≤ j by simp; omega), List.getElem?_eq_none (by omega)]
theorem LC_car {ni cell h o b : Nat} (hl : LC I J tp i D) (hni : kn tp ni = 3) (e14 : I 14 (dc D).length = nI cell) (e15 : I 15 (dc D).length = nI h) (e16 : I 16 (dc D).length = nI o) (e17 : I 17 (dc D).length = nI b) (e25 : J 25 (dc D).length = jN (w32 tp ni)) : LC (u2 I 13 2 (nI ((dc D).length + 1))) J tp i (dt D, dC D, dR D, dc D ++ [(ni, cell, h, o, b)], dU D, dB D, dd D, dF D, dW D) := by
  obtain ⟨h1, ⟨⟨a1, a2, a3, a4, a5, a6⟩, b1, c1, c2, e1⟩, h3⟩ := hl
  have fo : ∀ b j, b ≠ 13 → u2 I 13 2 (nI ((dc D).length + 1)) b j = I b j := fun b j hb => u2_a hb
  refine ⟨⟨TkC_of h1.1 (fun b j hb => fo b j (by omega)), by rw [fo 24 4 (by decide), fo 24 5 (by decide), fo 24 6 (by decide)]; exact h1.2.1, h1.2.2⟩, ⟨⟨by rw [u2_j (by decide)]; exact a1, by rw [u2_j (by decide)]; exact a2, ?_, by rw [u2_j (by decide)]; exact a4, by rw [u2_j (by decide)]; exact a5, by rw [u2_j (by decide)]; exact a6⟩, fun j hj => ?_, FC_fr c1 (fun b j hb => fo b j (by omega)), FC_fr c2 (fun b j hb => fo b j (by omega)), ?_⟩, ?_⟩
  · rw [u2_s]
    show _ = nI (dc D ++ [(ni, cell, h, o, b)]).length
    simp
  · have hj : j < (dc D ++ [(ni, cell, h, o, b)]).length := hj
    simp only [List.length_append, List.length_cons, List.length_nil] at hj
    rw [fo 14 j (by decide), fo 15 j (by decide), fo 16 j (by decide), fo 17 j (by decide)]
    show (I 14 j = nI ((dc D ++ [(ni, cell, h, o, b)]).getD j ce0).2.1 ∧ I 15 j = nI ((dc D ++ [(ni, cell, h, o, b)]).getD j ce0).2.2.1 ∧ I 16 j = nI ((dc D ++ [(ni, cell, h, o, b)]).getD j ce0).2.2.2.1 ∧ I 17 j = nI ((dc D ++ [(ni, cell, h, o, b)]).getD j ce0).2.2.2.2) ∧ J 25 j = jN (w32 tp ((dc D ++ [(ni, cell, h, o, b)]).getD j ce0).1) ∧ kn tp ((dc D ++ [(ni, cell, h, o, b)]).getD j ce0).1 = 3
    rw [getD_C]
    by_cases e : j = (dc D).length
    · rw [if_pos e, e]
      exact ⟨⟨e14, e15, e16, e17⟩, e25, hni⟩
    · rw [if_neg e]; exact b1 j (by omega)
  · rw [fo 24 9 (by decide)]; exact e1
  · unfold NoF; rw [fo 24 11 (by decide), fo 24 12 (by decide)]; exact h3
theorem any_ffd (l : List CE) (p : CE → Bool) : l.any p = (ffd (fun j => p (l.getD j ce0)) 0 l.length).isSome := by
  cases h : ffd (fun j => p (l.getD j ce0)) 0 l.length with
  | none =>
    have hno := ffd_none _ 0 h
    rw [Option.isSome_none, List.any_eq_false]
    intro x hx
    obtain ⟨j, hj, rfl⟩ := List.getElem_of_mem hx
    have := hno j (by omega) (by omega)
    rw [List.getD_eq_getElem?_getD, List.getElem?_eq_getElem hj, Option.getD_some] at this
    rw [this]; exact Bool.false_ne_true
  | some j =>
    obtain ⟨_, g2, g3, _⟩ := ffd_some _ 0 j h
    have hj : j < l.length := by omega
    rw [Option.isSome_some, List.any_eq_true]
    refine ⟨l[j], List.getElem_mem hj, ?_⟩
    rw [List.getD_eq_getElem?_getD, List.getElem?_eq_getElem hj, Option.getD_some] at g3
    exact g3
theorem x_ldJ4 {k : mK} {a b : Option Value} {x : Int64} {c d : Option Value} {Z : List Value} {μ : mM} : i_ldJ 2 k [a, b, some (.long x), c, d] Z μ = k [a, b, some (.long x), c, d] (.long x :: Z) μ := rfl
set_option maxHeartbeats 8000000 in
theorem p_takeName (hn : 300 < n) (f : Nat) (h : LC I J tp i D) (hc8 : (dc D).length < 8) : (∀ e, namP tp i D = .error e → ∃ I', FX5_takeName n [.ref 24, .int (nI (dc D).length)] (mm I J f) = some (some (.int 0), mm I' J f) ∧ FtR I' e ∧ LF24 I I') ∧ ∀ i', namP tp i D = .ok i' → kn tp i = 3 ∧ ∃ I', FX5_takeName n [.ref 24, .int (nI (dc D).length)] (mm I J f) = some (some (.int 1), mm I' (uJ2 J 25 (dc D).length (jN (w32 tp i))) f) ∧ LC I' (uJ2 J 25 (dc D).length (jN (w32 tp i))) tp i' D ∧ LF24 I I' := by
  have hk33 := kn_rg tp i
  have h5 := h.1.2.1.2.1
  have h6 := h.1.2.1.2.2
  have c3 : nI (kn tp i) = 3 ↔ kn tp i = 3 := nI_eq (b := 3) (by omega) (by decide)
  unfold namP
  by_cases e3 : kn tp i = 3
  · rw [if_pos e3]
    have e3' := c3.mpr e3
    have pw := p_wordFrom hn J f h.1.1.1 e3
    have hw := w32_lt tp e3
    have hany := any_ffd (dc D) (fun e => decide (wvt tp e.1 = wvt tp i))
    have head : FX5_takeName n [.ref 24, .int (nI (dc D).length)] (mm I J f) = mit (kX5_takeName_28 n) n [some (.ref 24), some (.int (nI (dc D).length)), some (.long (jN (w32 tp i))), none, some (.int (nI 0))] [] (mm I J f) := by
      simp only [eX5_takeName, kX5_takeName_0, x_no, x_cst, x_ldI, x_ldJ, x_ldA, x_stI, x_stJ, x_stA, x_inc, x_bin, x_un, x_i2l, x_bnJ, x_lshl, x_lcmp, x_dup, x_dp2, x_gI, x_gJ, x_gA, x_pI, x_pZ, x_pJ, x_pA, x_c0, x_c2, x_sw, x_cV, x_cS, x_rV, x_rI, x_rZ, x_rJ, x_mm, x_pop, x_dv, x_al, x_as, x_alJ, x_asJ, x_len, msel, mpl, mvr, mnw, List.getElem?_cons_zero, List.getElem?_cons_succ, List.set_cons_zero, List.set_cons_succ, List.length_cons, List.length_nil, List.drop_succ_cons, List.drop_zero, List.take_succ_cons, List.take_zero, List.reverse_cons, List.reverse_nil, List.nil_append, List.cons_append, List.append_nil, List.map_cons, List.map_nil, List.sum_cons, List.sum_nil, Option.toList_some, Option.toList_none, x_bs, Value.category, decide_eq_true_eq, decide_true, decide_false, if_true, if_false, Bool.false_eq_true, and_self, and_true, true_and, true_or, or_true, not_true_eq_false, not_false_eq_true, ↓reduceIte, reduceCtorEq, Nat.reduceEqDiff, Nat.reduceAdd, Nat.reduceSub, Nat.reduceMul, Nat.reduceLT, Nat.reduceLeDiff, Nat.reduceBEq, Nat.le_refl, Nat.zero_le, Nat.lt_irrefl, beq_self_eq_true, Nat.succ_ne_zero, Option.some.injEq, Prod.mk.injEq, Int32.reduceLT, Int32.reduceLE, y_24, y_26, rt_24_0, h5, e3', h6, pw, nI_0]
    have pf : FX5_fail n [.ref 24, .int 3, .int (nI (pl tp i))] (mm I J f) = some (some (.int 0), mm (ftI I (3, pl tp i)) J f) := p_fail n J f 3 (pl tp i)
    have c8 : ¬ Int32.ofNat 8 ≤ nI (dc D).length := lit_nle (k := 8) rfl (by decide) hc8
    have cn : ¬ nI (dc D).length < 0 := nI_pos (by omega)
    have cp : (0 : Int32) ≤ nI (dc D).length := nI_pos' (by omega)
    have cl : (nI (dc D).length).toNatClampNeg = (dc D).length := nI_clamp (by omega)
    have hJ := LC_J (v := jN (w32 tp i)) h
    have pa := (p_adv n (uJ2 J 25 (dc D).length (jN (w32 tp i))) f h.1 (show 2 ≤ kn tp i by omega)).1
    have loop := mit_find (G := kX5_takeName_28 n) (fun j => [some (.ref 24), some (.int (nI (dc D).length)), some (.long (jN (w32 tp i))), none, some (.int (nI j))]) (fun _ => mm I J f) (B := (dc D).length) (fun j => decide (wvt tp ((dc D).getD j ce0).1 = wvt tp i)) (fun _ => some (some (.int 0), mm (ftI I (3, pl tp i)) J f)) (fun j hj r => ?_) (show (dc D).length < n by omega) (v := some (some (.int 1), mm (avI I tp (i + 1)) (uJ2 J 25 (dc D).length (jN (w32 tp i))) f)) (fun r => ?_)
    · rw [← head] at loop
      rw [hany]
      cases hq : ffd (fun j => decide (wvt tp ((dc D).getD j ce0).1 = wvt tp i)) 0 (dc D).length with
      | some j =>
        rw [hq] at loop
        rw [Option.isSome_some, if_pos rfl]
        refine ⟨fun e hh => ?_, fun i' hh => by cases hh⟩
        cases hh
        exact ⟨_, loop, ftI_ft _, fun b k hb => ftI_o hb⟩
      | none =>
        rw [hq] at loop
        rw [Option.isSome_none, if_neg Bool.false_ne_true]
        refine ⟨fun e hh => (by cases hh), fun i' hh => ?_⟩
        cases hh
        exact ⟨e3, _, loop, LC_av hJ (zl_next tp h.1.2.2 (by omega)), fun b k hb => avI_o hb⟩
    · obtain ⟨-, g2, g3⟩ := h.2.1.2.1 j hj
      have c1 : ¬ nI (dc D).length ≤ nI j := by rw [nI_leI (by omega) (by omega)]; omega
      have c2 : ¬ Int32.ofNat 8 ≤ nI j := lit_nle (k := 8) rfl (by decide) (by omega)
      have c4 : (0 : Int32) ≤ nI j := nI_pos' (by omega)
      have c5 : (nI j).toNatClampNeg = j := nI_clamp (by omega)
      have c6 : j < 8 := by omega
      have hne := nam_eq tp g3 e3
      have hji := jN_inj (w32_lt tp g3) hw
      by_cases e : wvt tp ((dc D).getD j ce0).1 = wvt tp i
      · have e' : jN (w32 tp ((dc D).getD j ce0).1) = jN (w32 tp i) := hji.mpr (hne.mp e)
        rw [if_pos (decide_eq_true e)]
        simp only [kX5_takeName_28, x_ldJ4, x_no, x_cst, x_ldI, x_ldJ, x_ldA, x_stI, x_stJ, x_stA, x_inc, x_bin, x_un, x_i2l, x_bnJ, x_lshl, x_lcmp, x_dup, x_dp2, x_gI, x_gJ, x_gA, x_pI, x_pZ, x_pJ, x_pA, x_c0, x_c2, x_sw, x_cV, x_cS, x_rV, x_rI, x_rZ, x_rJ, x_mm, x_pop, x_dv, x_al, x_as, x_alJ, x_asJ, x_len, msel, mpl, mvr, mnw, List.getElem?_cons_zero, List.getElem?_cons_succ, List.set_cons_zero, List.set_cons_succ, List.length_cons, List.length_nil, List.drop_succ_cons, List.drop_zero, List.take_succ_cons, List.take_zero, List.reverse_cons, List.reverse_nil, List.nil_append, List.cons_append, List.append_nil, List.map_cons, List.map_nil, List.sum_cons, List.sum_nil, Option.toList_some, Option.toList_none, x_bs, Value.category, decide_eq_true_eq, decide_true, decide_false, if_true, if_false, Bool.false_eq_true, and_self, and_true, true_and, true_or, or_true, not_true_eq_false, not_false_eq_true, ↓reduceIte, reduceCtorEq, Nat.reduceEqDiff, Nat.reduceAdd, Nat.reduceSub, Nat.reduceMul, Nat.reduceLT, Nat.reduceLeDiff, Nat.reduceBEq, Nat.le_refl, Nat.zero_le, Nat.lt_irrefl, beq_self_eq_true, Nat.succ_ne_zero, Option.some.injEq, Prod.mk.injEq, Int32.reduceLT, Int32.reduceLE, y_24, y_25, rt_24_2, c1, c2, c4, c5, c6, g2, e', lg_cmp_eq, h6, pf, not_true_eq_false]
      · have e' : ¬ jN (w32 tp ((dc D).getD j ce0).1) = jN (w32 tp i) := fun z => e (hne.mpr (hji.mp z))
        rw [if_neg (by simpa using e)]
        simp only [kX5_takeName_28, x_ldJ4, x_no, x_cst, x_ldI, x_ldJ, x_ldA, x_stI, x_stJ, x_stA, x_inc, x_bin, x_un, x_i2l, x_bnJ, x_lshl, x_lcmp, x_dup, x_dp2, x_gI, x_gJ, x_gA, x_pI, x_pZ, x_pJ, x_pA, x_c0, x_c2, x_sw, x_cV, x_cS, x_rV, x_rI, x_rZ, x_rJ, x_mm, x_pop, x_dv, x_al, x_as, x_alJ, x_asJ, x_len, msel, mpl, mvr, mnw, List.getElem?_cons_zero, List.getElem?_cons_succ, List.set_cons_zero, List.set_cons_succ, List.length_cons, List.length_nil, List.drop_succ_cons, List.drop_zero, List.take_succ_cons, List.take_zero, List.reverse_cons, List.reverse_nil, List.nil_append, List.cons_append, List.append_nil, List.map_cons, List.map_nil, List.sum_cons, List.sum_nil, Option.toList_some, Option.toList_none, x_bs, Value.category, decide_eq_true_eq, decide_true, decide_false, if_true, if_false, Bool.false_eq_true, and_self, and_true, true_and, true_or, or_true, not_true_eq_false, not_false_eq_true, ↓reduceIte, reduceCtorEq, Nat.reduceEqDiff, Nat.reduceAdd, Nat.reduceSub, Nat.reduceMul, Nat.reduceLT, Nat.reduceLeDiff, Nat.reduceBEq, Nat.le_refl, Nat.zero_le, Nat.lt_irrefl, beq_self_eq_true, Nat.succ_ne_zero, Option.some.injEq, Prod.mk.injEq, Int32.reduceLT, Int32.reduceLE, y_24, y_25, rt_24_2, c1, c2, c4, c5, c6, g2, lg_cmp_eq, e', nI_1]
    · have c1 : nI (dc D).length ≤ nI (dc D).length := Int32.le_refl _
      simp only [kX5_takeName_28, kX5_takeName_72, kX5_takeName_92, x_ldJ4, x_no, x_cst, x_ldI, x_ldJ, x_ldA, x_stI, x_stJ, x_stA, x_inc, x_bin, x_un, x_i2l, x_bnJ, x_lshl, x_lcmp, x_dup, x_dp2, x_gI, x_gJ, x_gA, x_pI, x_pZ, x_pJ, x_pA, x_c0, x_c2, x_sw, x_cV, x_cS, x_rV, x_rI, x_rZ, x_rJ, x_mm, x_pop, x_dv, x_al, x_as, x_alJ, x_asJ, x_len, msel, mpl, mvr, mnw, List.getElem?_cons_zero, List.getElem?_cons_succ, List.set_cons_zero, List.set_cons_succ, List.length_cons, List.length_nil, List.drop_succ_cons, List.drop_zero, List.take_succ_cons, List.take_zero, List.reverse_cons, List.reverse_nil, List.nil_append, List.cons_append, List.append_nil, List.map_cons, List.map_nil, List.sum_cons, List.sum_nil, Option.toList_some, Option.toList_none, x_bs, Value.category, decide_eq_true_eq, decide_true, decide_false, if_true, if_false, Bool.false_eq_true, and_self, and_true, true_and, true_or, or_true, not_true_eq_false, not_false_eq_true, ↓reduceIte, reduceCtorEq, Nat.reduceEqDiff, Nat.reduceAdd, Nat.reduceSub, Nat.reduceMul, Nat.reduceLT, Nat.reduceLeDiff, Nat.reduceBEq, Nat.le_refl, Nat.zero_le, Nat.lt_irrefl, beq_self_eq_true, Nat.succ_ne_zero, Option.some.injEq, Prod.mk.injEq, Int32.reduceLT, Int32.reduceLE, y_24, y_25, rt_24_2, c1, c8, cn, cp, cl, hc8, uJ_mm, pa]
  · rw [if_neg e3]
    refine ⟨fun e hh => ?_, fun i' hh => by cases hh⟩
    cases hh
    refine ⟨ftI I (rf tp i), ?_, ftI_ft _, fun b k hb => ftI_o hb⟩
    simp only [eX5_takeName, kX5_takeName_0, x_no, x_cst, x_ldI, x_ldJ, x_ldA, x_stI, x_stJ, x_stA, x_inc, x_bin, x_un, x_i2l, x_bnJ, x_lshl, x_lcmp, x_dup, x_dp2, x_gI, x_gJ, x_gA, x_pI, x_pZ, x_pJ, x_pA, x_c0, x_c2, x_sw, x_cV, x_cS, x_rV, x_rI, x_rZ, x_rJ, x_mm, x_pop, x_dv, x_al, x_as, x_alJ, x_asJ, x_len, msel, mpl, mvr, mnw, List.getElem?_cons_zero, List.getElem?_cons_succ, List.set_cons_zero, List.set_cons_succ, List.length_cons, List.length_nil, List.drop_succ_cons, List.drop_zero, List.take_succ_cons, List.take_zero, List.reverse_cons, List.reverse_nil, List.nil_append, List.cons_append, List.append_nil, List.map_cons, List.map_nil, List.sum_cons, List.sum_nil, Option.toList_some, Option.toList_none, x_bs, Value.category, decide_eq_true_eq, decide_true, decide_false, if_true, if_false, Bool.false_eq_true, and_self, and_true, true_and, true_or, or_true, not_true_eq_false, not_false_eq_true, ↓reduceIte, reduceCtorEq, Nat.reduceEqDiff, Nat.reduceAdd, Nat.reduceSub, Nat.reduceMul, Nat.reduceLT, Nat.reduceLeDiff, Nat.reduceBEq, Nat.le_refl, Nat.zero_le, Nat.lt_irrefl, beq_self_eq_true, Nat.succ_ne_zero, Option.some.injEq, Prod.mk.injEq, Int32.reduceLT, Int32.reduceLE, y_24, h5, c3, e3, p_refuse n J f h.1]
set_option maxHeartbeats 8000000 in
theorem p_takeCell (hn : 300 < n) (f : Nat) (h : LC I J tp i D) (hD : DOK D) (hc8 : (dc D).length < 8) : (∀ e, celP tp i D = .error e → ∃ I', FX5_takeCell n [.ref 24, .int (nI (dc D).length)] (mm I J f) = some (some (.int 0), mm I' J f) ∧ FtR I' e ∧ LF I I') ∧ ∀ p, celP tp i D = .ok p → ∃ I', FX5_takeCell n [.ref 24, .int (nI (dc D).length)] (mm I J f) = some (some (.int 1), mm I' J f) ∧ LC I' J tp p.2 D ∧ I' 14 (dc D).length = nI p.1 ∧ LF I I' := by
  have z10 : ¬ (1 : Int32) = 0 := by decide
  obtain ⟨d1, d2, d3, d4, d5, -⟩ := hD
  obtain ⟨a1, a2, -⟩ := h.2.1.1
  have s1 : nI (dC D) - 1 = nI (dC D - 1) := by rw [show (1 : Int32) = nI 1 from rfl, pk_sub d2.1]
  have s2 : nI (dR D) - 1 = nI (dR D - 1) := by rw [show (1 : Int32) = nI 1 from rfl, pk_sub d3.1]
  obtain ⟨x1, x2⟩ := t_tkN hn f h (lo := 0) (hi := dC D - 1) (by decide) (by omega)
  unfold celP
  cases h1 : tkN tp 0 (dC D - 1) i with
  | error e =>
    refine ⟨fun e' hh => ?_, fun p hh => by cases hh⟩
    cases hh
    obtain ⟨I1, k1, k2, k3⟩ := x1 e h1
    have k1' : FX5_takeNumber n [.ref 24, .int 0, .int (nI (dC D - 1))] (mm I J f) = some (some (.int 0), mm I1 J f) := k1
    refine ⟨I1, ?_, k2, k3.lf⟩
    simp only [eX5_takeCell, kX5_takeCell_0, x_no, x_cst, x_ldI, x_ldJ, x_ldA, x_stI, x_stJ, x_stA, x_inc, x_bin, x_un, x_i2l, x_bnJ, x_lshl, x_lcmp, x_dup, x_dp2, x_gI, x_gJ, x_gA, x_pI, x_pZ, x_pJ, x_pA, x_c0, x_c2, x_sw, x_cV, x_cS, x_rV, x_rI, x_rZ, x_rJ, x_mm, x_pop, x_dv, x_al, x_as, x_alJ, x_asJ, x_len, msel, mpl, mvr, mnw, List.getElem?_cons_zero, List.getElem?_cons_succ, List.set_cons_zero, List.set_cons_succ, List.length_cons, List.length_nil, List.drop_succ_cons, List.drop_zero, List.take_succ_cons, List.take_zero, List.reverse_cons, List.reverse_nil, List.nil_append, List.cons_append, List.append_nil, List.map_cons, List.map_nil, List.sum_cons, List.sum_nil, Option.toList_some, Option.toList_none, x_bs, Value.category, decide_eq_true_eq, decide_true, decide_false, if_true, if_false, Bool.false_eq_true, and_self, and_true, true_and, true_or, or_true, not_true_eq_false, not_false_eq_true, ↓reduceIte, reduceCtorEq, Nat.reduceEqDiff, Nat.reduceAdd, Nat.reduceSub, Nat.reduceMul, Nat.reduceLT, Nat.reduceLeDiff, Nat.reduceBEq, Nat.le_refl, Nat.zero_le, Nat.lt_irrefl, beq_self_eq_true, Nat.succ_ne_zero, Option.some.injEq, Prod.mk.injEq, Int32.reduceLT, Int32.reduceLE, y_24, y_13, rt_24_1, a1, s1, k1', not_true_eq_false]
  | ok x =>
    obtain ⟨I1, k1, k2, ⟨k4, -⟩, k3⟩ := x2 x h1
    have k1' : FX5_takeNumber n [.ref 24, .int 0, .int (nI (dC D - 1))] (mm I J f) = some (some (.int 1), mm I1 J f) := k1
    obtain ⟨b1, b2, -⟩ := k2.2.1.1
    obtain ⟨-, -, -, hx4, -⟩ := tkN_ok h.1.2.2 h1
    obtain ⟨x3, x4⟩ := t_tkN hn f k2 (lo := 0) (hi := dR D - 1) (by decide) (by omega)
    show (∀ e, bnd (tkN tp 0 (dR D - 1) x.2) _ = .error e → _) ∧ ∀ p, bnd (tkN tp 0 (dR D - 1) x.2) _ = .ok p → _
    cases h2 : tkN tp 0 (dR D - 1) x.2 with
    | error e =>
      refine ⟨fun e' hh => ?_, fun p hh => by cases hh⟩
      cases hh
      obtain ⟨I2, m1, m2, m3⟩ := x3 e h2
      have m1' : FX5_takeNumber n [.ref 24, .int 0, .int (nI (dR D - 1))] (mm I1 J f) = some (some (.int 0), mm I2 J f) := m1
      refine ⟨I2, ?_, m2, (k3.tr m3).lf⟩
      simp only [eX5_takeCell, kX5_takeCell_0, x_no, x_cst, x_ldI, x_ldJ, x_ldA, x_stI, x_stJ, x_stA, x_inc, x_bin, x_un, x_i2l, x_bnJ, x_lshl, x_lcmp, x_dup, x_dp2, x_gI, x_gJ, x_gA, x_pI, x_pZ, x_pJ, x_pA, x_c0, x_c2, x_sw, x_cV, x_cS, x_rV, x_rI, x_rZ, x_rJ, x_mm, x_pop, x_dv, x_al, x_as, x_alJ, x_asJ, x_len, msel, mpl, mvr, mnw, List.getElem?_cons_zero, List.getElem?_cons_succ, List.set_cons_zero, List.set_cons_succ, List.length_cons, List.length_nil, List.drop_succ_cons, List.drop_zero, List.take_succ_cons, List.take_zero, List.reverse_cons, List.reverse_nil, List.nil_append, List.cons_append, List.append_nil, List.map_cons, List.map_nil, List.sum_cons, List.sum_nil, Option.toList_some, Option.toList_none, x_bs, Value.category, decide_eq_true_eq, decide_true, decide_false, if_true, if_false, Bool.false_eq_true, and_self, and_true, true_and, true_or, or_true, not_true_eq_false, not_false_eq_true, ↓reduceIte, reduceCtorEq, Nat.reduceEqDiff, Nat.reduceAdd, Nat.reduceSub, Nat.reduceMul, Nat.reduceLT, Nat.reduceLeDiff, Nat.reduceBEq, Nat.le_refl, Nat.zero_le, Nat.lt_irrefl, beq_self_eq_true, Nat.succ_ne_zero, Option.some.injEq, Prod.mk.injEq, Int32.reduceLT, Int32.reduceLE, y_24, y_13, rt_24_1, a1, s1, k1', z10, k4, b2, s2, m1', not_true_eq_false]
    | ok y =>
      obtain ⟨I2, m1, m2, ⟨m4, m5⟩, m3⟩ := x4 y h2
      have m1' : FX5_takeNumber n [.ref 24, .int 0, .int (nI (dR D - 1))] (mm I1 J f) = some (some (.int 1), mm I2 J f) := m1
      obtain ⟨-, -, -, hy4, -⟩ := tkN_ok k2.1.2.2 h2
      obtain ⟨c1, c2, -⟩ := m2.2.1.1
      have hcl := cell_lt hx4 hy4 d2.1 d3.1
      have h64 : dC D * dR D ≤ 64 := Nat.mul_le_mul d2.2 d3.2
      have ec : nI y.1 * nI (dC D) + nI x.1 = nI (y.1 * dC D + x.1) := by rw [pk_mul, nI_add]
      have head : FX5_takeCell n [.ref 24, .int (nI (dc D).length)] (mm I J f) = mit (kX5_takeCell_61 n) n [some (.ref 24), some (.int (nI (dc D).length)), some (.int (nI x.1)), some (.int (nI (y.1 * dC D + x.1))), some (.int (nI 0))] [] (mm I2 J f) := by
        simp only [eX5_takeCell, kX5_takeCell_0, kX5_takeCell_48, x_no, x_cst, x_ldI, x_ldJ, x_ldA, x_stI, x_stJ, x_stA, x_inc, x_bin, x_un, x_i2l, x_bnJ, x_lshl, x_lcmp, x_dup, x_dp2, x_gI, x_gJ, x_gA, x_pI, x_pZ, x_pJ, x_pA, x_c0, x_c2, x_sw, x_cV, x_cS, x_rV, x_rI, x_rZ, x_rJ, x_mm, x_pop, x_dv, x_al, x_as, x_alJ, x_asJ, x_len, msel, mpl, mvr, mnw, List.getElem?_cons_zero, List.getElem?_cons_succ, List.set_cons_zero, List.set_cons_succ, List.length_cons, List.length_nil, List.drop_succ_cons, List.drop_zero, List.take_succ_cons, List.take_zero, List.reverse_cons, List.reverse_nil, List.nil_append, List.cons_append, List.append_nil, List.map_cons, List.map_nil, List.sum_cons, List.sum_nil, Option.toList_some, Option.toList_none, x_bs, Value.category, decide_eq_true_eq, decide_true, decide_false, if_true, if_false, Bool.false_eq_true, and_self, and_true, true_and, true_or, or_true, not_true_eq_false, not_false_eq_true, ↓reduceIte, reduceCtorEq, Nat.reduceEqDiff, Nat.reduceAdd, Nat.reduceSub, Nat.reduceMul, Nat.reduceLT, Nat.reduceLeDiff, Nat.reduceBEq, Nat.le_refl, Nat.zero_le, Nat.lt_irrefl, beq_self_eq_true, Nat.succ_ne_zero, Option.some.injEq, Prod.mk.injEq, Int32.reduceLT, Int32.reduceLE, y_24, y_13, rt_24_1, a1, s1, k1', z10, k4, b2, s2, m1', m4, c1, ec, nI_0]
      have pf : FX5_fail n [.ref 24, .int 3, .int (nI (pl tp x.2))] (mm I2 J f) = some (some (.int 0), mm (ftI I2 (3, pl tp x.2)) J f) := p_fail n J f 3 (pl tp x.2)
      have hany := any_ffd (dc D) (fun e => decide (e.2.1 = y.1 * dC D + x.1))
      have loop := mit_find (G := kX5_takeCell_61 n) (fun j => [some (.ref 24), some (.int (nI (dc D).length)), some (.int (nI x.1)), some (.int (nI (y.1 * dC D + x.1))), some (.int (nI j))]) (fun _ => mm I2 J f) (B := (dc D).length) (fun j => decide (((dc D).getD j ce0).2.1 = y.1 * dC D + x.1)) (fun _ => some (some (.int 0), mm (ftI I2 (3, pl tp x.2)) J f)) (fun j hj r => ?_) (show (dc D).length < n by omega) (v := some (some (.int 1), mm (u2 I2 14 (dc D).length (nI (y.1 * dC D + x.1))) J f)) (fun r => ?_)
      · rw [← head] at loop
        simp only [bnd]
        rw [hany]
        cases hq : ffd (fun j => decide (((dc D).getD j ce0).2.1 = y.1 * dC D + x.1)) 0 (dc D).length with
        | some j =>
          rw [hq] at loop
          rw [Option.isSome_some, if_pos rfl]
          refine ⟨fun e hh => ?_, fun i' hh => by cases hh⟩
          cases hh
          exact ⟨_, loop, ftI_ft _, (k3.tr (m3.tr (fun b k hb => ftI_o hb))).lf⟩
        | none =>
          rw [hq] at loop
          rw [Option.isSome_none, if_neg Bool.false_ne_true]
          refine ⟨fun e hh => (by cases hh), fun p hh => ?_⟩
          cases hh
          exact ⟨_, loop, LC_set (by decide) m2, u2_s, (k3.tr m3).lf.tr (fun b k hb => u2_a (by omega))⟩
      · obtain ⟨⟨g1, -⟩, -⟩ := m2.2.1.2.1 j hj
        have hmem : (dc D).getD j ce0 ∈ dc D := by
          rw [List.getD_eq_getElem?_getD, List.getElem?_eq_getElem hj, Option.getD_some]; exact List.getElem_mem hj
        have hd5 := (d5 _ hmem).1
        have c3 : ¬ nI (dc D).length ≤ nI j := by rw [nI_leI (by omega) (by omega)]; omega
        have heq : nI ((dc D).getD j ce0).2.1 = nI (y.1 * dC D + x.1) ↔ ((dc D).getD j ce0).2.1 = y.1 * dC D + x.1 := nI_eq (by omega) (by omega)
        have pat := p_atN n 14 j (mm I2 J f) y_14 (by decide) (show j < 8 by omega)
        by_cases e : ((dc D).getD j ce0).2.1 = y.1 * dC D + x.1
        · have e' := heq.mpr e
          rw [if_pos (decide_eq_true e)]
          simp only [kX5_takeCell_61, x_no, x_cst, x_ldI, x_ldJ, x_ldA, x_stI, x_stJ, x_stA, x_inc, x_bin, x_un, x_i2l, x_bnJ, x_lshl, x_lcmp, x_dup, x_dp2, x_gI, x_gJ, x_gA, x_pI, x_pZ, x_pJ, x_pA, x_c0, x_c2, x_sw, x_cV, x_cS, x_rV, x_rI, x_rZ, x_rJ, x_mm, x_pop, x_dv, x_al, x_as, x_alJ, x_asJ, x_len, msel, mpl, mvr, mnw, List.getElem?_cons_zero, List.getElem?_cons_succ, List.set_cons_zero, List.set_cons_succ, List.length_cons, List.length_nil, List.drop_succ_cons, List.drop_zero, List.take_succ_cons, List.take_zero, List.reverse_cons, List.reverse_nil, List.nil_append, List.cons_append, List.append_nil, List.map_cons, List.map_nil, List.sum_cons, List.sum_nil, Option.toList_some, Option.toList_none, x_bs, Value.category, decide_eq_true_eq, decide_true, decide_false, if_true, if_false, Bool.false_eq_true, and_self, and_true, true_and, true_or, or_true, not_true_eq_false, not_false_eq_true, ↓reduceIte, reduceCtorEq, Nat.reduceEqDiff, Nat.reduceAdd, Nat.reduceSub, Nat.reduceMul, Nat.reduceLT, Nat.reduceLeDiff, Nat.reduceBEq, Nat.le_refl, Nat.zero_le, Nat.lt_irrefl, beq_self_eq_true, Nat.succ_ne_zero, Option.some.injEq, Prod.mk.injEq, Int32.reduceLT, Int32.reduceLE, y_24, y_13, rt_24_1, rt_13_6, c3, pat, g1, e', m5, pf, not_true_eq_false]
        · rw [if_neg (by simpa using e)]
          simp only [kX5_takeCell_61, x_no, x_cst, x_ldI, x_ldJ, x_ldA, x_stI, x_stJ, x_stA, x_inc, x_bin, x_un, x_i2l, x_bnJ, x_lshl, x_lcmp, x_dup, x_dp2, x_gI, x_gJ, x_gA, x_pI, x_pZ, x_pJ, x_pA, x_c0, x_c2, x_sw, x_cV, x_cS, x_rV, x_rI, x_rZ, x_rJ, x_mm, x_pop, x_dv, x_al, x_as, x_alJ, x_asJ, x_len, msel, mpl, mvr, mnw, List.getElem?_cons_zero, List.getElem?_cons_succ, List.set_cons_zero, List.set_cons_succ, List.length_cons, List.length_nil, List.drop_succ_cons, List.drop_zero, List.take_succ_cons, List.take_zero, List.reverse_cons, List.reverse_nil, List.nil_append, List.cons_append, List.append_nil, List.map_cons, List.map_nil, List.sum_cons, List.sum_nil, Option.toList_some, Option.toList_none, x_bs, Value.category, decide_eq_true_eq, decide_true, decide_false, if_true, if_false, Bool.false_eq_true, and_self, and_true, true_and, true_or, or_true, not_true_eq_false, not_false_eq_true, ↓reduceIte, reduceCtorEq, Nat.reduceEqDiff, Nat.reduceAdd, Nat.reduceSub, Nat.reduceMul, Nat.reduceLT, Nat.reduceLeDiff, Nat.reduceBEq, Nat.le_refl, Nat.zero_le, Nat.lt_irrefl, beq_self_eq_true, Nat.succ_ne_zero, Option.some.injEq, Prod.mk.injEq, Int32.reduceLT, Int32.reduceLE, y_24, y_13, rt_24_1, rt_13_6, c3, pat, g1, heq, e, nI_1]
      · have c3 : nI (dc D).length ≤ nI (dc D).length := Int32.le_refl _
        simp only [kX5_takeCell_61, x_no, x_cst, x_ldI, x_ldJ, x_ldA, x_stI, x_stJ, x_stA, x_inc, x_bin, x_un, x_i2l, x_bnJ, x_lshl, x_lcmp, x_dup, x_dp2, x_gI, x_gJ, x_gA, x_pI, x_pZ, x_pJ, x_pA, x_c0, x_c2, x_sw, x_cV, x_cS, x_rV, x_rI, x_rZ, x_rJ, x_mm, x_pop, x_dv, x_al, x_as, x_alJ, x_asJ, x_len, msel, mpl, mvr, mnw, List.getElem?_cons_zero, List.getElem?_cons_succ, List.set_cons_zero, List.set_cons_succ, List.length_cons, List.length_nil, List.drop_succ_cons, List.drop_zero, List.take_succ_cons, List.take_zero, List.reverse_cons, List.reverse_nil, List.nil_append, List.cons_append, List.append_nil, List.map_cons, List.map_nil, List.sum_cons, List.sum_nil, Option.toList_some, Option.toList_none, x_bs, Value.category, decide_eq_true_eq, decide_true, decide_false, if_true, if_false, Bool.false_eq_true, and_self, and_true, true_and, true_or, or_true, not_true_eq_false, not_false_eq_true, ↓reduceIte, reduceCtorEq, Nat.reduceEqDiff, Nat.reduceAdd, Nat.reduceSub, Nat.reduceMul, Nat.reduceLT, Nat.reduceLeDiff, Nat.reduceBEq, Nat.le_refl, Nat.zero_le, Nat.lt_irrefl, beq_self_eq_true, Nat.succ_ne_zero, Option.some.injEq, Prod.mk.injEq, Int32.reduceLT, Int32.reduceLE, y_24, y_13, rt_24_1, rt_13_6, c3, p_setN n 14 (dc D).length _ (mm I2 J f) y_14 (by decide) hc8, uI_mm]
end LineC5
