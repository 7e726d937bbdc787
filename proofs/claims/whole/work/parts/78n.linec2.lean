/-! PURE: the class's Reader: each line -/
def ce0 : CE := (0, 0, 0, 0, 0)
/-- the draft, as the class keeps it -/
def DC (I : Nat → Nat → Int32) (J : Nat → Nat → Int64) (tp : List Nat) (D : DR) : Prop := (I 13 0 = nI (dC D) ∧ I 13 1 = nI (dR D) ∧ I 13 2 = nI (dc D).length ∧ I 13 3 = nI (dB D) ∧ I 13 4 = nI (dd D) ∧ I 13 5 = nI (dU D)) ∧ (∀ j, j < (dc D).length → (I 14 j = nI ((dc D).getD j ce0).2.1 ∧ I 15 j = nI ((dc D).getD j ce0).2.2.1 ∧ I 16 j = nI ((dc D).getD j ce0).2.2.2.1 ∧ I 17 j = nI ((dc D).getD j ce0).2.2.2.2) ∧ J 25 j = jN (w32 tp ((dc D).getD j ce0).1) ∧ kn tp ((dc D).getD j ce0).1 = 3) ∧ FC I 18 (dF D) ∧ FC I 21 (dW D) ∧ I 24 9 = nI (dt D)
def LF (I I' : Nat → Nat → Int32) : Prop := ∀ b j, b < 13 ∨ 28 < b → I' b j = I b j
theorem LF.rf {I : Nat → Nat → Int32} : LF I I := fun _ _ _ => rfl
theorem LF.tr {I I' I'' : Nat → Nat → Int32} (h1 : LF I I') (h2 : LF I' I'') : LF I I'' := fun b j h => (h2 b j h).trans (h1 b j h)
def NoF (I : Nat → Nat → Int32) : Prop := I 24 11 = 0 ∧ I 24 12 = -1
def LC (I : Nat → Nat → Int32) (J : Nat → Nat → Int64) (tp : List Nat) (i : Nat) (D : DR) : Prop := RdC I tp i ∧ DC I J tp D ∧ NoF I
def LRes (tp : List Nat) (I : Nat → Nat → Int32) (v : Option mR) (r : EX2 (Nat × DR)) : Prop :=
  (∀ e, r = .error e → ∃ I' J' f', v = some (some (.int 0), mm I' J' f') ∧ FtR I' e ∧ LF I I') ∧
  (∀ q, r = .ok q → ∃ I' J' f', v = some (some (.int 1), mm I' J' f') ∧ LC I' J' tp q.1 q.2 ∧ LF I I')
theorem DC_of {I I' : Nat → Nat → Int32} {J : Nat → Nat → Int64} {tp : List Nat} {D : DR} (h : DC I J tp D) (hI : ∀ b j, 13 ≤ b → b ≤ 22 → I' b j = I b j) (h9 : I' 24 9 = I 24 9) : DC I' J tp D := by
  obtain ⟨⟨a1, a2, a3, a4, a5, a6⟩, b1, c1, c2, e1⟩ := h
  refine ⟨⟨?_, ?_, ?_, ?_, ?_, ?_⟩, fun j hj => ?_, FC_fr c1 (fun b j hb => hI b j (by omega) (by omega)), FC_fr c2 (fun b j hb => hI b j (by omega) (by omega)), h9.trans e1⟩
  · rw [hI 13 0 (by decide) (by decide)]; exact a1
  · rw [hI 13 1 (by decide) (by decide)]; exact a2
  · rw [hI 13 2 (by decide) (by decide)]; exact a3
  · rw [hI 13 3 (by decide) (by decide)]; exact a4
  · rw [hI 13 4 (by decide) (by decide)]; exact a5
  · rw [hI 13 5 (by decide) (by decide)]; exact a6
  · rw [hI 14 j (by decide) (by decide), hI 15 j (by decide) (by decide), hI 16 j (by decide) (by decide), hI 17 j (by decide) (by decide)]; exact b1 j hj
section LineC2
variable {n : Nat} {I : Nat → Nat → Int32} {J : Nat → Nat → Int64} {tp : List Nat} {i : Nat} {D : DR}
theorem LF_av {j : Nat} : LF I (avI I tp j) := fun b k hb => avI_o (by omega)
theorem LF_ft {e : Nat × Nat} : LF I (ftI I e) := fun b k hb => ftI_o (by omega)
theorem LC_av {j : Nat} (h : LC I J tp i D) (hj : j ≤ zl tp) : LC (avI I tp j) J tp j D := ⟨avI_rd h.1.1 hj, DC_of h.2.1 (fun b k b1 b2 => avI_o (by omega)) (avI_j (by decide) (by decide) (by decide)), by unfold NoF; rw [avI_j (by decide) (by decide) (by decide), avI_j (by decide) (by decide) (by decide)]; exact h.2.2⟩
theorem LC_nu (h : LC I J tp i D) : LC (nuI I tp i) J tp i D := ⟨nuI_rd h.1, DC_of h.2.1 (fun b k b1 b2 => nuI_o (by omega)) (nuI_j (by decide) (by decide)), by unfold NoF; rw [nuI_j (by decide) (by decide), nuI_j (by decide) (by decide)]; exact h.2.2⟩
/-- take, as the text goes on -/
theorem c_tkK (n : Nat) (f : Nat) (h : LC I J tp i D) {k : Nat} (hk : 2 ≤ k ∧ k ≤ 33) : (∀ e, tkK tp k i = .error e → ∃ I', FX5_take n [.ref 24, .int (nI k)] (mm I J f) = some (some (.int 0), mm I' J f) ∧ FtR I' e ∧ LF I I') ∧ ∀ i', tkK tp k i = .ok i' → ∃ I', FX5_take n [.ref 24, .int (nI k)] (mm I J f) = some (some (.int 1), mm I' J f) ∧ LC I' J tp i' D ∧ LF I I' := by
  have pt := p_take n J f h.1 hk
  unfold tkK
  by_cases e : kn tp i = k
  · rw [if_pos e] at pt
    rw [if_pos e]
    refine ⟨fun e hh => (by cases hh), fun i' hh => ?_⟩
    cases hh
    exact ⟨_, pt, LC_av h (zl_next tp h.1.2.2 (by omega)), LF_av⟩
  · rw [if_neg e] at pt
    rw [if_neg e]
    refine ⟨fun e hh => ?_, fun i' hh => by cases hh⟩
    cases hh
    exact ⟨_, pt, ftI_ft _, LF_ft⟩
theorem c_tkN (hn : 300 < n) (f : Nat) (h : LC I J tp i D) {lo hi : Nat} (hlo : lo < 2 ^ 31) (hhi : hi < 2 ^ 31) : (∀ e, tkN tp lo hi i = .error e → ∃ I', FX5_takeNumber n [.ref 24, .int (nI lo), .int (nI hi)] (mm I J f) = some (some (.int 0), mm I' J f) ∧ FtR I' e ∧ LF I I') ∧ ∀ p, tkN tp lo hi i = .ok p → ∃ I', FX5_takeNumber n [.ref 24, .int (nI lo), .int (nI hi)] (mm I J f) = some (some (.int 1), mm I' J f) ∧ LC I' J tp p.2 D ∧ (I' 24 7 = nI p.1 ∧ I' 24 8 = nI (pl tp i)) ∧ LF I I' := by
  have pt := p_takeNumber hn J f h.1 hlo hhi
  unfold tkN
  by_cases e : kn tp i = 2
  · rw [if_pos e] at pt
    rw [if_pos e]
    by_cases e2 : lo ≤ nvt tp i ∧ nvt tp i ≤ hi
    · rw [if_pos e2] at pt
      rw [if_pos e2]
      refine ⟨fun e hh => (by cases hh), fun p hh => ?_⟩
      cases hh
      refine ⟨_, pt, LC_av (LC_nu h) (zl_next tp h.1.2.2 (by omega)), ⟨?_, ?_⟩, fun b k hb => by rw [avI_o (by omega), nuI_o (by omega)]⟩
      · rw [avI_j (by decide) (by decide) (by decide)]; unfold nuI; rw [u2_j (by decide), u2_s]
      · rw [avI_j (by decide) (by decide) (by decide)]; unfold nuI; rw [u2_s]
    · rw [if_neg e2] at pt
      rw [if_neg e2]
      refine ⟨fun e hh => ?_, fun i' hh => by cases hh⟩
      cases hh
      exact ⟨_, pt, ftI_ft _, fun b k hb => by rw [ftI_o (by omega), nuI_o (by omega)]⟩
  · rw [if_neg e] at pt
    rw [if_neg e]
    refine ⟨fun e hh => ?_, fun i' hh => by cases hh⟩
    cases hh
    exact ⟨_, pt, ftI_ft _, LF_ft⟩
theorem srt_all : ∀ m, m < 11 → (1 : Int32) <<< ((nI (15 + m) - 15) &&& 31) = nI (2 ^ m) := by decide
theorem sor_all : ∀ t, t < 2048 → ((nI t ||| nI 1 = nI (t ||| 1) ∧ nI t ||| nI 4 = nI (t ||| 4) ∧ nI t ||| nI 128 = nI (t ||| 128)) ∧ nI t ||| nI 256 = nI (t ||| 256) ∧ nI t ||| nI 512 = nI (t ||| 512) ∧ nI t ||| nI 1024 = nI (t ||| 1024)) := by decide +kernel
def andb (t : Nat) : Bool := (decide (nI t &&& nI 128 = 0) == !t.testBit 7) && (decide (nI t &&& nI 256 = 0) == !t.testBit 8) && (decide (nI t &&& nI 512 = 0) == !t.testBit 9) && (decide (nI t &&& nI 1024 = 0) == !t.testBit 10)
theorem sand_all : ∀ t, t < 2048 → andb t = true := by decide +kernel
theorem p_sort (n : Nat) (f : Nat) {m : Nat} (hm : m < 11) (h : RdC I tp i) (hk : kn tp i = 15 + m) : FX5_sortOfLine n [.ref 24] (mm I J f) = some (some (.int (nI (2 ^ m))), mm I J f) := by
  have h5 := h.2.1.2.1
  rw [hk] at h5
  simp only [eX5_sortOfLine, kX5_sortOfLine_0, x_no, x_cst, x_ldI, x_ldJ, x_ldA, x_stI, x_stJ, x_stA, x_inc, x_bin, x_un, x_i2l, x_bnJ, x_lshl, x_lcmp, x_dup, x_dp2, x_gI, x_gJ, x_gA, x_pI, x_pZ, x_pJ, x_pA, x_c0, x_c2, x_sw, x_cV, x_cS, x_rV, x_rI, x_rZ, x_rJ, x_mm, x_pop, x_dv, x_al, x_as, x_alJ, x_asJ, x_len, msel, mpl, mvr, mnw, List.getElem?_cons_zero, List.getElem?_cons_succ, List.set_cons_zero, List.set_cons_succ, List.length_cons, List.length_nil, List.drop_succ_cons, List.drop_zero, List.take_succ_cons, List.take_zero, List.reverse_cons, List.reverse_nil, List.nil_append, List.cons_append, List.append_nil, List.map_cons, List.map_nil, List.sum_cons, List.sum_nil, Option.toList_some, Option.toList_none, x_bs, Value.category, decide_eq_true_eq, decide_true, decide_false, if_true, if_false, Bool.false_eq_true, and_self, and_true, true_and, true_or, or_true, not_true_eq_false, not_false_eq_true, ↓reduceIte, reduceCtorEq, Nat.reduceEqDiff, Nat.reduceAdd, Nat.reduceSub, Nat.reduceMul, Nat.reduceLT, Nat.reduceLeDiff, Nat.reduceBEq, Nat.le_refl, Nat.zero_le, Nat.lt_irrefl, beq_self_eq_true, Nat.succ_ne_zero, Option.some.injEq, Prod.mk.injEq, Int32.reduceLT, Int32.reduceLE, y_24, h5, srt_all m hm]
def tsI (I : Nat → Nat → Int32) (tp : List Nat) (i t : Nat) : Nat → Nat → Int32 := avI (u2 I 24 9 (nI t)) tp (i + 1)
set_option maxHeartbeats 4000000 in
theorem p_takeSort (n : Nat) (f : Nat) {m t : Nat} (hm : m < 11) (h : LC I J tp i D) (hk : kn tp i = 15 + m) (ht : nI (dt D) ||| nI (2 ^ m) = nI t) : FX5_takeSort n [.ref 24] (mm I J f) = some (none, mm (tsI I tp i t) J f) := by
  have e9 := h.2.1.2.2.2.2
  have tk : TkC (u2 I 24 9 (nI t)) tp := TkC_of h.1.1 (fun b j hb => u2_a (by omega))
  have pa := p_advance n J f tk (j := i + 1) (by rw [u2_j (by decide), h.1.2.1.1, nI_1]) (zl_next tp h.1.2.2 (by omega))
  simp only [eX5_takeSort, kX5_takeSort_0, x_no, x_cst, x_ldI, x_ldJ, x_ldA, x_stI, x_stJ, x_stA, x_inc, x_bin, x_un, x_i2l, x_bnJ, x_lshl, x_lcmp, x_dup, x_dp2, x_gI, x_gJ, x_gA, x_pI, x_pZ, x_pJ, x_pA, x_c0, x_c2, x_sw, x_cV, x_cS, x_rV, x_rI, x_rZ, x_rJ, x_mm, x_pop, x_dv, x_al, x_as, x_alJ, x_asJ, x_len, msel, mpl, mvr, mnw, List.getElem?_cons_zero, List.getElem?_cons_succ, List.set_cons_zero, List.set_cons_succ, List.length_cons, List.length_nil, List.drop_succ_cons, List.drop_zero, List.take_succ_cons, List.take_zero, List.reverse_cons, List.reverse_nil, List.nil_append, List.cons_append, List.append_nil, List.map_cons, List.map_nil, List.sum_cons, List.sum_nil, Option.toList_some, Option.toList_none, x_bs, Value.category, decide_eq_true_eq, decide_true, decide_false, if_true, if_false, Bool.false_eq_true, and_self, and_true, true_and, true_or, or_true, not_true_eq_false, not_false_eq_true, ↓reduceIte, reduceCtorEq, Nat.reduceEqDiff, Nat.reduceAdd, Nat.reduceSub, Nat.reduceMul, Nat.reduceLT, Nat.reduceLeDiff, Nat.reduceBEq, Nat.le_refl, Nat.zero_le, Nat.lt_irrefl, beq_self_eq_true, Nat.succ_ne_zero, Option.some.injEq, Prod.mk.injEq, Int32.reduceLT, Int32.reduceLE, y_24, e9, p_sort n f hm h.1 hk, ht, uI_mm, pa]
  rfl
/-- a draft with another set of sorts -/
def stD (D : DR) (t : Nat) : DR := (t, D.2)
theorem LC_ts {t : Nat} (h : LC I J tp i D) (hk : 2 ≤ kn tp i) : LC (tsI I tp i t) J tp (i + 1) (stD D t) ∧ LF I (tsI I tp i t) := by
  obtain ⟨h1, ⟨a1, b1, c1, c2, e1⟩, h3⟩ := h
  have hz := zl_next tp h1.2.2 hk
  have fo : ∀ b j, b ≠ 24 → tsI I tp i t b j = I b j := fun b j hb => by unfold tsI; rw [avI_o hb, u2_a hb]
  have f24 : ∀ j, j ≠ 4 → j ≠ 5 → j ≠ 6 → j ≠ 9 → tsI I tp i t 24 j = I 24 j := fun j a b c d => by unfold tsI; rw [avI_j a b c, u2_j d]
  refine ⟨⟨avI_rd (TkC_of h1.1 (fun b j hb => u2_a (by omega))) hz, ⟨?_, fun j hj => ?_, FC_fr c1 (fun b j hb => fo b j (by omega)), FC_fr c2 (fun b j hb => fo b j (by omega)), ?_⟩, ?_⟩, fun b j hb => fo b j (by omega)⟩
  · rw [fo 13 0 (by decide), fo 13 1 (by decide), fo 13 2 (by decide), fo 13 3 (by decide), fo 13 4 (by decide), fo 13 5 (by decide)]; exact a1
  · rw [fo 14 j (by decide), fo 15 j (by decide), fo 16 j (by decide), fo 17 j (by decide)]; exact b1 j hj
  · unfold tsI; rw [avI_j (by decide) (by decide) (by decide), u2_s]; rfl
  · unfold NoF; rw [f24 11 (by decide) (by decide) (by decide) (by decide), f24 12 (by decide) (by decide) (by decide) (by decide)]; exact h3
/-- one number of the draft is put down -/
theorem LC_13 {k : Nat} {x : Int32} {D' : DR} (h : LC I J tp i D) (hD : dt D' = dt D ∧ dc D' = dc D ∧ dF D' = dF D ∧ dW D' = dW D) (hk : (u2 I 13 k x 13 0 = nI (dC D') ∧ u2 I 13 k x 13 1 = nI (dR D') ∧ u2 I 13 k x 13 2 = nI (dc D').length ∧ u2 I 13 k x 13 3 = nI (dB D') ∧ u2 I 13 k x 13 4 = nI (dd D') ∧ u2 I 13 k x 13 5 = nI (dU D'))) : LC (u2 I 13 k x) J tp i D' ∧ LF I (u2 I 13 k x) := by
  obtain ⟨h1, ⟨a1, b1, c1, c2, e1⟩, h3⟩ := h
  have fo : ∀ b j, b ≠ 13 → u2 I 13 k x b j = I b j := fun b j hb => u2_a hb
  refine ⟨⟨⟨TkC_of h1.1 (fun b j hb => fo b j (by omega)), by rw [fo 24 4 (by decide), fo 24 5 (by decide), fo 24 6 (by decide)]; exact h1.2.1, h1.2.2⟩, ⟨hk, fun j hj => ?_, ?_, ?_, ?_⟩, ?_⟩, fun b j hb => fo b j (by omega)⟩
  · rw [hD.2.1] at hj ⊢
    rw [fo 14 j (by decide), fo 15 j (by decide), fo 16 j (by decide), fo 17 j (by decide)]; exact b1 j hj
  · rw [hD.2.2.1]; exact FC_fr c1 (fun b j hb => fo b j (by omega))
  · rw [hD.2.2.2]; exact FC_fr c2 (fun b j hb => fo b j (by omega))
  · rw [fo 24 9 (by decide), hD.1]; exact e1
  · unfold NoF; rw [fo 24 11 (by decide), fo 24 12 (by decide)]; exact h3
end LineC2
