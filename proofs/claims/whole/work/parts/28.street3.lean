/-! PURE: years, copies, what is kept -/
theorem mulL (c : Int32) (k j : Nat) (hc : c = nI k) : c * nI j = nI (k * j) := by rw [hc, pk_mul]
theorem addL (c : Int32) (k j : Nat) (hc : c = nI k) : nI j + c = nI (j + k) := by rw [hc, nI_add]
section Street3
variable {n : Nat} {I : Nat → Nat → Int32} {a : Nat} {T : TA} {S : SA}
def quS (T : TA) (S : SA) : SA := (scl S, shd S, sho (softS T S), sbo S, syr S + 1, ssd S)
set_option maxHeartbeats 4000000 in
theorem p_passQuietly (hn : 300 < n) (J : Nat → Nat → Int64) (f : Nat) (o : SO I a T S) (hy : syr S < 2000) : ∃ I', FX8_passQuietly n [.ref a] (mm I J f) = some (none, mm I' J f) ∧ SO I' a T (quS T S) ∧ ∀ b j, b ≠ 9 → b ≠ 12 → b ≠ a + 3 → b ≠ a → I' b j = I b j := by
  obtain ⟨-, y0, -⟩ := st_rt o.1 f
  obtain ⟨I', g1, g2, g3⟩ := p_soften hn J f o
  have e5 : I' a 5 = nI (syr S) := g2.2.2.2.2.2.1
  have ha := o.1
  refine ⟨u2 I' a 5 (nI (syr S + 1)), ?_, ?_, fun b j h1 h2 h3 h4 => by rw [u2_a h4]; exact g3 b j h1 h2 h3⟩
  · simp only [eX8_passQuietly, kX8_passQuietly_0, i_cst, i_ldI, i_ldJ, i_ldA, i_stI, i_stJ, i_stA, i_inc, i_bin, i_dv, i_un, i_i2l, i_bnJ, i_lshl, i_lcmp, i_dup, i_dp2, i_gI, i_gJ, i_gA, i_pI, i_pZ, i_pJ, i_pA, i_al, i_as, i_alJ, i_asJ, i_len, i_c0, i_c2, i_sw, msel, i_cV, i_cS, i_rV, i_rI, i_rZ, i_rJ, i_mm, i_pop, i_no, mpl, mvr, mnw, List.getElem?_cons_zero, List.getElem?_cons_succ, List.set_cons_zero, List.set_cons_succ, List.length_cons, List.length_nil, List.drop_succ_cons, List.drop_zero, List.take_succ_cons, List.take_zero, List.reverse_cons, List.reverse_nil, List.nil_append, List.cons_append, List.append_nil, List.map_cons, List.map_nil, List.sum_cons, List.sum_nil, Option.toList_some, Option.toList_none, Option.bind_some, Value.category, decide_eq_true_eq, decide_true, decide_false, if_true, if_false, Bool.false_eq_true, and_self, and_true, true_and, true_or, or_true, not_true_eq_false, not_false_eq_true, ↓reduceIte, reduceCtorEq, Nat.reduceEqDiff, Nat.reduceAdd, Nat.reduceSub, Nat.reduceMul, Nat.reduceLT, Nat.reduceLeDiff, Nat.reduceBEq, Nat.le_refl, Nat.zero_le, Nat.lt_irrefl, beq_self_eq_true, Nat.succ_ne_zero, Option.some.injEq, Prod.mk.injEq, Int32.reduceLT, Int32.reduceLE, y0, g1, e5, nI_1, uI_mm]
  · obtain ⟨q1, q2, q3, q4, q5⟩ := g2
    refine ⟨q1, q2, TC_of (fun b i h1 h2 _ => u2_a (by omega)) q3, ⟨q4.1, ?_, q4.2.2⟩, ⟨fun i hi => ?_, u2_s, ?_⟩⟩
    · show syr S + 1 ≤ 2000
      omega
    · rw [u2_a (by omega), u2_a (by omega), u2_a (by omega), u2_a (by omega)]
      exact q5.1 i hi
    · rw [u2_j (by decide)]; exact q5.2.2
theorem seed_step {s : Nat} (hs : s ≤ 999) : nI s * 137 + 71 - (nI s * 137 + 71) / 1000 * 1000 = nI ((s * 137 + 71) % 1000) := by
  rw [show (137 : Int32) = nI 137 from rfl, pk_mul, show (71 : Int32) = nI 71 from rfl, nI_add, show (1000 : Int32) = nI 1000 from rfl, pk_rem (by omega) (by decide) (by decide)]
theorem seed_hund {s : Nat} (hs : s ≤ 999) : nI s - nI s / 100 * 100 = nI (s % 100) := by
  rw [show (100 : Int32) = nI 100 from rfl, pk_rem (by omega) (by decide) (by decide)]
/-- lamps that break among those below k: the seed, the bodies, the set -/
def brk (T : TA) (S : SA) : Nat → Nat × (Nat → Nat) × Int32
  | 0 => (ssd S, sbo S, 0)
  | j + 1 => if inA T S j = true then
      (if ((brk T S j).1 * 137 + 71) % 1000 % 100 < tB T then (((brk T S j).1 * 137 + 71) % 1000, fun i => if i = j then (brk T S j).2.1 j - 1 else (brk T S j).2.1 i, (brk T S j).2.2 ||| bit1 (nI j)) else (((brk T S j).1 * 137 + 71) % 1000, (brk T S j).2.1, (brk T S j).2.2))
    else brk T S j
def brkS (T : TA) (S : SA) (k : Nat) : SA := (scl S, shd S, sho S, (brk T S k).2.1, syr S, (brk T S k).1)
theorem brk_rg (T : TA) (S : SA) (h : ssd S ≤ 999) : ∀ k, (brk T S k).1 ≤ 999 ∧ ∀ j, (brk T S k).2.1 j ≤ sbo S j := by
  intro k
  induction k with
  | zero => exact ⟨h, fun j => Nat.le_refl _⟩
  | succ k ih =>
    unfold brk
    split
    · split
      · refine ⟨by simp only; omega, fun j => ?_⟩
        simp only
        split
        · rename_i hj
          subst hj
          have := ih.2 j; omega
        · exact ih.2 j
      · exact ⟨by simp only; omega, ih.2⟩
    · exact ih
theorem brk_at (T : TA) (S : SA) : ∀ k j, k ≤ j → (brk T S k).2.1 j = sbo S j := by
  intro k
  induction k with
  | zero => intro j _; rfl
  | succ k ih =>
    intro j hj
    unfold brk
    split
    · split
      · simp only
        rw [if_neg (by omega)]
        exact ih j (by omega)
      · exact ih j (by omega)
    · exact ih j (by omega)
theorem max0 (b : Nat) (hb : b ≤ 9) : (if (0 : Int32) < nI b - 1 then nI b - 1 else 0) = nI (b - 1) := by
  rcases (show b = 0 ∨ b = 1 ∨ b = 2 ∨ b = 3 ∨ b = 4 ∨ b = 5 ∨ b = 6 ∨ b = 7 ∨ b = 8 ∨ b = 9 by omega) with rfl | rfl | rfl | rfl | rfl | rfl | rfl | rfl | rfl | rfl <;> decide
set_option maxHeartbeats 8000000 in
theorem p_breakLamps (hn : 8 < n) (J : Nat → Nat → Int64) (f : Nat) (o : SO I a T S) : ∃ I', FX8_breakLamps n [.ref a] (mm I J f) = some (some (.int (brk T S 8).2.2), mm I' J f) ∧ SO I' a T (brkS T S 8) ∧ ∀ b j, b ≠ a + 4 → b ≠ a → I' b j = I b j := by
  obtain ⟨⟨r0, -, -, -, r4⟩, y0, -, -, -, y4⟩ := st_rt o.1 f
  have ha := o.1
  have hsd := o.2.2.2.1.2.2
  simp only [eX8_breakLamps, kX8_breakLamps_0, i_cst, i_ldI, i_ldJ, i_ldA, i_stI, i_stJ, i_stA, i_inc, i_bin, i_dv, i_un, i_i2l, i_bnJ, i_lshl, i_lcmp, i_dup, i_dp2, i_gI, i_gJ, i_gA, i_pI, i_pZ, i_pJ, i_pA, i_al, i_as, i_alJ, i_asJ, i_len, i_c0, i_c2, i_sw, msel, i_cV, i_cS, i_rV, i_rI, i_rZ, i_rJ, i_mm, i_pop, i_no, mpl, mvr, mnw, List.getElem?_cons_zero, List.getElem?_cons_succ, List.set_cons_zero, List.set_cons_succ, List.length_cons, List.length_nil, List.drop_succ_cons, List.drop_zero, List.take_succ_cons, List.take_zero, List.reverse_cons, List.reverse_nil, List.nil_append, List.cons_append, List.append_nil, List.map_cons, List.map_nil, List.sum_cons, List.sum_nil, Option.toList_some, Option.toList_none, Option.bind_some, Value.category, decide_eq_true_eq, decide_true, decide_false, if_true, if_false, Bool.false_eq_true, and_self, and_true, true_and, true_or, or_true, not_true_eq_false, not_false_eq_true, ↓reduceIte, reduceCtorEq, Nat.reduceEqDiff, Nat.reduceAdd, Nat.reduceSub, Nat.reduceMul, Nat.reduceLT, Nat.reduceLeDiff, Nat.reduceBEq, Nat.le_refl, Nat.zero_le, Nat.lt_irrefl, beq_self_eq_true, Nat.succ_ne_zero, Option.some.injEq, Prod.mk.injEq, Int32.reduceLT, Int32.reduceLE]
  refine mit_ind (G := kX8_breakLamps_4 n) (fun d L μ => ∃ (j : Nat) (I' : Nat → Nat → Int32), j + d = 8 ∧ μ = mm I' J f ∧ SO I' a T (brkS T S j) ∧ (∀ b j, b ≠ a + 4 → b ≠ a → I' b j = I b j) ∧ L = [some (.ref a), some (.int (brk T S j).2.2), some (.int (nI j))]) (fun v => ∃ I', v = some (some (.int (brk T S 8).2.2), mm I' J f) ∧ SO I' a T (brkS T S 8) ∧ ∀ b j, b ≠ a + 4 → b ≠ a → I' b j = I b j) ?_ ?_ 8 n _ _ (by omega) ⟨0, I, rfl, rfl, o, fun _ _ _ _ => rfl, rfl⟩
  · rintro L μ ⟨j, I', hj, rfl, hO, hI, rfl⟩
    have : j = 8 := by omega
    subst this
    refine ⟨_, fun r => ?_, I', rfl, hO, hI⟩
    simp only [kX8_breakLamps_4, i_cst, i_ldI, i_ldJ, i_ldA, i_stI, i_stJ, i_stA, i_inc, i_bin, i_dv, i_un, i_i2l, i_bnJ, i_lshl, i_lcmp, i_dup, i_dp2, i_gI, i_gJ, i_gA, i_pI, i_pZ, i_pJ, i_pA, i_al, i_as, i_alJ, i_asJ, i_len, i_c0, i_c2, i_sw, msel, i_cV, i_cS, i_rV, i_rI, i_rZ, i_rJ, i_mm, i_pop, i_no, mpl, mvr, mnw, List.getElem?_cons_zero, List.getElem?_cons_succ, List.set_cons_zero, List.set_cons_succ, List.length_cons, List.length_nil, List.drop_succ_cons, List.drop_zero, List.take_succ_cons, List.take_zero, List.reverse_cons, List.reverse_nil, List.nil_append, List.cons_append, List.append_nil, List.map_cons, List.map_nil, List.sum_cons, List.sum_nil, Option.toList_some, Option.toList_none, Option.bind_some, Value.category, decide_eq_true_eq, decide_true, decide_false, if_true, if_false, Bool.false_eq_true, and_self, and_true, true_and, true_or, or_true, not_true_eq_false, not_false_eq_true, ↓reduceIte, reduceCtorEq, Nat.reduceEqDiff, Nat.reduceAdd, Nat.reduceSub, Nat.reduceMul, Nat.reduceLT, Nat.reduceLeDiff, Nat.reduceBEq, Nat.le_refl, Nat.zero_le, Nat.lt_irrefl, beq_self_eq_true, Nat.succ_ne_zero, Option.some.injEq, Prod.mk.injEq, Int32.reduceLT, Int32.reduceLE, le88]
  · rintro d L μ ⟨j, I', hj, rfl, hO, hI, rfl⟩
    refine Or.inr ?_
    have hj8 : j < 8 := by omega
    have hin : ∀ i, inA T (brkS T S j) i = inA T S i := fun i => rfl
    obtain ⟨b1, b2⟩ := brk_rg T S hsd j
    by_cases h : inA T S j = true
    · obtain ⟨h8, hk, -⟩ := rd_cl o h
      have e6 : I' a 6 = nI (brk T S j).1 := hO.2.2.2.2.2.2
      have eb : I' 2 3 = nI (tB T) := hO.2.2.1.1.2.2.2.1
      have e4 : I' (a + 4) j = nI ((brk T S j).2.1 j) := (hO.2.2.2.2.1 j hk).2.2.2
      have hb9 : (brk T S j).2.1 j ≤ 9 := Nat.le_trans (b2 j) (o.2.2.2.1.1 j hk).2.2.2
      have hs' : ((brk T S j).1 * 137 + 71) % 1000 ≤ 999 := by omega
      have u26 : ∀ x, u2 I' a 6 x 2 3 = I' 2 3 := fun x => u2_a (by omega)
      have u4 : ∀ x, u2 I' a 6 x (a + 4) j = I' (a + 4) j := fun x => u2_a (by omega)
      have hcmp : (nI (tB T) ≤ nI (((brk T S j).1 * 137 + 71) % 1000 % 100)) ↔ tB T ≤ ((brk T S j).1 * 137 + 71) % 1000 % 100 := nI_leI (by have := o.2.1.2.2.2.1; omega) (by omega)
      by_cases hbr : ((brk T S j).1 * 137 + 71) % 1000 % 100 < tB T
      · have hbr' : ¬ tB T ≤ ((brk T S j).1 * 137 + 71) % 1000 % 100 := by omega
        have eS : brkS T S (j + 1) = (scl S, shd S, sho S, fun i => if i = j then (brk T S j).2.1 j - 1 else (brk T S j).2.1 i, syr S, ((brk T S j).1 * 137 + 71) % 1000) := by
          unfold brkS
          rw [brk, if_pos h, if_pos hbr]
        have eB : (brk T S (j + 1)).2.2 = (brk T S j).2.2 ||| bit1 (nI j) := by rw [brk, if_pos h, if_pos hbr]
        refine ⟨_, _, ⟨j + 1, u2 (u2 I' a 6 (nI (((brk T S j).1 * 137 + 71) % 1000))) (a + 4) j (nI ((brk T S j).2.1 j - 1)), by omega, rfl, ?_, fun b i h1 h2 => by rw [u2_a h1, u2_a h2]; exact hI b i h1 h2, rfl⟩, fun r => ?_⟩
        · rw [eS]
          obtain ⟨q1, q2, q3, q4, q5⟩ := hO
          refine ⟨q1, q2, TC_of (fun b i h1 h2 _ => by rw [u2_a (by omega), u2_a (by omega)]) q3, ⟨fun i hi => ?_, q4.2.1, hs'⟩, ⟨fun i hi => ?_, ?_, ?_⟩⟩
          · obtain ⟨w1, w2, w3, w4⟩ := q4.1 i hi
            refine ⟨w1, w2, w3, ?_⟩
            show (if i = j then (brk T S j).2.1 j - 1 else (brk T S j).2.1 i) ≤ 9
            have w4 : (brk T S j).2.1 i ≤ 9 := w4
            split <;> omega
          · obtain ⟨w1, w2, w3, w4⟩ := q5.1 i hi
            refine ⟨by rw [u2_a (by omega), u2_a (by omega)]; exact w1, by rw [u2_a (by omega), u2_a (by omega)]; exact w2, by rw [u2_a (by omega), u2_a (by omega)]; exact w3, ?_⟩
            show u2 _ _ _ _ _ _ = nI (if i = j then (brk T S j).2.1 j - 1 else (brk T S j).2.1 i)
            by_cases hij : i = j
            · subst hij
              rw [u2_s, if_pos rfl]
            · rw [u2_j hij, u2_a (by omega), if_neg hij]; exact w4
          · rw [u2_a (by omega), u2_j (by decide)]; exact q5.2.1
          · rw [u2_a (by omega), u2_s]
        · simp only [kX8_breakLamps_4, kX8_breakLamps_51, kX8_breakLamps_83, i_cst, i_ldI, i_ldJ, i_ldA, i_stI, i_stJ, i_stA, i_inc, i_bin, i_dv, i_un, i_i2l, i_bnJ, i_lshl, i_lcmp, i_dup, i_dp2, i_gI, i_gJ, i_gA, i_pI, i_pZ, i_pJ, i_pA, i_al, i_as, i_alJ, i_asJ, i_len, i_c0, i_c2, i_sw, msel, i_cV, i_cS, i_rV, i_rI, i_rZ, i_rJ, i_mm, i_pop, i_no, mpl, mvr, mnw, List.getElem?_cons_zero, List.getElem?_cons_succ, List.set_cons_zero, List.set_cons_succ, List.length_cons, List.length_nil, List.drop_succ_cons, List.drop_zero, List.take_succ_cons, List.take_zero, List.reverse_cons, List.reverse_nil, List.nil_append, List.cons_append, List.append_nil, List.map_cons, List.map_nil, List.sum_cons, List.sum_nil, Option.toList_some, Option.toList_none, Option.bind_some, Value.category, decide_eq_true_eq, decide_true, decide_false, if_true, if_false, Bool.false_eq_true, and_self, and_true, true_and, true_or, or_true, not_true_eq_false, not_false_eq_true, ↓reduceIte, reduceCtorEq, Nat.reduceEqDiff, Nat.reduceAdd, Nat.reduceSub, Nat.reduceMul, Nat.reduceLT, Nat.reduceLeDiff, Nat.reduceBEq, Nat.le_refl, Nat.zero_le, Nat.lt_irrefl, beq_self_eq_true, Nat.succ_ne_zero, Option.some.injEq, Prod.mk.injEq, Int32.reduceLT, Int32.reduceLE, nle8 hj8, y0, r0, r4, y_2, p_isInA n J f hO (show j < 2 ^ 31 by omega), hin, b2i_eq0, h, e6, seed_step b1, uI_mm, u2_s, seed_hund hs', u26, eb, hcmp, hbr', p_bit, p_atN n (a + 4) j (mm (u2 I' a 6 (nI (((brk T S j).1 * 137 + 71) % 1000))) J f) y4 (by decide) hj8, u4, e4, max0 _ hb9, p_setN n (a + 4) j _ (mm (u2 I' a 6 (nI (((brk T S j).1 * 137 + 71) % 1000))) J f) y4 (by decide) hj8, nI_1, eB, show ¬ (1000 : Int32) = 0 by decide, show ¬ (100 : Int32) = 0 by decide]
      · have hbr' : tB T ≤ ((brk T S j).1 * 137 + 71) % 1000 % 100 := by omega
        have eS : brkS T S (j + 1) = (scl S, shd S, sho S, (brk T S j).2.1, syr S, ((brk T S j).1 * 137 + 71) % 1000) := by
          unfold brkS
          rw [brk, if_pos h, if_neg hbr]
        have eB : (brk T S (j + 1)).2.2 = (brk T S j).2.2 := by rw [brk, if_pos h, if_neg hbr]
        refine ⟨_, _, ⟨j + 1, u2 I' a 6 (nI (((brk T S j).1 * 137 + 71) % 1000)), by omega, rfl, ?_, fun b i h1 h2 => by rw [u2_a h2]; exact hI b i h1 h2, rfl⟩, fun r => ?_⟩
        · rw [eS]
          obtain ⟨q1, q2, q3, q4, q5⟩ := hO
          refine ⟨q1, q2, TC_of (fun b i h1 h2 _ => by rw [u2_a (by omega)]) q3, ⟨q4.1, q4.2.1, hs'⟩, ⟨fun i hi => ?_, ?_, ?_⟩⟩
          · rw [u2_a (by omega), u2_a (by omega), u2_a (by omega), u2_a (by omega)]; exact q5.1 i hi
          · rw [u2_j (by decide)]; exact q5.2.1
          · rw [u2_s]
        · simp only [kX8_breakLamps_4, kX8_breakLamps_51, kX8_breakLamps_83, i_cst, i_ldI, i_ldJ, i_ldA, i_stI, i_stJ, i_stA, i_inc, i_bin, i_dv, i_un, i_i2l, i_bnJ, i_lshl, i_lcmp, i_dup, i_dp2, i_gI, i_gJ, i_gA, i_pI, i_pZ, i_pJ, i_pA, i_al, i_as, i_alJ, i_asJ, i_len, i_c0, i_c2, i_sw, msel, i_cV, i_cS, i_rV, i_rI, i_rZ, i_rJ, i_mm, i_pop, i_no, mpl, mvr, mnw, List.getElem?_cons_zero, List.getElem?_cons_succ, List.set_cons_zero, List.set_cons_succ, List.length_cons, List.length_nil, List.drop_succ_cons, List.drop_zero, List.take_succ_cons, List.take_zero, List.reverse_cons, List.reverse_nil, List.nil_append, List.cons_append, List.append_nil, List.map_cons, List.map_nil, List.sum_cons, List.sum_nil, Option.toList_some, Option.toList_none, Option.bind_some, Value.category, decide_eq_true_eq, decide_true, decide_false, if_true, if_false, Bool.false_eq_true, and_self, and_true, true_and, true_or, or_true, not_true_eq_false, not_false_eq_true, ↓reduceIte, reduceCtorEq, Nat.reduceEqDiff, Nat.reduceAdd, Nat.reduceSub, Nat.reduceMul, Nat.reduceLT, Nat.reduceLeDiff, Nat.reduceBEq, Nat.le_refl, Nat.zero_le, Nat.lt_irrefl, beq_self_eq_true, Nat.succ_ne_zero, Option.some.injEq, Prod.mk.injEq, Int32.reduceLT, Int32.reduceLE, nle8 hj8, y0, r0, r4, y_2, p_isInA n J f hO (show j < 2 ^ 31 by omega), hin, b2i_eq0, h, e6, seed_step b1, uI_mm, u2_s, seed_hund hs', u26, eb, hcmp, hbr', nI_1, eB, show ¬ (1000 : Int32) = 0 by decide, show ¬ (100 : Int32) = 0 by decide]
    · have eS : brk T S (j + 1) = brk T S j := by rw [brk, if_neg h]
      refine ⟨_, _, ⟨j + 1, I', by omega, rfl, ?_, hI, rfl⟩, fun r => ?_⟩
      · unfold brkS; rw [eS]; exact hO
      · simp only [kX8_breakLamps_4, kX8_breakLamps_83, i_cst, i_ldI, i_ldJ, i_ldA, i_stI, i_stJ, i_stA, i_inc, i_bin, i_dv, i_un, i_i2l, i_bnJ, i_lshl, i_lcmp, i_dup, i_dp2, i_gI, i_gJ, i_gA, i_pI, i_pZ, i_pJ, i_pA, i_al, i_as, i_alJ, i_asJ, i_len, i_c0, i_c2, i_sw, msel, i_cV, i_cS, i_rV, i_rI, i_rZ, i_rJ, i_mm, i_pop, i_no, mpl, mvr, mnw, List.getElem?_cons_zero, List.getElem?_cons_succ, List.set_cons_zero, List.set_cons_succ, List.length_cons, List.length_nil, List.drop_succ_cons, List.drop_zero, List.take_succ_cons, List.take_zero, List.reverse_cons, List.reverse_nil, List.nil_append, List.cons_append, List.append_nil, List.map_cons, List.map_nil, List.sum_cons, List.sum_nil, Option.toList_some, Option.toList_none, Option.bind_some, Value.category, decide_eq_true_eq, decide_true, decide_false, if_true, if_false, Bool.false_eq_true, and_self, and_true, true_and, true_or, or_true, not_true_eq_false, not_false_eq_true, ↓reduceIte, reduceCtorEq, Nat.reduceEqDiff, Nat.reduceAdd, Nat.reduceSub, Nat.reduceMul, Nat.reduceLT, Nat.reduceLeDiff, Nat.reduceBEq, Nat.le_refl, Nat.zero_le, Nat.lt_irrefl, beq_self_eq_true, Nat.succ_ne_zero, Option.some.injEq, Prod.mk.injEq, Int32.reduceLT, Int32.reduceLE, nle8 hj8, y0, p_isInA n J f hO (show j < 2 ^ 31 by omega), hin, b2i_eq0, h, nI_1, eS]
/-- what a street's t-th number is, as it is kept -/
def src (I : Nat → Nat → Int32) (t : Nat) : Int32 := if t < 32 then I (30 + t % 4) (t / 4) else if t = 32 then I 29 5 else I 29 6
def sv (I : Nat → Nat → Int32) (d q m : Nat) : Nat → Nat → Int32 := fun b i => if b = d ∧ q ≤ i ∧ i < q + m then src I (i - q) else I b i
theorem sv_step (I : Nat → Nat → Int32) (d q m : Nat) : u2 (sv I d q m) d (q + m) (src I m) = sv I d q (m + 1) := by
  funext b i
  unfold u2 sv
  by_cases hb : b = d
  · by_cases hi : i = q + m
    · subst hi
      simp [hb]
    · by_cases h2 : q ≤ i ∧ i < q + m
      · have : q ≤ i ∧ i < q + (m + 1) := by omega
        simp [hb, hi, h2, this]
      · have : ¬ (q ≤ i ∧ i < q + (m + 1)) := by omega
        simp [hb, hi, h2, this]
  · simp [hb]
theorem sv_o {d q m b i : Nat} (h : b ≠ d) : sv I d q m b i = I b i := by simp [sv, h]
theorem src4 (I : Nat → Nat → Int32) {j : Nat} (hj : j < 8) : src I (4 * j) = I 30 j ∧ src I (4 * j + 1) = I 31 j ∧ src I (4 * j + 2) = I 32 j ∧ src I (4 * j + 3) = I 33 j := by
  unfold src
  refine ⟨?_, ?_, ?_, ?_⟩ <;> rw [if_pos (by omega)] <;> congr 1 <;> omega
set_option maxHeartbeats 8000000 in
theorem p_save {d N : Nat} (hn : 8 < n) (hd : LAY[d]? = some (0, N)) (hd2 : d = 45 ∨ d = 58) (J : Nat → Nat → Int64) (f : Nat) (I : Nat → Nat → Int32) {q : Nat} (hq : q + 34 ≤ N) (hN : N < 2000) : FX8_save n [.ref 29, .ref d, .int (nI q)] (mm I J f) = some (none, mm (sv I d q 34) J f) := by
  simp only [eX8_save, kX8_save_0, i_cst, i_ldI, i_ldJ, i_ldA, i_stI, i_stJ, i_stA, i_inc, i_bin, i_dv, i_un, i_i2l, i_bnJ, i_lshl, i_lcmp, i_dup, i_dp2, i_gI, i_gJ, i_gA, i_pI, i_pZ, i_pJ, i_pA, i_al, i_as, i_alJ, i_asJ, i_len, i_c0, i_c2, i_sw, msel, i_cV, i_cS, i_rV, i_rI, i_rZ, i_rJ, i_mm, i_pop, i_no, mpl, mvr, mnw, List.getElem?_cons_zero, List.getElem?_cons_succ, List.set_cons_zero, List.set_cons_succ, List.length_cons, List.length_nil, List.drop_succ_cons, List.drop_zero, List.take_succ_cons, List.take_zero, List.reverse_cons, List.reverse_nil, List.nil_append, List.cons_append, List.append_nil, List.map_cons, List.map_nil, List.sum_cons, List.sum_nil, Option.toList_some, Option.toList_none, Option.bind_some, Value.category, decide_eq_true_eq, decide_true, decide_false, if_true, if_false, Bool.false_eq_true, and_self, and_true, true_and, true_or, or_true, not_true_eq_false, not_false_eq_true, ↓reduceIte, reduceCtorEq, Nat.reduceEqDiff, Nat.reduceAdd, Nat.reduceSub, Nat.reduceMul, Nat.reduceLT, Nat.reduceLeDiff, Nat.reduceBEq, Nat.le_refl, Nat.zero_le, Nat.lt_irrefl, beq_self_eq_true, Nat.succ_ne_zero, Option.some.injEq, Prod.mk.injEq, Int32.reduceLT, Int32.reduceLE]
  have e0 : mm I J f = mm (sv I d q (4 * 0)) J f := by
    have : sv I d q (4 * 0) = I := by
      funext b i
      simp only [sv]
      rw [if_neg (by omega)]
    rw [this]
  rw [e0]
  have n30 : 30 ≠ d := by omega
  have n31 : 31 ≠ d := by omega
  have n32 : 32 ≠ d := by omega
  have n33 : 33 ≠ d := by omega
  have n29 : 29 ≠ d := by omega
  refine mit_for (fun j => [some (.ref 29), some (.ref d), some (.int (nI q)), some (.int (nI j)), if j = 0 then none else some (.int (nI (q + 4 * (j - 1))))]) (fun j => mm (sv I d q (4 * j)) J f) (B := 8) (fun j hj r => ?_) hn (fun r => ?_)
  · obtain ⟨s0, s1, s2, s3⟩ := src4 I hj
    have t0 := sv_step I d q (4 * j)
    have t1 := sv_step I d q (4 * j + 1)
    have t2 := sv_step I d q (4 * j + 2)
    have t3 := sv_step I d q (4 * j + 3)
    rw [s0] at t0
    rw [s1] at t1
    rw [s2] at t2
    rw [s3] at t3
    have f0 : nI q + 4 * nI j = nI (q + 4 * j) := by rw [mulL 4 4 j rfl, nI_add]
    have j1 : (if j + 1 = 0 then none else some (Value.int (nI (q + 4 * (j + 1 - 1))))) = some (Value.int (nI (q + 4 * j))) := by simp
    simp only [kX8_save_2, kX8_save_42, i_cst, i_ldI, i_ldJ, i_ldA, i_stI, i_stJ, i_stA, i_inc, i_bin, i_dv, i_un, i_i2l, i_bnJ, i_lshl, i_lcmp, i_dup, i_dp2, i_gI, i_gJ, i_gA, i_pI, i_pZ, i_pJ, i_pA, i_al, i_as, i_alJ, i_asJ, i_len, i_c0, i_c2, i_sw, msel, i_cV, i_cS, i_rV, i_rI, i_rZ, i_rJ, i_mm, i_pop, i_no, mpl, mvr, mnw, List.getElem?_cons_zero, List.getElem?_cons_succ, List.set_cons_zero, List.set_cons_succ, List.length_cons, List.length_nil, List.drop_succ_cons, List.drop_zero, List.take_succ_cons, List.take_zero, List.reverse_cons, List.reverse_nil, List.nil_append, List.cons_append, List.append_nil, List.map_cons, List.map_nil, List.sum_cons, List.sum_nil, Option.toList_some, Option.toList_none, Option.bind_some, Value.category, decide_eq_true_eq, decide_true, decide_false, if_true, if_false, Bool.false_eq_true, and_self, and_true, true_and, true_or, or_true, not_true_eq_false, not_false_eq_true, ↓reduceIte, reduceCtorEq, Nat.reduceEqDiff, Nat.reduceAdd, Nat.reduceSub, Nat.reduceMul, Nat.reduceLT, Nat.reduceLeDiff, Nat.reduceBEq, Nat.le_refl, Nat.zero_le, Nat.lt_irrefl, beq_self_eq_true, Nat.succ_ne_zero, Option.some.injEq, Prod.mk.injEq, Int32.reduceLT, Int32.reduceLE, nle8 hj, y_29, rt_29_1, rt_29_2, rt_29_3, rt_29_4, f0, addL 1 1 _ rfl, addL 2 2 _ rfl, addL 3 3 _ rfl,
      p_atN n 30 j (mm (sv I d q (4 * j)) J f) y_30 (by decide) hj, sv_o n30, p_setN n d (q + 4 * j) _ (mm (sv I d q (4 * j)) J f) hd (by omega) (show q + 4 * j < N by omega), uI_mm, t0,
      p_atN n 31 j (mm (sv I d q (4 * j + 1)) J f) y_31 (by decide) hj, sv_o n31, Nat.add_assoc, p_setN n d (q + (4 * j + 1)) _ (mm (sv I d q (4 * j + 1)) J f) hd (by omega) (show q + (4 * j + 1) < N by omega), t1,
      p_atN n 32 j (mm (sv I d q (4 * j + 2)) J f) y_32 (by decide) hj, sv_o n32, p_setN n d (q + (4 * j + 2)) _ (mm (sv I d q (4 * j + 2)) J f) hd (by omega) (show q + (4 * j + 2) < N by omega), t2,
      p_atN n 33 j (mm (sv I d q (4 * j + 3)) J f) y_33 (by decide) hj, sv_o n33, p_setN n d (q + (4 * j + 3)) _ (mm (sv I d q (4 * j + 3)) J f) hd (by omega) (show q + (4 * j + 3) < N by omega), t3, j1]
    rw [show 4 * (j + 1) = 4 * j + (3 + 1) by omega]
    rfl
  · have t0 := sv_step I d q 32
    have t1 := sv_step I d q 33
    have s0 : src I 32 = I 29 5 := rfl
    have s1 : src I 33 = I 29 6 := rfl
    rw [s0] at t0
    rw [s1] at t1
    simp only [kX8_save_2, i_cst, i_ldI, i_ldJ, i_ldA, i_stI, i_stJ, i_stA, i_inc, i_bin, i_dv, i_un, i_i2l, i_bnJ, i_lshl, i_lcmp, i_dup, i_dp2, i_gI, i_gJ, i_gA, i_pI, i_pZ, i_pJ, i_pA, i_al, i_as, i_alJ, i_asJ, i_len, i_c0, i_c2, i_sw, msel, i_cV, i_cS, i_rV, i_rI, i_rZ, i_rJ, i_mm, i_pop, i_no, mpl, mvr, mnw, List.getElem?_cons_zero, List.getElem?_cons_succ, List.set_cons_zero, List.set_cons_succ, List.length_cons, List.length_nil, List.drop_succ_cons, List.drop_zero, List.take_succ_cons, List.take_zero, List.reverse_cons, List.reverse_nil, List.nil_append, List.cons_append, List.append_nil, List.map_cons, List.map_nil, List.sum_cons, List.sum_nil, Option.toList_some, Option.toList_none, Option.bind_some, Value.category, decide_eq_true_eq, decide_true, decide_false, if_true, if_false, Bool.false_eq_true, and_self, and_true, true_and, true_or, or_true, not_true_eq_false, not_false_eq_true, ↓reduceIte, reduceCtorEq, Nat.reduceEqDiff, Nat.reduceAdd, Nat.reduceSub, Nat.reduceMul, Nat.reduceLT, Nat.reduceLeDiff, Nat.reduceBEq, Nat.le_refl, Nat.zero_le, Nat.lt_irrefl, beq_self_eq_true, Nat.succ_ne_zero, Option.some.injEq, Prod.mk.injEq, Int32.reduceLT, Int32.reduceLE, le88, y_29, addL 32 32 _ rfl, addL 1 1 _ rfl, show 4 * 8 = 32 from rfl, sv_o n29, Nat.add_assoc, Nat.reduceAdd, p_setN n d (q + 32) _ (mm (sv I d q 32) J f) hd (by omega) (show q + 32 < N by omega), uI_mm, t0, p_setN n d (q + 33) _ (mm (sv I d q 33) J f) hd (by omega) (show q + 33 < N by omega), t1]
end Street3
