/-! PURE: the class: heard, untell, later, fits, sure, ask -/
def FitC (I : Nat → Nat → Int32) (l : List Nat) : Prop := I 46 11 = nI l.length ∧ l.length ≤ 100 ∧ ∀ i, i < l.length → I 53 i = nI (l.getD i 0)
theorem HEC_of {I I' : Nat → Nat → Int32} {i : Nat} {e : HE} (h : HEC I i e) (hI : ∀ b j, 47 ≤ b → b ≤ 51 → I' b j = I b j) : HEC I' i e := by
  obtain ⟨h1, h2, h3, h4, h5⟩ := h
  refine ⟨?_, ?_, ?_, ?_, ?_⟩ <;> rw [hI _ _ (by decide) (by decide)] <;> assumption
/-- the most of those below k -/
def mx (c : Nat → Nat) : Nat → Nat
  | 0 => 0
  | i + 1 => if mx c i < c i then c i else mx c i
theorem mx_ge (c : Nat → Nat) : ∀ k i, i < k → c i ≤ mx c k := by
  intro k
  induction k with
  | zero => intro i h; omega
  | succ k ih =>
    intro i hi
    unfold mx
    by_cases e : i = k
    · subst e; split <;> omega
    · have := ih i (by omega)
      split <;> omega
theorem mx_le (c : Nat → Nat) (b : Nat) : ∀ k, (∀ i, i < k → c i ≤ b) → mx c k ≤ b := by
  intro k
  induction k with
  | zero => intro _; exact Nat.zero_le _
  | succ k ih =>
    intro h
    have h1 := h k (by omega)
    have h2 := ih (fun i hi => h i (by omega))
    unfold mx
    split <;> omega
theorem mx_mono (c : Nat → Nat) (k d : Nat) : mx c k ≤ mx c (k + d) := mx_le c _ k (fun i hi => mx_ge c (k + d) i (by omega))
def smE (T : TA) (l : List Nat) (b i j : Nat) : Bool := decide (tabW T (l.getD j 0) b = tabW T (l.getD i 0) b)
def cF (T : TA) (l : List Nat) (b i : Nat) : Nat := cn (fun j => decide (i ≤ j) && smE T l b i j) l.length
def tF2 (T : TA) (l : List Nat) (b i : Nat) : Nat := cn (smE T l b i) l.length
def maF (T : TA) (l : List Nat) (b : Nat) : Nat := mx (tF2 T l b) l.length
theorem mx_cF (T : TA) (l : List Nat) (b : Nat) : mx (cF T l b) l.length = maF T l b := by
  apply Nat.le_antisymm
  · apply mx_le
    intro i hi
    refine Nat.le_trans ?_ (mx_ge (tF2 T l b) l.length i hi)
    exact cn_le_of _ (fun j _ h => by simp only [Bool.and_eq_true] at h; exact h.2)
  · apply mx_le
    intro i hi
    -- the first one alike
    cases e : ffd (smE T l b i) 0 l.length with
    | none =>
      have := ffd_none _ 0 e i (by omega) (by omega)
      simp [smE] at this
    | some i0 =>
      obtain ⟨_, h2, h3, h4⟩ := ffd_some _ 0 i0 e
      have hv : tabW T (l.getD i0 0) b = tabW T (l.getD i 0) b := by simpa [smE] using h3
      have : tF2 T l b i = cF T l b i0 := by
        unfold tF2 cF
        apply cn_congr
        intro j hj
        by_cases hji : i0 ≤ j
        · simp only [hji, decide_true, Bool.true_and, smE, hv]
        · rw [h4 j (by omega) (by omega)]
          simp [hji]
      rw [this]
      exact mx_ge (cF T l b) l.length i0 (by omega)
def ak (T : TA) (l : List Nat) : Nat → Nat × Nat
  | 0 => (0, 101)
  | b + 1 => if maF T l b < (ak T l b).2 then (b, maF T l b) else ak T l b
section Hear2
variable {n : Nat} {I : Nat → Nat → Int32} {T : TA} {Hd : List HE} {tm : Nat}
set_option maxHeartbeats 8000000 in
theorem p_countFits (hn : 300 < n) (J : Nat → Nat → Int64) (f : Nat) (ht : TRg T) (hT : TC I T) (hk : 0 < tk T) (hH : HC I T Hd tm) (k : Int32) : ∃ I', FX2_countFits n [.ref 46, .int k] (mm I J f) = some (some (.int (nI (cn (hFit T Hd k) 100))), mm I' J f) ∧ TabC I' T ∧ FitC I' (fl (hFit T Hd k) 100) ∧ HC I' T Hd tm ∧ HF I I' := by
  obtain ⟨hl, h6, ⟨h7, h7b⟩, hE, hTab⟩ := hH
  have hT0 : TC (u2 I 46 11 0) T := TC_of (fun b j a1 a2 a3 => u2_a (by omega)) hT
  have e22 : u2 I 46 11 0 2 2 = nI (tk T) := hT0.1.2.2.1
  have c0 : ¬ nI (tk T) = 0 := nI_ne0 hk (by have := ht.1; omega)
  obtain ⟨I1, g1, g2, g3, g4⟩ := p_makeTable hn J f ht hT0 hk (by
    rcases hTab with h | h
    · exact Or.inl (by rw [u2_j (by decide)]; exact h)
    · exact Or.inr (fun y z hy hz => by rw [u2_a (by decide)]; exact h y z hy hz))
  simp only [eX2_countFits, kX2_countFits_0, i_cst, i_ldI, i_ldJ, i_ldA, i_stI, i_stJ, i_stA, i_inc, i_bin, i_dv, i_un, i_i2l, i_bnJ, i_lshl, i_lcmp, i_dup, i_dp2, i_gI, i_gJ, i_gA, i_pI, i_pZ, i_pJ, i_pA, i_al, i_as, i_alJ, i_asJ, i_len, i_c0, i_c2, i_sw, msel, i_cV, i_cS, i_rV, i_rI, i_rZ, i_rJ, i_mm, i_pop, i_no, mpl, mvr, mnw, List.getElem?_cons_zero, List.getElem?_cons_succ, List.set_cons_zero, List.set_cons_succ, List.length_cons, List.length_nil, List.drop_succ_cons, List.drop_zero, List.take_succ_cons, List.take_zero, List.reverse_cons, List.reverse_nil, List.nil_append, List.cons_append, List.append_nil, List.map_cons, List.map_nil, List.sum_cons, List.sum_nil, Option.toList_some, Option.toList_none, Option.bind_some, Value.category, decide_eq_true_eq, decide_true, decide_false, if_true, if_false, Bool.false_eq_true, and_self, and_true, true_and, true_or, or_true, not_true_eq_false, not_false_eq_true, ↓reduceIte, reduceCtorEq, Nat.reduceEqDiff, Nat.reduceAdd, Nat.reduceSub, Nat.reduceMul, Nat.reduceLT, Nat.reduceLeDiff, Nat.reduceBEq, Nat.le_refl, Nat.zero_le, Nat.lt_irrefl, beq_self_eq_true, Nat.succ_ne_zero, Option.some.injEq, Prod.mk.injEq, Int32.reduceLT, Int32.reduceLE, y_46, y_2, rt_46_0, uI_mm, e22, c0, g1]
  refine mit_ind (G := kX2_countFits_23 n) (fun d L μ => ∃ (h : Nat) (I' : Nat → Nat → Int32), h + d = 100 ∧ μ = mm I' J f ∧ FitC I' (fl (hFit T Hd k) h) ∧ (∀ j, j ≠ 11 → I' 46 j = I1 46 j) ∧ (∀ b j, b ≠ 46 → b ≠ 53 → I' b j = I1 b j) ∧ L = [some (.ref 46), some (.int k), some (.int (nI h))]) (fun v => ∃ I', v = some (some (.int (nI (cn (hFit T Hd k) 100))), mm I' J f) ∧ TabC I' T ∧ FitC I' (fl (hFit T Hd k) 100) ∧ HC I' T Hd tm ∧ HF I I') ?_ ?_ 100 n _ _ (by omega) ⟨0, I1, rfl, rfl, ⟨by rw [g3 11 (by decide), u2_s]; rfl, by simp [fl], fun i hi => by simp [fl] at hi⟩, fun _ _ => rfl, fun _ _ _ _ => rfl, rfl⟩
  · rintro L μ ⟨h, I', hh, rfl, hFi, a1, a2, rfl⟩
    have : h = 100 := by omega
    subst this
    have hTab' : TabC I' T := fun y z hy hz => by rw [a2 52 _ (by decide) (by decide)]; exact g2 y z hy hz
    refine ⟨_, fun r => ?_, I', rfl, hTab', hFi, ⟨hl, ?_, ⟨?_, h7b⟩, fun i hi => ?_, Or.inr hTab'⟩, fun b j b1 b2 b3 b4 b5 => ?_⟩
    · simp only [kX2_countFits_23, i_cst, i_ldI, i_ldJ, i_ldA, i_stI, i_stJ, i_stA, i_inc, i_bin, i_dv, i_un, i_i2l, i_bnJ, i_lshl, i_lcmp, i_dup, i_dp2, i_gI, i_gJ, i_gA, i_pI, i_pZ, i_pJ, i_pA, i_al, i_as, i_alJ, i_asJ, i_len, i_c0, i_c2, i_sw, msel, i_cV, i_cS, i_rV, i_rI, i_rZ, i_rJ, i_mm, i_pop, i_no, mpl, mvr, mnw, List.getElem?_cons_zero, List.getElem?_cons_succ, List.set_cons_zero, List.set_cons_succ, List.length_cons, List.length_nil, List.drop_succ_cons, List.drop_zero, List.take_succ_cons, List.take_zero, List.reverse_cons, List.reverse_nil, List.nil_append, List.cons_append, List.append_nil, List.map_cons, List.map_nil, List.sum_cons, List.sum_nil, Option.toList_some, Option.toList_none, Option.bind_some, Value.category, decide_eq_true_eq, decide_true, decide_false, if_true, if_false, Bool.false_eq_true, and_self, and_true, true_and, true_or, or_true, not_true_eq_false, not_false_eq_true, ↓reduceIte, reduceCtorEq, Nat.reduceEqDiff, Nat.reduceAdd, Nat.reduceSub, Nat.reduceMul, Nat.reduceLT, Nat.reduceLeDiff, Nat.reduceBEq, Nat.le_refl, Nat.zero_le, Nat.lt_irrefl, beq_self_eq_true, Nat.succ_ne_zero, Option.some.injEq, Prod.mk.injEq, Int32.reduceLT, Int32.reduceLE, show (100 : Int32) ≤ nI 100 by decide, y_46, hFi.1, fl_len]
    · rw [a1 6 (by decide), g3 6 (by decide), u2_j (by decide)]; exact h6
    · rw [a1 7 (by decide), g3 7 (by decide), u2_j (by decide)]; exact h7
    · exact HEC_of (hE i hi) (fun b j b1 b2 => by rw [a2 b j (by omega) (by omega), g4 b j (by omega) (by omega) (by omega) (by omega), u2_a (by omega)])
    · rw [a2 b j b3 b5, g4 b j b1 b2 b3 b4, u2_a b3]
  · rintro d L μ ⟨h, I', hh, rfl, hFi, a1, a2, rfl⟩
    refine Or.inr ?_
    have hh100 : h < 100 := by omega
    have c1 : ¬ (100 : Int32) ≤ nI h := lit_nle (k := 100) rfl (by decide) hh100
    have hTab' : TabC I' T := fun y z hy hz => by rw [a2 52 _ (by decide) (by decide)]; exact g2 y z hy hz
    have hfa := p_fitsAll hn J f hTab' hl (by rw [a1 6 (by decide), g3 6 (by decide), u2_j (by decide)]; exact h6) (fun i hi => HEC_of (hE i hi) (fun b j b1 b2 => by rw [a2 b j (by omega) (by omega), g4 b j (by omega) (by omega) (by omega) (by omega), u2_a (by omega)])) hh100 k
    have hlen := fl_len (hFit T Hd k) h
    have hcl := cn_le (hFit T Hd k) h
    by_cases e : hFit T Hd k h = true
    · have ev : fl (hFit T Hd k) (h + 1) = fl (hFit T Hd k) h ++ [h] := by rw [fl, if_pos e]
      refine ⟨_, _, ⟨h + 1, u2 (u2 I' 53 (fl (hFit T Hd k) h).length (nI h)) 46 11 (nI ((fl (hFit T Hd k) h).length + 1)), by omega, rfl, ?_, fun j hj => by rw [u2_j hj, u2_a (by decide)]; exact a1 j hj, fun b j b1 b2 => by rw [u2_a b1, u2_a b2]; exact a2 b j b1 b2, rfl⟩, fun r => ?_⟩
      · rw [ev]
        refine ⟨by rw [u2_s]; simp, by simp; omega, fun i hi => ?_⟩
        rw [u2_a (by decide), getD_app]
        simp only [List.length_append, List.length_cons, List.length_nil] at hi
        by_cases e2 : i = (fl (hFit T Hd k) h).length
        · subst e2; rw [u2_s, if_pos rfl]
        · rw [u2_j e2, if_neg e2]; exact hFi.2.2 i (by omega)
      · have f1 : ∀ x i, u2 I' 53 (fl (hFit T Hd k) h).length x 46 i = I' 46 i := fun x i => u2_a (by decide)
        simp only [kX2_countFits_23, kX2_countFits_60, i_cst, i_ldI, i_ldJ, i_ldA, i_stI, i_stJ, i_stA, i_inc, i_bin, i_dv, i_un, i_i2l, i_bnJ, i_lshl, i_lcmp, i_dup, i_dp2, i_gI, i_gJ, i_gA, i_pI, i_pZ, i_pJ, i_pA, i_al, i_as, i_alJ, i_asJ, i_len, i_c0, i_c2, i_sw, msel, i_cV, i_cS, i_rV, i_rI, i_rZ, i_rJ, i_mm, i_pop, i_no, mpl, mvr, mnw, List.getElem?_cons_zero, List.getElem?_cons_succ, List.set_cons_zero, List.set_cons_succ, List.length_cons, List.length_nil, List.drop_succ_cons, List.drop_zero, List.take_succ_cons, List.take_zero, List.reverse_cons, List.reverse_nil, List.nil_append, List.cons_append, List.append_nil, List.map_cons, List.map_nil, List.sum_cons, List.sum_nil, Option.toList_some, Option.toList_none, Option.bind_some, Value.category, decide_eq_true_eq, decide_true, decide_false, if_true, if_false, Bool.false_eq_true, and_self, and_true, true_and, true_or, or_true, not_true_eq_false, not_false_eq_true, ↓reduceIte, reduceCtorEq, Nat.reduceEqDiff, Nat.reduceAdd, Nat.reduceSub, Nat.reduceMul, Nat.reduceLT, Nat.reduceLeDiff, Nat.reduceBEq, Nat.le_refl, Nat.zero_le, Nat.lt_irrefl, beq_self_eq_true, Nat.succ_ne_zero, Option.some.injEq, Prod.mk.injEq, Int32.reduceLT, Int32.reduceLE, c1, y_46, rt_46_10, hfa, b2i_eq0, e, hFi.1, p_setN n 53 (fl (hFit T Hd k) h).length _ (mm I' J f) y_53 (by decide) (show (fl (hFit T Hd k) h).length < 100 by omega), uI_mm, f1, nI_1]
    · have ev : fl (hFit T Hd k) (h + 1) = fl (hFit T Hd k) h := by rw [fl, if_neg e]
      refine ⟨_, _, ⟨h + 1, I', by omega, rfl, by rw [ev]; exact hFi, a1, a2, rfl⟩, fun r => ?_⟩
      simp only [kX2_countFits_23, kX2_countFits_60, i_cst, i_ldI, i_ldJ, i_ldA, i_stI, i_stJ, i_stA, i_inc, i_bin, i_dv, i_un, i_i2l, i_bnJ, i_lshl, i_lcmp, i_dup, i_dp2, i_gI, i_gJ, i_gA, i_pI, i_pZ, i_pJ, i_pA, i_al, i_as, i_alJ, i_asJ, i_len, i_c0, i_c2, i_sw, msel, i_cV, i_cS, i_rV, i_rI, i_rZ, i_rJ, i_mm, i_pop, i_no, mpl, mvr, mnw, List.getElem?_cons_zero, List.getElem?_cons_succ, List.set_cons_zero, List.set_cons_succ, List.length_cons, List.length_nil, List.drop_succ_cons, List.drop_zero, List.take_succ_cons, List.take_zero, List.reverse_cons, List.reverse_nil, List.nil_append, List.cons_append, List.append_nil, List.map_cons, List.map_nil, List.sum_cons, List.sum_nil, Option.toList_some, Option.toList_none, Option.bind_some, Value.category, decide_eq_true_eq, decide_true, decide_false, if_true, if_false, Bool.false_eq_true, and_self, and_true, true_and, true_or, or_true, not_true_eq_false, not_false_eq_true, ↓reduceIte, reduceCtorEq, Nat.reduceEqDiff, Nat.reduceAdd, Nat.reduceSub, Nat.reduceMul, Nat.reduceLT, Nat.reduceLeDiff, Nat.reduceBEq, Nat.le_refl, Nat.zero_le, Nat.lt_irrefl, beq_self_eq_true, Nat.succ_ne_zero, Option.some.injEq, Prod.mk.injEq, Int32.reduceLT, Int32.reduceLE, c1, y_46, hfa, b2i_eq0, e, nI_1]
set_option maxHeartbeats 4000000 in
theorem p_countFits0 (n : Nat) (J : Nat → Nat → Int64) (f : Nat) (hT : TC I T) (hk : tk T = 0) (k : Int32) : FX2_countFits n [.ref 46, .int k] (mm I J f) = some (some (.int 0), mm (u2 I 46 11 0) J f) := by
  have hT0 : TC (u2 I 46 11 0) T := TC_of (fun b j a1 a2 a3 => u2_a (by omega)) hT
  have e22 : u2 I 46 11 0 2 2 = 0 := by rw [hT0.1.2.2.1, hk]; rfl
  simp only [eX2_countFits, kX2_countFits_0, i_cst, i_ldI, i_ldJ, i_ldA, i_stI, i_stJ, i_stA, i_inc, i_bin, i_dv, i_un, i_i2l, i_bnJ, i_lshl, i_lcmp, i_dup, i_dp2, i_gI, i_gJ, i_gA, i_pI, i_pZ, i_pJ, i_pA, i_al, i_as, i_alJ, i_asJ, i_len, i_c0, i_c2, i_sw, msel, i_cV, i_cS, i_rV, i_rI, i_rZ, i_rJ, i_mm, i_pop, i_no, mpl, mvr, mnw, List.getElem?_cons_zero, List.getElem?_cons_succ, List.set_cons_zero, List.set_cons_succ, List.length_cons, List.length_nil, List.drop_succ_cons, List.drop_zero, List.take_succ_cons, List.take_zero, List.reverse_cons, List.reverse_nil, List.nil_append, List.cons_append, List.append_nil, List.map_cons, List.map_nil, List.sum_cons, List.sum_nil, Option.toList_some, Option.toList_none, Option.bind_some, Value.category, decide_eq_true_eq, decide_true, decide_false, if_true, if_false, Bool.false_eq_true, and_self, and_true, true_and, true_or, or_true, not_true_eq_false, not_false_eq_true, ↓reduceIte, reduceCtorEq, Nat.reduceEqDiff, Nat.reduceAdd, Nat.reduceSub, Nat.reduceMul, Nat.reduceLT, Nat.reduceLeDiff, Nat.reduceBEq, Nat.le_refl, Nat.zero_le, Nat.lt_irrefl, beq_self_eq_true, Nat.succ_ne_zero, Option.some.injEq, Prod.mk.injEq, Int32.reduceLT, Int32.reduceLE, y_46, y_2, rt_46_0, uI_mm, e22]
theorem HC_11 (hH : HC I T Hd tm) : HC (u2 I 46 11 0) T Hd tm := by
  obtain ⟨hl, h6, ⟨h7, h7b⟩, hE, hTab⟩ := hH
  refine ⟨hl, by rw [u2_j (by decide)]; exact h6, ⟨by rw [u2_j (by decide)]; exact h7, h7b⟩, fun i hi => HEC_of (hE i hi) (fun b j b1 b2 => u2_a (by omega)), ?_⟩
  rcases hTab with h | h
  · exact Or.inl (by rw [u2_j (by decide)]; exact h)
  · exact Or.inr (fun y z hy hz => by rw [u2_a (by decide)]; exact h y z hy hz)
def aFits (T : TA) (Hd : List HE) (k : Int32) : Int32 := if tk T = 0 then 0 else nI (cn (hFit T Hd k) 100)
set_option maxHeartbeats 4000000 in
theorem c_fits (hn : 300 < n) (J : Nat → Nat → Int64) (f : Nat) (ht : TRg T) (hT : TC I T) (hH : HC I T Hd tm) (k : Int32) : ∃ I', FX11_fits n [.ref 0, .int k] (mm I J f) = some (some (.int (aFits T Hd k)), mm I' J f) ∧ HC I' T Hd tm ∧ HF I I' := by
  by_cases hk : tk T = 0
  · refine ⟨u2 I 46 11 0, ?_, HC_11 hH, fun b j _ _ h _ _ => u2_a h⟩
    simp only [eX11_fits, kX11_fits_0, i_cst, i_ldI, i_ldJ, i_ldA, i_stI, i_stJ, i_stA, i_inc, i_bin, i_dv, i_un, i_i2l, i_bnJ, i_lshl, i_lcmp, i_dup, i_dp2, i_gI, i_gJ, i_gA, i_pI, i_pZ, i_pJ, i_pA, i_al, i_as, i_alJ, i_asJ, i_len, i_c0, i_c2, i_sw, msel, i_cV, i_cS, i_rV, i_rI, i_rZ, i_rJ, i_mm, i_pop, i_no, mpl, mvr, mnw, List.getElem?_cons_zero, List.getElem?_cons_succ, List.set_cons_zero, List.set_cons_succ, List.length_cons, List.length_nil, List.drop_succ_cons, List.drop_zero, List.take_succ_cons, List.take_zero, List.reverse_cons, List.reverse_nil, List.nil_append, List.cons_append, List.append_nil, List.map_cons, List.map_nil, List.sum_cons, List.sum_nil, Option.toList_some, Option.toList_none, Option.bind_some, Value.category, decide_eq_true_eq, decide_true, decide_false, if_true, if_false, Bool.false_eq_true, and_self, and_true, true_and, true_or, or_true, not_true_eq_false, not_false_eq_true, ↓reduceIte, reduceCtorEq, Nat.reduceEqDiff, Nat.reduceAdd, Nat.reduceSub, Nat.reduceMul, Nat.reduceLT, Nat.reduceLeDiff, Nat.reduceBEq, Nat.le_refl, Nat.zero_le, Nat.lt_irrefl, beq_self_eq_true, Nat.succ_ne_zero, Option.some.injEq, Prod.mk.injEq, Int32.reduceLT, Int32.reduceLE, y_0, y_46, rt_0_10, p_countFits0 n J f hT hk, aFits, hk]
  · obtain ⟨I', h1, h2, h3, h4, h5⟩ := p_countFits hn J f ht hT (by omega) hH k
    refine ⟨I', ?_, h4, h5⟩
    simp only [eX11_fits, kX11_fits_0, i_cst, i_ldI, i_ldJ, i_ldA, i_stI, i_stJ, i_stA, i_inc, i_bin, i_dv, i_un, i_i2l, i_bnJ, i_lshl, i_lcmp, i_dup, i_dp2, i_gI, i_gJ, i_gA, i_pI, i_pZ, i_pJ, i_pA, i_al, i_as, i_alJ, i_asJ, i_len, i_c0, i_c2, i_sw, msel, i_cV, i_cS, i_rV, i_rI, i_rZ, i_rJ, i_mm, i_pop, i_no, mpl, mvr, mnw, List.getElem?_cons_zero, List.getElem?_cons_succ, List.set_cons_zero, List.set_cons_succ, List.length_cons, List.length_nil, List.drop_succ_cons, List.drop_zero, List.take_succ_cons, List.take_zero, List.reverse_cons, List.reverse_nil, List.nil_append, List.cons_append, List.append_nil, List.map_cons, List.map_nil, List.sum_cons, List.sum_nil, Option.toList_some, Option.toList_none, Option.bind_some, Value.category, decide_eq_true_eq, decide_true, decide_false, if_true, if_false, Bool.false_eq_true, and_self, and_true, true_and, true_or, or_true, not_true_eq_false, not_false_eq_true, ↓reduceIte, reduceCtorEq, Nat.reduceEqDiff, Nat.reduceAdd, Nat.reduceSub, Nat.reduceMul, Nat.reduceLT, Nat.reduceLeDiff, Nat.reduceBEq, Nat.le_refl, Nat.zero_le, Nat.lt_irrefl, beq_self_eq_true, Nat.succ_ne_zero, Option.some.injEq, Prod.mk.injEq, Int32.reduceLT, Int32.reduceLE, y_0, y_46, rt_0_10, h1, aFits, hk]
def aSure (T : TA) (Hd : List HE) (w k : Int32) : Int32 := if tk T = 0 ∨ cn (hFit T Hd k) 100 = 0 then -1 else if w = 0 then nI ((fl (hFit T Hd k) 100).getD 0 0) else if w = 1 then nI ((fl (hFit T Hd k) 100).getD ((fl (hFit T Hd k) 100).length - 1) 0) else -1
set_option maxHeartbeats 4000000 in
theorem c_sure (hn : 300 < n) (J : Nat → Nat → Int64) (f : Nat) (ht : TRg T) (hT : TC I T) (hH : HC I T Hd tm) (w k : Int32) : ∃ I', FX11_sure n [.ref 0, .int w, .int k] (mm I J f) = some (some (.int (aSure T Hd w k)), mm I' J f) ∧ HC I' T Hd tm ∧ HF I I' := by
  by_cases hk : tk T = 0
  · refine ⟨u2 I 46 11 0, ?_, HC_11 hH, fun b j _ _ h _ _ => u2_a h⟩
    simp only [eX11_sure, kX11_sure_0, kX11_sure_41, i_cst, i_ldI, i_ldJ, i_ldA, i_stI, i_stJ, i_stA, i_inc, i_bin, i_dv, i_un, i_i2l, i_bnJ, i_lshl, i_lcmp, i_dup, i_dp2, i_gI, i_gJ, i_gA, i_pI, i_pZ, i_pJ, i_pA, i_al, i_as, i_alJ, i_asJ, i_len, i_c0, i_c2, i_sw, msel, i_cV, i_cS, i_rV, i_rI, i_rZ, i_rJ, i_mm, i_pop, i_no, mpl, mvr, mnw, List.getElem?_cons_zero, List.getElem?_cons_succ, List.set_cons_zero, List.set_cons_succ, List.length_cons, List.length_nil, List.drop_succ_cons, List.drop_zero, List.take_succ_cons, List.take_zero, List.reverse_cons, List.reverse_nil, List.nil_append, List.cons_append, List.append_nil, List.map_cons, List.map_nil, List.sum_cons, List.sum_nil, Option.toList_some, Option.toList_none, Option.bind_some, Value.category, decide_eq_true_eq, decide_true, decide_false, if_true, if_false, Bool.false_eq_true, and_self, and_true, true_and, true_or, or_true, not_true_eq_false, not_false_eq_true, ↓reduceIte, reduceCtorEq, Nat.reduceEqDiff, Nat.reduceAdd, Nat.reduceSub, Nat.reduceMul, Nat.reduceLT, Nat.reduceLeDiff, Nat.reduceBEq, Nat.le_refl, Nat.zero_le, Nat.lt_irrefl, beq_self_eq_true, Nat.succ_ne_zero, Option.some.injEq, Prod.mk.injEq, Int32.reduceLT, Int32.reduceLE, y_0, y_46, rt_0_10, p_countFits0 n J f hT hk, aSure, hk]
  · obtain ⟨I', h1, h2, h3, h4, h5⟩ := p_countFits hn J f ht hT (by omega) hH k
    refine ⟨I', ?_, h4, h5⟩
    have hlen := fl_len (hFit T Hd k) 100
    have hcl := cn_le (hFit T Hd k) 100
    by_cases hz : cn (hFit T Hd k) 100 = 0
    · have z0 : ¬ ¬ nI 0 = 0 := by decide
      simp only [eX11_sure, kX11_sure_0, kX11_sure_41, i_cst, i_ldI, i_ldJ, i_ldA, i_stI, i_stJ, i_stA, i_inc, i_bin, i_dv, i_un, i_i2l, i_bnJ, i_lshl, i_lcmp, i_dup, i_dp2, i_gI, i_gJ, i_gA, i_pI, i_pZ, i_pJ, i_pA, i_al, i_as, i_alJ, i_asJ, i_len, i_c0, i_c2, i_sw, msel, i_cV, i_cS, i_rV, i_rI, i_rZ, i_rJ, i_mm, i_pop, i_no, mpl, mvr, mnw, List.getElem?_cons_zero, List.getElem?_cons_succ, List.set_cons_zero, List.set_cons_succ, List.length_cons, List.length_nil, List.drop_succ_cons, List.drop_zero, List.take_succ_cons, List.take_zero, List.reverse_cons, List.reverse_nil, List.nil_append, List.cons_append, List.append_nil, List.map_cons, List.map_nil, List.sum_cons, List.sum_nil, Option.toList_some, Option.toList_none, Option.bind_some, Value.category, decide_eq_true_eq, decide_true, decide_false, if_true, if_false, Bool.false_eq_true, and_self, and_true, true_and, true_or, or_true, not_true_eq_false, not_false_eq_true, ↓reduceIte, reduceCtorEq, Nat.reduceEqDiff, Nat.reduceAdd, Nat.reduceSub, Nat.reduceMul, Nat.reduceLT, Nat.reduceLeDiff, Nat.reduceBEq, Nat.le_refl, Nat.zero_le, Nat.lt_irrefl, beq_self_eq_true, Nat.succ_ne_zero, Option.some.injEq, Prod.mk.injEq, Int32.reduceLT, Int32.reduceLE, y_0, y_46, rt_0_10, h1, hz, aSure, or_true, z0]
    · have c0 : ¬ nI (cn (hFit T Hd k) 100) = 0 := nI_ne0 (by omega) (by omega)
      have c1 : ¬ (tk T = 0 ∨ cn (hFit T Hd k) 100 = 0) := by omega
      by_cases w0 : w = 0
      · simp only [eX11_sure, kX11_sure_0, kX11_sure_41, eX2_leastFit, kX2_leastFit_0, i_cst, i_ldI, i_ldJ, i_ldA, i_stI, i_stJ, i_stA, i_inc, i_bin, i_dv, i_un, i_i2l, i_bnJ, i_lshl, i_lcmp, i_dup, i_dp2, i_gI, i_gJ, i_gA, i_pI, i_pZ, i_pJ, i_pA, i_al, i_as, i_alJ, i_asJ, i_len, i_c0, i_c2, i_sw, msel, i_cV, i_cS, i_rV, i_rI, i_rZ, i_rJ, i_mm, i_pop, i_no, mpl, mvr, mnw, List.getElem?_cons_zero, List.getElem?_cons_succ, List.set_cons_zero, List.set_cons_succ, List.length_cons, List.length_nil, List.drop_succ_cons, List.drop_zero, List.take_succ_cons, List.take_zero, List.reverse_cons, List.reverse_nil, List.nil_append, List.cons_append, List.append_nil, List.map_cons, List.map_nil, List.sum_cons, List.sum_nil, Option.toList_some, Option.toList_none, Option.bind_some, Value.category, decide_eq_true_eq, decide_true, decide_false, if_true, if_false, Bool.false_eq_true, and_self, and_true, true_and, true_or, or_true, not_true_eq_false, not_false_eq_true, ↓reduceIte, reduceCtorEq, Nat.reduceEqDiff, Nat.reduceAdd, Nat.reduceSub, Nat.reduceMul, Nat.reduceLT, Nat.reduceLeDiff, Nat.reduceBEq, Nat.le_refl, Nat.zero_le, Nat.lt_irrefl, beq_self_eq_true, Nat.succ_ne_zero, Option.some.injEq, Prod.mk.injEq, Int32.reduceLT, Int32.reduceLE, y_0, y_46, rt_0_10, rt_46_10, h1, c0, aSure, c1, w0, p_atL n 53 0 0 (mm I' J f) y_53 (by decide) (by decide) rfl, h3.2.2 0 (by omega)]
      · by_cases w1 : w = 1
        · have e1 : nI (fl (hFit T Hd k) 100).length - 1 = nI ((fl (hFit T Hd k) 100).length - 1) := by rw [show (1 : Int32) = nI 1 from rfl, pk_sub (by omega)]
          simp only [eX11_sure, kX11_sure_0, kX11_sure_41, eX2_greatestFit, kX2_greatestFit_0, i_cst, i_ldI, i_ldJ, i_ldA, i_stI, i_stJ, i_stA, i_inc, i_bin, i_dv, i_un, i_i2l, i_bnJ, i_lshl, i_lcmp, i_dup, i_dp2, i_gI, i_gJ, i_gA, i_pI, i_pZ, i_pJ, i_pA, i_al, i_as, i_alJ, i_asJ, i_len, i_c0, i_c2, i_sw, msel, i_cV, i_cS, i_rV, i_rI, i_rZ, i_rJ, i_mm, i_pop, i_no, mpl, mvr, mnw, List.getElem?_cons_zero, List.getElem?_cons_succ, List.set_cons_zero, List.set_cons_succ, List.length_cons, List.length_nil, List.drop_succ_cons, List.drop_zero, List.take_succ_cons, List.take_zero, List.reverse_cons, List.reverse_nil, List.nil_append, List.cons_append, List.append_nil, List.map_cons, List.map_nil, List.sum_cons, List.sum_nil, Option.toList_some, Option.toList_none, Option.bind_some, Value.category, decide_eq_true_eq, decide_true, decide_false, if_true, if_false, Bool.false_eq_true, and_self, and_true, true_and, true_or, or_true, not_true_eq_false, not_false_eq_true, ↓reduceIte, reduceCtorEq, Nat.reduceEqDiff, Nat.reduceAdd, Nat.reduceSub, Nat.reduceMul, Nat.reduceLT, Nat.reduceLeDiff, Nat.reduceBEq, Nat.le_refl, Nat.zero_le, Nat.lt_irrefl, beq_self_eq_true, Nat.succ_ne_zero, Option.some.injEq, Prod.mk.injEq, Int32.reduceLT, Int32.reduceLE, y_0, y_46, rt_0_10, rt_46_10, h1, c0, aSure, c1, w1, h3.1, e1, p_atN n 53 ((fl (hFit T Hd k) 100).length - 1) (mm I' J f) y_53 (by decide) (by omega), h3.2.2 _ (show (fl (hFit T Hd k) 100).length - 1 < (fl (hFit T Hd k) 100).length by omega), show ¬ (1 : Int32) = 0 by decide]
        · simp only [eX11_sure, kX11_sure_0, kX11_sure_41, i_cst, i_ldI, i_ldJ, i_ldA, i_stI, i_stJ, i_stA, i_inc, i_bin, i_dv, i_un, i_i2l, i_bnJ, i_lshl, i_lcmp, i_dup, i_dp2, i_gI, i_gJ, i_gA, i_pI, i_pZ, i_pJ, i_pA, i_al, i_as, i_alJ, i_asJ, i_len, i_c0, i_c2, i_sw, msel, i_cV, i_cS, i_rV, i_rI, i_rZ, i_rJ, i_mm, i_pop, i_no, mpl, mvr, mnw, List.getElem?_cons_zero, List.getElem?_cons_succ, List.set_cons_zero, List.set_cons_succ, List.length_cons, List.length_nil, List.drop_succ_cons, List.drop_zero, List.take_succ_cons, List.take_zero, List.reverse_cons, List.reverse_nil, List.nil_append, List.cons_append, List.append_nil, List.map_cons, List.map_nil, List.sum_cons, List.sum_nil, Option.toList_some, Option.toList_none, Option.bind_some, Value.category, decide_eq_true_eq, decide_true, decide_false, if_true, if_false, Bool.false_eq_true, and_self, and_true, true_and, true_or, or_true, not_true_eq_false, not_false_eq_true, ↓reduceIte, reduceCtorEq, Nat.reduceEqDiff, Nat.reduceAdd, Nat.reduceSub, Nat.reduceMul, Nat.reduceLT, Nat.reduceLeDiff, Nat.reduceBEq, Nat.le_refl, Nat.zero_le, Nat.lt_irrefl, beq_self_eq_true, Nat.succ_ne_zero, Option.some.injEq, Prod.mk.injEq, Int32.reduceLT, Int32.reduceLE, y_0, y_46, rt_0_10, h1, c0, aSure, c1, w0, w1]
set_option maxHeartbeats 8000000 in
theorem p_mostAlike (hn : 300 < n) (J : Nat → Nat → Int64) (f : Nat) (ht : TabC I T) {l : List Nat} (hF : FitC I l) (hm : ∀ i, i < l.length → l.getD i 0 < 100) {b a : Nat} (hb : b < 21) (h13 : I 46 13 = nI a) (ha : a ≤ 101) : ∃ v, FX2_mostAlike n [.ref 46, .int (nI b)] (mm I J f) = some (some (.int (nI v)), mm I J f) ∧ v ≤ 100 ∧ (v < a ↔ maF T l b < a) ∧ (v < a → v = maF T l b) := by
  have hl := hF.2.1
  have hcF : ∀ i, cF T l b i ≤ 100 := fun i => Nat.le_trans (cn_le _ _) hl
  have hres : ∀ i, i ≤ l.length → (i = l.length ∨ a ≤ mx (cF T l b) i) → mx (cF T l b) i ≤ 100 ∧ (mx (cF T l b) i < a ↔ maF T l b < a) ∧ (mx (cF T l b) i < a → mx (cF T l b) i = maF T l b) := by
    intro i hi h
    refine ⟨mx_le _ _ _ (fun i _ => hcF i), ?_⟩
    rcases h with rfl | h
    · rw [mx_cF]; exact ⟨Iff.rfl, fun _ => rfl⟩
    · have h2 := mx_mono (cF T l b) i (l.length - i)
      rw [show i + (l.length - i) = l.length by omega, mx_cF] at h2
      exact ⟨⟨fun q => by omega, fun q => by omega⟩, fun q => by omega⟩
  simp only [eX2_mostAlike, kX2_mostAlike_0, i_cst, i_ldI, i_ldJ, i_ldA, i_stI, i_stJ, i_stA, i_inc, i_bin, i_dv, i_un, i_i2l, i_bnJ, i_lshl, i_lcmp, i_dup, i_dp2, i_gI, i_gJ, i_gA, i_pI, i_pZ, i_pJ, i_pA, i_al, i_as, i_alJ, i_asJ, i_len, i_c0, i_c2, i_sw, msel, i_cV, i_cS, i_rV, i_rI, i_rZ, i_rJ, i_mm, i_pop, i_no, mpl, mvr, mnw, List.getElem?_cons_zero, List.getElem?_cons_succ, List.set_cons_zero, List.set_cons_succ, List.length_cons, List.length_nil, List.drop_succ_cons, List.drop_zero, List.take_succ_cons, List.take_zero, List.reverse_cons, List.reverse_nil, List.nil_append, List.cons_append, List.append_nil, List.map_cons, List.map_nil, List.sum_cons, List.sum_nil, Option.toList_some, Option.toList_none, Option.bind_some, Value.category, decide_eq_true_eq, decide_true, decide_false, if_true, if_false, Bool.false_eq_true, and_self, and_true, true_and, true_or, or_true, not_true_eq_false, not_false_eq_true, ↓reduceIte, reduceCtorEq, Nat.reduceEqDiff, Nat.reduceAdd, Nat.reduceSub, Nat.reduceMul, Nat.reduceLT, Nat.reduceLeDiff, Nat.reduceBEq, Nat.le_refl, Nat.zero_le, Nat.lt_irrefl, beq_self_eq_true, Nat.succ_ne_zero, Option.some.injEq, Prod.mk.injEq, Int32.reduceLT, Int32.reduceLE]
  refine mit_ind2 (G := kX2_mostAlike_4 n) (fun d L μ => ∃ (i : Nat) (x4 x5 x6 : Option Value), i + d = l.length ∧ μ = mm I J f ∧ L = [some (.ref 46), some (.int (nI b)), some (.int (nI (mx (cF T l b) i))), some (.int (nI i)), x4, x5, x6]) (fun v => ∃ x, v = some (some (.int (nI x)), mm I J f) ∧ x ≤ 100 ∧ (x < a ↔ maF T l b < a) ∧ (x < a → x = maF T l b)) ?_ ?_ l.length n _ _ (by omega) ⟨0, none, none, none, by omega, rfl, rfl⟩
  · rintro L μ ⟨i, x4, x5, x6, hi, rfl, rfl⟩ r
    have ei : i = l.length := by omega
    refine ⟨mx (cF T l b) i, ?_, hres i (by omega) (Or.inl ei)⟩
    have c1 : nI l.length ≤ nI i := by rw [ei]; exact Int32.le_refl _
    simp only [kX2_mostAlike_4, kX2_mostAlike_91, i_cst, i_ldI, i_ldJ, i_ldA, i_stI, i_stJ, i_stA, i_inc, i_bin, i_dv, i_un, i_i2l, i_bnJ, i_lshl, i_lcmp, i_dup, i_dp2, i_gI, i_gJ, i_gA, i_pI, i_pZ, i_pJ, i_pA, i_al, i_as, i_alJ, i_asJ, i_len, i_c0, i_c2, i_sw, msel, i_cV, i_cS, i_rV, i_rI, i_rZ, i_rJ, i_mm, i_pop, i_no, mpl, mvr, mnw, List.getElem?_cons_zero, List.getElem?_cons_succ, List.set_cons_zero, List.set_cons_succ, List.length_cons, List.length_nil, List.drop_succ_cons, List.drop_zero, List.take_succ_cons, List.take_zero, List.reverse_cons, List.reverse_nil, List.nil_append, List.cons_append, List.append_nil, List.map_cons, List.map_nil, List.sum_cons, List.sum_nil, Option.toList_some, Option.toList_none, Option.bind_some, Value.category, decide_eq_true_eq, decide_true, decide_false, if_true, if_false, Bool.false_eq_true, and_self, and_true, true_and, true_or, or_true, not_true_eq_false, not_false_eq_true, ↓reduceIte, reduceCtorEq, Nat.reduceEqDiff, Nat.reduceAdd, Nat.reduceSub, Nat.reduceMul, Nat.reduceLT, Nat.reduceLeDiff, Nat.reduceBEq, Nat.le_refl, Nat.zero_le, Nat.lt_irrefl, beq_self_eq_true, Nat.succ_ne_zero, Option.some.injEq, Prod.mk.injEq, Int32.reduceLT, Int32.reduceLE, y_46, hF.1, c1]
  · rintro d L μ ⟨i, x4, x5, x6, hi, rfl, rfl⟩ r
    have hil : i < l.length := by omega
    have hmx : mx (cF T l b) i ≤ 100 := mx_le _ _ _ (fun i _ => hcF i)
    have c1 : ¬ nI l.length ≤ nI i := by rw [nI_leI (by omega) (by omega)]; omega
    by_cases hex : a ≤ mx (cF T l b) i
    · refine Or.inl ⟨mx (cF T l b) i, ?_, hres i (by omega) (Or.inr hex)⟩
      have c2 : nI a ≤ nI (mx (cF T l b) i) := by rw [nI_leI (by omega) (by omega)]; exact hex
      simp only [kX2_mostAlike_4, kX2_mostAlike_91, i_cst, i_ldI, i_ldJ, i_ldA, i_stI, i_stJ, i_stA, i_inc, i_bin, i_dv, i_un, i_i2l, i_bnJ, i_lshl, i_lcmp, i_dup, i_dp2, i_gI, i_gJ, i_gA, i_pI, i_pZ, i_pJ, i_pA, i_al, i_as, i_alJ, i_asJ, i_len, i_c0, i_c2, i_sw, msel, i_cV, i_cS, i_rV, i_rI, i_rZ, i_rJ, i_mm, i_pop, i_no, mpl, mvr, mnw, List.getElem?_cons_zero, List.getElem?_cons_succ, List.set_cons_zero, List.set_cons_succ, List.length_cons, List.length_nil, List.drop_succ_cons, List.drop_zero, List.take_succ_cons, List.take_zero, List.reverse_cons, List.reverse_nil, List.nil_append, List.cons_append, List.append_nil, List.map_cons, List.map_nil, List.sum_cons, List.sum_nil, Option.toList_some, Option.toList_none, Option.bind_some, Value.category, decide_eq_true_eq, decide_true, decide_false, if_true, if_false, Bool.false_eq_true, and_self, and_true, true_and, true_or, or_true, not_true_eq_false, not_false_eq_true, ↓reduceIte, reduceCtorEq, Nat.reduceEqDiff, Nat.reduceAdd, Nat.reduceSub, Nat.reduceMul, Nat.reduceLT, Nat.reduceLeDiff, Nat.reduceBEq, Nat.le_refl, Nat.zero_le, Nat.lt_irrefl, beq_self_eq_true, Nat.succ_ne_zero, Option.some.injEq, Prod.mk.injEq, Int32.reduceLT, Int32.reduceLE, y_46, hF.1, c1, h13, c2]
    · refine Or.inr ⟨_, _, ⟨i + 1, some (.int (tabW T (l.getD i 0) b)), some (.int (nI (cF T l b i))), some (.int (nI l.length)), by omega, rfl, rfl⟩, ?_⟩
      have c2 : ¬ nI a ≤ nI (mx (cF T l b) i) := by rw [nI_leI (by omega) (by omega)]; exact hex
      have q1 := p_atN n 53 i (mm I J f) y_53 (by decide) (show i < 100 by omega)
      have q2 := p_worthBehind n J f ht (y := b) hb (hm i hil)
      have inner : mit (kX2_mostAlike_41 n r) n [some (.ref 46), some (.int (nI b)), some (.int (nI (mx (cF T l b) i))), some (.int (nI i)), some (.int (tabW T (l.getD i 0) b)), some (.int 0), some (.int (nI i))] [] (mm I J f) = r [some (.ref 46), some (.int (nI b)), some (.int (nI (mx (cF T l b) (i + 1)))), some (.int (nI (i + 1))), some (.int (tabW T (l.getD i 0) b)), some (.int (nI (cF T l b i))), some (.int (nI l.length))] [] (mm I J f) := by
        have hcc : ∀ k, k ≤ i → cn (fun j => decide (i ≤ j) && smE T l b i j) k = 0 := fun k hk => (cn_ex k).mpr (fun j hj => by simp [show ¬ i ≤ j by omega])
        have := mit_for (G := kX2_mostAlike_41 n r) (fun t => [some (.ref 46), some (.int (nI b)), some (.int (nI (mx (cF T l b) i))), some (.int (nI i)), some (.int (tabW T (l.getD i 0) b)), some (.int (nI (cn (fun j => decide (i ≤ j) && smE T l b i j) (i + t)))), some (.int (nI (i + t)))]) (fun _ => mm I J f) (B := l.length - i) (n := n) (v := r [some (.ref 46), some (.int (nI b)), some (.int (nI (mx (cF T l b) (i + 1)))), some (.int (nI (i + 1))), some (.int (tabW T (l.getD i 0) b)), some (.int (nI (cF T l b i))), some (.int (nI l.length))] [] (mm I J f)) (fun t ht2 r' => ?_) (by omega) (fun r' => ?_)
        · rw [Nat.add_zero, hcc i (Nat.le_refl _)] at this
          exact this
        · have c3 : ¬ nI l.length ≤ nI (i + t) := by rw [nI_leI (by omega) (by omega)]; omega
          have q3 := p_atN n 53 (i + t) (mm I J f) y_53 (by decide) (show i + t < 100 by omega)
          have q4 := p_worthBehind n J f ht (y := b) hb (hm (i + t) (by omega))
          simp only [kX2_mostAlike_41, kX2_mostAlike_72, i_cst, i_ldI, i_ldJ, i_ldA, i_stI, i_stJ, i_stA, i_inc, i_bin, i_dv, i_un, i_i2l, i_bnJ, i_lshl, i_lcmp, i_dup, i_dp2, i_gI, i_gJ, i_gA, i_pI, i_pZ, i_pJ, i_pA, i_al, i_as, i_alJ, i_asJ, i_len, i_c0, i_c2, i_sw, msel, i_cV, i_cS, i_rV, i_rI, i_rZ, i_rJ, i_mm, i_pop, i_no, mpl, mvr, mnw, List.getElem?_cons_zero, List.getElem?_cons_succ, List.set_cons_zero, List.set_cons_succ, List.length_cons, List.length_nil, List.drop_succ_cons, List.drop_zero, List.take_succ_cons, List.take_zero, List.reverse_cons, List.reverse_nil, List.nil_append, List.cons_append, List.append_nil, List.map_cons, List.map_nil, List.sum_cons, List.sum_nil, Option.toList_some, Option.toList_none, Option.bind_some, Value.category, decide_eq_true_eq, decide_true, decide_false, if_true, if_false, Bool.false_eq_true, and_self, and_true, true_and, true_or, or_true, not_true_eq_false, not_false_eq_true, ↓reduceIte, reduceCtorEq, Nat.reduceEqDiff, Nat.reduceAdd, Nat.reduceSub, Nat.reduceMul, Nat.reduceLT, Nat.reduceLeDiff, Nat.reduceBEq, Nat.le_refl, Nat.zero_le, Nat.lt_irrefl, beq_self_eq_true, Nat.succ_ne_zero, Option.some.injEq, Prod.mk.injEq, Int32.reduceLT, Int32.reduceLE, y_46, rt_46_10, hF.1, c3, q3, hF.2.2 (i + t) (show i + t < l.length by omega), q4, nI_1, ← Nat.add_assoc]
          have hcs : cn (fun j => decide (i ≤ j) && smE T l b i j) (i + t + 1) = if (decide (i ≤ i + t) && smE T l b i (i + t)) = true then cn (fun j => decide (i ≤ j) && smE T l b i j) (i + t) + 1 else cn (fun j => decide (i ≤ j) && smE T l b i j) (i + t) := rfl
          rw [hcs]
          by_cases e : tabW T (l.getD (i + t) 0) b = tabW T (l.getD i 0) b
          · have : smE T l b i (i + t) = true := by unfold smE; rw [e]; simp
            rw [this]
            simp only [e, not_true_eq_false, if_false, Nat.le_add_right, decide_true, Bool.true_and, if_true]
          · have : smE T l b i (i + t) = false := by unfold smE; rw [decide_eq_false e]
            rw [this]
            simp only [e, not_false_eq_true, if_true, Bool.and_false, Bool.false_eq_true, if_false]
        · have c3 : nI l.length ≤ nI l.length := Int32.le_refl _
          have ec : cn (fun j => decide (i ≤ j) && smE T l b i j) l.length = cF T l b i := rfl
          have el : i + (l.length - i) = l.length := by omega
          have hc1 := hcF i
          have em : (if nI (mx (cF T l b) i) < nI (cF T l b i) then nI (cF T l b i) else nI (mx (cF T l b) i)) = nI (mx (cF T l b) (i + 1)) := by
            have hmm : mx (cF T l b) (i + 1) = if mx (cF T l b) i < cF T l b i then cF T l b i else mx (cF T l b) i := rfl
            have hlt := nI_ltI (show mx (cF T l b) i < 2 ^ 31 by omega) (show cF T l b i < 2 ^ 31 by omega)
            rw [hmm]
            by_cases e : mx (cF T l b) i < cF T l b i
            · rw [if_pos e, if_pos (hlt.mpr e)]
            · rw [if_neg e, if_neg (fun q => e (hlt.mp q))]
          simp only [kX2_mostAlike_41, i_cst, i_ldI, i_ldJ, i_ldA, i_stI, i_stJ, i_stA, i_inc, i_bin, i_dv, i_un, i_i2l, i_bnJ, i_lshl, i_lcmp, i_dup, i_dp2, i_gI, i_gJ, i_gA, i_pI, i_pZ, i_pJ, i_pA, i_al, i_as, i_alJ, i_asJ, i_len, i_c0, i_c2, i_sw, msel, i_cV, i_cS, i_rV, i_rI, i_rZ, i_rJ, i_mm, i_pop, i_no, mpl, mvr, mnw, List.getElem?_cons_zero, List.getElem?_cons_succ, List.set_cons_zero, List.set_cons_succ, List.length_cons, List.length_nil, List.drop_succ_cons, List.drop_zero, List.take_succ_cons, List.take_zero, List.reverse_cons, List.reverse_nil, List.nil_append, List.cons_append, List.append_nil, List.map_cons, List.map_nil, List.sum_cons, List.sum_nil, Option.toList_some, Option.toList_none, Option.bind_some, Value.category, decide_eq_true_eq, decide_true, decide_false, if_true, if_false, Bool.false_eq_true, and_self, and_true, true_and, true_or, or_true, not_true_eq_false, not_false_eq_true, ↓reduceIte, reduceCtorEq, Nat.reduceEqDiff, Nat.reduceAdd, Nat.reduceSub, Nat.reduceMul, Nat.reduceLT, Nat.reduceLeDiff, Nat.reduceBEq, Nat.le_refl, Nat.zero_le, Nat.lt_irrefl, beq_self_eq_true, Nat.succ_ne_zero, Option.some.injEq, Prod.mk.injEq, Int32.reduceLT, Int32.reduceLE, y_46, hF.1, c3, ec, em, nI_1, el]
      rw [← inner]
      simp only [kX2_mostAlike_4, i_cst, i_ldI, i_ldJ, i_ldA, i_stI, i_stJ, i_stA, i_inc, i_bin, i_dv, i_un, i_i2l, i_bnJ, i_lshl, i_lcmp, i_dup, i_dp2, i_gI, i_gJ, i_gA, i_pI, i_pZ, i_pJ, i_pA, i_al, i_as, i_alJ, i_asJ, i_len, i_c0, i_c2, i_sw, msel, i_cV, i_cS, i_rV, i_rI, i_rZ, i_rJ, i_mm, i_pop, i_no, mpl, mvr, mnw, List.getElem?_cons_zero, List.getElem?_cons_succ, List.set_cons_zero, List.set_cons_succ, List.length_cons, List.length_nil, List.drop_succ_cons, List.drop_zero, List.take_succ_cons, List.take_zero, List.reverse_cons, List.reverse_nil, List.nil_append, List.cons_append, List.append_nil, List.map_cons, List.map_nil, List.sum_cons, List.sum_nil, Option.toList_some, Option.toList_none, Option.bind_some, Value.category, decide_eq_true_eq, decide_true, decide_false, if_true, if_false, Bool.false_eq_true, and_self, and_true, true_and, true_or, or_true, not_true_eq_false, not_false_eq_true, ↓reduceIte, reduceCtorEq, Nat.reduceEqDiff, Nat.reduceAdd, Nat.reduceSub, Nat.reduceMul, Nat.reduceLT, Nat.reduceLeDiff, Nat.reduceBEq, Nat.le_refl, Nat.zero_le, Nat.lt_irrefl, beq_self_eq_true, Nat.succ_ne_zero, Option.some.injEq, Prod.mk.injEq, Int32.reduceLT, Int32.reduceLE, y_46, rt_46_10, hF.1, c1, h13, c2, q1, hF.2.2 i hil, q2]
set_option maxHeartbeats 8000000 in
theorem p_findAsk (hn : 300 < n) (J : Nat → Nat → Int64) (f : Nat) (ht : TabC I T) {l : List Nat} (hF : FitC I l) (hm : ∀ i, i < l.length → l.getD i 0 < 100) : ∃ I', FX2_findAsk n [.ref 46] (mm I J f) = some (none, mm I' J f) ∧ I' 46 12 = nI (ak T l 21).1 ∧ I' 46 13 = nI (ak T l 21).2 ∧ (∀ j, j ≠ 12 → j ≠ 13 → I' 46 j = I 46 j) ∧ ∀ b j, b ≠ 46 → I' b j = I b j := by
  have hak : ∀ b, (ak T l b).2 ≤ 101 ∧ (ak T l b).1 ≤ b := by
    intro b
    induction b with
    | zero => exact ⟨Nat.le_refl _, Nat.le_refl _⟩
    | succ b ih =>
      unfold ak
      split
      · exact ⟨by simp only; omega, by simp only; omega⟩
      · exact ⟨ih.1, by omega⟩
  simp only [eX2_findAsk, kX2_findAsk_0, i_cst, i_ldI, i_ldJ, i_ldA, i_stI, i_stJ, i_stA, i_inc, i_bin, i_dv, i_un, i_i2l, i_bnJ, i_lshl, i_lcmp, i_dup, i_dp2, i_gI, i_gJ, i_gA, i_pI, i_pZ, i_pJ, i_pA, i_al, i_as, i_alJ, i_asJ, i_len, i_c0, i_c2, i_sw, msel, i_cV, i_cS, i_rV, i_rI, i_rZ, i_rJ, i_mm, i_pop, i_no, mpl, mvr, mnw, List.getElem?_cons_zero, List.getElem?_cons_succ, List.set_cons_zero, List.set_cons_succ, List.length_cons, List.length_nil, List.drop_succ_cons, List.drop_zero, List.take_succ_cons, List.take_zero, List.reverse_cons, List.reverse_nil, List.nil_append, List.cons_append, List.append_nil, List.map_cons, List.map_nil, List.sum_cons, List.sum_nil, Option.toList_some, Option.toList_none, Option.bind_some, Value.category, decide_eq_true_eq, decide_true, decide_false, if_true, if_false, Bool.false_eq_true, and_self, and_true, true_and, true_or, or_true, not_true_eq_false, not_false_eq_true, ↓reduceIte, reduceCtorEq, Nat.reduceEqDiff, Nat.reduceAdd, Nat.reduceSub, Nat.reduceMul, Nat.reduceLT, Nat.reduceLeDiff, Nat.reduceBEq, Nat.le_refl, Nat.zero_le, Nat.lt_irrefl, beq_self_eq_true, Nat.succ_ne_zero, Option.some.injEq, Prod.mk.injEq, Int32.reduceLT, Int32.reduceLE, y_46, uI_mm]
  refine mit_ind (G := kX2_findAsk_13 n) (fun d L μ => ∃ (b : Nat) (I' : Nat → Nat → Int32) (x2 : Option Value), b + d = 21 ∧ μ = mm I' J f ∧ I' 46 12 = nI (ak T l b).1 ∧ I' 46 13 = nI (ak T l b).2 ∧ (∀ j, j ≠ 12 → j ≠ 13 → I' 46 j = I 46 j) ∧ (∀ b j, b ≠ 46 → I' b j = I b j) ∧ L = [some (.ref 46), some (.int (nI b)), x2]) (fun v => ∃ I', v = some (none, mm I' J f) ∧ I' 46 12 = nI (ak T l 21).1 ∧ I' 46 13 = nI (ak T l 21).2 ∧ (∀ j, j ≠ 12 → j ≠ 13 → I' 46 j = I 46 j) ∧ ∀ b j, b ≠ 46 → I' b j = I b j) ?_ ?_ 21 n _ _ (by omega) ⟨0, _, none, rfl, rfl, by rw [u2_j (by decide), u2_s]; rfl, by rw [u2_s]; rfl, fun j h1 h2 => by rw [u2_j h2, u2_j h1], fun b j h => by rw [u2_a h, u2_a h], rfl⟩
  · rintro L μ ⟨b, I', x2, hb, rfl, h12, h13, hs, ho, rfl⟩
    have : b = 21 := by omega
    subst this
    refine ⟨_, fun r => ?_, I', rfl, h12, h13, hs, ho⟩
    simp only [kX2_findAsk_13, i_cst, i_ldI, i_ldJ, i_ldA, i_stI, i_stJ, i_stA, i_inc, i_bin, i_dv, i_un, i_i2l, i_bnJ, i_lshl, i_lcmp, i_dup, i_dp2, i_gI, i_gJ, i_gA, i_pI, i_pZ, i_pJ, i_pA, i_al, i_as, i_alJ, i_asJ, i_len, i_c0, i_c2, i_sw, msel, i_cV, i_cS, i_rV, i_rI, i_rZ, i_rJ, i_mm, i_pop, i_no, mpl, mvr, mnw, List.getElem?_cons_zero, List.getElem?_cons_succ, List.set_cons_zero, List.set_cons_succ, List.length_cons, List.length_nil, List.drop_succ_cons, List.drop_zero, List.take_succ_cons, List.take_zero, List.reverse_cons, List.reverse_nil, List.nil_append, List.cons_append, List.append_nil, List.map_cons, List.map_nil, List.sum_cons, List.sum_nil, Option.toList_some, Option.toList_none, Option.bind_some, Value.category, decide_eq_true_eq, decide_true, decide_false, if_true, if_false, Bool.false_eq_true, and_self, and_true, true_and, true_or, or_true, not_true_eq_false, not_false_eq_true, ↓reduceIte, reduceCtorEq, Nat.reduceEqDiff, Nat.reduceAdd, Nat.reduceSub, Nat.reduceMul, Nat.reduceLT, Nat.reduceLeDiff, Nat.reduceBEq, Nat.le_refl, Nat.zero_le, Nat.lt_irrefl, beq_self_eq_true, Nat.succ_ne_zero, Option.some.injEq, Prod.mk.injEq, Int32.reduceLT, Int32.reduceLE, show (21 : Int32) ≤ nI 21 by decide]
  · rintro d L μ ⟨b, I', x2, hb, rfl, h12, h13, hs, ho, rfl⟩
    refine Or.inr ?_
    have hb21 : b < 21 := by omega
    have c1 : ¬ (21 : Int32) ≤ nI b := lit_nle (k := 21) rfl (by decide) hb21
    have ht' : TabC I' T := fun y z hy hz => by rw [ho 52 _ (by decide)]; exact ht y z hy hz
    have hF' : FitC I' l := ⟨by rw [hs 11 (by decide) (by decide)]; exact hF.1, hF.2.1, fun i hi => by rw [ho 53 i (by decide)]; exact hF.2.2 i hi⟩
    obtain ⟨v, g1, g2, g3, g4⟩ := p_mostAlike hn J f ht' hF' hm hb21 h13 (hak b).1
    have ha := hak b
    by_cases e : maF T l b < (ak T l b).2
    · have ev : ak T l (b + 1) = (b, maF T l b) := by rw [ak, if_pos e]
      have hv := g4 (g3.mpr e)
      subst hv
      have c2 : ¬ nI (ak T l b).2 ≤ nI (maF T l b) := by rw [nI_leI (by omega) (by omega)]; omega
      refine ⟨_, _, ⟨b + 1, u2 (u2 I' 46 12 (nI b)) 46 13 (nI (maF T l b)), some (.int (nI (maF T l b))), by omega, rfl, by rw [u2_j (by decide), u2_s, ev], by rw [u2_s, ev], fun j h1 h2 => by rw [u2_j h2, u2_j h1]; exact hs j h1 h2, fun b j h => by rw [u2_a h, u2_a h]; exact ho b j h, rfl⟩, fun r => ?_⟩
      simp only [kX2_findAsk_13, kX2_findAsk_43, i_cst, i_ldI, i_ldJ, i_ldA, i_stI, i_stJ, i_stA, i_inc, i_bin, i_dv, i_un, i_i2l, i_bnJ, i_lshl, i_lcmp, i_dup, i_dp2, i_gI, i_gJ, i_gA, i_pI, i_pZ, i_pJ, i_pA, i_al, i_as, i_alJ, i_asJ, i_len, i_c0, i_c2, i_sw, msel, i_cV, i_cS, i_rV, i_rI, i_rZ, i_rJ, i_mm, i_pop, i_no, mpl, mvr, mnw, List.getElem?_cons_zero, List.getElem?_cons_succ, List.set_cons_zero, List.set_cons_succ, List.length_cons, List.length_nil, List.drop_succ_cons, List.drop_zero, List.take_succ_cons, List.take_zero, List.reverse_cons, List.reverse_nil, List.nil_append, List.cons_append, List.append_nil, List.map_cons, List.map_nil, List.sum_cons, List.sum_nil, Option.toList_some, Option.toList_none, Option.bind_some, Value.category, decide_eq_true_eq, decide_true, decide_false, if_true, if_false, Bool.false_eq_true, and_self, and_true, true_and, true_or, or_true, not_true_eq_false, not_false_eq_true, ↓reduceIte, reduceCtorEq, Nat.reduceEqDiff, Nat.reduceAdd, Nat.reduceSub, Nat.reduceMul, Nat.reduceLT, Nat.reduceLeDiff, Nat.reduceBEq, Nat.le_refl, Nat.zero_le, Nat.lt_irrefl, beq_self_eq_true, Nat.succ_ne_zero, Option.some.injEq, Prod.mk.injEq, Int32.reduceLT, Int32.reduceLE, c1, y_46, g1, h13, c2, uI_mm, nI_1]
    · have ev : ak T l (b + 1) = ak T l b := by rw [ak, if_neg e]
      have hv : ¬ v < (ak T l b).2 := fun q => e (g3.mp q)
      have c2 : nI (ak T l b).2 ≤ nI v := by rw [nI_leI (by omega) (by omega)]; omega
      refine ⟨_, _, ⟨b + 1, I', some (.int (nI v)), by omega, rfl, by rw [ev]; exact h12, by rw [ev]; exact h13, hs, ho, rfl⟩, fun r => ?_⟩
      simp only [kX2_findAsk_13, kX2_findAsk_43, i_cst, i_ldI, i_ldJ, i_ldA, i_stI, i_stJ, i_stA, i_inc, i_bin, i_dv, i_un, i_i2l, i_bnJ, i_lshl, i_lcmp, i_dup, i_dp2, i_gI, i_gJ, i_gA, i_pI, i_pZ, i_pJ, i_pA, i_al, i_as, i_alJ, i_asJ, i_len, i_c0, i_c2, i_sw, msel, i_cV, i_cS, i_rV, i_rI, i_rZ, i_rJ, i_mm, i_pop, i_no, mpl, mvr, mnw, List.getElem?_cons_zero, List.getElem?_cons_succ, List.set_cons_zero, List.set_cons_succ, List.length_cons, List.length_nil, List.drop_succ_cons, List.drop_zero, List.take_succ_cons, List.take_zero, List.reverse_cons, List.reverse_nil, List.nil_append, List.cons_append, List.append_nil, List.map_cons, List.map_nil, List.sum_cons, List.sum_nil, Option.toList_some, Option.toList_none, Option.bind_some, Value.category, decide_eq_true_eq, decide_true, decide_false, if_true, if_false, Bool.false_eq_true, and_self, and_true, true_and, true_or, or_true, not_true_eq_false, not_false_eq_true, ↓reduceIte, reduceCtorEq, Nat.reduceEqDiff, Nat.reduceAdd, Nat.reduceSub, Nat.reduceMul, Nat.reduceLT, Nat.reduceLeDiff, Nat.reduceBEq, Nat.le_refl, Nat.zero_le, Nat.lt_irrefl, beq_self_eq_true, Nat.succ_ne_zero, Option.some.injEq, Prod.mk.injEq, Int32.reduceLT, Int32.reduceLE, c1, y_46, g1, h13, c2, nI_1]
def aAsk (T : TA) (Hd : List HE) (w k : Int32) : Int32 := if tk T = 0 ∨ cn (hFit T Hd k) 100 = 0 then -1 else if w = 0 then nI (ak T (fl (hFit T Hd k) 100) 21).1 else if w = 1 then nI (ak T (fl (hFit T Hd k) 100) 21).2 else -1
set_option maxHeartbeats 4000000 in
theorem c_ask (hn : 300 < n) (J : Nat → Nat → Int64) (f : Nat) (ht : TRg T) (hT : TC I T) (hH : HC I T Hd tm) (w k : Int32) : ∃ I', FX11_ask n [.ref 0, .int w, .int k] (mm I J f) = some (some (.int (aAsk T Hd w k)), mm I' J f) ∧ HC I' T Hd tm ∧ HF I I' := by
  have rf : HF I I := fun _ _ _ _ _ _ _ => rfl
  by_cases w0 : w = 0 ∨ w = 1
  · have body : ∃ I', kX11_ask_9 n [some (.ref 0), some (.int w), some (.int k)] [] (mm I J f) = some (some (.int (aAsk T Hd w k)), mm I' J f) ∧ HC I' T Hd tm ∧ HF I I' := by
      by_cases hk : tk T = 0
      · refine ⟨u2 I 46 11 0, ?_, HC_11 hH, fun b j _ _ h _ _ => u2_a h⟩
        simp only [kX11_ask_9, kX11_ask_20, i_cst, i_ldI, i_ldJ, i_ldA, i_stI, i_stJ, i_stA, i_inc, i_bin, i_dv, i_un, i_i2l, i_bnJ, i_lshl, i_lcmp, i_dup, i_dp2, i_gI, i_gJ, i_gA, i_pI, i_pZ, i_pJ, i_pA, i_al, i_as, i_alJ, i_asJ, i_len, i_c0, i_c2, i_sw, msel, i_cV, i_cS, i_rV, i_rI, i_rZ, i_rJ, i_mm, i_pop, i_no, mpl, mvr, mnw, List.getElem?_cons_zero, List.getElem?_cons_succ, List.set_cons_zero, List.set_cons_succ, List.length_cons, List.length_nil, List.drop_succ_cons, List.drop_zero, List.take_succ_cons, List.take_zero, List.reverse_cons, List.reverse_nil, List.nil_append, List.cons_append, List.append_nil, List.map_cons, List.map_nil, List.sum_cons, List.sum_nil, Option.toList_some, Option.toList_none, Option.bind_some, Value.category, decide_eq_true_eq, decide_true, decide_false, if_true, if_false, Bool.false_eq_true, and_self, and_true, true_and, true_or, or_true, not_true_eq_false, not_false_eq_true, ↓reduceIte, reduceCtorEq, Nat.reduceEqDiff, Nat.reduceAdd, Nat.reduceSub, Nat.reduceMul, Nat.reduceLT, Nat.reduceLeDiff, Nat.reduceBEq, Nat.le_refl, Nat.zero_le, Nat.lt_irrefl, beq_self_eq_true, Nat.succ_ne_zero, Option.some.injEq, Prod.mk.injEq, Int32.reduceLT, Int32.reduceLE, y_0, y_46, rt_0_10, p_countFits0 n J f hT hk, aAsk, hk]
      · obtain ⟨I1, h1, h2, h3, h4, h5⟩ := p_countFits hn J f ht hT (by omega) hH k
        have hlen := fl_len (hFit T Hd k) 100
        have hcl := cn_le (hFit T Hd k) 100
        by_cases hz : cn (hFit T Hd k) 100 = 0
        · refine ⟨I1, ?_, h4, h5⟩
          have z0 : ¬ ¬ nI 0 = 0 := by decide
          simp only [kX11_ask_9, kX11_ask_20, i_cst, i_ldI, i_ldJ, i_ldA, i_stI, i_stJ, i_stA, i_inc, i_bin, i_dv, i_un, i_i2l, i_bnJ, i_lshl, i_lcmp, i_dup, i_dp2, i_gI, i_gJ, i_gA, i_pI, i_pZ, i_pJ, i_pA, i_al, i_as, i_alJ, i_asJ, i_len, i_c0, i_c2, i_sw, msel, i_cV, i_cS, i_rV, i_rI, i_rZ, i_rJ, i_mm, i_pop, i_no, mpl, mvr, mnw, List.getElem?_cons_zero, List.getElem?_cons_succ, List.set_cons_zero, List.set_cons_succ, List.length_cons, List.length_nil, List.drop_succ_cons, List.drop_zero, List.take_succ_cons, List.take_zero, List.reverse_cons, List.reverse_nil, List.nil_append, List.cons_append, List.append_nil, List.map_cons, List.map_nil, List.sum_cons, List.sum_nil, Option.toList_some, Option.toList_none, Option.bind_some, Value.category, decide_eq_true_eq, decide_true, decide_false, if_true, if_false, Bool.false_eq_true, and_self, and_true, true_and, true_or, or_true, not_true_eq_false, not_false_eq_true, ↓reduceIte, reduceCtorEq, Nat.reduceEqDiff, Nat.reduceAdd, Nat.reduceSub, Nat.reduceMul, Nat.reduceLT, Nat.reduceLeDiff, Nat.reduceBEq, Nat.le_refl, Nat.zero_le, Nat.lt_irrefl, beq_self_eq_true, Nat.succ_ne_zero, Option.some.injEq, Prod.mk.injEq, Int32.reduceLT, Int32.reduceLE, y_0, y_46, rt_0_10, h1, hz, aAsk, or_true, z0]
        · have c0 : ¬ nI (cn (hFit T Hd k) 100) = 0 := nI_ne0 (by omega) (by omega)
          have c1 : ¬ (tk T = 0 ∨ cn (hFit T Hd k) 100 = 0) := by omega
          obtain ⟨I2, q1, q2, q3, q4, q5⟩ := p_findAsk hn J f h2 h3 (fun i hi => (fl_mem _ 100 i hi).1)
          obtain ⟨a1, a2, ⟨a3, a3b⟩, a4, a5⟩ := h4
          refine ⟨I2, ?_, ⟨a1, by rw [q4 6 (by decide) (by decide)]; exact a2, ⟨by rw [q4 7 (by decide) (by decide)]; exact a3, a3b⟩, fun i hi => HEC_of (a4 i hi) (fun b j b1 b2 => q5 b j (by omega)), Or.inr (fun y z hy hz => by rw [q5 52 _ (by decide)]; exact h2 y z hy hz)⟩, fun b j b1 b2 b3 b4 b5 => by rw [q5 b j b3]; exact h5 b j b1 b2 b3 b4 b5⟩
          rcases w0 with rfl | rfl
          · simp only [kX11_ask_9, kX11_ask_50, i_cst, i_ldI, i_ldJ, i_ldA, i_stI, i_stJ, i_stA, i_inc, i_bin, i_dv, i_un, i_i2l, i_bnJ, i_lshl, i_lcmp, i_dup, i_dp2, i_gI, i_gJ, i_gA, i_pI, i_pZ, i_pJ, i_pA, i_al, i_as, i_alJ, i_asJ, i_len, i_c0, i_c2, i_sw, msel, i_cV, i_cS, i_rV, i_rI, i_rZ, i_rJ, i_mm, i_pop, i_no, mpl, mvr, mnw, List.getElem?_cons_zero, List.getElem?_cons_succ, List.set_cons_zero, List.set_cons_succ, List.length_cons, List.length_nil, List.drop_succ_cons, List.drop_zero, List.take_succ_cons, List.take_zero, List.reverse_cons, List.reverse_nil, List.nil_append, List.cons_append, List.append_nil, List.map_cons, List.map_nil, List.sum_cons, List.sum_nil, Option.toList_some, Option.toList_none, Option.bind_some, Value.category, decide_eq_true_eq, decide_true, decide_false, if_true, if_false, Bool.false_eq_true, and_self, and_true, true_and, true_or, or_true, not_true_eq_false, not_false_eq_true, ↓reduceIte, reduceCtorEq, Nat.reduceEqDiff, Nat.reduceAdd, Nat.reduceSub, Nat.reduceMul, Nat.reduceLT, Nat.reduceLeDiff, Nat.reduceBEq, Nat.le_refl, Nat.zero_le, Nat.lt_irrefl, beq_self_eq_true, Nat.succ_ne_zero, Option.some.injEq, Prod.mk.injEq, Int32.reduceLT, Int32.reduceLE, y_0, y_46, rt_0_10, h1, c0, q1, q2, q3, aAsk, c1]
          · simp only [kX11_ask_9, kX11_ask_50, i_cst, i_ldI, i_ldJ, i_ldA, i_stI, i_stJ, i_stA, i_inc, i_bin, i_dv, i_un, i_i2l, i_bnJ, i_lshl, i_lcmp, i_dup, i_dp2, i_gI, i_gJ, i_gA, i_pI, i_pZ, i_pJ, i_pA, i_al, i_as, i_alJ, i_asJ, i_len, i_c0, i_c2, i_sw, msel, i_cV, i_cS, i_rV, i_rI, i_rZ, i_rJ, i_mm, i_pop, i_no, mpl, mvr, mnw, List.getElem?_cons_zero, List.getElem?_cons_succ, List.set_cons_zero, List.set_cons_succ, List.length_cons, List.length_nil, List.drop_succ_cons, List.drop_zero, List.take_succ_cons, List.take_zero, List.reverse_cons, List.reverse_nil, List.nil_append, List.cons_append, List.append_nil, List.map_cons, List.map_nil, List.sum_cons, List.sum_nil, Option.toList_some, Option.toList_none, Option.bind_some, Value.category, decide_eq_true_eq, decide_true, decide_false, if_true, if_false, Bool.false_eq_true, and_self, and_true, true_and, true_or, or_true, not_true_eq_false, not_false_eq_true, ↓reduceIte, reduceCtorEq, Nat.reduceEqDiff, Nat.reduceAdd, Nat.reduceSub, Nat.reduceMul, Nat.reduceLT, Nat.reduceLeDiff, Nat.reduceBEq, Nat.le_refl, Nat.zero_le, Nat.lt_irrefl, beq_self_eq_true, Nat.succ_ne_zero, Option.some.injEq, Prod.mk.injEq, Int32.reduceLT, Int32.reduceLE, y_0, y_46, rt_0_10, h1, c0, q1, q2, q3, aAsk, c1, show ¬ (1 : Int32) = 0 by decide]
    obtain ⟨I', b1, b2, b3⟩ := body
    refine ⟨I', ?_, b2, b3⟩
    rw [← b1]
    rcases w0 with rfl | rfl
    · simp only [eX11_ask, kX11_ask_0, i_cst, i_ldI, i_ldJ, i_ldA, i_stI, i_stJ, i_stA, i_inc, i_bin, i_dv, i_un, i_i2l, i_bnJ, i_lshl, i_lcmp, i_dup, i_dp2, i_gI, i_gJ, i_gA, i_pI, i_pZ, i_pJ, i_pA, i_al, i_as, i_alJ, i_asJ, i_len, i_c0, i_c2, i_sw, msel, i_cV, i_cS, i_rV, i_rI, i_rZ, i_rJ, i_mm, i_pop, i_no, mpl, mvr, mnw, List.getElem?_cons_zero, List.getElem?_cons_succ, List.set_cons_zero, List.set_cons_succ, List.length_cons, List.length_nil, List.drop_succ_cons, List.drop_zero, List.take_succ_cons, List.take_zero, List.reverse_cons, List.reverse_nil, List.nil_append, List.cons_append, List.append_nil, List.map_cons, List.map_nil, List.sum_cons, List.sum_nil, Option.toList_some, Option.toList_none, Option.bind_some, Value.category, decide_eq_true_eq, decide_true, decide_false, if_true, if_false, Bool.false_eq_true, and_self, and_true, true_and, true_or, or_true, not_true_eq_false, not_false_eq_true, ↓reduceIte, reduceCtorEq, Nat.reduceEqDiff, Nat.reduceAdd, Nat.reduceSub, Nat.reduceMul, Nat.reduceLT, Nat.reduceLeDiff, Nat.reduceBEq, Nat.le_refl, Nat.zero_le, Nat.lt_irrefl, beq_self_eq_true, Nat.succ_ne_zero, Option.some.injEq, Prod.mk.injEq, Int32.reduceLT, Int32.reduceLE]
    · simp only [eX11_ask, kX11_ask_0, i_cst, i_ldI, i_ldJ, i_ldA, i_stI, i_stJ, i_stA, i_inc, i_bin, i_dv, i_un, i_i2l, i_bnJ, i_lshl, i_lcmp, i_dup, i_dp2, i_gI, i_gJ, i_gA, i_pI, i_pZ, i_pJ, i_pA, i_al, i_as, i_alJ, i_asJ, i_len, i_c0, i_c2, i_sw, msel, i_cV, i_cS, i_rV, i_rI, i_rZ, i_rJ, i_mm, i_pop, i_no, mpl, mvr, mnw, List.getElem?_cons_zero, List.getElem?_cons_succ, List.set_cons_zero, List.set_cons_succ, List.length_cons, List.length_nil, List.drop_succ_cons, List.drop_zero, List.take_succ_cons, List.take_zero, List.reverse_cons, List.reverse_nil, List.nil_append, List.cons_append, List.append_nil, List.map_cons, List.map_nil, List.sum_cons, List.sum_nil, Option.toList_some, Option.toList_none, Option.bind_some, Value.category, decide_eq_true_eq, decide_true, decide_false, if_true, if_false, Bool.false_eq_true, and_self, and_true, true_and, true_or, or_true, not_true_eq_false, not_false_eq_true, ↓reduceIte, reduceCtorEq, Nat.reduceEqDiff, Nat.reduceAdd, Nat.reduceSub, Nat.reduceMul, Nat.reduceLT, Nat.reduceLeDiff, Nat.reduceBEq, Nat.le_refl, Nat.zero_le, Nat.lt_irrefl, beq_self_eq_true, Nat.succ_ne_zero, Option.some.injEq, Prod.mk.injEq, Int32.reduceLT, Int32.reduceLE, show ¬ (1 : Int32) = 0 by decide]
  · have w1 : ¬ w = 0 := fun h => w0 (Or.inl h)
    have w2 : ¬ w = 1 := fun h => w0 (Or.inr h)
    refine ⟨I, ?_, hH, rf⟩
    simp only [eX11_ask, kX11_ask_0, kX11_ask_9, kX11_ask_20, kX11_ask_50, i_cst, i_ldI, i_ldJ, i_ldA, i_stI, i_stJ, i_stA, i_inc, i_bin, i_dv, i_un, i_i2l, i_bnJ, i_lshl, i_lcmp, i_dup, i_dp2, i_gI, i_gJ, i_gA, i_pI, i_pZ, i_pJ, i_pA, i_al, i_as, i_alJ, i_asJ, i_len, i_c0, i_c2, i_sw, msel, i_cV, i_cS, i_rV, i_rI, i_rZ, i_rJ, i_mm, i_pop, i_no, mpl, mvr, mnw, List.getElem?_cons_zero, List.getElem?_cons_succ, List.set_cons_zero, List.set_cons_succ, List.length_cons, List.length_nil, List.drop_succ_cons, List.drop_zero, List.take_succ_cons, List.take_zero, List.reverse_cons, List.reverse_nil, List.nil_append, List.cons_append, List.append_nil, List.map_cons, List.map_nil, List.sum_cons, List.sum_nil, Option.toList_some, Option.toList_none, Option.bind_some, Value.category, decide_eq_true_eq, decide_true, decide_false, if_true, if_false, Bool.false_eq_true, and_self, and_true, true_and, true_or, or_true, not_true_eq_false, not_false_eq_true, ↓reduceIte, reduceCtorEq, Nat.reduceEqDiff, Nat.reduceAdd, Nat.reduceSub, Nat.reduceMul, Nat.reduceLT, Nat.reduceLeDiff, Nat.reduceBEq, Nat.le_refl, Nat.zero_le, Nat.lt_irrefl, beq_self_eq_true, Nat.succ_ne_zero, Option.some.injEq, Prod.mk.injEq, Int32.reduceLT, Int32.reduceLE, w1, w2, aAsk]
    split <;> rfl
end Hear2
