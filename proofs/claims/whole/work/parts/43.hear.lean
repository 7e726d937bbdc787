/-! PURE: the class's Hearsay -/
/-- years, worth, is, when told, when untold -/
abbrev HE : Type := Nat × Int32 × Bool × Nat × Option Nat
def he0 : HE := (0, 0, false, 0, none)
def lcar (T : TA) : Nat := tk T - 1
def lbod (T : TA) : Int32 := nI (sbo (tS T) (lcar T))
def llan (T : TA) : Int32 := nI (pos (tS T) (lcar T) / tC T)
/-- the last one's hoot behind y years -/
def htY (T : TA) (h : Nat) : Nat → Nat
  | 0 => h
  | y + 1 => htY T h y - (softV T (nI (htY T h y)) (lbod T) (nI (tk T)) (llan T) (nI y)).toNatClampNeg
def tabW (T : TA) (h y : Nat) : Int32 := worthV T (nI (htY T h y)) (lbod T) (nI (tk T)) (llan T) (nI y)
def TabC (I : Nat → Nat → Int32) (T : TA) : Prop := ∀ y h, y < 21 → h < 100 → I 52 (100 * y + h) = tabW T h y
def HEC (I : Nat → Nat → Int32) (i : Nat) (e : HE) : Prop := (I 47 i = nI e.1 ∧ e.1 < 21) ∧ I 48 i = e.2.1 ∧ I 49 i = b2i (e.2.2.1 = true) ∧ (I 50 i = nI e.2.2.2.1 ∧ e.2.2.2.1 ≤ 100000) ∧ (I 51 i = oc e.2.2.2.2 ∧ ∀ t, e.2.2.2.2 = some t → t ≤ 100000)
def HC (I : Nat → Nat → Int32) (T : TA) (Hd : List HE) (tm : Nat) : Prop := Hd.length ≤ 30 ∧ I 46 6 = nI Hd.length ∧ (I 46 7 = nI tm ∧ tm ≤ 100000) ∧ (∀ i, i < Hd.length → HEC I i (Hd.getD i he0)) ∧ (I 46 9 = 0 ∨ TabC I T)
/-- does it count at k -/
def cntE (k : Int32) (e : HE) : Bool := decide (nI e.2.2.2.1 ≤ k) && (match e.2.2.2.2 with
  | none => true
  | some t => decide (k < nI t))
def badE (T : TA) (h : Nat) (k : Int32) (e : HE) : Bool := cntE k e && !(decide (e.2.1 ≤ tabW T h e.1) == e.2.2.1)
def hFit (T : TA) (Hd : List HE) (k : Int32) (h : Nat) : Bool := (ffd (fun i => badE T h k (Hd.getD i he0)) 0 Hd.length).isNone
/-- those below m, in a row -/
def fl (P : Nat → Bool) : Nat → List Nat
  | 0 => []
  | j + 1 => if P j = true then fl P j ++ [j] else fl P j
theorem fl_len (P : Nat → Bool) : ∀ m, (fl P m).length = cn P m := by
  intro m
  induction m with
  | zero => rfl
  | succ m ih =>
    unfold fl cn
    split
    · simp [ih]
    · exact ih
theorem fl_mem (P : Nat → Bool) : ∀ m i, i < (fl P m).length → (fl P m).getD i 0 < m ∧ P ((fl P m).getD i 0) = true := by
  intro m
  induction m with
  | zero => intro i hi; simp [fl] at hi
  | succ m ih =>
    intro i hi
    unfold fl at hi ⊢
    split at hi
    · rename_i hp
      rw [if_pos hp, getD_app]
      simp only [List.length_append, List.length_cons, List.length_nil] at hi
      split
      · exact ⟨by omega, hp⟩
      · obtain ⟨h1, h2⟩ := ih i (by omega)
        exact ⟨by omega, h2⟩
    · rename_i hp
      rw [if_neg hp]
      obtain ⟨h1, h2⟩ := ih i hi
      exact ⟨by omega, h2⟩
section Hear
variable {n : Nat} {I : Nat → Nat → Int32} {T : TA}
def HF (I I' : Nat → Nat → Int32) : Prop := ∀ b j, b ≠ 9 → b ≠ 12 → b ≠ 46 → b ≠ 52 → b ≠ 53 → I' b j = I b j
theorem TC_HF {I' : Nat → Nat → Int32} (hT : TC I T) (h : HF I I') : TC I' T := TC_of (fun b j h1 h2 h3 => h b j h3 (by omega) (by omega) (by omega) (by omega)) hT
theorem htY_le (T : TA) (h : Nat) : ∀ y, htY T h y ≤ h := by
  intro y
  induction y with
  | zero => exact Nat.le_refl _
  | succ y ih => unfold htY; omega
set_option maxHeartbeats 8000000 in
theorem p_tabulate (hn : 300 < n) (J : Nat → Nat → Int64) (f : Nat) (ht : TRg T) (hT : TC I T) (hk : 0 < tk T) {h : Nat} (hh : h < 100) : ∃ I', FX2_tabulate n [.ref 46, .int (nI h)] (mm I J f) = some (none, mm I' J f) ∧ (∀ y, y < 21 → I' 52 (100 * y + h) = tabW T h y) ∧ (∀ i, i % 100 ≠ h → I' 52 i = I 52 i) ∧ ∀ b j, b ≠ 9 → b ≠ 12 → b ≠ 52 → I' b j = I b j := by
  have hk8 := ht.1
  have hC := ht.2.1
  have hc8 : lcar T < 8 := by unfold lcar; omega
  have hck : lcar T < tk T := by unfold lcar; omega
  obtain ⟨w1, _, _, w4⟩ := hT.2.1 (lcar T) hck
  obtain ⟨p, hp⟩ := Option.isSome_iff_exists.mp (ht.2.2.2.2.2.2.2.2.2 (lcar T) hck)
  have hpp : pos (tS T) (lcar T) = p := by simp [pos, hp]
  have hp64 : p < 64 := Nat.lt_of_lt_of_le ((ht.2.2.2.2.2.1.1 (lcar T) hck).1 p hp) (cell_max ht)
  have e3 : I 3 (lcar T) = nI p := by rw [w1, hp]; rfl
  have e6 : I 6 (lcar T) = lbod T := w4
  have ec : nI (tk T) - 1 = nI (lcar T) := by rw [show (1 : Int32) = nI 1 from rfl, pk_sub (by omega)]; rfl
  have el : nI (p / tC T) = llan T := by unfold llan; rw [hpp]
  have hrow := p_rowOf n (show p < 2 ^ 30 by omega) J f ht hT
  rw [el] at hrow
  simp only [eX2_tabulate, kX2_tabulate_0, kX2_tabulate_46, i_cst, i_ldI, i_ldJ, i_ldA, i_stI, i_stJ, i_stA, i_inc, i_bin, i_dv, i_un, i_i2l, i_bnJ, i_lshl, i_lcmp, i_dup, i_dp2, i_gI, i_gJ, i_gA, i_pI, i_pZ, i_pJ, i_pA, i_al, i_as, i_alJ, i_asJ, i_len, i_c0, i_c2, i_sw, msel, i_cV, i_cS, i_rV, i_rI, i_rZ, i_rJ, i_mm, i_pop, i_no, mpl, mvr, mnw, List.getElem?_cons_zero, List.getElem?_cons_succ, List.set_cons_zero, List.set_cons_succ, List.length_cons, List.length_nil, List.drop_succ_cons, List.drop_zero, List.take_succ_cons, List.take_zero, List.reverse_cons, List.reverse_nil, List.nil_append, List.cons_append, List.append_nil, List.map_cons, List.map_nil, List.sum_cons, List.sum_nil, Option.toList_some, Option.toList_none, Option.bind_some, Value.category, decide_eq_true_eq, decide_true, decide_false, if_true, if_false, Bool.false_eq_true, and_self, and_true, true_and, true_or, or_true, not_true_eq_false, not_false_eq_true, ↓reduceIte, reduceCtorEq, Nat.reduceEqDiff, Nat.reduceAdd, Nat.reduceSub, Nat.reduceMul, Nat.reduceLT, Nat.reduceLeDiff, Nat.reduceBEq, Nat.le_refl, Nat.zero_le, Nat.lt_irrefl, beq_self_eq_true, Nat.succ_ne_zero, Option.some.injEq, Prod.mk.injEq, Int32.reduceLT, Int32.reduceLE, y_46, y_2, rt_46_0, rt_2_9, rt_2_6, hT.1.2.2.1, ec, p_atN n 6 (lcar T) (mm I J f) y_6 (by decide) hc8, p_atN n 3 (lcar T) (mm I J f) y_3 (by decide) hc8, e3, e6, hrow]
  refine mit_ind (G := kX2_tabulate_48 n) (fun d L μ => ∃ (y : Nat) (I' : Nat → Nat → Int32), y + d = 21 ∧ μ = mm I' J f ∧ (∀ z, z < y → I' 52 (100 * z + h) = tabW T h z) ∧ (∀ i, i % 100 ≠ h → I' 52 i = I 52 i) ∧ (∀ b j, b ≠ 9 → b ≠ 12 → b ≠ 52 → I' b j = I b j) ∧ L = [some (.ref 46), some (.int (nI h)), some (.int (nI (lcar T))), some (.int (lbod T)), some (.int (llan T)), some (.int (nI (htY T h y))), some (.int (nI y))]) (fun v => ∃ I', v = some (none, mm I' J f) ∧ (∀ y, y < 21 → I' 52 (100 * y + h) = tabW T h y) ∧ (∀ i, i % 100 ≠ h → I' 52 i = I 52 i) ∧ ∀ b j, b ≠ 9 → b ≠ 12 → b ≠ 52 → I' b j = I b j) ?_ ?_ 21 n _ _ (by omega) ⟨0, I, rfl, rfl, fun z hz => by omega, fun _ _ => rfl, fun _ _ _ _ _ => rfl, rfl⟩
  · rintro L μ ⟨y, I', hy, rfl, h1, h2, h3, rfl⟩
    have : y = 21 := by omega
    subst this
    refine ⟨_, fun r => ?_, I', rfl, h1, h2, h3⟩
    simp only [kX2_tabulate_48, i_cst, i_ldI, i_ldJ, i_ldA, i_stI, i_stJ, i_stA, i_inc, i_bin, i_dv, i_un, i_i2l, i_bnJ, i_lshl, i_lcmp, i_dup, i_dp2, i_gI, i_gJ, i_gA, i_pI, i_pZ, i_pJ, i_pA, i_al, i_as, i_alJ, i_asJ, i_len, i_c0, i_c2, i_sw, msel, i_cV, i_cS, i_rV, i_rI, i_rZ, i_rJ, i_mm, i_pop, i_no, mpl, mvr, mnw, List.getElem?_cons_zero, List.getElem?_cons_succ, List.set_cons_zero, List.set_cons_succ, List.length_cons, List.length_nil, List.drop_succ_cons, List.drop_zero, List.take_succ_cons, List.take_zero, List.reverse_cons, List.reverse_nil, List.nil_append, List.cons_append, List.append_nil, List.map_cons, List.map_nil, List.sum_cons, List.sum_nil, Option.toList_some, Option.toList_none, Option.bind_some, Value.category, decide_eq_true_eq, decide_true, decide_false, if_true, if_false, Bool.false_eq_true, and_self, and_true, true_and, true_or, or_true, not_true_eq_false, not_false_eq_true, ↓reduceIte, reduceCtorEq, Nat.reduceEqDiff, Nat.reduceAdd, Nat.reduceSub, Nat.reduceMul, Nat.reduceLT, Nat.reduceLeDiff, Nat.reduceBEq, Nat.le_refl, Nat.zero_le, Nat.lt_irrefl, beq_self_eq_true, Nat.succ_ne_zero, Option.some.injEq, Prod.mk.injEq, Int32.reduceLT, Int32.reduceLE, show (21 : Int32) ≤ nI 21 by decide]
  · rintro d L μ ⟨y, I', hy, rfl, h1, h2, h3, rfl⟩
    refine Or.inr ?_
    have hy21 : y < 21 := by omega
    have c1 : ¬ (21 : Int32) ≤ nI y := lit_nle (k := 21) rfl (by decide) hy21
    have hT' : TC I' T := TC_of (fun b j a1 a2 a3 => h3 b j a3 (by omega) (by omega)) hT
    obtain ⟨I2, g1, g2⟩ := p_worthBy hn J f ht hT' (nI (htY T h y)) (lbod T) (nI (tk T)) (llan T) (nI y)
    have gw : worthV T (nI (htY T h y)) (lbod T) (nI (tk T)) (llan T) (nI y) = tabW T h y := rfl
    rw [gw] at g1
    have hT2 : TC (u2 I2 52 (100 * y + h) (tabW T h y)) T := TC_of (fun b j a1 a2 a3 => by rw [u2_a (by omega), g2 b j a3 (by omega), h3 b j a3 (by omega) (by omega)]) hT
    obtain ⟨I3, g3, g4⟩ := p_softeningBy hn J f ht hT2 (nI (htY T h y)) (lbod T) (nI (tk T)) (llan T) (nI y)
    obtain ⟨s, s1, s2⟩ := clampS_nI (htY T h y) (by have := htY_le T h y; omega) (if tF T = [] then 1 else fval (envA (nI (htY T h y)) (lbod T) (nI (tk T)) (llan T) (nI y)) (tF T))
    have s3 : softV T (nI (htY T h y)) (lbod T) (nI (tk T)) (llan T) (nI y) = nI s := s2
    rw [s3] at g3
    have hle := htY_le T h y
    have ev : htY T h (y + 1) = htY T h y - s := by
      show htY T h y - _ = _
      rw [s3, nI_clamp (by omega)]
    have e5 : nI (htY T h y) - nI s = nI (htY T h (y + 1)) := by rw [pk_sub s1, ev]
    have ix : nI y * 100 + nI h = nI (100 * y + h) := by
      rw [show (100 : Int32) = nI 100 from rfl, pk_mul, nI_add, Nat.mul_comm]
    have e22 : I' 2 2 = nI (tk T) := hT'.1.2.2.1
    have e22b : u2 I2 52 (100 * y + h) (tabW T h y) 2 2 = nI (tk T) := hT2.1.2.2.1
    refine ⟨_, _, ⟨y + 1, I3, by omega, rfl, fun z hz => ?_, fun i hi => ?_, fun b j a1 a2 a3 => ?_, rfl⟩, fun r => ?_⟩
    · rw [g4 52 _ (by decide) (by decide)]
      by_cases e : z = y
      · subst e; rw [u2_s]
      · rw [u2_j (by omega), g2 52 _ (by decide) (by decide)]
        exact h1 z (by omega)
    · rw [g4 52 _ (by decide) (by decide), u2_j (by omega), g2 52 _ (by decide) (by decide)]
      exact h2 i hi
    · rw [g4 b j a1 a2, u2_a a3, g2 b j a1 a2]; exact h3 b j a1 a2 a3
    · simp only [kX2_tabulate_48, kX2_tabulate_96, i_cst, i_ldI, i_ldJ, i_ldA, i_stI, i_stJ, i_stA, i_inc, i_bin, i_dv, i_un, i_i2l, i_bnJ, i_lshl, i_lcmp, i_dup, i_dp2, i_gI, i_gJ, i_gA, i_pI, i_pZ, i_pJ, i_pA, i_al, i_as, i_alJ, i_asJ, i_len, i_c0, i_c2, i_sw, msel, i_cV, i_cS, i_rV, i_rI, i_rZ, i_rJ, i_mm, i_pop, i_no, mpl, mvr, mnw, List.getElem?_cons_zero, List.getElem?_cons_succ, List.set_cons_zero, List.set_cons_succ, List.length_cons, List.length_nil, List.drop_succ_cons, List.drop_zero, List.take_succ_cons, List.take_zero, List.reverse_cons, List.reverse_nil, List.nil_append, List.cons_append, List.append_nil, List.map_cons, List.map_nil, List.sum_cons, List.sum_nil, Option.toList_some, Option.toList_none, Option.bind_some, Value.category, decide_eq_true_eq, decide_true, decide_false, if_true, if_false, Bool.false_eq_true, and_self, and_true, true_and, true_or, or_true, not_true_eq_false, not_false_eq_true, ↓reduceIte, reduceCtorEq, Nat.reduceEqDiff, Nat.reduceAdd, Nat.reduceSub, Nat.reduceMul, Nat.reduceLT, Nat.reduceLeDiff, Nat.reduceBEq, Nat.le_refl, Nat.zero_le, Nat.lt_irrefl, beq_self_eq_true, Nat.succ_ne_zero, Option.some.injEq, Prod.mk.injEq, Int32.reduceLT, Int32.reduceLE, c1, y_46, y_2, rt_46_0, rt_46_8, ix, e22, e22b, g1, p_setN n 52 (100 * y + h) _ (mm I2 J f) y_52 (by decide) (show 100 * y + h < 2100 by omega), uI_mm, g3, e5, nI_1]
set_option maxHeartbeats 4000000 in
theorem p_makeTable (hn : 300 < n) (J : Nat → Nat → Int64) (f : Nat) (ht : TRg T) (hT : TC I T) (hk : 0 < tk T) (hm : I 46 9 = 0 ∨ TabC I T) : ∃ I', FX2_makeTable n [.ref 46] (mm I J f) = some (none, mm I' J f) ∧ TabC I' T ∧ (∀ j, j ≠ 9 → I' 46 j = I 46 j) ∧ ∀ b j, b ≠ 9 → b ≠ 12 → b ≠ 46 → b ≠ 52 → I' b j = I b j := by
  simp only [eX2_makeTable, kX2_makeTable_0, i_cst, i_ldI, i_ldJ, i_ldA, i_stI, i_stJ, i_stA, i_inc, i_bin, i_dv, i_un, i_i2l, i_bnJ, i_lshl, i_lcmp, i_dup, i_dp2, i_gI, i_gJ, i_gA, i_pI, i_pZ, i_pJ, i_pA, i_al, i_as, i_alJ, i_asJ, i_len, i_c0, i_c2, i_sw, msel, i_cV, i_cS, i_rV, i_rI, i_rZ, i_rJ, i_mm, i_pop, i_no, mpl, mvr, mnw, List.getElem?_cons_zero, List.getElem?_cons_succ, List.set_cons_zero, List.set_cons_succ, List.length_cons, List.length_nil, List.drop_succ_cons, List.drop_zero, List.take_succ_cons, List.take_zero, List.reverse_cons, List.reverse_nil, List.nil_append, List.cons_append, List.append_nil, List.map_cons, List.map_nil, List.sum_cons, List.sum_nil, Option.toList_some, Option.toList_none, Option.bind_some, Value.category, decide_eq_true_eq, decide_true, decide_false, if_true, if_false, Bool.false_eq_true, and_self, and_true, true_and, true_or, or_true, not_true_eq_false, not_false_eq_true, ↓reduceIte, reduceCtorEq, Nat.reduceEqDiff, Nat.reduceAdd, Nat.reduceSub, Nat.reduceMul, Nat.reduceLT, Nat.reduceLeDiff, Nat.reduceBEq, Nat.le_refl, Nat.zero_le, Nat.lt_irrefl, beq_self_eq_true, Nat.succ_ne_zero, Option.some.injEq, Prod.mk.injEq, Int32.reduceLT, Int32.reduceLE]
  by_cases hz : I 46 9 = 0
  · refine mit_ind (G := kX2_makeTable_2 n) (fun d L μ => ∃ (h : Nat) (I' : Nat → Nat → Int32), h + d = 100 ∧ μ = mm I' J f ∧ (∀ z y, z < h → y < 21 → I' 52 (100 * y + z) = tabW T z y) ∧ (∀ b j, b ≠ 9 → b ≠ 12 → b ≠ 52 → I' b j = I b j) ∧ L = [some (.ref 46), some (.int (nI h))]) (fun v => ∃ I', v = some (none, mm I' J f) ∧ TabC I' T ∧ (∀ j, j ≠ 9 → I' 46 j = I 46 j) ∧ ∀ b j, b ≠ 9 → b ≠ 12 → b ≠ 46 → b ≠ 52 → I' b j = I b j) ?_ ?_ 100 n _ _ (by omega) ⟨0, I, rfl, rfl, fun z y hz => by omega, fun _ _ _ _ _ => rfl, rfl⟩
    · rintro L μ ⟨h, I', hh, rfl, h1, h3, rfl⟩
      have : h = 100 := by omega
      subst this
      refine ⟨_, fun r => ?_, u2 I' 46 9 1, rfl, fun y z hy hz => by rw [u2_a (by decide)]; exact h1 z y hz hy, fun j hj => by rw [u2_j hj]; exact h3 46 j (by decide) (by decide) (by decide), fun b j a1 a2 a3 a4 => by rw [u2_a a3]; exact h3 b j a1 a2 a4⟩
      simp only [kX2_makeTable_2, kX2_makeTable_26, i_cst, i_ldI, i_ldJ, i_ldA, i_stI, i_stJ, i_stA, i_inc, i_bin, i_dv, i_un, i_i2l, i_bnJ, i_lshl, i_lcmp, i_dup, i_dp2, i_gI, i_gJ, i_gA, i_pI, i_pZ, i_pJ, i_pA, i_al, i_as, i_alJ, i_asJ, i_len, i_c0, i_c2, i_sw, msel, i_cV, i_cS, i_rV, i_rI, i_rZ, i_rJ, i_mm, i_pop, i_no, mpl, mvr, mnw, List.getElem?_cons_zero, List.getElem?_cons_succ, List.set_cons_zero, List.set_cons_succ, List.length_cons, List.length_nil, List.drop_succ_cons, List.drop_zero, List.take_succ_cons, List.take_zero, List.reverse_cons, List.reverse_nil, List.nil_append, List.cons_append, List.append_nil, List.map_cons, List.map_nil, List.sum_cons, List.sum_nil, Option.toList_some, Option.toList_none, Option.bind_some, Value.category, decide_eq_true_eq, decide_true, decide_false, if_true, if_false, Bool.false_eq_true, and_self, and_true, true_and, true_or, or_true, not_true_eq_false, not_false_eq_true, ↓reduceIte, reduceCtorEq, Nat.reduceEqDiff, Nat.reduceAdd, Nat.reduceSub, Nat.reduceMul, Nat.reduceLT, Nat.reduceLeDiff, Nat.reduceBEq, Nat.le_refl, Nat.zero_le, Nat.lt_irrefl, beq_self_eq_true, Nat.succ_ne_zero, Option.some.injEq, Prod.mk.injEq, Int32.reduceLT, Int32.reduceLE, show (100 : Int32) ≤ nI 100 by decide, y_46, uI_mm]
    · rintro d L μ ⟨h, I', hh, rfl, h1, h3, rfl⟩
      refine Or.inr ?_
      have c1 : ¬ (100 : Int32) ≤ nI h := lit_nle (k := 100) rfl (by decide) (by omega)
      have hT' : TC I' T := TC_of (fun b j a1 a2 a3 => h3 b j a3 (by omega) (by omega)) hT
      obtain ⟨I2, g1, g2, g3, g4⟩ := p_tabulate hn J f ht hT' hk (show h < 100 by omega)
      have e9 : I' 46 9 = 0 := by rw [h3 46 9 (by decide) (by decide) (by decide)]; exact hz
      refine ⟨_, _, ⟨h + 1, I2, by omega, rfl, fun z y hz hy => ?_, fun b j a1 a2 a3 => by rw [g4 b j a1 a2 a3]; exact h3 b j a1 a2 a3, rfl⟩, fun r => ?_⟩
      · by_cases e : z = h
        · subst e; exact g2 y hy
        · rw [g3 _ (by omega)]; exact h1 z y (by omega) hy
      · simp only [kX2_makeTable_2, kX2_makeTable_26, i_cst, i_ldI, i_ldJ, i_ldA, i_stI, i_stJ, i_stA, i_inc, i_bin, i_dv, i_un, i_i2l, i_bnJ, i_lshl, i_lcmp, i_dup, i_dp2, i_gI, i_gJ, i_gA, i_pI, i_pZ, i_pJ, i_pA, i_al, i_as, i_alJ, i_asJ, i_len, i_c0, i_c2, i_sw, msel, i_cV, i_cS, i_rV, i_rI, i_rZ, i_rJ, i_mm, i_pop, i_no, mpl, mvr, mnw, List.getElem?_cons_zero, List.getElem?_cons_succ, List.set_cons_zero, List.set_cons_succ, List.length_cons, List.length_nil, List.drop_succ_cons, List.drop_zero, List.take_succ_cons, List.take_zero, List.reverse_cons, List.reverse_nil, List.nil_append, List.cons_append, List.append_nil, List.map_cons, List.map_nil, List.sum_cons, List.sum_nil, Option.toList_some, Option.toList_none, Option.bind_some, Value.category, decide_eq_true_eq, decide_true, decide_false, if_true, if_false, Bool.false_eq_true, and_self, and_true, true_and, true_or, or_true, not_true_eq_false, not_false_eq_true, ↓reduceIte, reduceCtorEq, Nat.reduceEqDiff, Nat.reduceAdd, Nat.reduceSub, Nat.reduceMul, Nat.reduceLT, Nat.reduceLeDiff, Nat.reduceBEq, Nat.le_refl, Nat.zero_le, Nat.lt_irrefl, beq_self_eq_true, Nat.succ_ne_zero, Option.some.injEq, Prod.mk.injEq, Int32.reduceLT, Int32.reduceLE, c1, y_46, e9, g1, nI_1]
  · refine ⟨u2 I 46 9 1, ?_, fun y z hy hz2 => by rw [u2_a (by decide)]; exact hm.resolve_left hz y z hy hz2, fun j hj => u2_j hj, fun b j _ _ a3 _ => u2_a a3⟩
    rw [show n = (n - 1) + 1 by omega, mit_succ]
    simp only [kX2_makeTable_2, kX2_makeTable_26, i_cst, i_ldI, i_ldJ, i_ldA, i_stI, i_stJ, i_stA, i_inc, i_bin, i_dv, i_un, i_i2l, i_bnJ, i_lshl, i_lcmp, i_dup, i_dp2, i_gI, i_gJ, i_gA, i_pI, i_pZ, i_pJ, i_pA, i_al, i_as, i_alJ, i_asJ, i_len, i_c0, i_c2, i_sw, msel, i_cV, i_cS, i_rV, i_rI, i_rZ, i_rJ, i_mm, i_pop, i_no, mpl, mvr, mnw, List.getElem?_cons_zero, List.getElem?_cons_succ, List.set_cons_zero, List.set_cons_succ, List.length_cons, List.length_nil, List.drop_succ_cons, List.drop_zero, List.take_succ_cons, List.take_zero, List.reverse_cons, List.reverse_nil, List.nil_append, List.cons_append, List.append_nil, List.map_cons, List.map_nil, List.sum_cons, List.sum_nil, Option.toList_some, Option.toList_none, Option.bind_some, Value.category, decide_eq_true_eq, decide_true, decide_false, if_true, if_false, Bool.false_eq_true, and_self, and_true, true_and, true_or, or_true, not_true_eq_false, not_false_eq_true, ↓reduceIte, reduceCtorEq, Nat.reduceEqDiff, Nat.reduceAdd, Nat.reduceSub, Nat.reduceMul, Nat.reduceLT, Nat.reduceLeDiff, Nat.reduceBEq, Nat.le_refl, Nat.zero_le, Nat.lt_irrefl, beq_self_eq_true, Nat.succ_ne_zero, Option.some.injEq, Prod.mk.injEq, Int32.reduceLT, Int32.reduceLE, show ¬ (100 : Int32) ≤ 0 by decide, y_46, hz, uI_mm]
set_option maxHeartbeats 4000000 in
theorem p_worthBehind (n : Nat) (J : Nat → Nat → Int64) (f : Nat) (ht : TabC I T) {y h : Nat} (hy : y < 21) (hh : h < 100) : FX2_worthBehind n [.ref 46, .int (nI y), .int (nI h)] (mm I J f) = some (some (.int (tabW T h y)), mm I J f) := by
  have ix : nI y * 100 + nI h = nI (100 * y + h) := by
    rw [show (100 : Int32) = nI 100 from rfl, pk_mul, nI_add, Nat.mul_comm]
  simp only [eX2_worthBehind, kX2_worthBehind_0, i_cst, i_ldI, i_ldJ, i_ldA, i_stI, i_stJ, i_stA, i_inc, i_bin, i_dv, i_un, i_i2l, i_bnJ, i_lshl, i_lcmp, i_dup, i_dp2, i_gI, i_gJ, i_gA, i_pI, i_pZ, i_pJ, i_pA, i_al, i_as, i_alJ, i_asJ, i_len, i_c0, i_c2, i_sw, msel, i_cV, i_cS, i_rV, i_rI, i_rZ, i_rJ, i_mm, i_pop, i_no, mpl, mvr, mnw, List.getElem?_cons_zero, List.getElem?_cons_succ, List.set_cons_zero, List.set_cons_succ, List.length_cons, List.length_nil, List.drop_succ_cons, List.drop_zero, List.take_succ_cons, List.take_zero, List.reverse_cons, List.reverse_nil, List.nil_append, List.cons_append, List.append_nil, List.map_cons, List.map_nil, List.sum_cons, List.sum_nil, Option.toList_some, Option.toList_none, Option.bind_some, Value.category, decide_eq_true_eq, decide_true, decide_false, if_true, if_false, Bool.false_eq_true, and_self, and_true, true_and, true_or, or_true, not_true_eq_false, not_false_eq_true, ↓reduceIte, reduceCtorEq, Nat.reduceEqDiff, Nat.reduceAdd, Nat.reduceSub, Nat.reduceMul, Nat.reduceLT, Nat.reduceLeDiff, Nat.reduceBEq, Nat.le_refl, Nat.zero_le, Nat.lt_irrefl, beq_self_eq_true, Nat.succ_ne_zero, Option.some.injEq, Prod.mk.injEq, Int32.reduceLT, Int32.reduceLE, y_46, rt_46_8, ix, p_atN n 52 (100 * y + h) (mm I J f) y_52 (by decide) (show 100 * y + h < 2100 by omega), ht y h hy hh]
set_option maxHeartbeats 4000000 in
theorem p_countsAt (n : Nat) (J : Nat → Nat → Int64) (f : Nat) {i : Nat} (hi : i < 30) {e : HE} (he : HEC I i e) (k : Int32) : FX2_countsAt n [.ref 46, .int (nI i), .int k] (mm I J f) = some (some (.int (b2i (cntE k e = true))), mm I J f) := by
  obtain ⟨-, -, -, ⟨h50, -⟩, h51, h51b⟩ := he
  have q1 := p_atN n 51 i (mm I J f) y_51 (by decide) hi
  have q2 := p_atN n 50 i (mm I J f) y_50 (by decide) hi
  by_cases c1 : k < nI e.2.2.2.1
  · have : cntE k e = false := by simp [cntE, Int32.not_le.mpr c1]
    simp only [eX2_countsAt, kX2_countsAt_0, kX2_countsAt_31, kX2_countsAt_35, kX2_countsAt_36, i_cst, i_ldI, i_ldJ, i_ldA, i_stI, i_stJ, i_stA, i_inc, i_bin, i_dv, i_un, i_i2l, i_bnJ, i_lshl, i_lcmp, i_dup, i_dp2, i_gI, i_gJ, i_gA, i_pI, i_pZ, i_pJ, i_pA, i_al, i_as, i_alJ, i_asJ, i_len, i_c0, i_c2, i_sw, msel, i_cV, i_cS, i_rV, i_rI, i_rZ, i_rJ, i_mm, i_pop, i_no, mpl, mvr, mnw, List.getElem?_cons_zero, List.getElem?_cons_succ, List.set_cons_zero, List.set_cons_succ, List.length_cons, List.length_nil, List.drop_succ_cons, List.drop_zero, List.take_succ_cons, List.take_zero, List.reverse_cons, List.reverse_nil, List.nil_append, List.cons_append, List.append_nil, List.map_cons, List.map_nil, List.sum_cons, List.sum_nil, Option.toList_some, Option.toList_none, Option.bind_some, Value.category, decide_eq_true_eq, decide_true, decide_false, if_true, if_false, Bool.false_eq_true, and_self, and_true, true_and, true_or, or_true, not_true_eq_false, not_false_eq_true, ↓reduceIte, reduceCtorEq, Nat.reduceEqDiff, Nat.reduceAdd, Nat.reduceSub, Nat.reduceMul, Nat.reduceLT, Nat.reduceLeDiff, Nat.reduceBEq, Nat.le_refl, Nat.zero_le, Nat.lt_irrefl, beq_self_eq_true, Nat.succ_ne_zero, Option.some.injEq, Prod.mk.injEq, Int32.reduceLT, Int32.reduceLE, y_46, rt_46_4, rt_46_5, q1, q2, h50, h51, c1, this, b2i]
  · have c1' := Int32.not_lt.mp c1
    cases eu : e.2.2.2.2 with
    | none =>
      have : cntE k e = true := by simp [cntE, c1', eu]
      rw [eu] at h51
      have h51' : I 51 i = -1 := h51
      simp only [eX2_countsAt, kX2_countsAt_0, kX2_countsAt_31, kX2_countsAt_35, kX2_countsAt_36, i_cst, i_ldI, i_ldJ, i_ldA, i_stI, i_stJ, i_stA, i_inc, i_bin, i_dv, i_un, i_i2l, i_bnJ, i_lshl, i_lcmp, i_dup, i_dp2, i_gI, i_gJ, i_gA, i_pI, i_pZ, i_pJ, i_pA, i_al, i_as, i_alJ, i_asJ, i_len, i_c0, i_c2, i_sw, msel, i_cV, i_cS, i_rV, i_rI, i_rZ, i_rJ, i_mm, i_pop, i_no, mpl, mvr, mnw, List.getElem?_cons_zero, List.getElem?_cons_succ, List.set_cons_zero, List.set_cons_succ, List.length_cons, List.length_nil, List.drop_succ_cons, List.drop_zero, List.take_succ_cons, List.take_zero, List.reverse_cons, List.reverse_nil, List.nil_append, List.cons_append, List.append_nil, List.map_cons, List.map_nil, List.sum_cons, List.sum_nil, Option.toList_some, Option.toList_none, Option.bind_some, Value.category, decide_eq_true_eq, decide_true, decide_false, if_true, if_false, Bool.false_eq_true, and_self, and_true, true_and, true_or, or_true, not_true_eq_false, not_false_eq_true, ↓reduceIte, reduceCtorEq, Nat.reduceEqDiff, Nat.reduceAdd, Nat.reduceSub, Nat.reduceMul, Nat.reduceLT, Nat.reduceLeDiff, Nat.reduceBEq, Nat.le_refl, Nat.zero_le, Nat.lt_irrefl, beq_self_eq_true, Nat.succ_ne_zero, Option.some.injEq, Prod.mk.injEq, Int32.reduceLT, Int32.reduceLE, y_46, rt_46_4, rt_46_5, q1, q2, h50, h51', c1, this, b2i]
    | some t =>
      rw [eu] at h51
      have h51' : I 51 i = nI t := h51
      have ht := h51b t eu
      have c2 : ¬ nI t = -1 := nI_n1 (by omega)
      by_cases c3 : nI t ≤ k
      · have : cntE k e = false := by simp [cntE, c1', eu, Int32.not_lt.mpr c3]
        simp only [eX2_countsAt, kX2_countsAt_0, kX2_countsAt_31, kX2_countsAt_35, kX2_countsAt_36, i_cst, i_ldI, i_ldJ, i_ldA, i_stI, i_stJ, i_stA, i_inc, i_bin, i_dv, i_un, i_i2l, i_bnJ, i_lshl, i_lcmp, i_dup, i_dp2, i_gI, i_gJ, i_gA, i_pI, i_pZ, i_pJ, i_pA, i_al, i_as, i_alJ, i_asJ, i_len, i_c0, i_c2, i_sw, msel, i_cV, i_cS, i_rV, i_rI, i_rZ, i_rJ, i_mm, i_pop, i_no, mpl, mvr, mnw, List.getElem?_cons_zero, List.getElem?_cons_succ, List.set_cons_zero, List.set_cons_succ, List.length_cons, List.length_nil, List.drop_succ_cons, List.drop_zero, List.take_succ_cons, List.take_zero, List.reverse_cons, List.reverse_nil, List.nil_append, List.cons_append, List.append_nil, List.map_cons, List.map_nil, List.sum_cons, List.sum_nil, Option.toList_some, Option.toList_none, Option.bind_some, Value.category, decide_eq_true_eq, decide_true, decide_false, if_true, if_false, Bool.false_eq_true, and_self, and_true, true_and, true_or, or_true, not_true_eq_false, not_false_eq_true, ↓reduceIte, reduceCtorEq, Nat.reduceEqDiff, Nat.reduceAdd, Nat.reduceSub, Nat.reduceMul, Nat.reduceLT, Nat.reduceLeDiff, Nat.reduceBEq, Nat.le_refl, Nat.zero_le, Nat.lt_irrefl, beq_self_eq_true, Nat.succ_ne_zero, Option.some.injEq, Prod.mk.injEq, Int32.reduceLT, Int32.reduceLE, y_46, rt_46_4, rt_46_5, q1, q2, h50, h51', c1, c2, c3, this, b2i]
      · have : cntE k e = true := by simp [cntE, c1', eu, Int32.not_le.mp c3]
        simp only [eX2_countsAt, kX2_countsAt_0, kX2_countsAt_31, kX2_countsAt_35, kX2_countsAt_36, i_cst, i_ldI, i_ldJ, i_ldA, i_stI, i_stJ, i_stA, i_inc, i_bin, i_dv, i_un, i_i2l, i_bnJ, i_lshl, i_lcmp, i_dup, i_dp2, i_gI, i_gJ, i_gA, i_pI, i_pZ, i_pJ, i_pA, i_al, i_as, i_alJ, i_asJ, i_len, i_c0, i_c2, i_sw, msel, i_cV, i_cS, i_rV, i_rI, i_rZ, i_rJ, i_mm, i_pop, i_no, mpl, mvr, mnw, List.getElem?_cons_zero, List.getElem?_cons_succ, List.set_cons_zero, List.set_cons_succ, List.length_cons, List.length_nil, List.drop_succ_cons, List.drop_zero, List.take_succ_cons, List.take_zero, List.reverse_cons, List.reverse_nil, List.nil_append, List.cons_append, List.append_nil, List.map_cons, List.map_nil, List.sum_cons, List.sum_nil, Option.toList_some, Option.toList_none, Option.bind_some, Value.category, decide_eq_true_eq, decide_true, decide_false, if_true, if_false, Bool.false_eq_true, and_self, and_true, true_and, true_or, or_true, not_true_eq_false, not_false_eq_true, ↓reduceIte, reduceCtorEq, Nat.reduceEqDiff, Nat.reduceAdd, Nat.reduceSub, Nat.reduceMul, Nat.reduceLT, Nat.reduceLeDiff, Nat.reduceBEq, Nat.le_refl, Nat.zero_le, Nat.lt_irrefl, beq_self_eq_true, Nat.succ_ne_zero, Option.some.injEq, Prod.mk.injEq, Int32.reduceLT, Int32.reduceLE, y_46, rt_46_4, rt_46_5, q1, q2, h50, h51', c1, c2, c3, this, b2i]
set_option maxHeartbeats 4000000 in
theorem p_fitsAll (hn : 300 < n) (J : Nat → Nat → Int64) (f : Nat) (ht : TabC I T) {Hd : List HE} (hl : Hd.length ≤ 30) (h6 : I 46 6 = nI Hd.length) (he : ∀ i, i < Hd.length → HEC I i (Hd.getD i he0)) {h : Nat} (hh : h < 100) (k : Int32) : FX2_fitsAll n [.ref 46, .int (nI h), .int k] (mm I J f) = some (some (.int (b2i (hFit T Hd k h = true))), mm I J f) := by
  simp only [eX2_fitsAll, kX2_fitsAll_0, i_cst, i_ldI, i_ldJ, i_ldA, i_stI, i_stJ, i_stA, i_inc, i_bin, i_dv, i_un, i_i2l, i_bnJ, i_lshl, i_lcmp, i_dup, i_dp2, i_gI, i_gJ, i_gA, i_pI, i_pZ, i_pJ, i_pA, i_al, i_as, i_alJ, i_asJ, i_len, i_c0, i_c2, i_sw, msel, i_cV, i_cS, i_rV, i_rI, i_rZ, i_rJ, i_mm, i_pop, i_no, mpl, mvr, mnw, List.getElem?_cons_zero, List.getElem?_cons_succ, List.set_cons_zero, List.set_cons_succ, List.length_cons, List.length_nil, List.drop_succ_cons, List.drop_zero, List.take_succ_cons, List.take_zero, List.reverse_cons, List.reverse_nil, List.nil_append, List.cons_append, List.append_nil, List.map_cons, List.map_nil, List.sum_cons, List.sum_nil, Option.toList_some, Option.toList_none, Option.bind_some, Value.category, decide_eq_true_eq, decide_true, decide_false, if_true, if_false, Bool.false_eq_true, and_self, and_true, true_and, true_or, or_true, not_true_eq_false, not_false_eq_true, ↓reduceIte, reduceCtorEq, Nat.reduceEqDiff, Nat.reduceAdd, Nat.reduceSub, Nat.reduceMul, Nat.reduceLT, Nat.reduceLeDiff, Nat.reduceBEq, Nat.le_refl, Nat.zero_le, Nat.lt_irrefl, beq_self_eq_true, Nat.succ_ne_zero, Option.some.injEq, Prod.mk.injEq, Int32.reduceLT, Int32.reduceLE]
  rw [show some (some (Value.int (b2i (hFit T Hd k h = true))), mm I J f) = match ffd (fun i => badE T h k (Hd.getD i he0)) 0 Hd.length with
    | some _ => some (some (Value.int 0), mm I J f)
    | none => some (some (Value.int 1), mm I J f) by unfold hFit; cases ffd (fun i => badE T h k (Hd.getD i he0)) 0 Hd.length <;> rfl]
  refine mit_find (fun i => [some (.ref 46), some (.int (nI h)), some (.int k), some (.int (nI i)), if i = 0 then none else some (.int (b2i ((Hd.getD (i - 1) he0).2.1 ≤ tabW T h (Hd.getD (i - 1) he0).1)))]) (fun _ => mm I J f) (B := Hd.length) (fun i => badE T h k (Hd.getD i he0)) (fun _ => some (some (Value.int 0), mm I J f)) (fun i hi r => ?_) (by omega) (fun r => ?_)
  · have hE := he i hi
    obtain ⟨⟨g1, g1b⟩, g2, g3, -⟩ := id hE
    have c1 : ¬ nI Hd.length ≤ nI i := by rw [nI_leI (by omega) (by omega)]; omega
    have c2 : ¬ Int32.ofNat 30 ≤ nI i := lit_nle (k := 30) rfl (by decide) (by omega)
    have c3 : (0 : Int32) ≤ nI i := nI_pos' (by omega)
    have c4 : (nI i).toNatClampNeg = i := nI_clamp (by omega)
    have c5 : i < 30 := by omega
    have q1 := p_atN n 47 i (mm I J f) y_47 (by decide) c5
    have q2 := p_atN n 48 i (mm I J f) y_48 (by decide) c5
    have q3 := p_worthBehind n J f ht (h := h) g1b hh
    have q4 := p_countsAt n J f c5 hE k
    by_cases d1 : (Hd.getD i he0).2.1 ≤ tabW T h (Hd.getD i he0).1
    · have d2 : ¬ tabW T h (Hd.getD i he0).1 < (Hd.getD i he0).2.1 := Int32.not_lt.mpr d1
      have b1 : b2i ((Hd.getD i he0).2.1 ≤ tabW T h (Hd.getD i he0).1) = 1 := b2i_pos d1
      cases d3 : (Hd.getD i he0).2.2.1 with
      | false =>
        have g3' : I 49 i = 0 := by rw [g3, d3]; rfl
        cases d4 : cntE k (Hd.getD i he0) with
        | false =>
          have : badE T h k (Hd.getD i he0) = false := by simp only [badE, d4, Bool.false_and]
          rw [d4] at q4
          simp only [kX2_fitsAll_2, kX2_fitsAll_48, kX2_fitsAll_72, i_cst, i_ldI, i_ldJ, i_ldA, i_stI, i_stJ, i_stA, i_inc, i_bin, i_dv, i_un, i_i2l, i_bnJ, i_lshl, i_lcmp, i_dup, i_dp2, i_gI, i_gJ, i_gA, i_pI, i_pZ, i_pJ, i_pA, i_al, i_as, i_alJ, i_asJ, i_len, i_c0, i_c2, i_sw, msel, i_cV, i_cS, i_rV, i_rI, i_rZ, i_rJ, i_mm, i_pop, i_no, mpl, mvr, mnw, List.getElem?_cons_zero, List.getElem?_cons_succ, List.set_cons_zero, List.set_cons_succ, List.length_cons, List.length_nil, List.drop_succ_cons, List.drop_zero, List.take_succ_cons, List.take_zero, List.reverse_cons, List.reverse_nil, List.nil_append, List.cons_append, List.append_nil, List.map_cons, List.map_nil, List.sum_cons, List.sum_nil, Option.toList_some, Option.toList_none, Option.bind_some, Value.category, decide_eq_true_eq, decide_true, decide_false, if_true, if_false, Bool.false_eq_true, and_self, and_true, true_and, true_or, or_true, not_true_eq_false, not_false_eq_true, ↓reduceIte, reduceCtorEq, Nat.reduceEqDiff, Nat.reduceAdd, Nat.reduceSub, Nat.reduceMul, Nat.reduceLT, Nat.reduceLeDiff, Nat.reduceBEq, Nat.le_refl, Nat.zero_le, Nat.lt_irrefl, beq_self_eq_true, Nat.succ_ne_zero, Option.some.injEq, Prod.mk.injEq, Int32.reduceLT, Int32.reduceLE, y_46, y_49, rt_46_1, rt_46_2, rt_46_3, h6, c1, c2, c3, c4, c5, q1, q2, g1, g2, g3', q3, d2, q4, b2i_eq0, this, nI_1, Nat.add_sub_cancel, b1, show ¬ (1 : Int32) = 0 by decide]
        | true =>
          have : badE T h k (Hd.getD i he0) = true := by simp only [badE, d4, d3, d1, decide_true, Bool.true_and]; rfl
          rw [d4] at q4
          simp only [kX2_fitsAll_2, kX2_fitsAll_48, kX2_fitsAll_72, i_cst, i_ldI, i_ldJ, i_ldA, i_stI, i_stJ, i_stA, i_inc, i_bin, i_dv, i_un, i_i2l, i_bnJ, i_lshl, i_lcmp, i_dup, i_dp2, i_gI, i_gJ, i_gA, i_pI, i_pZ, i_pJ, i_pA, i_al, i_as, i_alJ, i_asJ, i_len, i_c0, i_c2, i_sw, msel, i_cV, i_cS, i_rV, i_rI, i_rZ, i_rJ, i_mm, i_pop, i_no, mpl, mvr, mnw, List.getElem?_cons_zero, List.getElem?_cons_succ, List.set_cons_zero, List.set_cons_succ, List.length_cons, List.length_nil, List.drop_succ_cons, List.drop_zero, List.take_succ_cons, List.take_zero, List.reverse_cons, List.reverse_nil, List.nil_append, List.cons_append, List.append_nil, List.map_cons, List.map_nil, List.sum_cons, List.sum_nil, Option.toList_some, Option.toList_none, Option.bind_some, Value.category, decide_eq_true_eq, decide_true, decide_false, if_true, if_false, Bool.false_eq_true, and_self, and_true, true_and, true_or, or_true, not_true_eq_false, not_false_eq_true, ↓reduceIte, reduceCtorEq, Nat.reduceEqDiff, Nat.reduceAdd, Nat.reduceSub, Nat.reduceMul, Nat.reduceLT, Nat.reduceLeDiff, Nat.reduceBEq, Nat.le_refl, Nat.zero_le, Nat.lt_irrefl, beq_self_eq_true, Nat.succ_ne_zero, Option.some.injEq, Prod.mk.injEq, Int32.reduceLT, Int32.reduceLE, y_46, y_49, rt_46_1, rt_46_2, rt_46_3, h6, c1, c2, c3, c4, c5, q1, q2, g1, g2, g3', q3, d2, q4, b2i_eq0, this, show ¬ (1 : Int32) = 0 by decide]
      | true =>
        have g3' : I 49 i = 1 := by rw [g3, d3]; rfl
        have : badE T h k (Hd.getD i he0) = false := by simp only [badE, d3, d1, decide_true]; cases cntE k (Hd.getD i he0) <;> rfl
        simp only [kX2_fitsAll_2, kX2_fitsAll_48, kX2_fitsAll_72, i_cst, i_ldI, i_ldJ, i_ldA, i_stI, i_stJ, i_stA, i_inc, i_bin, i_dv, i_un, i_i2l, i_bnJ, i_lshl, i_lcmp, i_dup, i_dp2, i_gI, i_gJ, i_gA, i_pI, i_pZ, i_pJ, i_pA, i_al, i_as, i_alJ, i_asJ, i_len, i_c0, i_c2, i_sw, msel, i_cV, i_cS, i_rV, i_rI, i_rZ, i_rJ, i_mm, i_pop, i_no, mpl, mvr, mnw, List.getElem?_cons_zero, List.getElem?_cons_succ, List.set_cons_zero, List.set_cons_succ, List.length_cons, List.length_nil, List.drop_succ_cons, List.drop_zero, List.take_succ_cons, List.take_zero, List.reverse_cons, List.reverse_nil, List.nil_append, List.cons_append, List.append_nil, List.map_cons, List.map_nil, List.sum_cons, List.sum_nil, Option.toList_some, Option.toList_none, Option.bind_some, Value.category, decide_eq_true_eq, decide_true, decide_false, if_true, if_false, Bool.false_eq_true, and_self, and_true, true_and, true_or, or_true, not_true_eq_false, not_false_eq_true, ↓reduceIte, reduceCtorEq, Nat.reduceEqDiff, Nat.reduceAdd, Nat.reduceSub, Nat.reduceMul, Nat.reduceLT, Nat.reduceLeDiff, Nat.reduceBEq, Nat.le_refl, Nat.zero_le, Nat.lt_irrefl, beq_self_eq_true, Nat.succ_ne_zero, Option.some.injEq, Prod.mk.injEq, Int32.reduceLT, Int32.reduceLE, y_46, y_49, rt_46_1, rt_46_2, rt_46_3, h6, c1, c2, c3, c4, c5, q1, q2, g1, g2, g3', q3, d2, this, nI_1, Nat.add_sub_cancel, b1]
    · have d2 : tabW T h (Hd.getD i he0).1 < (Hd.getD i he0).2.1 := Int32.not_le.mp d1
      have b1 : b2i ((Hd.getD i he0).2.1 ≤ tabW T h (Hd.getD i he0).1) = 0 := b2i_neg d1
      cases d3 : (Hd.getD i he0).2.2.1 with
      | true =>
        have g3' : I 49 i = 1 := by rw [g3, d3]; rfl
        cases d4 : cntE k (Hd.getD i he0) with
        | false =>
          have : badE T h k (Hd.getD i he0) = false := by simp only [badE, d4, Bool.false_and]
          rw [d4] at q4
          simp only [kX2_fitsAll_2, kX2_fitsAll_48, kX2_fitsAll_72, i_cst, i_ldI, i_ldJ, i_ldA, i_stI, i_stJ, i_stA, i_inc, i_bin, i_dv, i_un, i_i2l, i_bnJ, i_lshl, i_lcmp, i_dup, i_dp2, i_gI, i_gJ, i_gA, i_pI, i_pZ, i_pJ, i_pA, i_al, i_as, i_alJ, i_asJ, i_len, i_c0, i_c2, i_sw, msel, i_cV, i_cS, i_rV, i_rI, i_rZ, i_rJ, i_mm, i_pop, i_no, mpl, mvr, mnw, List.getElem?_cons_zero, List.getElem?_cons_succ, List.set_cons_zero, List.set_cons_succ, List.length_cons, List.length_nil, List.drop_succ_cons, List.drop_zero, List.take_succ_cons, List.take_zero, List.reverse_cons, List.reverse_nil, List.nil_append, List.cons_append, List.append_nil, List.map_cons, List.map_nil, List.sum_cons, List.sum_nil, Option.toList_some, Option.toList_none, Option.bind_some, Value.category, decide_eq_true_eq, decide_true, decide_false, if_true, if_false, Bool.false_eq_true, and_self, and_true, true_and, true_or, or_true, not_true_eq_false, not_false_eq_true, ↓reduceIte, reduceCtorEq, Nat.reduceEqDiff, Nat.reduceAdd, Nat.reduceSub, Nat.reduceMul, Nat.reduceLT, Nat.reduceLeDiff, Nat.reduceBEq, Nat.le_refl, Nat.zero_le, Nat.lt_irrefl, beq_self_eq_true, Nat.succ_ne_zero, Option.some.injEq, Prod.mk.injEq, Int32.reduceLT, Int32.reduceLE, y_46, y_49, rt_46_1, rt_46_2, rt_46_3, h6, c1, c2, c3, c4, c5, q1, q2, g1, g2, g3', q3, d2, q4, b2i_eq0, this, nI_1, Nat.add_sub_cancel, b1, show ¬ (0 : Int32) = 1 by decide]
        | true =>
          have : badE T h k (Hd.getD i he0) = true := by simp only [badE, d4, d3, d1, decide_false, Bool.true_and]; rfl
          rw [d4] at q4
          simp only [kX2_fitsAll_2, kX2_fitsAll_48, kX2_fitsAll_72, i_cst, i_ldI, i_ldJ, i_ldA, i_stI, i_stJ, i_stA, i_inc, i_bin, i_dv, i_un, i_i2l, i_bnJ, i_lshl, i_lcmp, i_dup, i_dp2, i_gI, i_gJ, i_gA, i_pI, i_pZ, i_pJ, i_pA, i_al, i_as, i_alJ, i_asJ, i_len, i_c0, i_c2, i_sw, msel, i_cV, i_cS, i_rV, i_rI, i_rZ, i_rJ, i_mm, i_pop, i_no, mpl, mvr, mnw, List.getElem?_cons_zero, List.getElem?_cons_succ, List.set_cons_zero, List.set_cons_succ, List.length_cons, List.length_nil, List.drop_succ_cons, List.drop_zero, List.take_succ_cons, List.take_zero, List.reverse_cons, List.reverse_nil, List.nil_append, List.cons_append, List.append_nil, List.map_cons, List.map_nil, List.sum_cons, List.sum_nil, Option.toList_some, Option.toList_none, Option.bind_some, Value.category, decide_eq_true_eq, decide_true, decide_false, if_true, if_false, Bool.false_eq_true, and_self, and_true, true_and, true_or, or_true, not_true_eq_false, not_false_eq_true, ↓reduceIte, reduceCtorEq, Nat.reduceEqDiff, Nat.reduceAdd, Nat.reduceSub, Nat.reduceMul, Nat.reduceLT, Nat.reduceLeDiff, Nat.reduceBEq, Nat.le_refl, Nat.zero_le, Nat.lt_irrefl, beq_self_eq_true, Nat.succ_ne_zero, Option.some.injEq, Prod.mk.injEq, Int32.reduceLT, Int32.reduceLE, y_46, y_49, rt_46_1, rt_46_2, rt_46_3, h6, c1, c2, c3, c4, c5, q1, q2, g1, g2, g3', q3, d2, q4, b2i_eq0, this, show ¬ (0 : Int32) = 1 by decide]
      | false =>
        have g3' : I 49 i = 0 := by rw [g3, d3]; rfl
        have : badE T h k (Hd.getD i he0) = false := by simp only [badE, d3, d1, decide_false]; cases cntE k (Hd.getD i he0) <;> rfl
        simp only [kX2_fitsAll_2, kX2_fitsAll_48, kX2_fitsAll_72, i_cst, i_ldI, i_ldJ, i_ldA, i_stI, i_stJ, i_stA, i_inc, i_bin, i_dv, i_un, i_i2l, i_bnJ, i_lshl, i_lcmp, i_dup, i_dp2, i_gI, i_gJ, i_gA, i_pI, i_pZ, i_pJ, i_pA, i_al, i_as, i_alJ, i_asJ, i_len, i_c0, i_c2, i_sw, msel, i_cV, i_cS, i_rV, i_rI, i_rZ, i_rJ, i_mm, i_pop, i_no, mpl, mvr, mnw, List.getElem?_cons_zero, List.getElem?_cons_succ, List.set_cons_zero, List.set_cons_succ, List.length_cons, List.length_nil, List.drop_succ_cons, List.drop_zero, List.take_succ_cons, List.take_zero, List.reverse_cons, List.reverse_nil, List.nil_append, List.cons_append, List.append_nil, List.map_cons, List.map_nil, List.sum_cons, List.sum_nil, Option.toList_some, Option.toList_none, Option.bind_some, Value.category, decide_eq_true_eq, decide_true, decide_false, if_true, if_false, Bool.false_eq_true, and_self, and_true, true_and, true_or, or_true, not_true_eq_false, not_false_eq_true, ↓reduceIte, reduceCtorEq, Nat.reduceEqDiff, Nat.reduceAdd, Nat.reduceSub, Nat.reduceMul, Nat.reduceLT, Nat.reduceLeDiff, Nat.reduceBEq, Nat.le_refl, Nat.zero_le, Nat.lt_irrefl, beq_self_eq_true, Nat.succ_ne_zero, Option.some.injEq, Prod.mk.injEq, Int32.reduceLT, Int32.reduceLE, y_46, y_49, rt_46_1, rt_46_2, rt_46_3, h6, c1, c2, c3, c4, c5, q1, q2, g1, g2, g3', q3, d2, this, nI_1, Nat.add_sub_cancel, b1]
  · have c1 : nI Hd.length ≤ nI Hd.length := Int32.le_refl _
    simp only [kX2_fitsAll_2, kX2_fitsAll_78, i_cst, i_ldI, i_ldJ, i_ldA, i_stI, i_stJ, i_stA, i_inc, i_bin, i_dv, i_un, i_i2l, i_bnJ, i_lshl, i_lcmp, i_dup, i_dp2, i_gI, i_gJ, i_gA, i_pI, i_pZ, i_pJ, i_pA, i_al, i_as, i_alJ, i_asJ, i_len, i_c0, i_c2, i_sw, msel, i_cV, i_cS, i_rV, i_rI, i_rZ, i_rJ, i_mm, i_pop, i_no, mpl, mvr, mnw, List.getElem?_cons_zero, List.getElem?_cons_succ, List.set_cons_zero, List.set_cons_succ, List.length_cons, List.length_nil, List.drop_succ_cons, List.drop_zero, List.take_succ_cons, List.take_zero, List.reverse_cons, List.reverse_nil, List.nil_append, List.cons_append, List.append_nil, List.map_cons, List.map_nil, List.sum_cons, List.sum_nil, Option.toList_some, Option.toList_none, Option.bind_some, Value.category, decide_eq_true_eq, decide_true, decide_false, if_true, if_false, Bool.false_eq_true, and_self, and_true, true_and, true_or, or_true, not_true_eq_false, not_false_eq_true, ↓reduceIte, reduceCtorEq, Nat.reduceEqDiff, Nat.reduceAdd, Nat.reduceSub, Nat.reduceMul, Nat.reduceLT, Nat.reduceLeDiff, Nat.reduceBEq, Nat.le_refl, Nat.zero_le, Nat.lt_irrefl, beq_self_eq_true, Nat.succ_ne_zero, Option.some.injEq, Prod.mk.injEq, Int32.reduceLT, Int32.reduceLE, y_46, h6, c1]
end Hear
