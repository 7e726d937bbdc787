/-! PURE: what the model's memory holds of the told and of the street; its smallest methods -/
/-- a code's letter or sign -/
def mch (k : Nat) : Int32 := match k with
  | 0 => 110
  | 29 => 104
  | 30 => 98
  | 31 => 109
  | 32 => 108
  | 33 => 121
  | 28 => 126
  | 26 => 124
  | 27 => 38
  | 7 => 60
  | 8 => 62
  | 9 => 61
  | 10 => 43
  | 11 => 45
  | 12 => 42
  | 13 => 47
  | _ => 37
def MFC (I : Nat → Nat → Int32) (x : Nat) (c : List (Nat × Nat)) : Prop := c = [] ∨ ∃ lo, (560 * (x / 2) ≤ lo ∧ lo + c.length ≤ 560 * (x / 2) + 560) ∧ I 75 x = nI lo ∧ I 76 x = nI (lo + c.length) ∧ c.length ≤ 300 ∧ ∀ i, i < c.length → I 78 (lo + i) = mch (c.getD i (0, 0)).1 ∧ ((c.getD i (0, 0)).1 = 0 → I 79 (lo + i) = nI (c.getD i (0, 0)).2)
def MT (I : Nat → Nat → Int32) (b : Nat) (T : TA) : Prop := (b < 2 ∧ I 60 31 = nI b) ∧ (I 63 b = nI (tC T) ∧ I 64 b = nI (tR T) ∧ I 66 b = nI (tk T) ∧ I 67 b = nI (tU T) ∧ I 68 b = nI (tB T) ∧ I 69 b = nI (ssd (tS T))) ∧ (gb (I 70 b) 0 = decide (¬ tF T = []) ∧ gb (I 70 b) 1 = decide (¬ tW T = [])) ∧ (∀ j, j < tk T → I 71 (8 * b + j) = oc (scl (tS T) j) ∧ I 72 (8 * b + j) = nI (shd (tS T) j) ∧ I 73 (8 * b + j) = nI (sho (tS T) j) ∧ I 74 (8 * b + j) = nI (sbo (tS T) j)) ∧ MFC I (2 * b) (tF T) ∧ MFC I (2 * b + 1) (tW T)
def MA (I : Nat → Nat → Int32) (k : Nat) (S : SA) : Prop := (∀ j, j < k → I 83 j = oc (scl S j) ∧ I 83 (8 + j) = nI (shd S j) ∧ I 83 (16 + j) = nI (sho S j) ∧ I 83 (24 + j) = nI (sbo S j)) ∧ I 83 32 = nI (syr S) ∧ I 83 33 = nI (ssd S)
def MO (I : Nat → Nat → Int32) (b : Nat) (T : TA) (S : SA) : Prop := TRg T ∧ MT I b T ∧ SRg (tk T) (tC T * tR T) S ∧ MA I (tk T) S
theorem bs_k {P : Nat → Bool} {k : Nat} (hk : k ≤ 8) (h : ∀ j, k ≤ j → P j = false) : bs P k = bs P 8 := by
  have := bs_trim (P := P) (k := k) (8 - k) (fun j h1 _ => h j h1)
  rw [show k + (8 - k) = 8 by omega] at this
  exact this.symm
theorem cn_trim {P : Nat → Bool} {k : Nat} : ∀ d, (∀ j, k ≤ j → j < k + d → P j = false) → cn P (k + d) = cn P k := by
  intro d
  induction d with
  | zero => intro _; rfl
  | succ d ih =>
    intro h
    show (if P (k + d) = true then cn P (k + d) + 1 else cn P (k + d)) = cn P k
    rw [h (k + d) (by omega) (by omega), if_neg (by simp)]
    exact ih (fun j h1 h2 => h j h1 (by omega))
theorem cn_k {P : Nat → Bool} {k : Nat} (hk : k ≤ 8) (h : ∀ j, k ≤ j → P j = false) : cn P k = cn P 8 := by
  have := cn_trim (P := P) (k := k) (8 - k) (fun j h1 _ => h j h1)
  rw [show k + (8 - k) = 8 by omega] at this
  exact this.symm
theorem sI_trim {P : Nat → Bool} {g : Nat → Int32} {k : Nat} : ∀ d, (∀ j, k ≤ j → j < k + d → P j = false) → sI P g (k + d) = sI P g k := by
  intro d
  induction d with
  | zero => intro _; rfl
  | succ d ih =>
    intro h
    show (if P (k + d) = true then sI P g (k + d) + g (k + d) else sI P g (k + d)) = sI P g k
    rw [h (k + d) (by omega) (by omega), if_neg (by simp)]
    exact ih (fun j h1 h2 => h j h1 (by omega))
theorem sI_k {P : Nat → Bool} {g : Nat → Int32} {k : Nat} (hk : k ≤ 8) (h : ∀ j, k ≤ j → P j = false) : sI P g k = sI P g 8 := by
  have := sI_trim (P := P) (g := g) (k := k) (8 - k) (fun j h1 _ => h j h1)
  rw [show k + (8 - k) = 8 by omega] at this
  exact this.symm
theorem ffd_nil {P : Nat → Bool} : ∀ d j, (∀ i, j ≤ i → i < j + d → P i = false) → ffd P j d = none := by
  intro d
  induction d with
  | zero => intro j _; rfl
  | succ d ih =>
    intro j h
    rw [ffd_no (h j (by omega) (by omega))]
    exact ih (j + 1) (fun i h1 h2 => h i (by omega) (by omega))
theorem ffd_trim {P : Nat → Bool} : ∀ k j d, (∀ i, j + k ≤ i → i < j + k + d → P i = false) → ffd P j (k + d) = ffd P j k := by
  intro k
  induction k with
  | zero => intro j d h; rw [Nat.zero_add]; exact ffd_nil d j (fun i h1 h2 => h i (by omega) (by omega))
  | succ k ih =>
    intro j d h
    rw [show k + 1 + d = (k + d) + 1 by omega]
    by_cases e : P j = true
    · rw [ffd_yes e, ffd_yes e]
    · have e' : P j = false := by simpa using e
      rw [ffd_no e', ffd_no e']
      exact ih (j + 1) d (fun i h1 h2 => h i (by omega) (by omega))
theorem ffd_k {P : Nat → Bool} {k : Nat} (hk : k ≤ 8) (h : ∀ j, k ≤ j → P j = false) : ffd P 0 k = ffd P 0 8 := by
  have := ffd_trim (P := P) k 0 (8 - k) (fun j h1 _ => h j (by omega))
  rw [show k + (8 - k) = 8 by omega] at this
  exact this.symm
section MBase
variable {n : Nat} {I : Nat → Nat → Int32} {T : TA} {S : SA} {b : Nat}
theorem inA_ge {j : Nat} (h : tk T ≤ j) : inA T S j = false := by simp [inA, Nat.not_lt.mpr h]
theorem MO.b2 (o : MO I b T S) : b < 2 := o.2.1.1.1
theorem MO.bk (o : MO I b T S) : I 60 31 = nI b := o.2.1.1.2
theorem MO.C (o : MO I b T S) : I 63 b = nI (tC T) := o.2.1.2.1.1
theorem MO.R (o : MO I b T S) : I 64 b = nI (tR T) := o.2.1.2.1.2.1
theorem MO.k (o : MO I b T S) : I 66 b = nI (tk T) := o.2.1.2.1.2.2.1
theorem MO.B (o : MO I b T S) : I 68 b = nI (tB T) := o.2.1.2.1.2.2.2.2.1
theorem MO.k8 (o : MO I b T S) : tk T ≤ 8 := o.1.1
theorem MO.cm (o : MO I b T S) : tC T * tR T ≤ 64 := cell_max o.1
theorem MO.neg (o : MO I b T S) {c : Nat} (hc : c < tk T) : I 83 c < 0 ↔ inA T S c = false := by
  rw [(o.2.2.2.1 c hc).1]
  unfold inA
  cases e : scl S c with
  | none => simp [oc]
  | some p =>
    have := (o.2.2.1.1 c hc).1 p e
    have h64 := o.cm
    have : ¬ nI p < 0 := nI_pos (by omega)
    simp [oc, this, hc]
theorem MO.inn (o : MO I b T S) {c : Nat} (h : inA T S c = true) : c < tk T ∧ I 83 c = nI (pos S c) ∧ pos S c < tC T * tR T ∧ pos S c < 64 ∧ scl S c = some (pos S c) := by
  simp only [inA, Bool.and_eq_true, decide_eq_true_eq] at h
  obtain ⟨p, hp⟩ := Option.isSome_iff_exists.mp h.2
  have e : pos S c = p := by simp [pos, hp]
  have h1 := (o.2.2.1.1 c h.1).1 p hp
  have h64 := o.cm
  exact ⟨h.1, by rw [(o.2.2.2.1 c h.1).1, hp, e]; rfl, by omega, by omega, by rw [hp, e]⟩
theorem m_many (n : Nat) (J : Nat → Nat → Int64) (f : Nat) (o : MO I b T S) : FX12_many n [.ref 60] (mm I J f) = some (some (.int (nI (tk T))), mm I J f) := by
  have h2 := o.b2
  simp (disch := omega) only [eX12_many, kX12_many_0, i_cst, i_ldI, i_ldJ, i_ldA, i_stI, i_stJ, i_stA, i_inc, i_bin, i_un, i_i2l, i_bnJ, i_lshl, i_lcmp, i_dup, i_dp2, i_gI, i_gJ, i_gA, i_pI, i_pZ, i_pJ, i_pA, i_alJ, i_asJ, i_len, i_c0, i_c2, i_sw, msel, i_cV, i_cS, i_rV, i_rI, i_rZ, i_rJ, i_mm, i_pop, i_no, mpl, mvr, mnw, List.getElem?_cons_zero, List.getElem?_cons_succ, List.set_cons_zero, List.set_cons_succ, List.length_cons, List.length_nil, List.drop_succ_cons, List.drop_zero, List.take_succ_cons, List.take_zero, List.reverse_cons, List.reverse_nil, List.nil_append, List.cons_append, List.append_nil, List.map_cons, List.map_nil, List.sum_cons, List.sum_nil, Option.toList_some, Option.toList_none, Option.bind_some, Value.category, decide_eq_true_eq, decide_true, decide_false, if_true, if_false, Bool.false_eq_true, and_self, and_true, true_and, true_or, or_true, not_true_eq_false, not_false_eq_true, ↓reduceIte, reduceCtorEq, Nat.reduceEqDiff, Nat.reduceAdd, Nat.reduceSub, Nat.reduceMul, Nat.reduceLT, Nat.reduceLeDiff, Nat.reduceBEq, Nat.le_refl, Nat.zero_le, Nat.lt_irrefl, beq_self_eq_true, Nat.succ_ne_zero, Option.some.injEq, Prod.mk.injEq, Int32.reduceLT, Int32.reduceLE, y_60, rt_60_0, rt_60_1, rt_60_11, rt_60_12, rt_60_13, rt_60_14, rt_60_15, rt_60_16, rt_60_17, rt_60_18, rt_60_19, rt_60_20, rt_60_21, rt_60_22, rt_60_23, rt_60_24, rt_60_25, rt_60_26, rt_60_27, rt_60_28, rt_60_29, rt_60_30, rt_60_39, rt_60_41, rt_60_42, rt_60_45, rt_60_46, rt_60_47, rt_60_49, rt_60_50, rt_60_51, rt_60_52, rt_60_53, rt_60_54, rt_60_55, rt_60_56, rt_60_59, rt_60_61, rt_60_62, al_63, as_63, al_64, as_64, al_65, as_65, al_66, as_66, al_67, as_67, al_68, as_68, al_69, as_69, al_70, as_70, al_71, as_71, al_72, as_72, al_73, as_73, al_74, as_74, al_75, as_75, al_76, as_76, al_78, as_78, al_79, as_79, al_80, as_80, al_81, as_81, al_82, as_82, al_83, as_83, al_84, as_84, al_85, as_85, al_86, as_86, al_87, as_87, al_88, as_88, al_89, as_89, al_90, as_90, al_91, as_91, al_92, as_92, al_93, as_93, al_94, as_94, al_95, as_95, al_96, as_96, al_97, as_97, al_98, as_98, al_61, as_61, al_62, as_62, al_99, as_99, al_82_0, as_82_0, al_83_32, as_83_32, al_83_33, as_83_33, ad0, ad8, ad16, ad24, ad_0, mu2, mu8, mu34, nI_add, nI_1, uI_mm, dvN, dvM, o.bk, o.k]
theorem m_spots (n : Nat) (J : Nat → Nat → Int64) (f : Nat) (o : MO I b T S) : FX12_spots n [.ref 60] (mm I J f) = some (some (.int (nI (tC T * tR T))), mm I J f) := by
  have h2 := o.b2
  simp (disch := omega) only [eX12_spots, kX12_spots_0, i_cst, i_ldI, i_ldJ, i_ldA, i_stI, i_stJ, i_stA, i_inc, i_bin, i_un, i_i2l, i_bnJ, i_lshl, i_lcmp, i_dup, i_dp2, i_gI, i_gJ, i_gA, i_pI, i_pZ, i_pJ, i_pA, i_alJ, i_asJ, i_len, i_c0, i_c2, i_sw, msel, i_cV, i_cS, i_rV, i_rI, i_rZ, i_rJ, i_mm, i_pop, i_no, mpl, mvr, mnw, List.getElem?_cons_zero, List.getElem?_cons_succ, List.set_cons_zero, List.set_cons_succ, List.length_cons, List.length_nil, List.drop_succ_cons, List.drop_zero, List.take_succ_cons, List.take_zero, List.reverse_cons, List.reverse_nil, List.nil_append, List.cons_append, List.append_nil, List.map_cons, List.map_nil, List.sum_cons, List.sum_nil, Option.toList_some, Option.toList_none, Option.bind_some, Value.category, decide_eq_true_eq, decide_true, decide_false, if_true, if_false, Bool.false_eq_true, and_self, and_true, true_and, true_or, or_true, not_true_eq_false, not_false_eq_true, ↓reduceIte, reduceCtorEq, Nat.reduceEqDiff, Nat.reduceAdd, Nat.reduceSub, Nat.reduceMul, Nat.reduceLT, Nat.reduceLeDiff, Nat.reduceBEq, Nat.le_refl, Nat.zero_le, Nat.lt_irrefl, beq_self_eq_true, Nat.succ_ne_zero, Option.some.injEq, Prod.mk.injEq, Int32.reduceLT, Int32.reduceLE, y_60, rt_60_0, rt_60_1, rt_60_11, rt_60_12, rt_60_13, rt_60_14, rt_60_15, rt_60_16, rt_60_17, rt_60_18, rt_60_19, rt_60_20, rt_60_21, rt_60_22, rt_60_23, rt_60_24, rt_60_25, rt_60_26, rt_60_27, rt_60_28, rt_60_29, rt_60_30, rt_60_39, rt_60_41, rt_60_42, rt_60_45, rt_60_46, rt_60_47, rt_60_49, rt_60_50, rt_60_51, rt_60_52, rt_60_53, rt_60_54, rt_60_55, rt_60_56, rt_60_59, rt_60_61, rt_60_62, al_63, as_63, al_64, as_64, al_65, as_65, al_66, as_66, al_67, as_67, al_68, as_68, al_69, as_69, al_70, as_70, al_71, as_71, al_72, as_72, al_73, as_73, al_74, as_74, al_75, as_75, al_76, as_76, al_78, as_78, al_79, as_79, al_80, as_80, al_81, as_81, al_82, as_82, al_83, as_83, al_84, as_84, al_85, as_85, al_86, as_86, al_87, as_87, al_88, as_88, al_89, as_89, al_90, as_90, al_91, as_91, al_92, as_92, al_93, as_93, al_94, as_94, al_95, as_95, al_96, as_96, al_97, as_97, al_98, as_98, al_61, as_61, al_62, as_62, al_99, as_99, al_82_0, as_82_0, al_83_32, as_83_32, al_83_33, as_83_33, ad0, ad8, ad16, ad24, ad_0, mu2, mu8, mu34, nI_add, nI_1, uI_mm, dvN, dvM, o.bk, o.C, o.R, pk_mul]
theorem m_isIn (n : Nat) (x l m : Int32) (μ : mM) : FX12_isIn n [.int x, .int l, .int m] μ = some (some (.int (b2i (l ≤ x ∧ x ≤ m))), μ) := by
  simp only [eX12_isIn, kX12_isIn_0, kX12_isIn_14, kX12_isIn_15, i_cst, i_ldI, i_ldJ, i_ldA, i_stI, i_stJ, i_stA, i_inc, i_bin, i_dv, i_un, i_i2l, i_bnJ, i_lshl, i_lcmp, i_dup, i_dp2, i_gI, i_gJ, i_gA, i_pI, i_pZ, i_pJ, i_pA, i_al, i_as, i_alJ, i_asJ, i_len, i_c0, i_c2, i_sw, msel, i_cV, i_cS, i_rV, i_rI, i_rZ, i_rJ, i_mm, i_pop, i_no, mpl, mvr, mnw, List.getElem?_cons_zero, List.getElem?_cons_succ, List.set_cons_zero, List.set_cons_succ, List.length_cons, List.length_nil, List.drop_succ_cons, List.drop_zero, List.take_succ_cons, List.take_zero, List.reverse_cons, List.reverse_nil, List.nil_append, List.cons_append, List.append_nil, List.map_cons, List.map_nil, List.sum_cons, List.sum_nil, Option.toList_some, Option.toList_none, Option.bind_some, Value.category, decide_eq_true_eq, decide_true, decide_false, if_true, if_false, Bool.false_eq_true, and_self, and_true, true_and, true_or, or_true, not_true_eq_false, not_false_eq_true, ↓reduceIte, reduceCtorEq, Nat.reduceEqDiff, Nat.reduceAdd, Nat.reduceSub, Nat.reduceMul, Nat.reduceLT, Nat.reduceLeDiff, Nat.reduceBEq, Nat.le_refl, Nat.zero_le, Nat.lt_irrefl, beq_self_eq_true, Nat.succ_ne_zero, Option.some.injEq, Prod.mk.injEq, Int32.reduceLT, Int32.reduceLE]
  by_cases h1 : x < l
  · simp [h1, b2i, Int32.not_le.mpr h1]
  · by_cases h2 : m < x
    · simp [h1, h2, b2i, Int32.not_le.mpr h2]
    · simp [h1, h2, b2i, Int32.not_lt.mp h1, Int32.not_lt.mp h2]
theorem le_m1 {k : Nat} (hk : k < 2 ^ 30) (c : Int32) : (0 ≤ c ∧ c ≤ nI k - 1) ↔ (decide (0 ≤ c) && decide (c.toNatClampNeg < k)) = true := by
  rcases cI c with h | ⟨j, hj, rfl⟩
  · simp [nn0 h]
  · have h1 : (0 : Int32) ≤ nI j := nI_pos' hj
    have h2 : nI j ≤ nI k - 1 ↔ j < k := by
      rw [Int32.le_iff_toInt_le, show (1 : Int32) = nI 1 from rfl, pk_sub_toInt hk (by decide), nI_toInt hj]; omega
    simp [h1, h2, nI_clamp hj]
theorem m_isCar (n : Nat) (J : Nat → Nat → Int64) (f : Nat) (o : MO I b T S) (c : Int32) : FX12_isCar n [.ref 60, .int c] (mm I J f) = some (some (.int (b2i (hasI T c = true))), mm I J f) := by
  have hk := o.k8
  have h : b2i (0 ≤ c ∧ c ≤ nI (tk T) - 1) = b2i (hasI T c = true) := b2i_congr (le_m1 (show tk T < 2 ^ 30 by omega) c)
  simp only [eX12_isCar, kX12_isCar_0, i_cst, i_ldI, i_ldJ, i_ldA, i_stI, i_stJ, i_stA, i_inc, i_bin, i_un, i_i2l, i_bnJ, i_lshl, i_lcmp, i_dup, i_dp2, i_gI, i_gJ, i_gA, i_pI, i_pZ, i_pJ, i_pA, i_alJ, i_asJ, i_len, i_c0, i_c2, i_sw, msel, i_cV, i_cS, i_rV, i_rI, i_rZ, i_rJ, i_mm, i_pop, i_no, mpl, mvr, mnw, List.getElem?_cons_zero, List.getElem?_cons_succ, List.set_cons_zero, List.set_cons_succ, List.length_cons, List.length_nil, List.drop_succ_cons, List.drop_zero, List.take_succ_cons, List.take_zero, List.reverse_cons, List.reverse_nil, List.nil_append, List.cons_append, List.append_nil, List.map_cons, List.map_nil, List.sum_cons, List.sum_nil, Option.toList_some, Option.toList_none, Option.bind_some, Value.category, decide_eq_true_eq, decide_true, decide_false, if_true, if_false, Bool.false_eq_true, and_self, and_true, true_and, true_or, or_true, not_true_eq_false, not_false_eq_true, ↓reduceIte, reduceCtorEq, Nat.reduceEqDiff, Nat.reduceAdd, Nat.reduceSub, Nat.reduceMul, Nat.reduceLT, Nat.reduceLeDiff, Nat.reduceBEq, Nat.le_refl, Nat.zero_le, Nat.lt_irrefl, beq_self_eq_true, Nat.succ_ne_zero, Option.some.injEq, Prod.mk.injEq, Int32.reduceLT, Int32.reduceLE, y_60, rt_60_0, rt_60_1, rt_60_11, rt_60_12, rt_60_13, rt_60_14, rt_60_15, rt_60_16, rt_60_17, rt_60_18, rt_60_19, rt_60_20, rt_60_21, rt_60_22, rt_60_23, rt_60_24, rt_60_25, rt_60_26, rt_60_27, rt_60_28, rt_60_29, rt_60_30, rt_60_39, rt_60_41, rt_60_42, rt_60_45, rt_60_46, rt_60_47, rt_60_49, rt_60_50, rt_60_51, rt_60_52, rt_60_53, rt_60_54, rt_60_55, rt_60_56, rt_60_59, rt_60_61, rt_60_62, al_63, as_63, al_64, as_64, al_65, as_65, al_66, as_66, al_67, as_67, al_68, as_68, al_69, as_69, al_70, as_70, al_71, as_71, al_72, as_72, al_73, as_73, al_74, as_74, al_75, as_75, al_76, as_76, al_78, as_78, al_79, as_79, al_80, as_80, al_81, as_81, al_82, as_82, al_83, as_83, al_84, as_84, al_85, as_85, al_86, as_86, al_87, as_87, al_88, as_88, al_89, as_89, al_90, as_90, al_91, as_91, al_92, as_92, al_93, as_93, al_94, as_94, al_95, as_95, al_96, as_96, al_97, as_97, al_98, as_98, al_61, as_61, al_62, as_62, al_99, as_99, al_82_0, as_82_0, al_83_32, as_83_32, al_83_33, as_83_33, ad0, ad8, ad16, ad24, ad_0, mu2, mu8, mu34, nI_add, nI_1, uI_mm, dvN, dvM, m_many n J f o, m_isIn, h]
  rcases b2i_01 (p := hasI T c = true) with e | e <;> simp [e]
theorem m_isSpot (n : Nat) (J : Nat → Nat → Int64) (f : Nat) (o : MO I b T S) (c : Int32) : FX12_isSpot n [.ref 60, .int c] (mm I J f) = some (some (.int (b2i (cellI T c = true))), mm I J f) := by
  have hk := o.cm
  have h : b2i (0 ≤ c ∧ c ≤ nI (tC T * tR T) - 1) = b2i (cellI T c = true) := b2i_congr (le_m1 (show tC T * tR T < 2 ^ 30 by omega) c)
  simp only [eX12_isSpot, kX12_isSpot_0, i_cst, i_ldI, i_ldJ, i_ldA, i_stI, i_stJ, i_stA, i_inc, i_bin, i_un, i_i2l, i_bnJ, i_lshl, i_lcmp, i_dup, i_dp2, i_gI, i_gJ, i_gA, i_pI, i_pZ, i_pJ, i_pA, i_alJ, i_asJ, i_len, i_c0, i_c2, i_sw, msel, i_cV, i_cS, i_rV, i_rI, i_rZ, i_rJ, i_mm, i_pop, i_no, mpl, mvr, mnw, List.getElem?_cons_zero, List.getElem?_cons_succ, List.set_cons_zero, List.set_cons_succ, List.length_cons, List.length_nil, List.drop_succ_cons, List.drop_zero, List.take_succ_cons, List.take_zero, List.reverse_cons, List.reverse_nil, List.nil_append, List.cons_append, List.append_nil, List.map_cons, List.map_nil, List.sum_cons, List.sum_nil, Option.toList_some, Option.toList_none, Option.bind_some, Value.category, decide_eq_true_eq, decide_true, decide_false, if_true, if_false, Bool.false_eq_true, and_self, and_true, true_and, true_or, or_true, not_true_eq_false, not_false_eq_true, ↓reduceIte, reduceCtorEq, Nat.reduceEqDiff, Nat.reduceAdd, Nat.reduceSub, Nat.reduceMul, Nat.reduceLT, Nat.reduceLeDiff, Nat.reduceBEq, Nat.le_refl, Nat.zero_le, Nat.lt_irrefl, beq_self_eq_true, Nat.succ_ne_zero, Option.some.injEq, Prod.mk.injEq, Int32.reduceLT, Int32.reduceLE, y_60, rt_60_0, rt_60_1, rt_60_11, rt_60_12, rt_60_13, rt_60_14, rt_60_15, rt_60_16, rt_60_17, rt_60_18, rt_60_19, rt_60_20, rt_60_21, rt_60_22, rt_60_23, rt_60_24, rt_60_25, rt_60_26, rt_60_27, rt_60_28, rt_60_29, rt_60_30, rt_60_39, rt_60_41, rt_60_42, rt_60_45, rt_60_46, rt_60_47, rt_60_49, rt_60_50, rt_60_51, rt_60_52, rt_60_53, rt_60_54, rt_60_55, rt_60_56, rt_60_59, rt_60_61, rt_60_62, al_63, as_63, al_64, as_64, al_65, as_65, al_66, as_66, al_67, as_67, al_68, as_68, al_69, as_69, al_70, as_70, al_71, as_71, al_72, as_72, al_73, as_73, al_74, as_74, al_75, as_75, al_76, as_76, al_78, as_78, al_79, as_79, al_80, as_80, al_81, as_81, al_82, as_82, al_83, as_83, al_84, as_84, al_85, as_85, al_86, as_86, al_87, as_87, al_88, as_88, al_89, as_89, al_90, as_90, al_91, as_91, al_92, as_92, al_93, as_93, al_94, as_94, al_95, as_95, al_96, as_96, al_97, as_97, al_98, as_98, al_61, as_61, al_62, as_62, al_99, as_99, al_82_0, as_82_0, al_83_32, as_83_32, al_83_33, as_83_33, ad0, ad8, ad16, ad24, ad_0, mu2, mu8, mu34, nI_add, nI_1, uI_mm, dvN, dvM, m_spots n J f o, m_isIn, h]
  rcases b2i_01 (p := cellI T c = true) with e | e <;> simp [e]
set_option maxHeartbeats 4000000 in
theorem m_isHere (n : Nat) (J : Nat → Nat → Int64) (f : Nat) (o : MO I b T S) (c : Int32) : FX12_isHere n [.ref 60, .int c] (mm I J f) = some (some (.int (b2i (inI T S c = true))), mm I J f) := by
  have hk := o.k8
  by_cases h : hasI T c = true
  · obtain ⟨j, hj, rfl⟩ : ∃ j, j < tk T ∧ c = nI j := by
      rcases cI c with h1 | ⟨j, hj, rfl⟩
      · rw [hasI_neg h1] at h; cases h
      · rw [hasI_nI hj] at h; exact ⟨j, by simpa using h, rfl⟩
    simp (disch := omega) only [eX12_isHere, kX12_isHere_0, kX12_isHere_23, kX12_isHere_24, i_cst, i_ldI, i_ldJ, i_ldA, i_stI, i_stJ, i_stA, i_inc, i_bin, i_un, i_i2l, i_bnJ, i_lshl, i_lcmp, i_dup, i_dp2, i_gI, i_gJ, i_gA, i_pI, i_pZ, i_pJ, i_pA, i_alJ, i_asJ, i_len, i_c0, i_c2, i_sw, msel, i_cV, i_cS, i_rV, i_rI, i_rZ, i_rJ, i_mm, i_pop, i_no, mpl, mvr, mnw, List.getElem?_cons_zero, List.getElem?_cons_succ, List.set_cons_zero, List.set_cons_succ, List.length_cons, List.length_nil, List.drop_succ_cons, List.drop_zero, List.take_succ_cons, List.take_zero, List.reverse_cons, List.reverse_nil, List.nil_append, List.cons_append, List.append_nil, List.map_cons, List.map_nil, List.sum_cons, List.sum_nil, Option.toList_some, Option.toList_none, Option.bind_some, Value.category, decide_eq_true_eq, decide_true, decide_false, if_true, if_false, Bool.false_eq_true, and_self, and_true, true_and, true_or, or_true, not_true_eq_false, not_false_eq_true, ↓reduceIte, reduceCtorEq, Nat.reduceEqDiff, Nat.reduceAdd, Nat.reduceSub, Nat.reduceMul, Nat.reduceLT, Nat.reduceLeDiff, Nat.reduceBEq, Nat.le_refl, Nat.zero_le, Nat.lt_irrefl, beq_self_eq_true, Nat.succ_ne_zero, Option.some.injEq, Prod.mk.injEq, Int32.reduceLT, Int32.reduceLE, y_60, rt_60_0, rt_60_1, rt_60_11, rt_60_12, rt_60_13, rt_60_14, rt_60_15, rt_60_16, rt_60_17, rt_60_18, rt_60_19, rt_60_20, rt_60_21, rt_60_22, rt_60_23, rt_60_24, rt_60_25, rt_60_26, rt_60_27, rt_60_28, rt_60_29, rt_60_30, rt_60_39, rt_60_41, rt_60_42, rt_60_45, rt_60_46, rt_60_47, rt_60_49, rt_60_50, rt_60_51, rt_60_52, rt_60_53, rt_60_54, rt_60_55, rt_60_56, rt_60_59, rt_60_61, rt_60_62, al_63, as_63, al_64, as_64, al_65, as_65, al_66, as_66, al_67, as_67, al_68, as_68, al_69, as_69, al_70, as_70, al_71, as_71, al_72, as_72, al_73, as_73, al_74, as_74, al_75, as_75, al_76, as_76, al_78, as_78, al_79, as_79, al_80, as_80, al_81, as_81, al_82, as_82, al_83, as_83, al_84, as_84, al_85, as_85, al_86, as_86, al_87, as_87, al_88, as_88, al_89, as_89, al_90, as_90, al_91, as_91, al_92, as_92, al_93, as_93, al_94, as_94, al_95, as_95, al_96, as_96, al_97, as_97, al_98, as_98, al_61, as_61, al_62, as_62, al_99, as_99, al_82_0, as_82_0, al_83_32, as_83_32, al_83_33, as_83_33, ad0, ad8, ad16, ad24, ad_0, mu2, mu8, mu34, nI_add, nI_1, uI_mm, dvN, dvM, m_isCar n J f o, h, b2i_eq0, o.neg hj, inI_nI (show j < 2 ^ 31 by omega)]
    by_cases e : inA T S j = true <;> simp [e, b2i]
  · have h2 : ¬ inI T S c = true := fun q => h (by
      obtain ⟨j, hj, rfl, h31⟩ := inI_ex q
      rw [hasI_nI h31]
      simpa using (o.inn hj).1)
    simp (disch := omega) only [eX12_isHere, kX12_isHere_0, kX12_isHere_23, kX12_isHere_24, i_cst, i_ldI, i_ldJ, i_ldA, i_stI, i_stJ, i_stA, i_inc, i_bin, i_un, i_i2l, i_bnJ, i_lshl, i_lcmp, i_dup, i_dp2, i_gI, i_gJ, i_gA, i_pI, i_pZ, i_pJ, i_pA, i_alJ, i_asJ, i_len, i_c0, i_c2, i_sw, msel, i_cV, i_cS, i_rV, i_rI, i_rZ, i_rJ, i_mm, i_pop, i_no, mpl, mvr, mnw, List.getElem?_cons_zero, List.getElem?_cons_succ, List.set_cons_zero, List.set_cons_succ, List.length_cons, List.length_nil, List.drop_succ_cons, List.drop_zero, List.take_succ_cons, List.take_zero, List.reverse_cons, List.reverse_nil, List.nil_append, List.cons_append, List.append_nil, List.map_cons, List.map_nil, List.sum_cons, List.sum_nil, Option.toList_some, Option.toList_none, Option.bind_some, Value.category, decide_eq_true_eq, decide_true, decide_false, if_true, if_false, Bool.false_eq_true, and_self, and_true, true_and, true_or, or_true, not_true_eq_false, not_false_eq_true, ↓reduceIte, reduceCtorEq, Nat.reduceEqDiff, Nat.reduceAdd, Nat.reduceSub, Nat.reduceMul, Nat.reduceLT, Nat.reduceLeDiff, Nat.reduceBEq, Nat.le_refl, Nat.zero_le, Nat.lt_irrefl, beq_self_eq_true, Nat.succ_ne_zero, Option.some.injEq, Prod.mk.injEq, Int32.reduceLT, Int32.reduceLE, y_60, rt_60_0, rt_60_1, rt_60_11, rt_60_12, rt_60_13, rt_60_14, rt_60_15, rt_60_16, rt_60_17, rt_60_18, rt_60_19, rt_60_20, rt_60_21, rt_60_22, rt_60_23, rt_60_24, rt_60_25, rt_60_26, rt_60_27, rt_60_28, rt_60_29, rt_60_30, rt_60_39, rt_60_41, rt_60_42, rt_60_45, rt_60_46, rt_60_47, rt_60_49, rt_60_50, rt_60_51, rt_60_52, rt_60_53, rt_60_54, rt_60_55, rt_60_56, rt_60_59, rt_60_61, rt_60_62, al_63, as_63, al_64, as_64, al_65, as_65, al_66, as_66, al_67, as_67, al_68, as_68, al_69, as_69, al_70, as_70, al_71, as_71, al_72, as_72, al_73, as_73, al_74, as_74, al_75, as_75, al_76, as_76, al_78, as_78, al_79, as_79, al_80, as_80, al_81, as_81, al_82, as_82, al_83, as_83, al_84, as_84, al_85, as_85, al_86, as_86, al_87, as_87, al_88, as_88, al_89, as_89, al_90, as_90, al_91, as_91, al_92, as_92, al_93, as_93, al_94, as_94, al_95, as_95, al_96, as_96, al_97, as_97, al_98, as_98, al_61, as_61, al_62, as_62, al_99, as_99, al_82_0, as_82_0, al_83_32, as_83_32, al_83_33, as_83_33, ad0, ad8, ad16, ad24, ad_0, mu2, mu8, mu34, nI_add, nI_1, uI_mm, dvN, dvM, m_isCar n J f o, h, b2i_eq0]
    simp [h2, b2i]
theorem m_isAhead (n : Nat) (w : Int32) (μ : mM) : FX12_isAhead n [.int w] μ = some (some (.int (b2i (lookI w = true))), μ) := by
  simp only [eX12_isAhead, kX12_isAhead_0, kX12_isAhead_14, kX12_isAhead_15, i_cst, i_ldI, i_ldJ, i_ldA, i_stI, i_stJ, i_stA, i_inc, i_bin, i_dv, i_un, i_i2l, i_bnJ, i_lshl, i_lcmp, i_dup, i_dp2, i_gI, i_gJ, i_gA, i_pI, i_pZ, i_pJ, i_pA, i_al, i_as, i_alJ, i_asJ, i_len, i_c0, i_c2, i_sw, msel, i_cV, i_cS, i_rV, i_rI, i_rZ, i_rJ, i_mm, i_pop, i_no, mpl, mvr, mnw, List.getElem?_cons_zero, List.getElem?_cons_succ, List.set_cons_zero, List.set_cons_succ, List.length_cons, List.length_nil, List.drop_succ_cons, List.drop_zero, List.take_succ_cons, List.take_zero, List.reverse_cons, List.reverse_nil, List.nil_append, List.cons_append, List.append_nil, List.map_cons, List.map_nil, List.sum_cons, List.sum_nil, Option.toList_some, Option.toList_none, Option.bind_some, Value.category, decide_eq_true_eq, decide_true, decide_false, if_true, if_false, Bool.false_eq_true, and_self, and_true, true_and, true_or, or_true, not_true_eq_false, not_false_eq_true, ↓reduceIte, reduceCtorEq, Nat.reduceEqDiff, Nat.reduceAdd, Nat.reduceSub, Nat.reduceMul, Nat.reduceLT, Nat.reduceLeDiff, Nat.reduceBEq, Nat.le_refl, Nat.zero_le, Nat.lt_irrefl, beq_self_eq_true, Nat.succ_ne_zero, Option.some.injEq, Prod.mk.injEq, Int32.reduceLT, Int32.reduceLE]
  by_cases h1 : w < 0
  · simp [h1, b2i, lookI, Int32.not_le.mpr h1]
  · by_cases h2 : 60 < w
    · simp [h1, h2, b2i, lookI, Int32.not_le.mpr h2]
    · simp [h1, h2, b2i, lookI, Int32.not_lt.mp h1, Int32.not_lt.mp h2]
set_option maxHeartbeats 4000000 in
theorem m_those (hn : 8 < n) (J : Nat → Nat → Int64) (f : Nat) (o : MO I b T S) : FX12_those n [.ref 60] (mm I J f) = some (some (.int (whoA T S)), mm I J f) := by
  have hk := o.k8
  simp only [eX12_those, kX12_those_0, i_cst, i_ldI, i_ldJ, i_ldA, i_stI, i_stJ, i_stA, i_inc, i_bin, i_un, i_i2l, i_bnJ, i_lshl, i_lcmp, i_dup, i_dp2, i_gI, i_gJ, i_gA, i_pI, i_pZ, i_pJ, i_pA, i_alJ, i_asJ, i_len, i_c0, i_c2, i_sw, msel, i_cV, i_cS, i_rV, i_rI, i_rZ, i_rJ, i_mm, i_pop, i_no, mpl, mvr, mnw, List.getElem?_cons_zero, List.getElem?_cons_succ, List.set_cons_zero, List.set_cons_succ, List.length_cons, List.length_nil, List.drop_succ_cons, List.drop_zero, List.take_succ_cons, List.take_zero, List.reverse_cons, List.reverse_nil, List.nil_append, List.cons_append, List.append_nil, List.map_cons, List.map_nil, List.sum_cons, List.sum_nil, Option.toList_some, Option.toList_none, Option.bind_some, Value.category, decide_eq_true_eq, decide_true, decide_false, if_true, if_false, Bool.false_eq_true, and_self, and_true, true_and, true_or, or_true, not_true_eq_false, not_false_eq_true, ↓reduceIte, reduceCtorEq, Nat.reduceEqDiff, Nat.reduceAdd, Nat.reduceSub, Nat.reduceMul, Nat.reduceLT, Nat.reduceLeDiff, Nat.reduceBEq, Nat.le_refl, Nat.zero_le, Nat.lt_irrefl, beq_self_eq_true, Nat.succ_ne_zero, Option.some.injEq, Prod.mk.injEq, Int32.reduceLT, Int32.reduceLE, y_60, rt_60_0, rt_60_1, rt_60_11, rt_60_12, rt_60_13, rt_60_14, rt_60_15, rt_60_16, rt_60_17, rt_60_18, rt_60_19, rt_60_20, rt_60_21, rt_60_22, rt_60_23, rt_60_24, rt_60_25, rt_60_26, rt_60_27, rt_60_28, rt_60_29, rt_60_30, rt_60_39, rt_60_41, rt_60_42, rt_60_45, rt_60_46, rt_60_47, rt_60_49, rt_60_50, rt_60_51, rt_60_52, rt_60_53, rt_60_54, rt_60_55, rt_60_56, rt_60_59, rt_60_61, rt_60_62, al_63, as_63, al_64, as_64, al_65, as_65, al_66, as_66, al_67, as_67, al_68, as_68, al_69, as_69, al_70, as_70, al_71, as_71, al_72, as_72, al_73, as_73, al_74, as_74, al_75, as_75, al_76, as_76, al_78, as_78, al_79, as_79, al_80, as_80, al_81, as_81, al_82, as_82, al_83, as_83, al_84, as_84, al_85, as_85, al_86, as_86, al_87, as_87, al_88, as_88, al_89, as_89, al_90, as_90, al_91, as_91, al_92, as_92, al_93, as_93, al_94, as_94, al_95, as_95, al_96, as_96, al_97, as_97, al_98, as_98, al_61, as_61, al_62, as_62, al_99, as_99, al_82_0, as_82_0, al_83_32, as_83_32, al_83_33, as_83_33, ad0, ad8, ad16, ad24, ad_0, mu2, mu8, mu34, nI_add, nI_1, uI_mm, dvN, dvM]
  refine mit_for (fun j => [some (.ref 60), some (.int (bs (inA T S) j)), some (.int (nI j))]) (fun _ => mm I J f) (B := tk T) (fun j hj r => ?_) (by omega) (fun r => ?_)
  · have c1 : ¬ tk T ≤ j := by omega
    simp (disch := omega) only [kX12_those_4, kX12_those_29, i_cst, i_ldI, i_ldJ, i_ldA, i_stI, i_stJ, i_stA, i_inc, i_bin, i_un, i_i2l, i_bnJ, i_lshl, i_lcmp, i_dup, i_dp2, i_gI, i_gJ, i_gA, i_pI, i_pZ, i_pJ, i_pA, i_alJ, i_asJ, i_len, i_c0, i_c2, i_sw, msel, i_cV, i_cS, i_rV, i_rI, i_rZ, i_rJ, i_mm, i_pop, i_no, mpl, mvr, mnw, List.getElem?_cons_zero, List.getElem?_cons_succ, List.set_cons_zero, List.set_cons_succ, List.length_cons, List.length_nil, List.drop_succ_cons, List.drop_zero, List.take_succ_cons, List.take_zero, List.reverse_cons, List.reverse_nil, List.nil_append, List.cons_append, List.append_nil, List.map_cons, List.map_nil, List.sum_cons, List.sum_nil, Option.toList_some, Option.toList_none, Option.bind_some, Value.category, decide_eq_true_eq, decide_true, decide_false, if_true, if_false, Bool.false_eq_true, and_self, and_true, true_and, true_or, or_true, not_true_eq_false, not_false_eq_true, ↓reduceIte, reduceCtorEq, Nat.reduceEqDiff, Nat.reduceAdd, Nat.reduceSub, Nat.reduceMul, Nat.reduceLT, Nat.reduceLeDiff, Nat.reduceBEq, Nat.le_refl, Nat.zero_le, Nat.lt_irrefl, beq_self_eq_true, Nat.succ_ne_zero, Option.some.injEq, Prod.mk.injEq, Int32.reduceLT, Int32.reduceLE, y_60, rt_60_0, rt_60_1, rt_60_11, rt_60_12, rt_60_13, rt_60_14, rt_60_15, rt_60_16, rt_60_17, rt_60_18, rt_60_19, rt_60_20, rt_60_21, rt_60_22, rt_60_23, rt_60_24, rt_60_25, rt_60_26, rt_60_27, rt_60_28, rt_60_29, rt_60_30, rt_60_39, rt_60_41, rt_60_42, rt_60_45, rt_60_46, rt_60_47, rt_60_49, rt_60_50, rt_60_51, rt_60_52, rt_60_53, rt_60_54, rt_60_55, rt_60_56, rt_60_59, rt_60_61, rt_60_62, al_63, as_63, al_64, as_64, al_65, as_65, al_66, as_66, al_67, as_67, al_68, as_68, al_69, as_69, al_70, as_70, al_71, as_71, al_72, as_72, al_73, as_73, al_74, as_74, al_75, as_75, al_76, as_76, al_78, as_78, al_79, as_79, al_80, as_80, al_81, as_81, al_82, as_82, al_83, as_83, al_84, as_84, al_85, as_85, al_86, as_86, al_87, as_87, al_88, as_88, al_89, as_89, al_90, as_90, al_91, as_91, al_92, as_92, al_93, as_93, al_94, as_94, al_95, as_95, al_96, as_96, al_97, as_97, al_98, as_98, al_61, as_61, al_62, as_62, al_99, as_99, al_82_0, as_82_0, al_83_32, as_83_32, al_83_33, as_83_33, ad0, ad8, ad16, ad24, ad_0, mu2, mu8, mu34, nI_add, nI_1, uI_mm, dvN, dvM, m_many n J f o, nI_leI, c1, o.neg hj, bs, bit1]
    by_cases h : inA T S j = true <;> simp [h]
  · simp (disch := omega) only [kX12_those_4, i_cst, i_ldI, i_ldJ, i_ldA, i_stI, i_stJ, i_stA, i_inc, i_bin, i_un, i_i2l, i_bnJ, i_lshl, i_lcmp, i_dup, i_dp2, i_gI, i_gJ, i_gA, i_pI, i_pZ, i_pJ, i_pA, i_alJ, i_asJ, i_len, i_c0, i_c2, i_sw, msel, i_cV, i_cS, i_rV, i_rI, i_rZ, i_rJ, i_mm, i_pop, i_no, mpl, mvr, mnw, List.getElem?_cons_zero, List.getElem?_cons_succ, List.set_cons_zero, List.set_cons_succ, List.length_cons, List.length_nil, List.drop_succ_cons, List.drop_zero, List.take_succ_cons, List.take_zero, List.reverse_cons, List.reverse_nil, List.nil_append, List.cons_append, List.append_nil, List.map_cons, List.map_nil, List.sum_cons, List.sum_nil, Option.toList_some, Option.toList_none, Option.bind_some, Value.category, decide_eq_true_eq, decide_true, decide_false, if_true, if_false, Bool.false_eq_true, and_self, and_true, true_and, true_or, or_true, not_true_eq_false, not_false_eq_true, ↓reduceIte, reduceCtorEq, Nat.reduceEqDiff, Nat.reduceAdd, Nat.reduceSub, Nat.reduceMul, Nat.reduceLT, Nat.reduceLeDiff, Nat.reduceBEq, Nat.le_refl, Nat.zero_le, Nat.lt_irrefl, beq_self_eq_true, Nat.succ_ne_zero, Option.some.injEq, Prod.mk.injEq, Int32.reduceLT, Int32.reduceLE, y_60, rt_60_0, rt_60_1, rt_60_11, rt_60_12, rt_60_13, rt_60_14, rt_60_15, rt_60_16, rt_60_17, rt_60_18, rt_60_19, rt_60_20, rt_60_21, rt_60_22, rt_60_23, rt_60_24, rt_60_25, rt_60_26, rt_60_27, rt_60_28, rt_60_29, rt_60_30, rt_60_39, rt_60_41, rt_60_42, rt_60_45, rt_60_46, rt_60_47, rt_60_49, rt_60_50, rt_60_51, rt_60_52, rt_60_53, rt_60_54, rt_60_55, rt_60_56, rt_60_59, rt_60_61, rt_60_62, al_63, as_63, al_64, as_64, al_65, as_65, al_66, as_66, al_67, as_67, al_68, as_68, al_69, as_69, al_70, as_70, al_71, as_71, al_72, as_72, al_73, as_73, al_74, as_74, al_75, as_75, al_76, as_76, al_78, as_78, al_79, as_79, al_80, as_80, al_81, as_81, al_82, as_82, al_83, as_83, al_84, as_84, al_85, as_85, al_86, as_86, al_87, as_87, al_88, as_88, al_89, as_89, al_90, as_90, al_91, as_91, al_92, as_92, al_93, as_93, al_94, as_94, al_95, as_95, al_96, as_96, al_97, as_97, al_98, as_98, al_61, as_61, al_62, as_62, al_99, as_99, al_82_0, as_82_0, al_83_32, as_83_32, al_83_33, as_83_33, ad0, ad8, ad16, ad24, ad_0, mu2, mu8, mu34, nI_add, nI_1, uI_mm, dvN, dvM, m_many n J f o, Int32.le_refl, whoA]
    rw [bs_k hk (fun j hj => inA_ge hj)]
def s8 (b0 b1 b2 b3 b4 b5 b6 b7 : Bool) : Nat := b0.toNat + 2 * b1.toNat + 4 * b2.toNat + 8 * b3.toNat + 16 * b4.toNat + 32 * b5.toNat + 64 * b6.toNat + 128 * b7.toNat
theorem bs8_nI : ∀ b0 b1 b2 b3 b4 b5 b6 b7 : Bool, bs8 b0 b1 b2 b3 b4 b5 b6 b7 = nI (s8 b0 b1 b2 b3 b4 b5 b6 b7) ∧ s8 b0 b1 b2 b3 b4 b5 b6 b7 < 256 := by decide +kernel
/-- a set is a number below 256 -/
theorem bs_nI (P : Nat → Bool) : ∃ s, s < 256 ∧ bs P 8 = nI s ∧ cn (tb s) 8 = cn P 8 := by
  have h := bs8_nI (P 0) (P 1) (P 2) (P 3) (P 4) (P 5) (P 6) (P 7)
  have e : bs P 8 = bs8 (P 0) (P 1) (P 2) (P 3) (P 4) (P 5) (P 6) (P 7) := bs_congr 8 (l8 P)
  refine ⟨_, h.2, e.trans h.1, ?_⟩
  have h1 := bc_bs P
  rw [e.trans h.1, bc_nI h.2] at h1
  have h2 := cn_le P 8
  have h3 := cn_le (tb (s8 (P 0) (P 1) (P 2) (P 3) (P 4) (P 5) (P 6) (P 7))) 8
  exact (nI_eq (by omega) (by omega)).mp h1
theorem low_bit : ∀ s, s < 256 → ¬ s = 0 → nI s &&& (nI s - 1) = nI (s &&& (s - 1)) ∧ (s &&& (s - 1)) < 256 ∧ cn (tb s) 8 = cn (tb (s &&& (s - 1))) 8 + 1 := by decide +kernel
theorem cn_tb0 : cn (tb 0) 8 = 0 := by decide
set_option maxHeartbeats 4000000 in
theorem m_bitsN (hn : 8 < n) {s : Nat} (hs : s < 256) (μ : mM) : FX12_bitsOf n [.int (nI s)] μ = some (some (.int (nI (cn (tb s) 8))), μ) := by
  simp only [eX12_bitsOf, kX12_bitsOf_0, i_cst, i_ldI, i_ldJ, i_ldA, i_stI, i_stJ, i_stA, i_inc, i_bin, i_dv, i_un, i_i2l, i_bnJ, i_lshl, i_lcmp, i_dup, i_dp2, i_gI, i_gJ, i_gA, i_pI, i_pZ, i_pJ, i_pA, i_al, i_as, i_alJ, i_asJ, i_len, i_c0, i_c2, i_sw, msel, i_cV, i_cS, i_rV, i_rI, i_rZ, i_rJ, i_mm, i_pop, i_no, mpl, mvr, mnw, List.getElem?_cons_zero, List.getElem?_cons_succ, List.set_cons_zero, List.set_cons_succ, List.length_cons, List.length_nil, List.drop_succ_cons, List.drop_zero, List.take_succ_cons, List.take_zero, List.reverse_cons, List.reverse_nil, List.nil_append, List.cons_append, List.append_nil, List.map_cons, List.map_nil, List.sum_cons, List.sum_nil, Option.toList_some, Option.toList_none, Option.bind_some, Value.category, decide_eq_true_eq, decide_true, decide_false, if_true, if_false, Bool.false_eq_true, and_self, and_true, true_and, true_or, or_true, not_true_eq_false, not_false_eq_true, ↓reduceIte, reduceCtorEq, Nat.reduceEqDiff, Nat.reduceAdd, Nat.reduceSub, Nat.reduceMul, Nat.reduceLT, Nat.reduceLeDiff, Nat.reduceBEq, Nat.le_refl, Nat.zero_le, Nat.lt_irrefl, beq_self_eq_true, Nat.succ_ne_zero, Option.some.injEq, Prod.mk.injEq, Int32.reduceLT, Int32.reduceLE]
  have h8 := cn_le (tb s) 8
  refine mit_ind (G := kX12_bitsOf_4 n) (fun d L ν => ∃ (t m : Nat), t < 256 ∧ cn (tb t) 8 = d ∧ m + d = cn (tb s) 8 ∧ ν = μ ∧ L = [some (.int (nI s)), some (.int (nI m)), some (.int (nI t))]) (fun v => v = some (some (.int (nI (cn (tb s) 8))), μ)) ?_ ?_ (cn (tb s) 8) n _ _ (by omega) ⟨s, 0, hs, rfl, by omega, rfl, rfl⟩
  · rintro L ν ⟨t, m, ht, hd, hm, rfl, rfl⟩
    have t0 : t = 0 := by
      rcases Nat.eq_zero_or_pos t with h | h
      · exact h
      · have := (low_bit t ht (by omega)).2.2; omega
    subst t0
    refine ⟨_, fun r => ?_, rfl⟩
    simp only [kX12_bitsOf_4, i_cst, i_ldI, i_ldJ, i_ldA, i_stI, i_stJ, i_stA, i_inc, i_bin, i_dv, i_un, i_i2l, i_bnJ, i_lshl, i_lcmp, i_dup, i_dp2, i_gI, i_gJ, i_gA, i_pI, i_pZ, i_pJ, i_pA, i_al, i_as, i_alJ, i_asJ, i_len, i_c0, i_c2, i_sw, msel, i_cV, i_cS, i_rV, i_rI, i_rZ, i_rJ, i_mm, i_pop, i_no, mpl, mvr, mnw, List.getElem?_cons_zero, List.getElem?_cons_succ, List.set_cons_zero, List.set_cons_succ, List.length_cons, List.length_nil, List.drop_succ_cons, List.drop_zero, List.take_succ_cons, List.take_zero, List.reverse_cons, List.reverse_nil, List.nil_append, List.cons_append, List.append_nil, List.map_cons, List.map_nil, List.sum_cons, List.sum_nil, Option.toList_some, Option.toList_none, Option.bind_some, Value.category, decide_eq_true_eq, decide_true, decide_false, if_true, if_false, Bool.false_eq_true, and_self, and_true, true_and, true_or, or_true, not_true_eq_false, not_false_eq_true, ↓reduceIte, reduceCtorEq, Nat.reduceEqDiff, Nat.reduceAdd, Nat.reduceSub, Nat.reduceMul, Nat.reduceLT, Nat.reduceLeDiff, Nat.reduceBEq, Nat.le_refl, Nat.zero_le, Nat.lt_irrefl, beq_self_eq_true, Nat.succ_ne_zero, Option.some.injEq, Prod.mk.injEq, Int32.reduceLT, Int32.reduceLE, nI_0]
    rw [show m = cn (tb s) 8 by omega]
  · rintro d L ν ⟨t, m, ht, hd, hm, rfl, rfl⟩
    refine Or.inr ?_
    have t0 : ¬ t = 0 := fun e => by rw [e, cn_tb0] at hd; omega
    obtain ⟨l1, l2, l3⟩ := low_bit t ht t0
    have c0 : ¬ nI t = 0 := nI_ne0 (by omega) (by omega)
    refine ⟨_, _, ⟨t &&& (t - 1), m + 1, l2, by omega, by omega, rfl, rfl⟩, fun r => ?_⟩
    simp only [kX12_bitsOf_4, i_cst, i_ldI, i_ldJ, i_ldA, i_stI, i_stJ, i_stA, i_inc, i_bin, i_dv, i_un, i_i2l, i_bnJ, i_lshl, i_lcmp, i_dup, i_dp2, i_gI, i_gJ, i_gA, i_pI, i_pZ, i_pJ, i_pA, i_al, i_as, i_alJ, i_asJ, i_len, i_c0, i_c2, i_sw, msel, i_cV, i_cS, i_rV, i_rI, i_rZ, i_rJ, i_mm, i_pop, i_no, mpl, mvr, mnw, List.getElem?_cons_zero, List.getElem?_cons_succ, List.set_cons_zero, List.set_cons_succ, List.length_cons, List.length_nil, List.drop_succ_cons, List.drop_zero, List.take_succ_cons, List.take_zero, List.reverse_cons, List.reverse_nil, List.nil_append, List.cons_append, List.append_nil, List.map_cons, List.map_nil, List.sum_cons, List.sum_nil, Option.toList_some, Option.toList_none, Option.bind_some, Value.category, decide_eq_true_eq, decide_true, decide_false, if_true, if_false, Bool.false_eq_true, and_self, and_true, true_and, true_or, or_true, not_true_eq_false, not_false_eq_true, ↓reduceIte, reduceCtorEq, Nat.reduceEqDiff, Nat.reduceAdd, Nat.reduceSub, Nat.reduceMul, Nat.reduceLT, Nat.reduceLeDiff, Nat.reduceBEq, Nat.le_refl, Nat.zero_le, Nat.lt_irrefl, beq_self_eq_true, Nat.succ_ne_zero, Option.some.injEq, Prod.mk.injEq, Int32.reduceLT, Int32.reduceLE, c0, l1, nI_1]
theorem m_bits (hn : 8 < n) (P : Nat → Bool) (μ : mM) : FX12_bitsOf n [.int (bs P 8)] μ = some (some (.int (nI (cn P 8))), μ) := by
  obtain ⟨s, h1, h2, h3⟩ := bs_nI P
  rw [h2, m_bitsN hn h1, h3]
theorem m_bit (n : Nat) (x : Int32) {c : Nat} (hc : c < 32) (μ : mM) : FX12_bit n [.int x, .int (nI c)] μ = some (some (.int (b2i (gb x c = true))), μ) := by
  simp only [eX12_bit, kX12_bit_0, kX12_bit_14, i_cst, i_ldI, i_ldJ, i_ldA, i_stI, i_stJ, i_stA, i_inc, i_bin, i_dv, i_un, i_i2l, i_bnJ, i_lshl, i_lcmp, i_dup, i_dp2, i_gI, i_gJ, i_gA, i_pI, i_pZ, i_pJ, i_pA, i_al, i_as, i_alJ, i_asJ, i_len, i_c0, i_c2, i_sw, msel, i_cV, i_cS, i_rV, i_rI, i_rZ, i_rJ, i_mm, i_pop, i_no, mpl, mvr, mnw, List.getElem?_cons_zero, List.getElem?_cons_succ, List.set_cons_zero, List.set_cons_succ, List.length_cons, List.length_nil, List.drop_succ_cons, List.drop_zero, List.take_succ_cons, List.take_zero, List.reverse_cons, List.reverse_nil, List.nil_append, List.cons_append, List.append_nil, List.map_cons, List.map_nil, List.sum_cons, List.sum_nil, Option.toList_some, Option.toList_none, Option.bind_some, Value.category, decide_eq_true_eq, decide_true, decide_false, if_true, if_false, Bool.false_eq_true, and_self, and_true, true_and, true_or, or_true, not_true_eq_false, not_false_eq_true, ↓reduceIte, reduceCtorEq, Nat.reduceEqDiff, Nat.reduceAdd, Nat.reduceSub, Nat.reduceMul, Nat.reduceLT, Nat.reduceLeDiff, Nat.reduceBEq, Nat.le_refl, Nat.zero_le, Nat.lt_irrefl, beq_self_eq_true, Nat.succ_ne_zero, Option.some.injEq, Prod.mk.injEq, Int32.reduceLT, Int32.reduceLE, sh_bit x c hc]
  by_cases h : gb x c = true <;> simp [h, b2i]
theorem m_bit0 (n : Nat) (x : Int32) (μ : mM) : FX12_bit n [.int x, .int 0] μ = some (some (.int (b2i (gb x 0 = true))), μ) := m_bit n x (c := 0) (by decide) μ
theorem m_bit1 (n : Nat) (x : Int32) (μ : mM) : FX12_bit n [.int x, .int 1] μ = some (some (.int (b2i (gb x 1 = true))), μ) := m_bit n x (c := 1) (by decide) μ
theorem m_bitB (n : Nat) (P : Nat → Bool) {c : Nat} (hc : c < 8) (μ : mM) : FX12_bit n [.int (bs P 8), .int (nI c)] μ = some (some (.int (b2i (P c = true))), μ) := by
  rw [m_bit n _ (by omega), gb_bs P 8 (by decide) c (by omega)]
  simp [hc]
end MBase
