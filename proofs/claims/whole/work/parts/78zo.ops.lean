/-! PURE: a memory that is made step by step: 0 a new cell, 1 a reference, 2 an int -/
abbrev OP : Type := Nat × Nat × Nat × Nat
def op1 (o : OP) (μ : mM) : mM := if o.1 = 0 then mnew μ (o.2.1, o.2.2.1) else if o.1 = 1 then uR μ o.2.1 o.2.2.1 (some o.2.2.2) else uI μ o.2.1 o.2.2.1 (nI o.2.2.2)
def Mo : List OP → mM
  | [] => mu0
  | o :: l => op1 o (Mo l)
def cN : List OP → Nat
  | [] => 0
  | o :: l => if o.1 = 0 then cN l + 1 else cN l
def shO : List OP → Nat → Option (Nat × Nat)
  | [], _ => none
  | o :: l, b => if o.1 = 0 ∧ b = cN l then some (o.2.1, o.2.2.1) else shO l b
def rdO : List OP → Nat → Nat → Option Nat
  | [], _, _ => none
  | o :: l, a, j => if o.1 = 1 ∧ a = o.2.1 ∧ j = o.2.2.1 then some o.2.2.2 else if o.1 = 0 ∧ a = cN l then none else rdO l a j
def ivO : List OP → Nat → Nat → Int32
  | [], _, _ => 0
  | o :: l, a, j => if o.1 ≠ 0 ∧ o.1 ≠ 1 ∧ a = o.2.1 ∧ j = o.2.2.1 then nI o.2.2.2 else if o.1 = 0 ∧ a = cN l then 0 else ivO l a j
theorem op1_0 (t N x : Nat) (μ : mM) : op1 (0, t, N, x) μ = mnew μ (t, N) := rfl
theorem op1_1 (a j x : Nat) (μ : mM) : op1 (1, a, j, x) μ = uR μ a j (some x) := rfl
theorem op1_2 (a j x : Nat) (μ : mM) : op1 (2, a, j, x) μ = uI μ a j (nI x) := rfl
theorem mn_op (o : OP) (μ : mM) : mn (op1 o μ) = if o.1 = 0 then mn μ + 1 else mn μ := by
  unfold op1
  split
  · show (μ.2.2.2 ++ [_]).length = _
    simp [mn]
  · split <;> rfl
theorem mn_M (l : List OP) : mn (Mo l) = cN l := by
  induction l with
  | nil => rfl
  | cons o l ih =>
    show mn (op1 o (Mo l)) = if o.1 = 0 then cN l + 1 else cN l
    rw [mn_op, ih]
theorem sh_len (l : List OP) (b : Nat) : cN l ≤ b → shO l b = none := by
  induction l with
  | nil => intro _; rfl
  | cons o l ih =>
    intro h
    have h : (if o.1 = 0 then cN l + 1 else cN l) ≤ b := h
    show (if o.1 = 0 ∧ b = cN l then _ else shO l b) = none
    split at h
    · rw [if_neg (by omega)]; exact ih (by omega)
    · rename_i e
      rw [if_neg (fun z => e z.1)]; exact ih h
theorem sh_M (l : List OP) (b : Nat) : (Mo l).2.2.2[b]? = shO l b := by
  induction l with
  | nil => rfl
  | cons o l ih =>
    have hl : (Mo l).2.2.2.length = cN l := mn_M l
    show (op1 o (Mo l)).2.2.2[b]? = if o.1 = 0 ∧ b = cN l then some (o.2.1, o.2.2.1) else shO l b
    unfold op1
    split
    · rename_i e
      show ((Mo l).2.2.2 ++ [(o.2.1, o.2.2.1)])[b]? = _
      by_cases h : b = cN l
      · rw [if_pos ⟨e, h⟩, h, ← hl, List.getElem?_append_right (Nat.le_refl _), Nat.sub_self]; rfl
      · rw [if_neg (fun z => h z.2), ← ih]
        rcases Nat.lt_or_ge b (cN l) with g | g
        · rw [List.getElem?_append_left (by omega)]
        · rw [List.getElem?_eq_none (by simp; omega), List.getElem?_eq_none (by omega)]
    · rename_i e
      have c1 : ¬ (o.1 = 0 ∧ b = cN l) := fun z => e z.1
      rw [if_neg c1]
      split <;> exact ih
theorem rd_M (l : List OP) (a j : Nat) : (Mo l).2.2.1 a j = rdO l a j := by
  induction l with
  | nil => rfl
  | cons o l ih =>
    show (op1 o (Mo l)).2.2.1 a j = if o.1 = 1 ∧ a = o.2.1 ∧ j = o.2.2.1 then some o.2.2.2 else if o.1 = 0 ∧ a = cN l then none else rdO l a j
    unfold op1
    split
    · rename_i e
      show (if a = mn (Mo l) then none else (Mo l).2.2.1 a j) = _
      have c1 : ¬ (o.1 = 1 ∧ a = o.2.1 ∧ j = o.2.2.1) := fun z => by have := z.1; omega
      rw [if_neg c1, mn_M]
      by_cases h : a = cN l
      · rw [if_pos h, if_pos ⟨e, h⟩]
      · rw [if_neg h, if_neg (fun z => h z.2)]; exact ih
    · rename_i e
      split
      · rename_i e1
        show (if a = o.2.1 ∧ j = o.2.2.1 then some o.2.2.2 else (Mo l).2.2.1 a j) = _
        by_cases h : a = o.2.1 ∧ j = o.2.2.1
        · rw [if_pos h, if_pos ⟨e1, h⟩]
        · rw [if_neg h, if_neg (fun z => h z.2), if_neg (fun z => e z.1)]; exact ih
      · rename_i e1
        rw [if_neg (fun z => e1 z.1), if_neg (fun z => e z.1)]; exact ih
theorem iv_M (l : List OP) (a j : Nat) : (Mo l).1 a j = ivO l a j := by
  induction l with
  | nil => rfl
  | cons o l ih =>
    show (op1 o (Mo l)).1 a j = if o.1 ≠ 0 ∧ o.1 ≠ 1 ∧ a = o.2.1 ∧ j = o.2.2.1 then nI o.2.2.2 else if o.1 = 0 ∧ a = cN l then 0 else ivO l a j
    unfold op1
    split
    · rename_i e
      show (if a = mn (Mo l) then 0 else (Mo l).1 a j) = _
      have c1 : ¬ (o.1 ≠ 0 ∧ o.1 ≠ 1 ∧ a = o.2.1 ∧ j = o.2.2.1) := fun z => z.1 e
      rw [if_neg c1, mn_M]
      by_cases h : a = cN l
      · rw [if_pos h, if_pos ⟨e, h⟩]
      · rw [if_neg h, if_neg (fun z => h z.2)]; exact ih
    · rename_i e
      split
      · rename_i e1
        rw [if_neg (fun z => z.2.1 e1), if_neg (fun z => e z.1)]; exact ih
      · rename_i e1
        show (if a = o.2.1 ∧ j = o.2.2.1 then nI o.2.2.2 else (Mo l).1 a j) = _
        by_cases h : a = o.2.1 ∧ j = o.2.2.1
        · rw [if_pos h, if_pos ⟨e, e1, h⟩]
        · rw [if_neg h, if_neg (fun z => h z.2.2), if_neg (fun z => e z.1)]; exact ih
theorem j_M (l : List OP) : (Mo l).2.1 = fun _ _ => 0 := by
  induction l with
  | nil => rfl
  | cons o l ih =>
    show (op1 o (Mo l)).2.1 = _
    unfold op1
    split
    · funext a j
      show (if a = mn (Mo l) then 0 else (Mo l).2.1 a j) = 0
      rw [ih]; simp
    · split <;> exact ih
/-- no int is written into a -/
theorem iv_0 {l : List OP} {a : Nat} (h : (l.all fun o => decide (o.1 = 0) || decide (o.1 = 1) || !decide (a = o.2.1)) = true) (j : Nat) : ivO l a j = 0 := by
  induction l with
  | nil => rfl
  | cons o l ih =>
    rw [List.all_cons, Bool.and_eq_true] at h
    show (if o.1 ≠ 0 ∧ o.1 ≠ 1 ∧ a = o.2.1 ∧ j = o.2.2.1 then nI o.2.2.2 else if o.1 = 0 ∧ a = cN l then 0 else ivO l a j) = 0
    rw [if_neg (fun z => by have h1 := h.1; simp [z.1, z.2.1, z.2.2.1] at h1), ih h.2]
    simp
section Ops
variable {a ci j t N m mc : Nat} {x : Int32} {K : mK} {L : List (Option Value)} {l l' : List OP} {n : Nat}
/-- ldA 0, cst, newarray, putfield -/
theorem Bna (h0 : L[0]? = some (some (.ref a))) (hx : x = Int32.ofNat N) (hc : cN l = m) (hs : shO l a = some (4, ci)) : i_ldA 0 (i_cst (.int x) (i_na t N (i_pA ci j K))) L [] (Mo l) = K L [] (Mo ((1, a, j, m) :: (0, t, N, 0) :: l)) := by
  have ham : a < cN l := by
    rcases Nat.lt_or_ge a (cN l) with g | g
    · exact g
    · rw [sh_len l a g] at hs; cases hs
  have e : (mnew (Mo l) (t, N)).2.2.2[a]? = some (4, ci) := by
    have := sh_M ((0, t, N, 0) :: l) a
    rw [show Mo ((0, t, N, 0) :: l) = mnew (Mo l) (t, N) from rfl] at this
    rw [this]
    show (if (0 : Nat) = 0 ∧ a = cN l then _ else shO l a) = _
    rw [if_neg (by omega), hs]
  rw [x_ldA, h0]
  show i_cst (.int x) (i_na t N (i_pA ci j K)) L [.ref a] (Mo l) = _
  rw [x_cst, x_na, if_pos hx, x_pA, if_pos e, mn_M, hc]
  rfl
/-- ldA 0, cst, putfield of an int -/
theorem Bpi {v : Nat} (h0 : L[0]? = some (some (.ref a))) (hx : x = nI v) (hs : shO l a = some (4, ci)) : i_ldA 0 (i_cst (.int x) (i_pI ci j K)) L [] (Mo l) = K L [] (Mo ((2, a, j, v) :: l)) := by
  have e : (Mo l).2.2.2[a]? = some (4, ci) := (sh_M l a).trans hs
  rw [x_ldA, h0]
  show i_cst (.int x) (i_pI ci j K) L [.ref a] (Mo l) = _
  rw [x_cst, x_pI, if_pos e, hx]
  rfl
/-- ldA 0, ldA 1, putfield -/
theorem Bpa {b p : Nat} (h0 : L[0]? = some (some (.ref a))) (h1 : L[p]? = some (some (.ref b))) (hs : shO l a = some (4, ci)) : i_ldA 0 (i_ldA p (i_pA ci j K)) L [] (Mo l) = K L [] (Mo ((1, a, j, b) :: l)) := by
  have e : (Mo l).2.2.2[a]? = some (4, ci) := (sh_M l a).trans hs
  rw [x_ldA, h0]
  show i_ldA p (i_pA ci j K) L [.ref a] (Mo l) = _
  rw [x_ldA, h1]
  show i_pA ci j K L [.ref b, .ref a] (Mo l) = _
  rw [x_pA, if_pos e]
  rfl
theorem Bob {v : Option mR} (h0 : L[0]? = some (some (.ref a))) (h : K L [] (Mo l) = v) : i_ldA 0 (i_obj K) L [] (Mo l) = v := by
  rw [x_ldA, h0]
  show i_obj K L [.ref a] (Mo l) = _
  rw [x_obj]
  exact h
/-- ldA 0, new, dup, invokespecial with no other argument, putfield -/
theorem Bn0 {c : Nat} {F : List Value → mM → Option mR} (h0 : L[0]? = some (some (.ref a))) (hc : cN l = m) (hF : F [.ref m] (Mo ((0, 4, c, 0) :: l)) = some (none, Mo l')) (hm : cN l' = m + 1 + mc) (hs : shO l' a = some (4, ci)) : i_ldA 0 (i_new c (i_dup (i_cI 0 mc F (i_pA ci j K)))) L [] (Mo l) = K L [] (Mo ((1, a, j, m) :: l')) := by
  have e : (Mo l').2.2.2[a]? = some (4, ci) := (sh_M l' a).trans hs
  have hm2 : mn (Mo l') = mn (mnew (Mo l) (4, c)) + mc := by
    rw [show mnew (Mo l) (4, c) = Mo ((0, 4, c, 0) :: l) from rfl, mn_M, mn_M, hm]
    show _ = cN l + 1 + mc
    rw [hc]
  have em : mnew (Mo l) (4, c) = Mo ((0, 4, c, 0) :: l) := rfl
  have hcn : cN ((0, 4, c, 0) :: l) = m + 1 := by show cN l + 1 = _; rw [hc]
  have er : uR (Mo l') a j (some m) = Mo ((1, a, j, m) :: l') := rfl
  rw [x_ldA, h0]
  show i_new c (i_dup (i_cI 0 mc F (i_pA ci j K))) L [.ref a] (Mo l) = _
  simp only [x_no, x_cst, x_ldI, x_ldJ, x_ldA, x_stI, x_stJ, x_stA, x_inc, x_bin, x_un, x_i2l, x_bnJ, x_lshl, x_lcmp, x_dup, x_dp2, x_gI, x_gJ, x_gA, x_pI, x_pZ, x_pJ, x_pA, x_c0, x_c2, x_sw, x_cV, x_cS, x_rV, x_rI, x_rZ, x_rJ, x_mm, x_pop, msel, mpl, mvr, mnw, List.getElem?_cons_zero, List.getElem?_cons_succ, List.set_cons_zero, List.set_cons_succ, List.length_cons, List.length_nil, List.drop_succ_cons, List.drop_zero, List.take_succ_cons, List.take_zero, List.reverse_cons, List.reverse_nil, List.nil_append, List.cons_append, List.append_nil, List.map_cons, List.map_nil, List.sum_cons, List.sum_nil, Option.toList_some, Option.toList_none, x_bs, Value.category, decide_eq_true_eq, decide_true, decide_false, if_true, if_false, Bool.false_eq_true, and_self, and_true, true_and, true_or, or_true, not_true_eq_false, not_false_eq_true, ↓reduceIte, reduceCtorEq, Nat.reduceEqDiff, Nat.reduceAdd, Nat.reduceSub, Nat.reduceMul, Nat.reduceLT, Nat.reduceLeDiff, Nat.reduceBEq, Nat.le_refl, Nat.zero_le, Nat.lt_irrefl, beq_self_eq_true, Nat.succ_ne_zero, Option.some.injEq, Prod.mk.injEq, Int32.reduceLT, Int32.reduceLE, y_60, rt_60_0, rt_60_1, rt_60_11, rt_60_12, rt_60_13, rt_60_14, rt_60_15, rt_60_16, rt_60_17, rt_60_18, rt_60_19, rt_60_20, rt_60_21, rt_60_22, rt_60_23, rt_60_24, rt_60_25, rt_60_26, rt_60_27, rt_60_28, rt_60_29, rt_60_30, rt_60_39, rt_60_41, rt_60_42, rt_60_45, rt_60_46, rt_60_47, rt_60_49, rt_60_50, rt_60_51, rt_60_52, rt_60_53, rt_60_54, rt_60_55, rt_60_56, rt_60_59, rt_60_61, rt_60_62, al_63, as_63, al_64, as_64, al_65, as_65, al_66, as_66, al_67, as_67, al_68, as_68, al_69, as_69, al_70, as_70, al_71, as_71, al_72, as_72, al_73, as_73, al_74, as_74, al_75, as_75, al_76, as_76, al_78, as_78, al_79, as_79, al_80, as_80, al_81, as_81, al_82, as_82, al_83, as_83, al_84, as_84, al_85, as_85, al_86, as_86, al_87, as_87, al_88, as_88, al_89, as_89, al_90, as_90, al_91, as_91, al_92, as_92, al_93, as_93, al_94, as_94, al_95, as_95, al_96, as_96, al_97, as_97, al_98, as_98, al_61, as_61, al_62, as_62, al_99, as_99, al_82_0, as_82_0, al_83_32, as_83_32, al_83_33, as_83_33, ad0, ad8, ad16, ad24, ad_0, mu2, mu8, mu34, nI_add, nI_1, uI_mm, dvN, dvM, x_new, x_cI, mn_M, hc, em, hF, hcn, hm, e, er]
/-- ldA 0, new, dup, ldA 0, getfield, invokespecial with it, putfield -/
theorem Bn1 {c j1 b : Nat} {F : List Value → mM → Option mR} (h0 : L[0]? = some (some (.ref a))) (hc : cN l = m) (hs0 : shO l a = some (4, ci)) (hr : rdO l a j1 = some b) (hF : F [.ref m, .ref b] (Mo ((0, 4, c, 0) :: l)) = some (none, Mo l')) (hm : cN l' = m + 1 + mc) (hs : shO l' a = some (4, ci)) : i_ldA 0 (i_new c (i_dup (i_ldA 0 (i_gA ci j1 (i_cI 1 mc F (i_pA ci j K)))))) L [] (Mo l) = K L [] (Mo ((1, a, j, m) :: l')) := by
  have e : (Mo l').2.2.2[a]? = some (4, ci) := (sh_M l' a).trans hs
  have ham : a < cN l := by
    rcases Nat.lt_or_ge a (cN l) with g | g
    · exact g
    · rw [sh_len l a g] at hs0; cases hs0
  have e0 : (Mo ((0, 4, c, 0) :: l)).2.2.2[a]? = some (4, ci) := by
    rw [sh_M]
    show (if (0 : Nat) = 0 ∧ a = cN l then _ else shO l a) = _
    rw [if_neg (by omega), hs0]
  have r0 : (Mo ((0, 4, c, 0) :: l)).2.2.1 a j1 = some b := by
    rw [rd_M]
    show (if (0 : Nat) = 1 ∧ a = 4 ∧ j1 = c then _ else if (0 : Nat) = 0 ∧ a = cN l then none else rdO l a j1) = _
    rw [if_neg (by omega), if_neg (by omega), hr]
  have hm2 : mn (Mo l') = mn (Mo ((0, 4, c, 0) :: l)) + mc := by
    rw [mn_M, mn_M, hm]
    show _ = cN l + 1 + mc
    rw [hc]
  have em : mnew (Mo l) (4, c) = Mo ((0, 4, c, 0) :: l) := rfl
  have hcn : cN ((0, 4, c, 0) :: l) = m + 1 := by show cN l + 1 = _; rw [hc]
  have er : uR (Mo l') a j (some m) = Mo ((1, a, j, m) :: l') := rfl
  rw [x_ldA, h0]
  show i_new c (i_dup (i_ldA 0 (i_gA ci j1 (i_cI 1 mc F (i_pA ci j K))))) L [.ref a] (Mo l) = _
  simp only [x_no, x_cst, x_ldI, x_ldJ, x_ldA, x_stI, x_stJ, x_stA, x_inc, x_bin, x_un, x_i2l, x_bnJ, x_lshl, x_lcmp, x_dup, x_dp2, x_gI, x_gJ, x_gA, x_pI, x_pZ, x_pJ, x_pA, x_c0, x_c2, x_sw, x_cV, x_cS, x_rV, x_rI, x_rZ, x_rJ, x_mm, x_pop, msel, mpl, mvr, mnw, List.getElem?_cons_zero, List.getElem?_cons_succ, List.set_cons_zero, List.set_cons_succ, List.length_cons, List.length_nil, List.drop_succ_cons, List.drop_zero, List.take_succ_cons, List.take_zero, List.reverse_cons, List.reverse_nil, List.nil_append, List.cons_append, List.append_nil, List.map_cons, List.map_nil, List.sum_cons, List.sum_nil, Option.toList_some, Option.toList_none, x_bs, Value.category, decide_eq_true_eq, decide_true, decide_false, if_true, if_false, Bool.false_eq_true, and_self, and_true, true_and, true_or, or_true, not_true_eq_false, not_false_eq_true, ↓reduceIte, reduceCtorEq, Nat.reduceEqDiff, Nat.reduceAdd, Nat.reduceSub, Nat.reduceMul, Nat.reduceLT, Nat.reduceLeDiff, Nat.reduceBEq, Nat.le_refl, Nat.zero_le, Nat.lt_irrefl, beq_self_eq_true, Nat.succ_ne_zero, Option.some.injEq, Prod.mk.injEq, Int32.reduceLT, Int32.reduceLE, y_60, rt_60_0, rt_60_1, rt_60_11, rt_60_12, rt_60_13, rt_60_14, rt_60_15, rt_60_16, rt_60_17, rt_60_18, rt_60_19, rt_60_20, rt_60_21, rt_60_22, rt_60_23, rt_60_24, rt_60_25, rt_60_26, rt_60_27, rt_60_28, rt_60_29, rt_60_30, rt_60_39, rt_60_41, rt_60_42, rt_60_45, rt_60_46, rt_60_47, rt_60_49, rt_60_50, rt_60_51, rt_60_52, rt_60_53, rt_60_54, rt_60_55, rt_60_56, rt_60_59, rt_60_61, rt_60_62, al_63, as_63, al_64, as_64, al_65, as_65, al_66, as_66, al_67, as_67, al_68, as_68, al_69, as_69, al_70, as_70, al_71, as_71, al_72, as_72, al_73, as_73, al_74, as_74, al_75, as_75, al_76, as_76, al_78, as_78, al_79, as_79, al_80, as_80, al_81, as_81, al_82, as_82, al_83, as_83, al_84, as_84, al_85, as_85, al_86, as_86, al_87, as_87, al_88, as_88, al_89, as_89, al_90, as_90, al_91, as_91, al_92, as_92, al_93, as_93, al_94, as_94, al_95, as_95, al_96, as_96, al_97, as_97, al_98, as_98, al_61, as_61, al_62, as_62, al_99, as_99, al_82_0, as_82_0, al_83_32, as_83_32, al_83_33, as_83_33, ad0, ad8, ad16, ad24, ad_0, mu2, mu8, mu34, nI_add, nI_1, uI_mm, dvN, dvM, x_new, x_cI, mn_M, hc, em, h0, e0, r0, hF, hcn, hm, e, er]
end Ops
