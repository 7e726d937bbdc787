/-! PURE: the pile's state stays small -/
def plk : List Nat → Prop
  | [] => True
  | k :: P => (P.length ≤ 7 * wi (k :: P) + (if rk k ≤ 6 then rk k else 0)) ∧ (rk k = 8 → P = []) ∧ plk P
theorem plk_c {k : Nat} {P : List Nat} (h : plk (k :: P)) : P.length ≤ 7 * wi (k :: P) + (if rk k ≤ 6 then rk k else 0) ∧ (rk k = 8 → P = []) ∧ plk P := h
theorem plk_b {P : List Nat} (h : plk P) : P.length ≤ 7 * wi P + 7 := by
  cases P with
  | nil => exact Nat.zero_le _
  | cons k P =>
    have h1 := (plk_c h).1
    simp only [List.length_cons]
    split at h1 <;> omega
theorem plk_pop {r : Nat} : ∀ P : List Nat, plk P → plk (pop1 r P).2 := by
  intro P
  induction P with
  | nil => intro h; exact h
  | cons k P ih =>
    intro h
    rw [pop1]
    split
    · exact ih h.2.2
    · exact h
def QI (U : Nat) (q : AQ) : Prop := (q.2.2.2.1 = [] ∨ 99 ∈ q.2.2.2.1) ∧ plk q.2.2.2.1 ∧ wi q.2.2.2.1 ≤ 7 ∧ q.2.1 ≤ 30 ∧ U + q.2.1 ≤ 60 ∧ q.2.2.1.length + q.2.2.2.1.length ≤ 9 * q.2.1 + (if q.2.2.2.2 = true then 1 + wi q.2.2.2.1 else 0)
theorem wi_c (k : Nat) (P : List Nat) : wi (k :: P) = (if k = 28 ∨ k = 5 then 1 else 0) + wi P := rfl
theorem QI_step {tp : List Nat} {U : Nat} {q q' : AQ} (h : QI U q) (hP : ¬ q.2.2.2.1 = []) (hs : qS tp U q = .ok q') : QI U q' ∧ (q'.2.2.2.1 = [] ∨ q'.1 = q.1 + 1) := by
  obtain ⟨i, u, cs, P, w⟩ := q
  obtain ⟨h1, h2, h3, h4, h5, h6⟩ := h
  simp only at h1 h2 h3 h4 h5 h6 hP
  have h99 : 99 ∈ P := by rcases h1 with z | z; exact absurd z hP; exact z
  have hb := plk_b h2
  cases w with
  | true =>
    have hs : qU tp U i u cs P = .ok q' := hs
    simp only [if_true] at h6
    unfold qU at hs
    split at hs
    · split at hs
      · rename_i e1 e2
        cases hs
        have e3 : wi (28 :: P) = 1 + wi P := rfl
        refine ⟨⟨Or.inr (List.mem_cons_of_mem _ h99), ⟨by rw [e3]; omega, fun z => absurd z (by decide), h2⟩, by rw [e3]; omega, h4, h5, ?_⟩, Or.inr rfl⟩
        simp only [if_true, List.length_cons]
        rw [e3]; omega
      · cases hs
    · split at hs
      · rename_i e1 e2
        simp only [stU, Bool.and_eq_true, decide_eq_true_eq] at e2
        obtain ⟨⟨c1, c2⟩, c3⟩ := e2
        split at hs
        · rename_i e5
          rw [if_pos e5] at c3
          simp only [decide_eq_true_eq] at c3
          cases hs
          have e3 : wi (5 :: P) = 1 + wi P := rfl
          refine ⟨⟨Or.inr (List.mem_cons_of_mem _ h99), ⟨by rw [e3]; omega, fun z => absurd z (by decide), h2⟩, by rw [e3]; omega, by simp only; omega, by simp only; omega, ?_⟩, Or.inr rfl⟩
          simp only [if_true, List.length_cons]
          rw [e3]; omega
        · cases hs
          refine ⟨⟨Or.inr h99, h2, h3, by simp only; omega, by simp only; omega, ?_⟩, Or.inr rfl⟩
          simp only [Bool.false_eq_true, if_false, List.length_append, List.length_cons, List.length_nil]
          omega
      · cases hs
  | false =>
    have hs : qB tp i u cs P = .ok q' := hs
    simp only [Bool.false_eq_true, if_false] at h6
    unfold qB at hs
    have p99 := pop1_99 (r := rkT (kn tp i)) P h99
    have plen := pop1_len (r := rkT (kn tp i)) P
    have pwi := wi_pop (r := rkT (kn tp i)) P
    have phd := fun k Q => pop1_hd (r := rkT (kn tp i)) (k := k) (Q := Q) P
    have ppl := plk_pop (r := rkT (kn tp i)) P h2
    generalize hpp : pop1 (rkT (kn tp i)) P = pp at hs p99 plen pwi phd ppl
    obtain ⟨out, P1⟩ := pp
    simp only at hs p99 plen pwi phd ppl
    cases P1 with
    | nil => simp at p99
    | cons k Q =>
      have hk := phd k Q rfl
      obtain ⟨l1, l2, l3⟩ := plk_c ppl
      have w1 := wi_c k Q
      simp only [List.length_cons] at plen
      split at hs
      · cases hs
      split at hs
      · rename_i e1 e2
        cases hs
        obtain ⟨r1, r2, r3⟩ := lev_rk e2
        have rr : rkT (kn tp i) = rk (kn tp i) := by unfold rkT; rw [if_pos e2]
        have r0 : 1 ≤ rk (kn tp i) ∧ rk (kn tp i) ≤ 6 := by
          rw [r1]; repeat' split
          all_goals omega
        have w2 : wi (kn tp i :: k :: Q) = wi (k :: Q) := by rw [wi_c, if_neg (by omega), Nat.zero_add]
        refine ⟨⟨Or.inr (List.mem_cons_of_mem _ p99), ⟨?_, fun z => by omega, ppl⟩, by rw [w2]; omega, h4, h5, ?_⟩, Or.inr rfl⟩
        · rw [w2, if_pos r0.2]
          simp only [List.length_cons]
          rw [rr] at hk
          split at l1 <;> omega
        · simp only [if_true, List.length_append, List.length_cons]
          rw [w2]; omega
      split at hs
      · rename_i e1 e2 e3
        split at hs
        · cases hs
          have e3 : k = 5 := e3
          have hm : 99 ∈ Q := by
            rcases List.mem_cons.mp p99 with z | z
            · rw [← z] at e3; cases e3
            · exact z
          refine ⟨⟨Or.inr hm, l3, by simp only [List.tail_cons]; omega, h4, h5, ?_⟩, Or.inr rfl⟩
          simp only [Bool.false_eq_true, if_false, List.length_append, List.tail_cons]
          omega
        · cases hs
      · rename_i e1 e2 e3
        cases hs
        have e3 : ¬ k = 5 := e3
        have rr : rkT (kn tp i) = 0 := by unfold rkT; rw [if_neg e2]
        have k8 := rk_8 k
        have k7 : ¬ rk k = 7 := fun z => e3 (rk_7.mp z)
        have q0 : Q = [] := l2 (by omega)
        subst q0
        refine ⟨⟨Or.inl rfl, trivial, Nat.zero_le _, h4, h5, ?_⟩, Or.inl rfl⟩
        simp only [Bool.false_eq_true, if_false, List.length_append, List.tail_cons, List.length_nil] at plen ⊢
        omega
/-- the start -/
theorem QI_0 {U i : Nat} (h : U ≤ 60) : QI U (i, 0, [], [99], true) := ⟨Or.inr (by simp), ⟨Nat.zero_le _, fun _ => rfl, trivial⟩, (by decide : wi [99] ≤ 7), Nat.zero_le _, by simpa using h, (by decide : 0 + 1 ≤ 9 * 0 + (1 + wi [99]))⟩
section MExp
variable {n : Nat} {I : Nat → Nat → Int32} {J : Nat → Nat → Int64} {tp : List Nat} {rb lo U : Nat}
/-- one round of e -/
theorem m_eStep (n ff m : Nat) {q : AQ} (h : XM I J tp rb lo U q) (hP : ¬ q.2.2.2.1 = []) (hl : q.2.2.2.1.length < 89) {b : Int32} {I1 : Nat → Nat → Int32} {J1 : Nat → Nat → Int64} (hv : (if q.2.2.2.2 = true then FX12_unit n [.ref 60] (mm I J ff) else FX12_behindUnit n [.ref 60] (mm I J ff)) = some (some (.int b), mm I1 J1 ff)) :
    mit (kX12_e_19 n) (m + 1) [some (.ref 60), some (.int (b2i (q.2.2.2.2 = true)))] [] (mm I J ff) = mit (kX12_e_19 n) m [some (.ref 60), some (.int b)] [] (mm I1 J1 ff) := by
  obtain ⟨i, u, cs, P, w⟩ := q
  simp only at hP hl hv ⊢
  have gg := m_isGoodG n ff h.1
  have h35 : I 60 35 = nI P.length := h.2.2.2.2.2.2.1
  have q1 : ¬ (1 : Int32) = 0 := by decide
  have l0 : ¬ nI P.length ≤ 0 := by
    rw [show (0 : Int32) = nI 0 from rfl, nI_leI (by omega) (by decide)]
    cases P with
    | nil => exact absurd rfl hP
    | cons k P => simp
  rw [mit_succ]
  generalize mit (kX12_e_19 n) m = g
  cases w with
  | true =>
    simp only [if_true] at hv
    have b1 : b2i (true = true) = 1 := rfl
    rw [b1]
    simp only [kX12_e_19, kX12_e_48, x_no, x_cst, x_ldI, x_ldJ, x_ldA, x_stI, x_stJ, x_stA, x_inc, x_bin, x_un, x_i2l, x_bnJ, x_lshl, x_lcmp, x_dup, x_dp2, x_gI, x_gJ, x_gA, x_pI, x_pZ, x_pJ, x_pA, x_c0, x_c2, x_sw, x_cV, x_cS, x_rV, x_rI, x_rZ, x_rJ, x_mm, x_pop, msel, mpl, mvr, mnw, List.getElem?_cons_zero, List.getElem?_cons_succ, List.set_cons_zero, List.set_cons_succ, List.length_cons, List.length_nil, List.drop_succ_cons, List.drop_zero, List.take_succ_cons, List.take_zero, List.reverse_cons, List.reverse_nil, List.nil_append, List.cons_append, List.append_nil, List.map_cons, List.map_nil, List.sum_cons, List.sum_nil, Option.toList_some, Option.toList_none, x_bs, Value.category, decide_eq_true_eq, decide_true, decide_false, if_true, if_false, Bool.false_eq_true, and_self, and_true, true_and, true_or, or_true, not_true_eq_false, not_false_eq_true, ↓reduceIte, reduceCtorEq, Nat.reduceEqDiff, Nat.reduceAdd, Nat.reduceSub, Nat.reduceMul, Nat.reduceLT, Nat.reduceLeDiff, Nat.reduceBEq, Nat.le_refl, Nat.zero_le, Nat.lt_irrefl, beq_self_eq_true, Nat.succ_ne_zero, Option.some.injEq, Prod.mk.injEq, Int32.reduceLT, Int32.reduceLE, y_60, rt_60_0, rt_60_1, rt_60_11, rt_60_12, rt_60_13, rt_60_14, rt_60_15, rt_60_16, rt_60_17, rt_60_18, rt_60_19, rt_60_20, rt_60_21, rt_60_22, rt_60_23, rt_60_24, rt_60_25, rt_60_26, rt_60_27, rt_60_28, rt_60_29, rt_60_30, rt_60_39, rt_60_41, rt_60_42, rt_60_45, rt_60_46, rt_60_47, rt_60_49, rt_60_50, rt_60_51, rt_60_52, rt_60_53, rt_60_54, rt_60_55, rt_60_56, rt_60_59, rt_60_61, rt_60_62, al_63, as_63, al_64, as_64, al_65, as_65, al_66, as_66, al_67, as_67, al_68, as_68, al_69, as_69, al_70, as_70, al_71, as_71, al_72, as_72, al_73, as_73, al_74, as_74, al_75, as_75, al_76, as_76, al_78, as_78, al_79, as_79, al_80, as_80, al_81, as_81, al_82, as_82, al_83, as_83, al_84, as_84, al_85, as_85, al_86, as_86, al_87, as_87, al_88, as_88, al_89, as_89, al_90, as_90, al_91, as_91, al_92, as_92, al_93, as_93, al_94, as_94, al_95, as_95, al_96, as_96, al_97, as_97, al_98, as_98, al_61, as_61, al_62, as_62, al_99, as_99, al_82_0, as_82_0, al_83_32, as_83_32, al_83_33, as_83_33, ad0, ad8, ad16, ad24, ad_0, mu2, mu8, mu34, nI_add, nI_1, uI_mm, dvN, dvM, gg, q1, h35, l0, b1, hv]
  | false =>
    simp only [Bool.false_eq_true, if_false] at hv
    have b1 : b2i (false = true) = 0 := rfl
    rw [b1]
    simp only [kX12_e_19, kX12_e_48, x_no, x_cst, x_ldI, x_ldJ, x_ldA, x_stI, x_stJ, x_stA, x_inc, x_bin, x_un, x_i2l, x_bnJ, x_lshl, x_lcmp, x_dup, x_dp2, x_gI, x_gJ, x_gA, x_pI, x_pZ, x_pJ, x_pA, x_c0, x_c2, x_sw, x_cV, x_cS, x_rV, x_rI, x_rZ, x_rJ, x_mm, x_pop, msel, mpl, mvr, mnw, List.getElem?_cons_zero, List.getElem?_cons_succ, List.set_cons_zero, List.set_cons_succ, List.length_cons, List.length_nil, List.drop_succ_cons, List.drop_zero, List.take_succ_cons, List.take_zero, List.reverse_cons, List.reverse_nil, List.nil_append, List.cons_append, List.append_nil, List.map_cons, List.map_nil, List.sum_cons, List.sum_nil, Option.toList_some, Option.toList_none, x_bs, Value.category, decide_eq_true_eq, decide_true, decide_false, if_true, if_false, Bool.false_eq_true, and_self, and_true, true_and, true_or, or_true, not_true_eq_false, not_false_eq_true, ↓reduceIte, reduceCtorEq, Nat.reduceEqDiff, Nat.reduceAdd, Nat.reduceSub, Nat.reduceMul, Nat.reduceLT, Nat.reduceLeDiff, Nat.reduceBEq, Nat.le_refl, Nat.zero_le, Nat.lt_irrefl, beq_self_eq_true, Nat.succ_ne_zero, Option.some.injEq, Prod.mk.injEq, Int32.reduceLT, Int32.reduceLE, y_60, rt_60_0, rt_60_1, rt_60_11, rt_60_12, rt_60_13, rt_60_14, rt_60_15, rt_60_16, rt_60_17, rt_60_18, rt_60_19, rt_60_20, rt_60_21, rt_60_22, rt_60_23, rt_60_24, rt_60_25, rt_60_26, rt_60_27, rt_60_28, rt_60_29, rt_60_30, rt_60_39, rt_60_41, rt_60_42, rt_60_45, rt_60_46, rt_60_47, rt_60_49, rt_60_50, rt_60_51, rt_60_52, rt_60_53, rt_60_54, rt_60_55, rt_60_56, rt_60_59, rt_60_61, rt_60_62, al_63, as_63, al_64, as_64, al_65, as_65, al_66, as_66, al_67, as_67, al_68, as_68, al_69, as_69, al_70, as_70, al_71, as_71, al_72, as_72, al_73, as_73, al_74, as_74, al_75, as_75, al_76, as_76, al_78, as_78, al_79, as_79, al_80, as_80, al_81, as_81, al_82, as_82, al_83, as_83, al_84, as_84, al_85, as_85, al_86, as_86, al_87, as_87, al_88, as_88, al_89, as_89, al_90, as_90, al_91, as_91, al_92, as_92, al_93, as_93, al_94, as_94, al_95, as_95, al_96, as_96, al_97, as_97, al_98, as_98, al_61, as_61, al_62, as_62, al_99, as_99, al_82_0, as_82_0, al_83_32, as_83_32, al_83_33, as_83_33, ad0, ad8, ad16, ad24, ad_0, mu2, mu8, mu34, nI_add, nI_1, uI_mm, dvN, dvM, gg, q1, h35, l0, b1, hv]
theorem m_eF (n ff m : Nat) {e : Nat × Nat} (h : FM I e) (b : Int32) : mit (kX12_e_19 n) (m + 1) [some (.ref 60), some (.int b)] [] (mm I J ff) = some (none, mm I J ff) := by
  have gg := m_isGoodF (J := J) n ff h
  rw [mit_succ]
  simp only [kX12_e_19, kX12_e_52, x_no, x_cst, x_ldI, x_ldJ, x_ldA, x_stI, x_stJ, x_stA, x_inc, x_bin, x_un, x_i2l, x_bnJ, x_lshl, x_lcmp, x_dup, x_dp2, x_gI, x_gJ, x_gA, x_pI, x_pZ, x_pJ, x_pA, x_c0, x_c2, x_sw, x_cV, x_cS, x_rV, x_rI, x_rZ, x_rJ, x_mm, x_pop, msel, mpl, mvr, mnw, List.getElem?_cons_zero, List.getElem?_cons_succ, List.set_cons_zero, List.set_cons_succ, List.length_cons, List.length_nil, List.drop_succ_cons, List.drop_zero, List.take_succ_cons, List.take_zero, List.reverse_cons, List.reverse_nil, List.nil_append, List.cons_append, List.append_nil, List.map_cons, List.map_nil, List.sum_cons, List.sum_nil, Option.toList_some, Option.toList_none, x_bs, Value.category, decide_eq_true_eq, decide_true, decide_false, if_true, if_false, Bool.false_eq_true, and_self, and_true, true_and, true_or, or_true, not_true_eq_false, not_false_eq_true, ↓reduceIte, reduceCtorEq, Nat.reduceEqDiff, Nat.reduceAdd, Nat.reduceSub, Nat.reduceMul, Nat.reduceLT, Nat.reduceLeDiff, Nat.reduceBEq, Nat.le_refl, Nat.zero_le, Nat.lt_irrefl, beq_self_eq_true, Nat.succ_ne_zero, Option.some.injEq, Prod.mk.injEq, Int32.reduceLT, Int32.reduceLE, y_60, rt_60_0, rt_60_1, rt_60_11, rt_60_12, rt_60_13, rt_60_14, rt_60_15, rt_60_16, rt_60_17, rt_60_18, rt_60_19, rt_60_20, rt_60_21, rt_60_22, rt_60_23, rt_60_24, rt_60_25, rt_60_26, rt_60_27, rt_60_28, rt_60_29, rt_60_30, rt_60_39, rt_60_41, rt_60_42, rt_60_45, rt_60_46, rt_60_47, rt_60_49, rt_60_50, rt_60_51, rt_60_52, rt_60_53, rt_60_54, rt_60_55, rt_60_56, rt_60_59, rt_60_61, rt_60_62, al_63, as_63, al_64, as_64, al_65, as_65, al_66, as_66, al_67, as_67, al_68, as_68, al_69, as_69, al_70, as_70, al_71, as_71, al_72, as_72, al_73, as_73, al_74, as_74, al_75, as_75, al_76, as_76, al_78, as_78, al_79, as_79, al_80, as_80, al_81, as_81, al_82, as_82, al_83, as_83, al_84, as_84, al_85, as_85, al_86, as_86, al_87, as_87, al_88, as_88, al_89, as_89, al_90, as_90, al_91, as_91, al_92, as_92, al_93, as_93, al_94, as_94, al_95, as_95, al_96, as_96, al_97, as_97, al_98, as_98, al_61, as_61, al_62, as_62, al_99, as_99, al_82_0, as_82_0, al_83_32, as_83_32, al_83_33, as_83_33, ad0, ad8, ad16, ad24, ad_0, mu2, mu8, mu34, nI_add, nI_1, uI_mm, dvN, dvM, gg]
theorem m_eE (n ff m : Nat) (h : I 60 4 = 0) (h35 : I 60 35 = 0) (b : Int32) : mit (kX12_e_19 n) (m + 1) [some (.ref 60), some (.int b)] [] (mm I J ff) = some (none, mm I J ff) := by
  have gg : FX12_isGood n [.ref 60] (mm I J ff) = some (some (.int 1), mm I J ff) := by rw [m_isGood, b2i_1 h]
  have q1 : ¬ (1 : Int32) = 0 := by decide
  have z0 : (0 : Int32) ≤ 0 := by decide
  rw [mit_succ]
  simp only [kX12_e_19, kX12_e_52, x_no, x_cst, x_ldI, x_ldJ, x_ldA, x_stI, x_stJ, x_stA, x_inc, x_bin, x_un, x_i2l, x_bnJ, x_lshl, x_lcmp, x_dup, x_dp2, x_gI, x_gJ, x_gA, x_pI, x_pZ, x_pJ, x_pA, x_c0, x_c2, x_sw, x_cV, x_cS, x_rV, x_rI, x_rZ, x_rJ, x_mm, x_pop, msel, mpl, mvr, mnw, List.getElem?_cons_zero, List.getElem?_cons_succ, List.set_cons_zero, List.set_cons_succ, List.length_cons, List.length_nil, List.drop_succ_cons, List.drop_zero, List.take_succ_cons, List.take_zero, List.reverse_cons, List.reverse_nil, List.nil_append, List.cons_append, List.append_nil, List.map_cons, List.map_nil, List.sum_cons, List.sum_nil, Option.toList_some, Option.toList_none, x_bs, Value.category, decide_eq_true_eq, decide_true, decide_false, if_true, if_false, Bool.false_eq_true, and_self, and_true, true_and, true_or, or_true, not_true_eq_false, not_false_eq_true, ↓reduceIte, reduceCtorEq, Nat.reduceEqDiff, Nat.reduceAdd, Nat.reduceSub, Nat.reduceMul, Nat.reduceLT, Nat.reduceLeDiff, Nat.reduceBEq, Nat.le_refl, Nat.zero_le, Nat.lt_irrefl, beq_self_eq_true, Nat.succ_ne_zero, Option.some.injEq, Prod.mk.injEq, Int32.reduceLT, Int32.reduceLE, y_60, rt_60_0, rt_60_1, rt_60_11, rt_60_12, rt_60_13, rt_60_14, rt_60_15, rt_60_16, rt_60_17, rt_60_18, rt_60_19, rt_60_20, rt_60_21, rt_60_22, rt_60_23, rt_60_24, rt_60_25, rt_60_26, rt_60_27, rt_60_28, rt_60_29, rt_60_30, rt_60_39, rt_60_41, rt_60_42, rt_60_45, rt_60_46, rt_60_47, rt_60_49, rt_60_50, rt_60_51, rt_60_52, rt_60_53, rt_60_54, rt_60_55, rt_60_56, rt_60_59, rt_60_61, rt_60_62, al_63, as_63, al_64, as_64, al_65, as_65, al_66, as_66, al_67, as_67, al_68, as_68, al_69, as_69, al_70, as_70, al_71, as_71, al_72, as_72, al_73, as_73, al_74, as_74, al_75, as_75, al_76, as_76, al_78, as_78, al_79, as_79, al_80, as_80, al_81, as_81, al_82, as_82, al_83, as_83, al_84, as_84, al_85, as_85, al_86, as_86, al_87, as_87, al_88, as_88, al_89, as_89, al_90, as_90, al_91, as_91, al_92, as_92, al_93, as_93, al_94, as_94, al_95, as_95, al_96, as_96, al_97, as_97, al_98, as_98, al_61, as_61, al_62, as_62, al_99, as_99, al_82_0, as_82_0, al_83_32, as_83_32, al_83_33, as_83_33, ad0, ad8, ad16, ad24, ad_0, mu2, mu8, mu34, nI_add, nI_1, uI_mm, dvN, dvM, gg, q1, h35, z0]
theorem m_eLoop (hn : 1700 < n) (ff : Nat) (hlo : 560 * rb ≤ lo ∧ lo ≤ 560 * rb + 9 * U) : ∀ (f : Nat) (I : Nat → Nat → Int32) (J : Nat → Nat → Int64) (q : AQ), XM I J tp rb lo U q → QI U q → (q.2.2.2.1 = [] → 0 < f) → (¬ q.2.2.2.1 = [] → zl tp + 1 - q.1 < f) → ∀ m,
    (∀ j, qRun tp U f q = .error j → ∃ I' J', mit (kX12_e_19 n) (m + f + 1) [some (.ref 60), some (.int (b2i (q.2.2.2.2 = true)))] [] (mm I J ff) = some (none, mm I' J' ff) ∧ FS tp I' (rf tp j) ∧ XG rb lo I I' ∧ ∀ b j, b ≠ 60 → J' b j = J b j) ∧
    (∀ s', qRun tp U f q = .ok s' → ∃ I' J', mit (kX12_e_19 n) (m + f + 1) [some (.ref 60), some (.int (b2i (q.2.2.2.2 = true)))] [] (mm I J ff) = some (none, mm I' J' ff) ∧ XM I' J' tp rb lo U (s'.1, s'.2.1, s'.2.2, [], false) ∧ XG rb lo I I' ∧ ∀ b j, b ≠ 60 → J' b j = J b j) := by
  intro f
  induction f with
  | zero => intro I J q _ _ h1 h2; exact absurd h2 (by by_cases e : q.2.2.2.1 = []; exact absurd (h1 e) (by decide); exact fun z => absurd (z e) (by omega))
  | succ f ih =>
    intro I J q hx hq hf1 hf2 m
    by_cases e : q.2.2.2.1 = []
    · rw [qRun, if_pos e]
      refine ⟨fun j hj => (by cases hj), fun s' hs => ?_⟩
      cases hs
      have h35 : I 60 35 = 0 := by have := hx.2.2.2.2.2.2.1; rw [e] at this; exact this
      refine ⟨I, J, m_eE n ff _ hx.1.2.2.2 h35 _, ?_, fun _ _ _ _ _ _ _ => rfl, fun _ _ _ => rfl⟩
      rw [← e]
      exact hx
    · have hf := hf2 e
      obtain ⟨i, u, cs, P, w⟩ := q
      obtain ⟨h1, h2, h3, h4, h5, h6⟩ := hq
      simp only at h1 h2 h3 h4 h5 h6 e hf
      have h99 : 99 ∈ P := by rcases h1 with z | z; exact absurd z e; exact z
      have hb := plk_b h2
      have hl : P.length < 89 := by omega
      have h6' : cs.length + P.length ≤ 9 * u + 8 := by split at h6 <;> omega
      have hlo1 : lo + cs.length + P.length < 560 * rb + 560 := by omega
      have er : ∀ j, qS tp U (i, u, cs, P, w) = .error j → ∃ I' b, (if w = true then FX12_unit n [.ref 60] (mm I J ff) else FX12_behindUnit n [.ref 60] (mm I J ff)) = some (some (.int b), mm I' J ff) ∧ FS tp I' (rf tp j) ∧ XG rb lo I I' := by
        intro j hj
        cases w with
        | true =>
          obtain ⟨I', k1, k2, k3⟩ := (m_unit hn ff hx e hl h5 h4 h3 ⟨hlo.1, by omega⟩).1 j hj
          exact ⟨I', 1, k1, k2, k3⟩
        | false =>
          obtain ⟨I', b, k1, k2, k3⟩ := (m_behind hn ff hx h99 hl (by omega) ⟨hlo.1, hlo1⟩).1 j hj
          exact ⟨I', b, k1, k2, k3⟩
      have ok : ∀ q', qS tp U (i, u, cs, P, w) = .ok q' → UR n ff I J tp rb lo U (if w = true then FX12_unit n [.ref 60] (mm I J ff) else FX12_behindUnit n [.ref 60] (mm I J ff)) q' := by
        intro q' hj
        cases w with
        | true => exact (m_unit hn ff hx e hl h5 h4 h3 ⟨hlo.1, by omega⟩).2 q' hj
        | false => exact (m_behind hn ff hx h99 hl (by omega) ⟨hlo.1, hlo1⟩).2 q' hj
      rw [qRun, if_neg e]
      cases hs : qS tp U (i, u, cs, P, w) with
      | error j =>
        obtain ⟨I', b, k1, k2, k3⟩ := er j hs
        refine ⟨fun j' hj => ?_, fun s' hs => by cases hs⟩
        cases hj
        refine ⟨I', J, ?_, k2, k3, fun _ _ _ => rfl⟩
        rw [m_eStep n ff (m + (f + 1)) hx e hl k1, show m + (f + 1) = m + f + 1 by omega]
        exact m_eF n ff _ k2.1 b
      | ok q' =>
        obtain ⟨I1, J1, k1, k2, k3, k4⟩ := ok q' hs
        obtain ⟨g1, g2⟩ := QI_step (q := (i, u, cs, P, w)) ⟨h1, h2, h3, h4, h5, h6⟩ e hs
        have hz : q'.1 ≤ zl tp := k2.1.2.2.1
        obtain ⟨r1, r2⟩ := ih I1 J1 q' k2 g1 (fun _ => by have := hx.1.2.2.1; simp only at this; omega) (fun z => by
          rcases g2 with y | y
          · exact absurd y z
          · simp only at y; omega) m
        have st := m_eStep n ff (m + (f + 1)) hx e hl k1
        refine ⟨fun j hj => ?_, fun s' hj => ?_⟩
        · obtain ⟨I2, J2, y1, y2, y3, y4⟩ := r1 j hj
          refine ⟨I2, J2, ?_, y2, k3.tr y3, fun b j hb => (y4 b j hb).trans (k4 b j hb)⟩
          rw [st, show m + (f + 1) = m + f + 1 by omega]
          exact y1
        · obtain ⟨I2, J2, y1, y2, y3, y4⟩ := r2 s' hj
          refine ⟨I2, J2, ?_, y2, k3.tr y3, fun b j hb => (y4 b j hb).trans (k4 b j hb)⟩
          rw [st, show m + (f + 1) = m + f + 1 by omega]
          exact y1
end MExp
