/-! PURE: the law -/
section LawP
variable {n N i f b : Nat} {xs : Nat → Int32} {I : Nat → Nat → Int32} {J : Nat → Nat → Int64} {A : AS}
set_option maxHeartbeats 4000000 in
theorem lw_no (hn : 2000 < n) (hN : N ≤ 3072) (hi : i + 6 ≤ N) (e0 : ¬ xs i &&& 63 = 0) (e1 : ¬ xs i &&& 63 = 1) (e2 : ¬ xs i &&& 63 = 2) (e3 : ¬ xs i &&& 63 = 3) (e4 : ¬ xs i &&& 63 = 4) (e5 : ¬ xs i &&& 63 = 5) (e6 : ¬ xs i &&& 63 = 6) (e7 : ¬ xs i &&& 63 = 7) (e8 : ¬ xs i &&& 63 = 8) (e9 : ¬ xs i &&& 63 = 9) (e10 : ¬ xs i &&& 63 = 10) (e11 : ¬ xs i &&& 63 = 11) (e12 : ¬ xs i &&& 63 = 12) (e13 : ¬ xs i &&& 63 = 13) (e14 : ¬ xs i &&& 63 = 14) (e15 : ¬ xs i &&& 63 = 15) (e16 : ¬ xs i &&& 63 = 16) (e17 : ¬ xs i &&& 63 = 17) (e18 : ¬ xs i &&& 63 = 18) (e19 : ¬ xs i &&& 63 = 19) (e20 : ¬ xs i &&& 63 = 20) (e21 : ¬ xs i &&& 63 = 21) (e22 : ¬ xs i &&& 63 = 22) (e23 : ¬ xs i &&& 63 = 23) (e24 : ¬ xs i &&& 63 = 24) (e25 : ¬ xs i &&& 63 = 25) (e26 : ¬ xs i &&& 63 = 26) (e27 : ¬ xs i &&& 63 = 27) (e28 : ¬ xs i &&& 63 = 28) (e29 : ¬ xs i &&& 63 = 29) (e30 : ¬ xs i &&& 63 = 30) (e31 : ¬ xs i &&& 63 = 31) (e32 : ¬ xs i &&& 63 = 32) (e33 : ¬ xs i &&& 63 = 33) (e34 : ¬ xs i &&& 63 = 34) (e35 : ¬ xs i &&& 63 = 35) (e36 : ¬ xs i &&& 63 = 36) (e37 : ¬ xs i &&& 63 = 37) (e38 : ¬ xs i &&& 63 = 38) (e39 : ¬ xs i &&& 63 = 39) (e40 : ¬ xs i &&& 63 = 40) (e41 : ¬ xs i &&& 63 = 41) (e42 : ¬ xs i &&& 63 = 42) (e43 : ¬ xs i &&& 63 = 43) (e44 : ¬ xs i &&& 63 = 44) (e45 : ¬ xs i &&& 63 = 45) (e46 : ¬ xs i &&& 63 = 46) (e47 : ¬ xs i &&& 63 = 47) (e48 : ¬ xs i &&& 63 = 48) (e49 : ¬ xs i &&& 63 = 49) (e50 : ¬ xs i &&& 63 = 50) (e51 : ¬ xs i &&& 63 = 51) (e52 : ¬ xs i &&& 63 = 52) (e53 : ¬ xs i &&& 63 = 53) (hc : RC I A) (hm : RM I b A) : ∃ I2 J2 f2 b2 A2, (∀ r : mK, kL_law_18 n xs N r (lwL i) [] (mm I J f) = r (lwL (i + 6)) [] (mm I2 J2 f2)) ∧ RC I2 A2 ∧ RM I2 b2 A2 := by
  refine ⟨I, J, f, b, A, fun r => ?_, hc, hm⟩
  have c6 : ¬ nI N - 6 < nI i := fun z => by have := (sub6 hN (by omega)).mp z; omega
  have s0 := fun (k : mK) (L : List (Option Value)) (S : List Value) (μ : mM) => x_salN xs N k L S μ (j := i) (by omega) (by omega)
  have p6 : nI i + 6 = nI (i + 6) := nI_pk rfl
  simp only [lwL, kL_law_18, kL_law_1562, x_no, x_cst, x_ldI, x_ldJ, x_ldA, x_stI, x_stJ, x_stA, x_inc, x_bin, x_un, x_i2l, x_bnJ, x_lshl, x_lcmp, x_dup, x_dp2, x_gI, x_gJ, x_gA, x_pI, x_pZ, x_pJ, x_pA, x_c0, x_c2, x_sw, x_cV, x_cS, x_rV, x_rI, x_rZ, x_rJ, x_mm, x_pop, msel, mpl, mvr, mnw, List.getElem?_cons_zero, List.getElem?_cons_succ, List.set_cons_zero, List.set_cons_succ, List.length_cons, List.length_nil, List.drop_succ_cons, List.drop_zero, List.take_succ_cons, List.take_zero, List.reverse_cons, List.reverse_nil, List.nil_append, List.cons_append, List.append_nil, List.map_cons, List.map_nil, List.sum_cons, List.sum_nil, Option.toList_some, Option.toList_none, x_bs, Value.category, decide_eq_true_eq, decide_true, decide_false, if_true, if_false, Bool.false_eq_true, and_self, and_true, true_and, true_or, or_true, not_true_eq_false, not_false_eq_true, ↓reduceIte, reduceCtorEq, Nat.reduceEqDiff, Nat.reduceAdd, Nat.reduceSub, Nat.reduceMul, Nat.reduceLT, Nat.reduceLeDiff, Nat.reduceBEq, Nat.le_refl, Nat.zero_le, Nat.lt_irrefl, beq_self_eq_true, Nat.succ_ne_zero, Option.some.injEq, Prod.mk.injEq, Int32.reduceLT, Int32.reduceLE, y_60, rt_60_0, rt_60_1, rt_60_11, rt_60_12, rt_60_13, rt_60_14, rt_60_15, rt_60_16, rt_60_17, rt_60_18, rt_60_19, rt_60_20, rt_60_21, rt_60_22, rt_60_23, rt_60_24, rt_60_25, rt_60_26, rt_60_27, rt_60_28, rt_60_29, rt_60_30, rt_60_39, rt_60_41, rt_60_42, rt_60_45, rt_60_46, rt_60_47, rt_60_49, rt_60_50, rt_60_51, rt_60_52, rt_60_53, rt_60_54, rt_60_55, rt_60_56, rt_60_59, rt_60_61, rt_60_62, al_63, as_63, al_64, as_64, al_65, as_65, al_66, as_66, al_67, as_67, al_68, as_68, al_69, as_69, al_70, as_70, al_71, as_71, al_72, as_72, al_73, as_73, al_74, as_74, al_75, as_75, al_76, as_76, al_78, as_78, al_79, as_79, al_80, as_80, al_81, as_81, al_82, as_82, al_83, as_83, al_84, as_84, al_85, as_85, al_86, as_86, al_87, as_87, al_88, as_88, al_89, as_89, al_90, as_90, al_91, as_91, al_92, as_92, al_93, as_93, al_94, as_94, al_95, as_95, al_96, as_96, al_97, as_97, al_98, as_98, al_61, as_61, al_62, as_62, al_99, as_99, al_82_0, as_82_0, al_83_32, as_83_32, al_83_33, as_83_33, ad0, ad8, ad16, ad24, ad_0, mu2, mu8, mu34, nI_add, nI_1, uI_mm, dvN, dvM, x_slnN, c6, s0, p6, e0, e1, e2, e3, e4, e5, e6, e7, e8, e9, e10, e11, e12, e13, e14, e15, e16, e17, e18, e19, e20, e21, e22, e23, e24, e25, e26, e27, e28, e29, e30, e31, e32, e33, e34, e35, e36, e37, e38, e39, e40, e41, e42, e43, e44, e45, e46, e47, e48, e49, e50, e51, e52, e53]
/-- one round -/
theorem lw_step (hn : 2000 < n) (hN : N ≤ 3072) (hi : i + 6 ≤ N) (hc : RC I A) (hm : RM I b A) : ∃ I2 J2 f2 b2 A2, (∀ r : mK, kL_law_18 n xs N r (lwL i) [] (mm I J f) = r (lwL (i + 6)) [] (mm I2 J2 f2)) ∧ RC I2 A2 ∧ RM I2 b2 A2 := by
  by_cases e0 : xs i &&& 63 = 0
  · exact lw_0 hn hN hi e0 hc hm
  by_cases e1 : xs i &&& 63 = 1
  · exact lw_1 hn hN hi e1 hc hm
  by_cases e2 : xs i &&& 63 = 2
  · exact lw_2 hn hN hi e2 hc hm
  by_cases e3 : xs i &&& 63 = 3
  · exact lw_3 hn hN hi e3 hc hm
  by_cases e4 : xs i &&& 63 = 4
  · exact lw_4 hn hN hi e4 hc hm
  by_cases e5 : xs i &&& 63 = 5
  · exact lw_5 hn hN hi e5 hc hm
  by_cases e6 : xs i &&& 63 = 6
  · exact lw_6 hn hN hi e6 hc hm
  by_cases e7 : xs i &&& 63 = 7
  · exact lw_7 hn hN hi e7 hc hm
  by_cases e8 : xs i &&& 63 = 8
  · exact lw_8 hn hN hi e8 hc hm
  by_cases e9 : xs i &&& 63 = 9
  · exact lw_9 hn hN hi e9 hc hm
  by_cases e10 : xs i &&& 63 = 10
  · exact lw_10 hn hN hi e10 hc hm
  by_cases e11 : xs i &&& 63 = 11
  · exact lw_11 hn hN hi e11 hc hm
  by_cases e12 : xs i &&& 63 = 12
  · exact lw_12 hn hN hi e12 hc hm
  by_cases e13 : xs i &&& 63 = 13
  · exact lw_13 hn hN hi e13 hc hm
  by_cases e14 : xs i &&& 63 = 14
  · exact lw_14 hn hN hi e14 hc hm
  by_cases e15 : xs i &&& 63 = 15
  · exact lw_15 hn hN hi e15 hc hm
  by_cases e16 : xs i &&& 63 = 16
  · exact lw_16 hn hN hi e16 hc hm
  by_cases e17 : xs i &&& 63 = 17
  · exact lw_17 hn hN hi e17 hc hm
  by_cases e18 : xs i &&& 63 = 18
  · exact lw_18 hn hN hi e18 hc hm
  by_cases e19 : xs i &&& 63 = 19
  · exact lw_19 hn hN hi e19 hc hm
  by_cases e20 : xs i &&& 63 = 20
  · exact lw_20 hn hN hi e20 hc hm
  by_cases e21 : xs i &&& 63 = 21
  · exact lw_21 hn hN hi e21 hc hm
  by_cases e22 : xs i &&& 63 = 22
  · exact lw_22 hn hN hi e22 hc hm
  by_cases e23 : xs i &&& 63 = 23
  · exact lw_23 hn hN hi e23 hc hm
  by_cases e24 : xs i &&& 63 = 24
  · exact lw_24 hn hN hi e24 hc hm
  by_cases e25 : xs i &&& 63 = 25
  · exact lw_25 hn hN hi e25 hc hm
  by_cases e26 : xs i &&& 63 = 26
  · exact lw_26 hn hN hi e26 hc hm
  by_cases e27 : xs i &&& 63 = 27
  · exact lw_27 hn hN hi e27 hc hm
  by_cases e28 : xs i &&& 63 = 28
  · exact lw_28 hn hN hi e28 hc hm
  by_cases e29 : xs i &&& 63 = 29
  · exact lw_29 hn hN hi e29 hc hm
  by_cases e30 : xs i &&& 63 = 30
  · exact lw_30 hn hN hi e30 hc hm
  by_cases e31 : xs i &&& 63 = 31
  · exact lw_31 hn hN hi e31 hc hm
  by_cases e32 : xs i &&& 63 = 32
  · exact lw_32 hn hN hi e32 hc hm
  by_cases e33 : xs i &&& 63 = 33
  · exact lw_33 hn hN hi e33 hc hm
  by_cases e34 : xs i &&& 63 = 34
  · exact lw_34 hn hN hi e34 hc hm
  by_cases e35 : xs i &&& 63 = 35
  · exact lw_35 hn hN hi e35 hc hm
  by_cases e36 : xs i &&& 63 = 36
  · exact lw_36 hn hN hi e36 hc hm
  by_cases e37 : xs i &&& 63 = 37
  · exact lw_37 hn hN hi e37 hc hm
  by_cases e38 : xs i &&& 63 = 38
  · exact lw_38 hn hN hi e38 hc hm
  by_cases e39 : xs i &&& 63 = 39
  · exact lw_39 hn hN hi e39 hc hm
  by_cases e40 : xs i &&& 63 = 40
  · exact lw_40 hn hN hi e40 hc hm
  by_cases e41 : xs i &&& 63 = 41
  · exact lw_41 hn hN hi e41 hc hm
  by_cases e42 : xs i &&& 63 = 42
  · exact lw_42 hn hN hi e42 hc hm
  by_cases e43 : xs i &&& 63 = 43
  · exact lw_43 hn hN hi e43 hc hm
  by_cases e44 : xs i &&& 63 = 44
  · exact lw_44 hn hN hi e44 hc hm
  by_cases e45 : xs i &&& 63 = 45
  · exact lw_45 hn hN hi e45 hc hm
  by_cases e46 : xs i &&& 63 = 46
  · exact lw_46 hn hN hi e46 hc hm
  by_cases e47 : xs i &&& 63 = 47
  · exact lw_47 hn hN hi e47 hc hm
  by_cases e48 : xs i &&& 63 = 48
  · exact lw_48 hn hN hi e48 hc hm
  by_cases e49 : xs i &&& 63 = 49
  · exact lw_49 hn hN hi e49 hc hm
  by_cases e50 : xs i &&& 63 = 50
  · exact lw_50 hn hN hi e50 hc hm
  by_cases e51 : xs i &&& 63 = 51
  · exact lw_51 hn hN hi e51 hc hm
  by_cases e52 : xs i &&& 63 = 52
  · exact lw_52 hn hN hi e52 hc hm
  by_cases e53 : xs i &&& 63 = 53
  · exact lw_53 hn hN hi e53 hc hm
  exact lw_no hn hN hi e0 e1 e2 e3 e4 e5 e6 e7 e8 e9 e10 e11 e12 e13 e14 e15 e16 e17 e18 e19 e20 e21 e22 e23 e24 e25 e26 e27 e28 e29 e30 e31 e32 e33 e34 e35 e36 e37 e38 e39 e40 e41 e42 e43 e44 e45 e46 e47 e48 e49 e50 e51 e52 e53 hc hm
theorem lw_end (n : Nat) (hN : N ≤ 3072) (hi : N < i + 6) (hi2 : i ≤ 4000) (r : mK) : kL_law_18 n xs N r (lwL i) [] (mm I J f) = some (some (.int 1), mm I J f) := by
  have c6 : nI N - 6 < nI i := (sub6 hN hi2).mpr hi
  have q1 : ¬ (1 : Int32) = 0 := by decide
  simp only [lwL, kL_law_18, x_no, x_cst, x_ldI, x_ldJ, x_ldA, x_stI, x_stJ, x_stA, x_inc, x_bin, x_un, x_i2l, x_bnJ, x_lshl, x_lcmp, x_dup, x_dp2, x_gI, x_gJ, x_gA, x_pI, x_pZ, x_pJ, x_pA, x_c0, x_c2, x_sw, x_cV, x_cS, x_rV, x_rI, x_rZ, x_rJ, x_mm, x_pop, msel, mpl, mvr, mnw, List.getElem?_cons_zero, List.getElem?_cons_succ, List.set_cons_zero, List.set_cons_succ, List.length_cons, List.length_nil, List.drop_succ_cons, List.drop_zero, List.take_succ_cons, List.take_zero, List.reverse_cons, List.reverse_nil, List.nil_append, List.cons_append, List.append_nil, List.map_cons, List.map_nil, List.sum_cons, List.sum_nil, Option.toList_some, Option.toList_none, x_bs, Value.category, decide_eq_true_eq, decide_true, decide_false, if_true, if_false, Bool.false_eq_true, and_self, and_true, true_and, true_or, or_true, not_true_eq_false, not_false_eq_true, ↓reduceIte, reduceCtorEq, Nat.reduceEqDiff, Nat.reduceAdd, Nat.reduceSub, Nat.reduceMul, Nat.reduceLT, Nat.reduceLeDiff, Nat.reduceBEq, Nat.le_refl, Nat.zero_le, Nat.lt_irrefl, beq_self_eq_true, Nat.succ_ne_zero, Option.some.injEq, Prod.mk.injEq, Int32.reduceLT, Int32.reduceLE, y_60, rt_60_0, rt_60_1, rt_60_11, rt_60_12, rt_60_13, rt_60_14, rt_60_15, rt_60_16, rt_60_17, rt_60_18, rt_60_19, rt_60_20, rt_60_21, rt_60_22, rt_60_23, rt_60_24, rt_60_25, rt_60_26, rt_60_27, rt_60_28, rt_60_29, rt_60_30, rt_60_39, rt_60_41, rt_60_42, rt_60_45, rt_60_46, rt_60_47, rt_60_49, rt_60_50, rt_60_51, rt_60_52, rt_60_53, rt_60_54, rt_60_55, rt_60_56, rt_60_59, rt_60_61, rt_60_62, al_63, as_63, al_64, as_64, al_65, as_65, al_66, as_66, al_67, as_67, al_68, as_68, al_69, as_69, al_70, as_70, al_71, as_71, al_72, as_72, al_73, as_73, al_74, as_74, al_75, as_75, al_76, as_76, al_78, as_78, al_79, as_79, al_80, as_80, al_81, as_81, al_82, as_82, al_83, as_83, al_84, as_84, al_85, as_85, al_86, as_86, al_87, as_87, al_88, as_88, al_89, as_89, al_90, as_90, al_91, as_91, al_92, as_92, al_93, as_93, al_94, as_94, al_95, as_95, al_96, as_96, al_97, as_97, al_98, as_98, al_61, as_61, al_62, as_62, al_99, as_99, al_82_0, as_82_0, al_83_32, as_83_32, al_83_33, as_83_33, ad0, ad8, ad16, ad24, ad_0, mu2, mu8, mu34, nI_add, nI_1, uI_mm, dvN, dvM, x_slnN, c6, q1]
theorem lw_loop (hn : 2000 < n) (hN : N ≤ 3072) : ∀ (d i : Nat) (I : Nat → Nat → Int32) (J : Nat → Nat → Int64) (f b : Nat) (A : AS), RC I A → RM I b A → i ≤ 3072 → N < i + 6 * d + 6 → ∀ m, ∃ μ, mit (kL_law_18 n xs N) (m + d + 1) (lwL i) [] (mm I J f) = some (some (.int 1), μ) := by
  intro d
  induction d with
  | zero =>
    intro i I J f b A hc hm h1 h2 m
    exact ⟨_, lw_end n hN (by omega) (by omega) _⟩
  | succ d ih =>
    intro i I J f b A hc hm h1 h2 m
    by_cases e : N < i + 6
    · exact ⟨_, lw_end n hN e (by omega) _⟩
    · obtain ⟨I2, J2, f2, b2, A2, k1, k2, k3⟩ := lw_step (J := J) (f := f) (xs := xs) hn hN (by omega : i + 6 ≤ N) hc hm
      obtain ⟨μ, hμ⟩ := ih (i + 6) I2 J2 f2 b2 A2 k2 k3 (by omega) (by omega) m
      refine ⟨μ, ?_⟩
      rw [show m + (d + 1) + 1 = (m + d + 1) + 1 by omega, mit_succ, k1]
      exact hμ
theorem lw_pure (hn : 2000 < n) (xs : Nat → Int32) (N : Nat) (hN : N ≤ 3072) : ∃ μ : mM, kL_law_0 n xs N [some (.float 0), none, none, none] [] mu0 = some (some (.int 1), μ) := by
  have i11 := iX11 (n := n) (by omega)
  obtain ⟨I1, k1, k2, k3⟩ := iX12 (n := n) (by omega)
  have hc : RC I1 A0 := RC_0 k3
  obtain ⟨μ, hμ⟩ := lw_loop (xs := xs) hn hN 600 0 I1 (fun _ _ => 0) 21 0 A0 hc k2 (by omega) (by omega) (n - 601)
  rw [show n - 601 + 600 + 1 = n by omega] at hμ
  refine ⟨μ, ?_⟩
  have hμ : mit (kL_law_18 n xs N) n [some (.float 0), some (.ref 0), some (.ref 60), some (.int 0)] [] (mm I1 (fun _ _ => 0) 21) = some (some (.int 1), μ) := hμ
  rw [← hμ]
  have m0 : mn mu0 = 0 := rfl
  have e0 : mnew mu0 (4, 11) = Mo [(0, 4, 11, 0)] := rfl
  have m1 : mn (Mo [(0, 4, 11, 0)]) = 1 := by rw [mn_M]; rfl
  have m2 : mn (Mo LC1) = 60 := by rw [mn_M]; decide +kernel
  have e2 : mnew (Mo LC1) (4, 12) = Mo LM0 := rfl
  have m3 : mn (Mo LM0) = 61 := by rw [mn_M]; decide +kernel
  have m4 : mn (mm I1 (fun _ _ => 0) 21) = 100 := by show LAY.length = 100; rfl
  generalize Mo LC1 = M1 at *
  generalize Mo LM0 = M2 at *
  generalize Mo [(0, 4, 11, 0)] = M0 at *
  simp only [kL_law_0, x_no, x_cst, x_ldI, x_ldJ, x_ldA, x_stI, x_stJ, x_stA, x_inc, x_bin, x_un, x_i2l, x_bnJ, x_lshl, x_lcmp, x_dup, x_dp2, x_gI, x_gJ, x_gA, x_pI, x_pZ, x_pJ, x_pA, x_c0, x_c2, x_sw, x_cV, x_cS, x_rV, x_rI, x_rZ, x_rJ, x_mm, x_pop, msel, mpl, mvr, mnw, List.getElem?_cons_zero, List.getElem?_cons_succ, List.set_cons_zero, List.set_cons_succ, List.length_cons, List.length_nil, List.drop_succ_cons, List.drop_zero, List.take_succ_cons, List.take_zero, List.reverse_cons, List.reverse_nil, List.nil_append, List.cons_append, List.append_nil, List.map_cons, List.map_nil, List.sum_cons, List.sum_nil, Option.toList_some, Option.toList_none, x_bs, Value.category, decide_eq_true_eq, decide_true, decide_false, if_true, if_false, Bool.false_eq_true, and_self, and_true, true_and, true_or, or_true, not_true_eq_false, not_false_eq_true, ↓reduceIte, reduceCtorEq, Nat.reduceEqDiff, Nat.reduceAdd, Nat.reduceSub, Nat.reduceMul, Nat.reduceLT, Nat.reduceLeDiff, Nat.reduceBEq, Nat.le_refl, Nat.zero_le, Nat.lt_irrefl, beq_self_eq_true, Nat.succ_ne_zero, Option.some.injEq, Prod.mk.injEq, Int32.reduceLT, Int32.reduceLE, y_60, rt_60_0, rt_60_1, rt_60_11, rt_60_12, rt_60_13, rt_60_14, rt_60_15, rt_60_16, rt_60_17, rt_60_18, rt_60_19, rt_60_20, rt_60_21, rt_60_22, rt_60_23, rt_60_24, rt_60_25, rt_60_26, rt_60_27, rt_60_28, rt_60_29, rt_60_30, rt_60_39, rt_60_41, rt_60_42, rt_60_45, rt_60_46, rt_60_47, rt_60_49, rt_60_50, rt_60_51, rt_60_52, rt_60_53, rt_60_54, rt_60_55, rt_60_56, rt_60_59, rt_60_61, rt_60_62, al_63, as_63, al_64, as_64, al_65, as_65, al_66, as_66, al_67, as_67, al_68, as_68, al_69, as_69, al_70, as_70, al_71, as_71, al_72, as_72, al_73, as_73, al_74, as_74, al_75, as_75, al_76, as_76, al_78, as_78, al_79, as_79, al_80, as_80, al_81, as_81, al_82, as_82, al_83, as_83, al_84, as_84, al_85, as_85, al_86, as_86, al_87, as_87, al_88, as_88, al_89, as_89, al_90, as_90, al_91, as_91, al_92, as_92, al_93, as_93, al_94, as_94, al_95, as_95, al_96, as_96, al_97, as_97, al_98, as_98, al_61, as_61, al_62, as_62, al_99, as_99, al_82_0, as_82_0, al_83_32, as_83_32, al_83_33, as_83_33, ad0, ad8, ad16, ad24, ad_0, mu2, mu8, mu34, nI_add, nI_1, uI_mm, dvN, dvM, x_new, x_cI, x_stA, m0, e0, m1, i11, m2, e2, m3, k1, m4]
end LawP
