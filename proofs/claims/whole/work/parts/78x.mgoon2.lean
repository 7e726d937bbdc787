/-! PURE: the model's goOn: names, numbers, all -/
section MGo2
variable {n : Nat} {I : Nat → Nat → Int32} {J : Nat → Nat → Int64} {tp : List Nat} {a e t v : Int32}
theorem wvl_55 (tp : List Nat) (p : Nat) {d : Nat} (hd : d ≤ 7) (h : ∀ j, j < d → bt tp (p + j) ≤ 122) : wvl 256 0 tp p d < 2 ^ 55 := by
  cases d with
  | zero => show 0 < 2 ^ 55; decide
  | succ d =>
    have h1 := wvl_lt2 tp p d h
    have h2 : 256 ^ d ≤ 256 ^ 6 := Nat.pow_le_pow_right (by decide) (by omega)
    have h3 : 123 * 256 ^ 6 < 2 ^ 55 := by decide
    omega
theorem uJ2_2 {x y : Int64} : uJ2 (uJ2 J 60 10 x) 60 10 y = uJ2 J 60 10 y := by
  funext b j
  unfold uJ2
  split <;> rfl
theorem uJ2_s {x : Int64} : uJ2 J 60 10 x 60 10 = x := by simp [uJ2]
set_option maxHeartbeats 4000000 in
theorem m_name (hn : 1700 < n) (f : Nat) (h : TxM I tp) {q p : Nat} (hq : q ≤ p) (hp : p ≤ tp.length) (ha : ∀ j, j < p - q → 97 ≤ bt tp (q + j) ∧ bt tp (q + j) ≤ 122) (c : Int32) : ∃ k, mit (kX12_goOn_156 n) n [some (.ref 60), some (.int c), some (.int (nI q))] [] (mm (g4 I (nI q) (nI p) t v) (uJ2 J 60 10 0) f) = kX12_goOn_199 n [some (.ref 60), some (.int c), some (.int (nI k))] [] (mm (g4 I (nI q) (nI p) t v) (uJ2 J 60 10 (jN (wvl 256 0 tp q (min (p - q) 8)))) f) := by
  have hl := h.2.1
  have hB : min p (q + 8) = q + min (p - q) 8 := by omega
  have := mit_for (G := kX12_goOn_156 n) (fun d => [some (.ref 60), some (.int c), some (.int (nI (q + d)))]) (fun d => mm (g4 I (nI q) (nI p) t v) (uJ2 J 60 10 (jN (wvl 256 0 tp q d))) f) (B := min (p - q) 8) (n := n) (v := kX12_goOn_199 n [some (.ref 60), some (.int c), some (.int (nI (q + min (p - q) 8)))] [] (mm (g4 I (nI q) (nI p) t v) (uJ2 J 60 10 (jN (wvl 256 0 tp q (min (p - q) 8)))) f)) (fun d hd r => ?_) (by omega) (fun r => ?_)
  · exact ⟨_, this⟩
  · have hg := TxM_g4 (a := nI q) (e := nI p) (t := t) (v := v) h
    have ms := m_sign n (uJ2 J 60 10 (jN (wvl 256 0 tp q d))) f hg (show q + d < 2 ^ 31 by omega)
    have c1 : ¬ nI p ≤ nI (q + d) := by rw [nI_leI (by omega) (by omega)]; omega
    have c2 : ¬ nI (q + 8) ≤ nI (q + d) := by rw [nI_leI (by omega) (by omega)]; omega
    have hb := bt_ltM h (q + d)
    have js := jN_s (v := wvl 256 0 tp q d) (b := bt tp (q + d)) (wvl_55 tp q (by omega) (fun j hj => (ha j (by omega)).2)) hb
    have jb := jN_b hb
    have w : wvl 256 0 tp q (d + 1) = wvl 256 0 tp q d * 256 + bt tp (q + d) := rfl
    have e8 : nI q + 8 = nI (q + 8) := nI_add q 8
    have e1 : nI (q + d) + 1 = nI (q + d + 1) := nI_1 _
    simp only [kX12_goOn_156, x_no, x_cst, x_ldI, x_ldJ, x_ldA, x_stI, x_stJ, x_stA, x_inc, x_bin, x_un, x_i2l, x_bnJ, x_lshl, x_lcmp, x_dup, x_dp2, x_gI, x_gJ, x_gA, x_pI, x_pZ, x_pJ, x_pA, x_c0, x_c2, x_sw, x_cV, x_cS, x_rV, x_rI, x_rZ, x_rJ, x_mm, x_pop, msel, mpl, mvr, mnw, List.getElem?_cons_zero, List.getElem?_cons_succ, List.set_cons_zero, List.set_cons_succ, List.length_cons, List.length_nil, List.drop_succ_cons, List.drop_zero, List.take_succ_cons, List.take_zero, List.reverse_cons, List.reverse_nil, List.nil_append, List.cons_append, List.append_nil, List.map_cons, List.map_nil, List.sum_cons, List.sum_nil, Option.toList_some, Option.toList_none, x_bs, Value.category, decide_eq_true_eq, decide_true, decide_false, if_true, if_false, Bool.false_eq_true, and_self, and_true, true_and, true_or, or_true, not_true_eq_false, not_false_eq_true, ↓reduceIte, reduceCtorEq, Nat.reduceEqDiff, Nat.reduceAdd, Nat.reduceSub, Nat.reduceMul, Nat.reduceLT, Nat.reduceLeDiff, Nat.reduceBEq, Nat.le_refl, Nat.zero_le, Nat.lt_irrefl, beq_self_eq_true, Nat.succ_ne_zero, Option.some.injEq, Prod.mk.injEq, Int32.reduceLT, Int32.reduceLE, y_60, rt_60_0, rt_60_1, rt_60_11, rt_60_12, rt_60_13, rt_60_14, rt_60_15, rt_60_16, rt_60_17, rt_60_18, rt_60_19, rt_60_20, rt_60_21, rt_60_22, rt_60_23, rt_60_24, rt_60_25, rt_60_26, rt_60_27, rt_60_28, rt_60_29, rt_60_30, rt_60_39, rt_60_41, rt_60_42, rt_60_45, rt_60_46, rt_60_47, rt_60_49, rt_60_50, rt_60_51, rt_60_52, rt_60_53, rt_60_54, rt_60_55, rt_60_56, rt_60_59, rt_60_61, rt_60_62, al_63, as_63, al_64, as_64, al_65, as_65, al_66, as_66, al_67, as_67, al_68, as_68, al_69, as_69, al_70, as_70, al_71, as_71, al_72, as_72, al_73, as_73, al_74, as_74, al_75, as_75, al_76, as_76, al_78, as_78, al_79, as_79, al_80, as_80, al_81, as_81, al_82, as_82, al_83, as_83, al_84, as_84, al_85, as_85, al_86, as_86, al_87, as_87, al_88, as_88, al_89, as_89, al_90, as_90, al_91, as_91, al_92, as_92, al_93, as_93, al_94, as_94, al_95, as_95, al_96, as_96, al_97, as_97, al_98, as_98, al_61, as_61, al_62, as_62, al_99, as_99, al_82_0, as_82_0, al_83_32, as_83_32, al_83_33, as_83_33, ad0, ad8, ad16, ad24, ad_0, mu2, mu8, mu34, nI_add, nI_1, uI_mm, dvN, dvM, g4_6, g4_7, e8, c1, c2, uJ2_s, ms, jb, js, uJ_mm, uJ2_2, w, Nat.add_assoc]
  · by_cases c0 : p - q ≤ 8
    · have hm : min (p - q) 8 = p - q := by omega
      have hm2 : q + min (p - q) 8 = p := by omega
      have c1 : nI p ≤ nI p := Int32.le_refl _
      rw [hm2]
      simp only [kX12_goOn_156, x_no, x_cst, x_ldI, x_ldJ, x_ldA, x_stI, x_stJ, x_stA, x_inc, x_bin, x_un, x_i2l, x_bnJ, x_lshl, x_lcmp, x_dup, x_dp2, x_gI, x_gJ, x_gA, x_pI, x_pZ, x_pJ, x_pA, x_c0, x_c2, x_sw, x_cV, x_cS, x_rV, x_rI, x_rZ, x_rJ, x_mm, x_pop, msel, mpl, mvr, mnw, List.getElem?_cons_zero, List.getElem?_cons_succ, List.set_cons_zero, List.set_cons_succ, List.length_cons, List.length_nil, List.drop_succ_cons, List.drop_zero, List.take_succ_cons, List.take_zero, List.reverse_cons, List.reverse_nil, List.nil_append, List.cons_append, List.append_nil, List.map_cons, List.map_nil, List.sum_cons, List.sum_nil, Option.toList_some, Option.toList_none, x_bs, Value.category, decide_eq_true_eq, decide_true, decide_false, if_true, if_false, Bool.false_eq_true, and_self, and_true, true_and, true_or, or_true, not_true_eq_false, not_false_eq_true, ↓reduceIte, reduceCtorEq, Nat.reduceEqDiff, Nat.reduceAdd, Nat.reduceSub, Nat.reduceMul, Nat.reduceLT, Nat.reduceLeDiff, Nat.reduceBEq, Nat.le_refl, Nat.zero_le, Nat.lt_irrefl, beq_self_eq_true, Nat.succ_ne_zero, Option.some.injEq, Prod.mk.injEq, Int32.reduceLT, Int32.reduceLE, y_60, rt_60_0, rt_60_1, rt_60_11, rt_60_12, rt_60_13, rt_60_14, rt_60_15, rt_60_16, rt_60_17, rt_60_18, rt_60_19, rt_60_20, rt_60_21, rt_60_22, rt_60_23, rt_60_24, rt_60_25, rt_60_26, rt_60_27, rt_60_28, rt_60_29, rt_60_30, rt_60_39, rt_60_41, rt_60_42, rt_60_45, rt_60_46, rt_60_47, rt_60_49, rt_60_50, rt_60_51, rt_60_52, rt_60_53, rt_60_54, rt_60_55, rt_60_56, rt_60_59, rt_60_61, rt_60_62, al_63, as_63, al_64, as_64, al_65, as_65, al_66, as_66, al_67, as_67, al_68, as_68, al_69, as_69, al_70, as_70, al_71, as_71, al_72, as_72, al_73, as_73, al_74, as_74, al_75, as_75, al_76, as_76, al_78, as_78, al_79, as_79, al_80, as_80, al_81, as_81, al_82, as_82, al_83, as_83, al_84, as_84, al_85, as_85, al_86, as_86, al_87, as_87, al_88, as_88, al_89, as_89, al_90, as_90, al_91, as_91, al_92, as_92, al_93, as_93, al_94, as_94, al_95, as_95, al_96, as_96, al_97, as_97, al_98, as_98, al_61, as_61, al_62, as_62, al_99, as_99, al_82_0, as_82_0, al_83_32, as_83_32, al_83_33, as_83_33, ad0, ad8, ad16, ad24, ad_0, mu2, mu8, mu34, nI_add, nI_1, uI_mm, dvN, dvM, g4_6, g4_7, c1]
    · have hm2 : q + min (p - q) 8 = q + 8 := by omega
      have c1 : ¬ nI p ≤ nI (q + 8) := by rw [nI_leI (by omega) (by omega)]; omega
      have c2 : nI (q + 8) ≤ nI (q + 8) := Int32.le_refl _
      have e8 : nI q + 8 = nI (q + 8) := nI_add q 8
      rw [hm2]
      simp only [kX12_goOn_156, x_no, x_cst, x_ldI, x_ldJ, x_ldA, x_stI, x_stJ, x_stA, x_inc, x_bin, x_un, x_i2l, x_bnJ, x_lshl, x_lcmp, x_dup, x_dp2, x_gI, x_gJ, x_gA, x_pI, x_pZ, x_pJ, x_pA, x_c0, x_c2, x_sw, x_cV, x_cS, x_rV, x_rI, x_rZ, x_rJ, x_mm, x_pop, msel, mpl, mvr, mnw, List.getElem?_cons_zero, List.getElem?_cons_succ, List.set_cons_zero, List.set_cons_succ, List.length_cons, List.length_nil, List.drop_succ_cons, List.drop_zero, List.take_succ_cons, List.take_zero, List.reverse_cons, List.reverse_nil, List.nil_append, List.cons_append, List.append_nil, List.map_cons, List.map_nil, List.sum_cons, List.sum_nil, Option.toList_some, Option.toList_none, x_bs, Value.category, decide_eq_true_eq, decide_true, decide_false, if_true, if_false, Bool.false_eq_true, and_self, and_true, true_and, true_or, or_true, not_true_eq_false, not_false_eq_true, ↓reduceIte, reduceCtorEq, Nat.reduceEqDiff, Nat.reduceAdd, Nat.reduceSub, Nat.reduceMul, Nat.reduceLT, Nat.reduceLeDiff, Nat.reduceBEq, Nat.le_refl, Nat.zero_le, Nat.lt_irrefl, beq_self_eq_true, Nat.succ_ne_zero, Option.some.injEq, Prod.mk.injEq, Int32.reduceLT, Int32.reduceLE, y_60, rt_60_0, rt_60_1, rt_60_11, rt_60_12, rt_60_13, rt_60_14, rt_60_15, rt_60_16, rt_60_17, rt_60_18, rt_60_19, rt_60_20, rt_60_21, rt_60_22, rt_60_23, rt_60_24, rt_60_25, rt_60_26, rt_60_27, rt_60_28, rt_60_29, rt_60_30, rt_60_39, rt_60_41, rt_60_42, rt_60_45, rt_60_46, rt_60_47, rt_60_49, rt_60_50, rt_60_51, rt_60_52, rt_60_53, rt_60_54, rt_60_55, rt_60_56, rt_60_59, rt_60_61, rt_60_62, al_63, as_63, al_64, as_64, al_65, as_65, al_66, as_66, al_67, as_67, al_68, as_68, al_69, as_69, al_70, as_70, al_71, as_71, al_72, as_72, al_73, as_73, al_74, as_74, al_75, as_75, al_76, as_76, al_78, as_78, al_79, as_79, al_80, as_80, al_81, as_81, al_82, as_82, al_83, as_83, al_84, as_84, al_85, as_85, al_86, as_86, al_87, as_87, al_88, as_88, al_89, as_89, al_90, as_90, al_91, as_91, al_92, as_92, al_93, as_93, al_94, as_94, al_95, as_95, al_96, as_96, al_97, as_97, al_98, as_98, al_61, as_61, al_62, as_62, al_99, as_99, al_82_0, as_82_0, al_83_32, as_83_32, al_83_33, as_83_33, ad0, ad8, ad16, ad24, ad_0, mu2, mu8, mu34, nI_add, nI_1, uI_mm, dvN, dvM, g4_6, g4_7, e8, c1, c2]
theorem nI_num {w b : Nat} (hw : w < 10000) (hb : 48 ≤ b ∧ b ≤ 57) : 10 * nI w + nI b - 48 = nI (w * 10 + (b - 48)) := by
  have h1 : 10 * nI w = nI (10 * w) := (Int32.ofNat_mul 10 w).symm
  have h2 : nI (10 * w) + nI b = nI (10 * w + b) := (Int32.ofNat_add _ _).symm
  have h3 : nI (10 * w + b) - 48 = nI (10 * w + b - 48) := (Int32.ofNat_sub _ 48 (by omega)).symm
  rw [h1, h2, h3]
  congr 1
  omega
/-- the number read so far, when e is reached -/
abbrev nv4 (tp : List Nat) (q e : Nat) : Nat := nvl tp q (min (e - q) 4)
set_option maxHeartbeats 8000000 in
theorem m_digits (hn : 1700 < n) (f : Nat) (h : TxM I tp) {q : Nat} (hq : q ≤ tp.length) (c : Int32) : mit (kX12_goOn_259 n) n [some (.ref 60), some (.int c), none] [] (mm (g4 I (nI q) (nI q) t 0) J f) = some (none, mm (g4 I (nI q) (nI (teD tp q)) (nI (if 4 < teD tp q - q ∨ isLt (bt tp (teD tp q)) = true then 1 else 4)) (nI (nv4 tp q (teD tp q)))) J f) := by
  have hl := h.2.1
  have e0 : (0 : Int32) = nI (nv4 tp q q) := by
    unfold nv4; rw [Nat.sub_self]; rfl
  rw [e0]
  have dg : ∀ p, isDg (bt tp p) = true → 48 ≤ bt tp p ∧ bt tp p ≤ 57 := fun p hp => by simpa only [isDg, Bool.and_eq_true, decide_eq_true_eq] using hp
  have key : ∀ d p, p + d = tp.length → q ≤ p → (∀ j, q ≤ j → j < p → isDg (bt tp j) = true) → ∀ m, mit (kX12_goOn_259 n) (m + d + 1) [some (.ref 60), some (.int c), none] [] (mm (g4 I (nI q) (nI p) t (nI (nv4 tp q p))) J f) = some (none, mm (g4 I (nI q) (nI (wh (fun e => isDg (bt tp e)) p d)) (nI (if 4 < wh (fun e => isDg (bt tp e)) p d - q ∨ isLt (bt tp (wh (fun e => isDg (bt tp e)) p d)) = true then 1 else 4)) (nI (nv4 tp q (wh (fun e => isDg (bt tp e)) p d)))) J f) := by
    have fin : ∀ p, p ≤ tp.length → q ≤ p → isDg (bt tp p) = false → ∀ r : mK, kX12_goOn_259 n r [some (.ref 60), some (.int c), none] [] (mm (g4 I (nI q) (nI p) t (nI (nv4 tp q p))) J f) = some (none, mm (g4 I (nI q) (nI p) (nI (if 4 < p - q ∨ isLt (bt tp p) = true then 1 else 4)) (nI (nv4 tp q p))) J f) := by
      intro p hp hqp hd r
      have hg := TxM_g4 (a := nI q) (e := nI p) (t := t) (v := nI (nv4 tp q p)) h
      have ms := m_sign n J f hg (show p < 2 ^ 31 by omega)
      have md := m_isDg n (mm (g4 I (nI q) (nI p) t (nI (nv4 tp q p))) J f) (bt_ltM h p)
      have ml := m_isLt n (mm (g4 I (nI q) (nI p) t (nI (nv4 tp q p))) J f) (bt_ltM h p)
      have es : nI p - nI q = nI (p - q) := (Int32.ofNat_sub _ _ hqp).symm
      by_cases c4 : 4 < p - q
      · have d4 : (4 : Int32) < nI (p - q) := by rw [show (4 : Int32) = nI 4 from rfl, nI_ltI (by decide) (by omega)]; exact c4
        have r1 : nI (if 4 < p - q ∨ isLt (bt tp p) = true then 1 else 4) = 1 := by rw [if_pos (Or.inl c4)]; rfl
        rw [r1]
        simp only [kX12_goOn_259, kX12_goOn_350, kX12_goOn_355, kX12_goOn_377, x_no, x_cst, x_ldI, x_ldJ, x_ldA, x_stI, x_stJ, x_stA, x_inc, x_bin, x_un, x_i2l, x_bnJ, x_lshl, x_lcmp, x_dup, x_dp2, x_gI, x_gJ, x_gA, x_pI, x_pZ, x_pJ, x_pA, x_c0, x_c2, x_sw, x_cV, x_cS, x_rV, x_rI, x_rZ, x_rJ, x_mm, x_pop, msel, mpl, mvr, mnw, List.getElem?_cons_zero, List.getElem?_cons_succ, List.set_cons_zero, List.set_cons_succ, List.length_cons, List.length_nil, List.drop_succ_cons, List.drop_zero, List.take_succ_cons, List.take_zero, List.reverse_cons, List.reverse_nil, List.nil_append, List.cons_append, List.append_nil, List.map_cons, List.map_nil, List.sum_cons, List.sum_nil, Option.toList_some, Option.toList_none, x_bs, Value.category, decide_eq_true_eq, decide_true, decide_false, if_true, if_false, Bool.false_eq_true, and_self, and_true, true_and, true_or, or_true, not_true_eq_false, not_false_eq_true, ↓reduceIte, reduceCtorEq, Nat.reduceEqDiff, Nat.reduceAdd, Nat.reduceSub, Nat.reduceMul, Nat.reduceLT, Nat.reduceLeDiff, Nat.reduceBEq, Nat.le_refl, Nat.zero_le, Nat.lt_irrefl, beq_self_eq_true, Nat.succ_ne_zero, Option.some.injEq, Prod.mk.injEq, Int32.reduceLT, Int32.reduceLE, y_60, rt_60_0, rt_60_1, rt_60_11, rt_60_12, rt_60_13, rt_60_14, rt_60_15, rt_60_16, rt_60_17, rt_60_18, rt_60_19, rt_60_20, rt_60_21, rt_60_22, rt_60_23, rt_60_24, rt_60_25, rt_60_26, rt_60_27, rt_60_28, rt_60_29, rt_60_30, rt_60_39, rt_60_41, rt_60_42, rt_60_45, rt_60_46, rt_60_47, rt_60_49, rt_60_50, rt_60_51, rt_60_52, rt_60_53, rt_60_54, rt_60_55, rt_60_56, rt_60_59, rt_60_61, rt_60_62, al_63, as_63, al_64, as_64, al_65, as_65, al_66, as_66, al_67, as_67, al_68, as_68, al_69, as_69, al_70, as_70, al_71, as_71, al_72, as_72, al_73, as_73, al_74, as_74, al_75, as_75, al_76, as_76, al_78, as_78, al_79, as_79, al_80, as_80, al_81, as_81, al_82, as_82, al_83, as_83, al_84, as_84, al_85, as_85, al_86, as_86, al_87, as_87, al_88, as_88, al_89, as_89, al_90, as_90, al_91, as_91, al_92, as_92, al_93, as_93, al_94, as_94, al_95, as_95, al_96, as_96, al_97, as_97, al_98, as_98, al_61, as_61, al_62, as_62, al_99, as_99, al_82_0, as_82_0, al_83_32, as_83_32, al_83_33, as_83_33, ad0, ad8, ad16, ad24, ad_0, mu2, mu8, mu34, nI_add, nI_1, uI_mm, dvN, dvM, g4_6, g4_7, ms, md, b2i_eq0, hd, es, d4, s4_8]
      · have d4 : ¬ (4 : Int32) < nI (p - q) := by rw [show (4 : Int32) = nI 4 from rfl, nI_ltI (by decide) (by omega)]; exact c4
        cases hL : isLt (bt tp p) with
        | true =>
          have r1 : nI (if 4 < p - q ∨ true = true then 1 else 4) = 1 := by rw [if_pos (Or.inr rfl)]; rfl
          rw [r1]
          simp only [kX12_goOn_259, kX12_goOn_350, kX12_goOn_355, kX12_goOn_377, x_no, x_cst, x_ldI, x_ldJ, x_ldA, x_stI, x_stJ, x_stA, x_inc, x_bin, x_un, x_i2l, x_bnJ, x_lshl, x_lcmp, x_dup, x_dp2, x_gI, x_gJ, x_gA, x_pI, x_pZ, x_pJ, x_pA, x_c0, x_c2, x_sw, x_cV, x_cS, x_rV, x_rI, x_rZ, x_rJ, x_mm, x_pop, msel, mpl, mvr, mnw, List.getElem?_cons_zero, List.getElem?_cons_succ, List.set_cons_zero, List.set_cons_succ, List.length_cons, List.length_nil, List.drop_succ_cons, List.drop_zero, List.take_succ_cons, List.take_zero, List.reverse_cons, List.reverse_nil, List.nil_append, List.cons_append, List.append_nil, List.map_cons, List.map_nil, List.sum_cons, List.sum_nil, Option.toList_some, Option.toList_none, x_bs, Value.category, decide_eq_true_eq, decide_true, decide_false, if_true, if_false, Bool.false_eq_true, and_self, and_true, true_and, true_or, or_true, not_true_eq_false, not_false_eq_true, ↓reduceIte, reduceCtorEq, Nat.reduceEqDiff, Nat.reduceAdd, Nat.reduceSub, Nat.reduceMul, Nat.reduceLT, Nat.reduceLeDiff, Nat.reduceBEq, Nat.le_refl, Nat.zero_le, Nat.lt_irrefl, beq_self_eq_true, Nat.succ_ne_zero, Option.some.injEq, Prod.mk.injEq, Int32.reduceLT, Int32.reduceLE, y_60, rt_60_0, rt_60_1, rt_60_11, rt_60_12, rt_60_13, rt_60_14, rt_60_15, rt_60_16, rt_60_17, rt_60_18, rt_60_19, rt_60_20, rt_60_21, rt_60_22, rt_60_23, rt_60_24, rt_60_25, rt_60_26, rt_60_27, rt_60_28, rt_60_29, rt_60_30, rt_60_39, rt_60_41, rt_60_42, rt_60_45, rt_60_46, rt_60_47, rt_60_49, rt_60_50, rt_60_51, rt_60_52, rt_60_53, rt_60_54, rt_60_55, rt_60_56, rt_60_59, rt_60_61, rt_60_62, al_63, as_63, al_64, as_64, al_65, as_65, al_66, as_66, al_67, as_67, al_68, as_68, al_69, as_69, al_70, as_70, al_71, as_71, al_72, as_72, al_73, as_73, al_74, as_74, al_75, as_75, al_76, as_76, al_78, as_78, al_79, as_79, al_80, as_80, al_81, as_81, al_82, as_82, al_83, as_83, al_84, as_84, al_85, as_85, al_86, as_86, al_87, as_87, al_88, as_88, al_89, as_89, al_90, as_90, al_91, as_91, al_92, as_92, al_93, as_93, al_94, as_94, al_95, as_95, al_96, as_96, al_97, as_97, al_98, as_98, al_61, as_61, al_62, as_62, al_99, as_99, al_82_0, as_82_0, al_83_32, as_83_32, al_83_33, as_83_33, ad0, ad8, ad16, ad24, ad_0, mu2, mu8, mu34, nI_add, nI_1, uI_mm, dvN, dvM, g4_6, g4_7, ms, md, ml, b2i_eq0, hd, hL, es, d4, s4_8]
        | false =>
          have r1 : nI (if 4 < p - q ∨ false = true then 1 else 4) = 4 := by rw [if_neg (by rintro (z | z); exact c4 z; cases z)]; rfl
          rw [r1]
          simp only [kX12_goOn_259, kX12_goOn_350, kX12_goOn_355, kX12_goOn_377, x_no, x_cst, x_ldI, x_ldJ, x_ldA, x_stI, x_stJ, x_stA, x_inc, x_bin, x_un, x_i2l, x_bnJ, x_lshl, x_lcmp, x_dup, x_dp2, x_gI, x_gJ, x_gA, x_pI, x_pZ, x_pJ, x_pA, x_c0, x_c2, x_sw, x_cV, x_cS, x_rV, x_rI, x_rZ, x_rJ, x_mm, x_pop, msel, mpl, mvr, mnw, List.getElem?_cons_zero, List.getElem?_cons_succ, List.set_cons_zero, List.set_cons_succ, List.length_cons, List.length_nil, List.drop_succ_cons, List.drop_zero, List.take_succ_cons, List.take_zero, List.reverse_cons, List.reverse_nil, List.nil_append, List.cons_append, List.append_nil, List.map_cons, List.map_nil, List.sum_cons, List.sum_nil, Option.toList_some, Option.toList_none, x_bs, Value.category, decide_eq_true_eq, decide_true, decide_false, if_true, if_false, Bool.false_eq_true, and_self, and_true, true_and, true_or, or_true, not_true_eq_false, not_false_eq_true, ↓reduceIte, reduceCtorEq, Nat.reduceEqDiff, Nat.reduceAdd, Nat.reduceSub, Nat.reduceMul, Nat.reduceLT, Nat.reduceLeDiff, Nat.reduceBEq, Nat.le_refl, Nat.zero_le, Nat.lt_irrefl, beq_self_eq_true, Nat.succ_ne_zero, Option.some.injEq, Prod.mk.injEq, Int32.reduceLT, Int32.reduceLE, y_60, rt_60_0, rt_60_1, rt_60_11, rt_60_12, rt_60_13, rt_60_14, rt_60_15, rt_60_16, rt_60_17, rt_60_18, rt_60_19, rt_60_20, rt_60_21, rt_60_22, rt_60_23, rt_60_24, rt_60_25, rt_60_26, rt_60_27, rt_60_28, rt_60_29, rt_60_30, rt_60_39, rt_60_41, rt_60_42, rt_60_45, rt_60_46, rt_60_47, rt_60_49, rt_60_50, rt_60_51, rt_60_52, rt_60_53, rt_60_54, rt_60_55, rt_60_56, rt_60_59, rt_60_61, rt_60_62, al_63, as_63, al_64, as_64, al_65, as_65, al_66, as_66, al_67, as_67, al_68, as_68, al_69, as_69, al_70, as_70, al_71, as_71, al_72, as_72, al_73, as_73, al_74, as_74, al_75, as_75, al_76, as_76, al_78, as_78, al_79, as_79, al_80, as_80, al_81, as_81, al_82, as_82, al_83, as_83, al_84, as_84, al_85, as_85, al_86, as_86, al_87, as_87, al_88, as_88, al_89, as_89, al_90, as_90, al_91, as_91, al_92, as_92, al_93, as_93, al_94, as_94, al_95, as_95, al_96, as_96, al_97, as_97, al_98, as_98, al_61, as_61, al_62, as_62, al_99, as_99, al_82_0, as_82_0, al_83_32, as_83_32, al_83_33, as_83_33, ad0, ad8, ad16, ad24, ad_0, mu2, mu8, mu34, nI_add, nI_1, uI_mm, dvN, dvM, g4_6, g4_7, ms, md, ml, b2i_eq0, hd, hL, es, d4, s4_8]
    intro d
    induction d with
    | zero =>
      intro p hp hqp hall m
      rw [mit_succ]
      exact fin p (by omega) hqp (by rw [bt_ge (by omega)]; rfl) _
    | succ d ih =>
      intro p hp hqp hall m
      rw [show m + (d + 1) + 1 = (m + d + 1) + 1 by omega, mit_succ]
      unfold wh
      cases hd : isDg (bt tp p) with
      | false =>
        simp only [Bool.false_eq_true, if_false]
        exact fin p (by omega) hqp hd _
      | true =>
        simp only [if_true]
        have hall' : ∀ j, q ≤ j → j < p + 1 → isDg (bt tp j) = true := fun j j1 j2 => by
          by_cases z : j = p
          · rw [z]; exact hd
          · exact hall j j1 (by omega)
        rw [← ih (p + 1) (by omega) (by omega) hall' m]
        generalize mit (kX12_goOn_259 n) (m + d + 1) = r
        have hg := TxM_g4 (a := nI q) (e := nI p) (t := t) (v := nI (nv4 tp q p)) h
        have ms := m_sign n J f hg (show p < 2 ^ 31 by omega)
        have md := m_isDg n (mm (g4 I (nI q) (nI p) t (nI (nv4 tp q p))) J f) (bt_ltM h p)
        have es : nI p - nI q = nI (p - q) := (Int32.ofNat_sub _ _ hqp).symm
        by_cases c4 : p - q < 4
        · have d4 : ¬ (4 : Int32) ≤ nI (p - q) := by rw [show (4 : Int32) = nI 4 from rfl, nI_leI (by decide) (by omega)]; omega
          have m1 : min (p - q) 4 = p - q := by omega
          have m2 : min (p + 1 - q) 4 = p - q + 1 := by omega
          have hpq : q + (p - q) = p := by omega
          have nb : nvl tp q (p - q) < 10000 := by
            have := nvl_lt tp q (p - q) (fun j hj => hall _ (by omega) (by omega))
            have h2 : 10 ^ (p - q) ≤ 10 ^ 4 := Nat.pow_le_pow_right (by decide) (by omega)
            omega
          have e9 : nv4 tp q (p + 1) = nvl tp q (p - q) * 10 + (bt tp p - 48) := by
            unfold nv4
            rw [m2]
            show nvl tp q (p - q) * 10 + (bt tp (q + (p - q)) - 48) = _
            rw [hpq]
          have e8 : nv4 tp q p = nvl tp q (p - q) := by unfold nv4; rw [m1]
          have en := nI_num nb (dg p hd)
          rw [e9]
          rw [e8] at hg ms md ⊢
          simp only [kX12_goOn_259, kX12_goOn_309, kX12_goOn_305, x_no, x_cst, x_ldI, x_ldJ, x_ldA, x_stI, x_stJ, x_stA, x_inc, x_bin, x_un, x_i2l, x_bnJ, x_lshl, x_lcmp, x_dup, x_dp2, x_gI, x_gJ, x_gA, x_pI, x_pZ, x_pJ, x_pA, x_c0, x_c2, x_sw, x_cV, x_cS, x_rV, x_rI, x_rZ, x_rJ, x_mm, x_pop, msel, mpl, mvr, mnw, List.getElem?_cons_zero, List.getElem?_cons_succ, List.set_cons_zero, List.set_cons_succ, List.length_cons, List.length_nil, List.drop_succ_cons, List.drop_zero, List.take_succ_cons, List.take_zero, List.reverse_cons, List.reverse_nil, List.nil_append, List.cons_append, List.append_nil, List.map_cons, List.map_nil, List.sum_cons, List.sum_nil, Option.toList_some, Option.toList_none, x_bs, Value.category, decide_eq_true_eq, decide_true, decide_false, if_true, if_false, Bool.false_eq_true, and_self, and_true, true_and, true_or, or_true, not_true_eq_false, not_false_eq_true, ↓reduceIte, reduceCtorEq, Nat.reduceEqDiff, Nat.reduceAdd, Nat.reduceSub, Nat.reduceMul, Nat.reduceLT, Nat.reduceLeDiff, Nat.reduceBEq, Nat.le_refl, Nat.zero_le, Nat.lt_irrefl, beq_self_eq_true, Nat.succ_ne_zero, Option.some.injEq, Prod.mk.injEq, Int32.reduceLT, Int32.reduceLE, y_60, rt_60_0, rt_60_1, rt_60_11, rt_60_12, rt_60_13, rt_60_14, rt_60_15, rt_60_16, rt_60_17, rt_60_18, rt_60_19, rt_60_20, rt_60_21, rt_60_22, rt_60_23, rt_60_24, rt_60_25, rt_60_26, rt_60_27, rt_60_28, rt_60_29, rt_60_30, rt_60_39, rt_60_41, rt_60_42, rt_60_45, rt_60_46, rt_60_47, rt_60_49, rt_60_50, rt_60_51, rt_60_52, rt_60_53, rt_60_54, rt_60_55, rt_60_56, rt_60_59, rt_60_61, rt_60_62, al_63, as_63, al_64, as_64, al_65, as_65, al_66, as_66, al_67, as_67, al_68, as_68, al_69, as_69, al_70, as_70, al_71, as_71, al_72, as_72, al_73, as_73, al_74, as_74, al_75, as_75, al_76, as_76, al_78, as_78, al_79, as_79, al_80, as_80, al_81, as_81, al_82, as_82, al_83, as_83, al_84, as_84, al_85, as_85, al_86, as_86, al_87, as_87, al_88, as_88, al_89, as_89, al_90, as_90, al_91, as_91, al_92, as_92, al_93, as_93, al_94, as_94, al_95, as_95, al_96, as_96, al_97, as_97, al_98, as_98, al_61, as_61, al_62, as_62, al_99, as_99, al_82_0, as_82_0, al_83_32, as_83_32, al_83_33, as_83_33, ad0, ad8, ad16, ad24, ad_0, mu2, mu8, mu34, nI_add, nI_1, uI_mm, dvN, dvM, g4_6, g4_7, g4_9, ms, md, b2i_eq0, hd, es, d4, en, s4_9, s4_7]
        · have d4 : (4 : Int32) ≤ nI (p - q) := by rw [show (4 : Int32) = nI 4 from rfl, nI_leI (by decide) (by omega)]; omega
          have e9 : nv4 tp q (p + 1) = nv4 tp q p := by
            unfold nv4
            rw [show min (p + 1 - q) 4 = 4 by omega, show min (p - q) 4 = 4 by omega]
          rw [e9]
          simp only [kX12_goOn_259, kX12_goOn_309, x_no, x_cst, x_ldI, x_ldJ, x_ldA, x_stI, x_stJ, x_stA, x_inc, x_bin, x_un, x_i2l, x_bnJ, x_lshl, x_lcmp, x_dup, x_dp2, x_gI, x_gJ, x_gA, x_pI, x_pZ, x_pJ, x_pA, x_c0, x_c2, x_sw, x_cV, x_cS, x_rV, x_rI, x_rZ, x_rJ, x_mm, x_pop, msel, mpl, mvr, mnw, List.getElem?_cons_zero, List.getElem?_cons_succ, List.set_cons_zero, List.set_cons_succ, List.length_cons, List.length_nil, List.drop_succ_cons, List.drop_zero, List.take_succ_cons, List.take_zero, List.reverse_cons, List.reverse_nil, List.nil_append, List.cons_append, List.append_nil, List.map_cons, List.map_nil, List.sum_cons, List.sum_nil, Option.toList_some, Option.toList_none, x_bs, Value.category, decide_eq_true_eq, decide_true, decide_false, if_true, if_false, Bool.false_eq_true, and_self, and_true, true_and, true_or, or_true, not_true_eq_false, not_false_eq_true, ↓reduceIte, reduceCtorEq, Nat.reduceEqDiff, Nat.reduceAdd, Nat.reduceSub, Nat.reduceMul, Nat.reduceLT, Nat.reduceLeDiff, Nat.reduceBEq, Nat.le_refl, Nat.zero_le, Nat.lt_irrefl, beq_self_eq_true, Nat.succ_ne_zero, Option.some.injEq, Prod.mk.injEq, Int32.reduceLT, Int32.reduceLE, y_60, rt_60_0, rt_60_1, rt_60_11, rt_60_12, rt_60_13, rt_60_14, rt_60_15, rt_60_16, rt_60_17, rt_60_18, rt_60_19, rt_60_20, rt_60_21, rt_60_22, rt_60_23, rt_60_24, rt_60_25, rt_60_26, rt_60_27, rt_60_28, rt_60_29, rt_60_30, rt_60_39, rt_60_41, rt_60_42, rt_60_45, rt_60_46, rt_60_47, rt_60_49, rt_60_50, rt_60_51, rt_60_52, rt_60_53, rt_60_54, rt_60_55, rt_60_56, rt_60_59, rt_60_61, rt_60_62, al_63, as_63, al_64, as_64, al_65, as_65, al_66, as_66, al_67, as_67, al_68, as_68, al_69, as_69, al_70, as_70, al_71, as_71, al_72, as_72, al_73, as_73, al_74, as_74, al_75, as_75, al_76, as_76, al_78, as_78, al_79, as_79, al_80, as_80, al_81, as_81, al_82, as_82, al_83, as_83, al_84, as_84, al_85, as_85, al_86, as_86, al_87, as_87, al_88, as_88, al_89, as_89, al_90, as_90, al_91, as_91, al_92, as_92, al_93, as_93, al_94, as_94, al_95, as_95, al_96, as_96, al_97, as_97, al_98, as_98, al_61, as_61, al_62, as_62, al_99, as_99, al_82_0, as_82_0, al_83_32, as_83_32, al_83_33, as_83_33, ad0, ad8, ad16, ad24, ad_0, mu2, mu8, mu34, nI_add, nI_1, uI_mm, dvN, dvM, g4_6, g4_7, ms, md, b2i_eq0, hd, es, d4, s4_7]
  have := key (tp.length - q) q (by omega) (Nat.le_refl _) (fun j j1 j2 => by omega) (n - (tp.length - q) - 1)
  rw [show n - (tp.length - q) - 1 + (tp.length - q) + 1 = n by omega] at this
  exact this
end MGo2
