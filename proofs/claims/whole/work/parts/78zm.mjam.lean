/-! PURE: the model's clearBank, startAnew; a draft is a told -/
theorem mu560 (c : Nat) : (560 : Int32) * nI c = nI (560 * c) := by rw [show (560 : Int32) = nI 560 from rfl, pk_mul]
section MJam
variable {n : Nat} {I : Nat → Nat → Int32} {J : Nat → Nat → Int64} {tp : List Nat} {i rb lt : Nat} {D : DR} {T : TA} {b : Nat}
def cbI (I : Nat → Nat → Int32) (rb : Nat) : Nat → Nat → Int32 := u2 (u2 (u2 (u2 (u2 (u2 (u2 (u2 (u2 I 63 rb 6) 64 rb 6) 65 rb 0) 66 rb 0) 67 rb 0) 68 rb 0) 69 rb 0) 70 rb 0) 60 33 (nI (560 * rb))
theorem cb_o {b j : Nat} (h1 : b < 63 ∨ 70 < b ∨ j ≠ rb) (h2 : b ≠ 60 ∨ j ≠ 33) : cbI I rb b j = I b j := by
  have key : ∀ (I' : Nat → Nat → Int32) a x, 63 ≤ a → a ≤ 70 → u2 I' a rb x b j = I' b j := fun I' a x a1 a2 => by
    by_cases e : j = rb
    · exact u2_a (by omega)
    · exact u2_j e
  unfold cbI
  rw [show ∀ (I' : Nat → Nat → Int32) x, u2 I' 60 33 x b j = I' b j from fun I' x => by
    by_cases e : b = 60
    · exact u2_j (by omega)
    · exact u2_a e]
  rw [key _ _ _ (by decide) (by decide), key _ _ _ (by decide) (by decide), key _ _ _ (by decide) (by decide), key _ _ _ (by decide) (by decide), key _ _ _ (by decide) (by decide), key _ _ _ (by decide) (by decide), key _ _ _ (by decide) (by decide), key _ _ _ (by decide) (by decide)]
set_option maxHeartbeats 4000000 in
theorem m_clearBank (n f : Nat) (h2 : rb < 2) (h32 : I 60 32 = nI rb) : FX12_clearBank n [.ref 60] (mm I J f) = some (none, mm (cbI I rb) J f) := by
  have k : ∀ a, a ≠ 60 → ∀ (I' : Nat → Nat → Int32) x, u2 I' a rb x 60 32 = I' 60 32 := fun a ha I' x => u2_a (Ne.symm ha)
  have k63 := k 63 (by decide)
  have k64 := k 64 (by decide)
  have k65 := k 65 (by decide)
  have k66 := k 66 (by decide)
  have k67 := k 67 (by decide)
  have k68 := k 68 (by decide)
  have k69 := k 69 (by decide)
  have k70 := k 70 (by decide)
  simp only [eX12_clearBank, kX12_clearBank_0, kX12_clearBank_42, kX12_clearBank_82, x_no, x_cst, x_ldI, x_ldJ, x_ldA, x_stI, x_stJ, x_stA, x_inc, x_bin, x_un, x_i2l, x_bnJ, x_lshl, x_lcmp, x_dup, x_dp2, x_gI, x_gJ, x_gA, x_pI, x_pZ, x_pJ, x_pA, x_c0, x_c2, x_sw, x_cV, x_cS, x_rV, x_rI, x_rZ, x_rJ, x_mm, x_pop, msel, mpl, mvr, mnw, List.getElem?_cons_zero, List.getElem?_cons_succ, List.set_cons_zero, List.set_cons_succ, List.length_cons, List.length_nil, List.drop_succ_cons, List.drop_zero, List.take_succ_cons, List.take_zero, List.reverse_cons, List.reverse_nil, List.nil_append, List.cons_append, List.append_nil, List.map_cons, List.map_nil, List.sum_cons, List.sum_nil, Option.toList_some, Option.toList_none, x_bs, Value.category, decide_eq_true_eq, decide_true, decide_false, if_true, if_false, Bool.false_eq_true, and_self, and_true, true_and, true_or, or_true, not_true_eq_false, not_false_eq_true, ↓reduceIte, reduceCtorEq, Nat.reduceEqDiff, Nat.reduceAdd, Nat.reduceSub, Nat.reduceMul, Nat.reduceLT, Nat.reduceLeDiff, Nat.reduceBEq, Nat.le_refl, Nat.zero_le, Nat.lt_irrefl, beq_self_eq_true, Nat.succ_ne_zero, Option.some.injEq, Prod.mk.injEq, Int32.reduceLT, Int32.reduceLE, y_60, rt_60_0, rt_60_1, rt_60_11, rt_60_12, rt_60_13, rt_60_14, rt_60_15, rt_60_16, rt_60_17, rt_60_18, rt_60_19, rt_60_20, rt_60_21, rt_60_22, rt_60_23, rt_60_24, rt_60_25, rt_60_26, rt_60_27, rt_60_28, rt_60_29, rt_60_30, rt_60_39, rt_60_41, rt_60_42, rt_60_45, rt_60_46, rt_60_47, rt_60_49, rt_60_50, rt_60_51, rt_60_52, rt_60_53, rt_60_54, rt_60_55, rt_60_56, rt_60_59, rt_60_61, rt_60_62, al_63, as_63, al_64, as_64, al_65, as_65, al_66, as_66, al_67, as_67, al_68, as_68, al_69, as_69, al_70, as_70, al_71, as_71, al_72, as_72, al_73, as_73, al_74, as_74, al_75, as_75, al_76, as_76, al_78, as_78, al_79, as_79, al_80, as_80, al_81, as_81, al_82, as_82, al_83, as_83, al_84, as_84, al_85, as_85, al_86, as_86, al_87, as_87, al_88, as_88, al_89, as_89, al_90, as_90, al_91, as_91, al_92, as_92, al_93, as_93, al_94, as_94, al_95, as_95, al_96, as_96, al_97, as_97, al_98, as_98, al_61, as_61, al_62, as_62, al_99, as_99, al_82_0, as_82_0, al_83_32, as_83_32, al_83_33, as_83_33, ad0, ad8, ad16, ad24, ad_0, mu2, mu8, mu34, nI_add, nI_1, uI_mm, dvN, dvM, k63, k64, k65, k66, k67, k68, k69, k70, h32, h2, mu560]
  rfl
theorem cb_Dr (h2 : rb < 2) (h32 : I 60 32 = nI rb) (h5 : I 60 5 = -1) : DrM (cbI I rb) J tp rb 0 dr0 := by
  refine ⟨⟨h2, by rw [cb_o (Or.inl (by decide)) (Or.inr (by decide))]; exact h32⟩, ⟨?_, ?_, ?_, ?_, ?_, ?_⟩, ⟨?_, by rw [cb_o (Or.inl (by decide)) (Or.inr (by decide))]; exact h5⟩, ?_, fun j e he => ?_, 560 * rb, ?_, ⟨Nat.le_refl _, Nat.le_add_right _ _⟩, Or.inl rfl, Or.inl rfl⟩
  · unfold cbI; rw [u2_a (by decide), u2_a (by decide), u2_a (by decide), u2_a (by decide), u2_a (by decide), u2_a (by decide), u2_a (by decide), u2_a (by decide), u2_s]; rfl
  · unfold cbI; rw [u2_a (by decide), u2_a (by decide), u2_a (by decide), u2_a (by decide), u2_a (by decide), u2_a (by decide), u2_a (by decide), u2_s]; rfl
  · unfold cbI; rw [u2_a (by decide), u2_a (by decide), u2_a (by decide), u2_a (by decide), u2_a (by decide), u2_s]; rfl
  · unfold cbI; rw [u2_a (by decide), u2_a (by decide), u2_a (by decide), u2_a (by decide), u2_s]; rfl
  · unfold cbI; rw [u2_a (by decide), u2_a (by decide), u2_a (by decide), u2_s]; rfl
  · unfold cbI; rw [u2_a (by decide), u2_a (by decide), u2_s]; rfl
  · unfold cbI; rw [u2_a (by decide), u2_a (by decide), u2_a (by decide), u2_a (by decide), u2_a (by decide), u2_a (by decide), u2_s]; rfl
  · unfold cbI; rw [u2_a (by decide), u2_s]; rfl
  · have he : ([] : List CE)[j]? = some e := he
    simp at he
  · unfold cbI; rw [u2_s]
theorem MFC_D {r hi : Nat} {c : List (Nat × Nat)} (hr : r < 2) (h : MFD I rb r hi c) (hh : hi ≤ 560 * rb + 560) (hl : c.length ≤ 300) : MFC I (2 * rb + r) c := by
  rcases h with h | ⟨lo, h1, h2, h3, h4⟩
  · exact Or.inl h
  · have e : (2 * rb + r) / 2 = rb := by omega
    exact Or.inr ⟨lo, by rw [e]; omega, h2, h3, hl, h4⟩
theorem Dr_MT (h : DrM I J tp rb lt D) (hD : DOK D) (h31 : I 60 31 = nI rb) : MT I rb (mkT D) := by
  obtain ⟨⟨h1, h2⟩, ⟨a1, a2, a3, a4, a5, a6⟩, ⟨h3, h3'⟩, h4, h5, cq, h6, h7, h8, h9⟩ := h
  obtain ⟨d1, d2, d3, d4, d5, d6, d7, d8, d9, d10, d11, d12, d13, d14⟩ := hD
  obtain ⟨g7, g8, -⟩ := gb_dt (dt D) d1
  refine ⟨⟨h1, h31⟩, ⟨a1, a2, a3, a4, a5, a6⟩, ⟨by rw [h4, g7]; exact d11.1, by rw [h4, g8]; exact d11.2⟩, fun j hj => ?_, MFC_D (by decide) h8 (by omega) (show (dF D).length ≤ 300 by omega), MFC_D (by decide) h9 (by omega) (show (dW D).length ≤ 300 by omega)⟩
  have hj : j < (dc D).length := hj
  have hm : (dc D)[j]? = some (dc D)[j] := List.getElem?_eq_getElem hj
  obtain ⟨c1, c2, c3, c4, c5, c6⟩ := h5 j _ hm
  have s1 : scl (mkS D) j = some (dc D)[j].2.1 := by show ((dc D)[j]?).map (fun e => e.2.1) = _; rw [hm]; rfl
  have s2 : shd (mkS D) j = (dc D)[j].2.2.1 := by show (((dc D)[j]?).map (fun e => e.2.2.1)).getD 0 = _; rw [hm]; rfl
  have s3 : sho (mkS D) j = (dc D)[j].2.2.2.1 := by show (((dc D)[j]?).map (fun e => e.2.2.2.1)).getD 0 = _; rw [hm]; rfl
  have s4 : sbo (mkS D) j = (dc D)[j].2.2.2.2 := by show (((dc D)[j]?).map (fun e => e.2.2.2.2)).getD 0 = _; rw [hm]; rfl
  show I 71 (8 * rb + j) = oc (scl (mkS D) j) ∧ I 72 (8 * rb + j) = nI (shd (mkS D) j) ∧ I 73 (8 * rb + j) = nI (sho (mkS D) j) ∧ I 74 (8 * rb + j) = nI (sbo (mkS D) j)
  rw [s1, s2, s3, s4]
  exact ⟨c3, c4, c5, c6⟩
/-- boxes empty -/
def bxM (I : Nat → Nat → Int32) (k : Nat) : Nat → Nat → Int32 := fun b j => if b = 99 ∧ j < k then 0 else I b j
set_option maxHeartbeats 4000000 in
theorem m_startAnew (hn : 300 < n) (f : Nat) (ht : TRg T) (hT : MT I b T) (h40 : I 60 40 = -1) : ∃ I', FX12_startAnew n [.ref 60] (mm I J f) = some (none, mm I' J f) ∧ MO I' b T (tS T) ∧ (I' 60 43 = 0 ∧ I' 60 44 = 0 ∧ I' 60 57 = 0 ∧ I' 60 48 = 0) ∧ (∀ c, c < 3 → I' 99 c = 0) ∧ ∀ c j, c ≠ 83 → c ≠ 99 → (c = 60 → j ≠ 43 ∧ j ≠ 44 ∧ j ≠ 57 ∧ j ≠ 48) → I' c j = I c j := by
  obtain ⟨I1, k1, k2, k3⟩ := m_layTold (v := none) hn J f ht hT h40 (fun h hh => by cases hh)
  have k2 : MO I1 b T (tS T) := k2
  obtain ⟨I2, hI2⟩ : ∃ I2, I2 = u2 (u2 (u2 (u2 I1 60 43 0) 60 44 0) 60 57 0) 60 48 0 := ⟨_, rfl⟩
  have f60 : ∀ j, j ≠ 43 → j ≠ 44 → j ≠ 57 → j ≠ 48 → I2 60 j = I1 60 j := fun j j1 j2 j3 j4 => by rw [hI2, u2_j j4, u2_j j3, u2_j j2, u2_j j1]
  have fo : ∀ c j, c ≠ 60 → I2 c j = I1 c j := fun c j hc => by rw [hI2, u2_a hc, u2_a hc, u2_a hc, u2_a hc]
  have bo : ∀ c j, c ≠ 99 → bxM I2 3 c j = I2 c j := fun c j hc => by unfold bxM; rw [if_neg (fun z => hc z.1)]
  have lp : mit (kX12_startAnew_26 n) n [some (.ref 60), some (.int 0)] [] (mm I2 J f) = some (none, mm (bxM I2 3) J f) := by
    have e0 : bxM I2 0 = I2 := by
      funext c j; unfold bxM; rw [if_neg (by omega)]
    have key := mit_for (G := kX12_startAnew_26 n) (fun j => [some (.ref 60), some (.int (nI j))]) (fun j => mm (bxM I2 j) J f) (B := 3) (fun j hj r => ?_) (show 3 < n by omega) (v := some (none, mm (bxM I2 3) J f)) (fun r => ?_)
    · simp only [e0] at key
      exact key
    · have nle : ¬ (3 : Int32) ≤ nI j := by rw [show (3 : Int32) = nI 3 from rfl, nI_leI (by decide) (by omega)]; omega
      have eu : u2 (bxM I2 j) 99 j 0 = bxM I2 (j + 1) := by
        funext c k
        unfold u2 bxM
        by_cases e : c = 99
        · by_cases e2 : k = j
          · rw [if_pos ⟨e, e2⟩, if_pos ⟨e, by omega⟩]
          · rw [if_neg (fun z => e2 z.2)]
            by_cases e3 : k < j
            · rw [if_pos ⟨e, e3⟩, if_pos ⟨e, by omega⟩]
            · rw [if_neg (fun z => e3 z.2), if_neg (by omega)]
        · rw [if_neg (fun z => e z.1), if_neg (fun z => e z.1), if_neg (fun z => e z.1)]
      have a99 : ∀ (r' : mK), i_as 2 r' [some (.ref 60), some (.int (nI j))] [.int 0, .int (nI j), .ref 99] (mm (bxM I2 j) J f) = r' [some (.ref 60), some (.int (nI j))] [] (mm (bxM I2 (j + 1)) J f) := fun r' => by
        rw [asT y_99 (by decide) hj]
        rw [← eu]; rfl
      simp only [kX12_startAnew_26, x_no, x_cst, x_ldI, x_ldJ, x_ldA, x_stI, x_stJ, x_stA, x_inc, x_bin, x_un, x_i2l, x_bnJ, x_lshl, x_lcmp, x_dup, x_dp2, x_gI, x_gJ, x_gA, x_pI, x_pZ, x_pJ, x_pA, x_c0, x_c2, x_sw, x_cV, x_cS, x_rV, x_rI, x_rZ, x_rJ, x_mm, x_pop, msel, mpl, mvr, mnw, List.getElem?_cons_zero, List.getElem?_cons_succ, List.set_cons_zero, List.set_cons_succ, List.length_cons, List.length_nil, List.drop_succ_cons, List.drop_zero, List.take_succ_cons, List.take_zero, List.reverse_cons, List.reverse_nil, List.nil_append, List.cons_append, List.append_nil, List.map_cons, List.map_nil, List.sum_cons, List.sum_nil, Option.toList_some, Option.toList_none, x_bs, Value.category, decide_eq_true_eq, decide_true, decide_false, if_true, if_false, Bool.false_eq_true, and_self, and_true, true_and, true_or, or_true, not_true_eq_false, not_false_eq_true, ↓reduceIte, reduceCtorEq, Nat.reduceEqDiff, Nat.reduceAdd, Nat.reduceSub, Nat.reduceMul, Nat.reduceLT, Nat.reduceLeDiff, Nat.reduceBEq, Nat.le_refl, Nat.zero_le, Nat.lt_irrefl, beq_self_eq_true, Nat.succ_ne_zero, Option.some.injEq, Prod.mk.injEq, Int32.reduceLT, Int32.reduceLE, y_60, rt_60_0, rt_60_1, rt_60_11, rt_60_12, rt_60_13, rt_60_14, rt_60_15, rt_60_16, rt_60_17, rt_60_18, rt_60_19, rt_60_20, rt_60_21, rt_60_22, rt_60_23, rt_60_24, rt_60_25, rt_60_26, rt_60_27, rt_60_28, rt_60_29, rt_60_30, rt_60_39, rt_60_41, rt_60_42, rt_60_45, rt_60_46, rt_60_47, rt_60_49, rt_60_50, rt_60_51, rt_60_52, rt_60_53, rt_60_54, rt_60_55, rt_60_56, rt_60_59, rt_60_61, rt_60_62, al_63, as_63, al_64, as_64, al_65, as_65, al_66, as_66, al_67, as_67, al_68, as_68, al_69, as_69, al_70, as_70, al_71, as_71, al_72, as_72, al_73, as_73, al_74, as_74, al_75, as_75, al_76, as_76, al_78, as_78, al_79, as_79, al_80, as_80, al_81, as_81, al_82, as_82, al_83, as_83, al_84, as_84, al_85, as_85, al_86, as_86, al_87, as_87, al_88, as_88, al_89, as_89, al_90, as_90, al_91, as_91, al_92, as_92, al_93, as_93, al_94, as_94, al_95, as_95, al_96, as_96, al_97, as_97, al_98, as_98, al_61, as_61, al_62, as_62, al_99, as_99, al_82_0, as_82_0, al_83_32, as_83_32, al_83_33, as_83_33, ad0, ad8, ad16, ad24, ad_0, mu2, mu8, mu34, nI_add, nI_1, uI_mm, dvN, dvM, nle, a99]
    · have le : (3 : Int32) ≤ nI 3 := by decide
      simp only [kX12_startAnew_26, x_no, x_cst, x_ldI, x_ldJ, x_ldA, x_stI, x_stJ, x_stA, x_inc, x_bin, x_un, x_i2l, x_bnJ, x_lshl, x_lcmp, x_dup, x_dp2, x_gI, x_gJ, x_gA, x_pI, x_pZ, x_pJ, x_pA, x_c0, x_c2, x_sw, x_cV, x_cS, x_rV, x_rI, x_rZ, x_rJ, x_mm, x_pop, msel, mpl, mvr, mnw, List.getElem?_cons_zero, List.getElem?_cons_succ, List.set_cons_zero, List.set_cons_succ, List.length_cons, List.length_nil, List.drop_succ_cons, List.drop_zero, List.take_succ_cons, List.take_zero, List.reverse_cons, List.reverse_nil, List.nil_append, List.cons_append, List.append_nil, List.map_cons, List.map_nil, List.sum_cons, List.sum_nil, Option.toList_some, Option.toList_none, x_bs, Value.category, decide_eq_true_eq, decide_true, decide_false, if_true, if_false, Bool.false_eq_true, and_self, and_true, true_and, true_or, or_true, not_true_eq_false, not_false_eq_true, ↓reduceIte, reduceCtorEq, Nat.reduceEqDiff, Nat.reduceAdd, Nat.reduceSub, Nat.reduceMul, Nat.reduceLT, Nat.reduceLeDiff, Nat.reduceBEq, Nat.le_refl, Nat.zero_le, Nat.lt_irrefl, beq_self_eq_true, Nat.succ_ne_zero, Option.some.injEq, Prod.mk.injEq, Int32.reduceLT, Int32.reduceLE, y_60, rt_60_0, rt_60_1, rt_60_11, rt_60_12, rt_60_13, rt_60_14, rt_60_15, rt_60_16, rt_60_17, rt_60_18, rt_60_19, rt_60_20, rt_60_21, rt_60_22, rt_60_23, rt_60_24, rt_60_25, rt_60_26, rt_60_27, rt_60_28, rt_60_29, rt_60_30, rt_60_39, rt_60_41, rt_60_42, rt_60_45, rt_60_46, rt_60_47, rt_60_49, rt_60_50, rt_60_51, rt_60_52, rt_60_53, rt_60_54, rt_60_55, rt_60_56, rt_60_59, rt_60_61, rt_60_62, al_63, as_63, al_64, as_64, al_65, as_65, al_66, as_66, al_67, as_67, al_68, as_68, al_69, as_69, al_70, as_70, al_71, as_71, al_72, as_72, al_73, as_73, al_74, as_74, al_75, as_75, al_76, as_76, al_78, as_78, al_79, as_79, al_80, as_80, al_81, as_81, al_82, as_82, al_83, as_83, al_84, as_84, al_85, as_85, al_86, as_86, al_87, as_87, al_88, as_88, al_89, as_89, al_90, as_90, al_91, as_91, al_92, as_92, al_93, as_93, al_94, as_94, al_95, as_95, al_96, as_96, al_97, as_97, al_98, as_98, al_61, as_61, al_62, as_62, al_99, as_99, al_82_0, as_82_0, al_83_32, as_83_32, al_83_33, as_83_33, ad0, ad8, ad16, ad24, ad_0, mu2, mu8, mu34, nI_add, nI_1, uI_mm, dvN, dvM, le]
  refine ⟨bxM I2 3, ?_, ?_, ⟨?_, ?_, ?_, ?_⟩, fun c hc => ?_, fun c j c1 c2 c3 => ?_⟩
  · rw [← lp]
    simp only [eX12_startAnew, kX12_startAnew_0, x_no, x_cst, x_ldI, x_ldJ, x_ldA, x_stI, x_stJ, x_stA, x_inc, x_bin, x_un, x_i2l, x_bnJ, x_lshl, x_lcmp, x_dup, x_dp2, x_gI, x_gJ, x_gA, x_pI, x_pZ, x_pJ, x_pA, x_c0, x_c2, x_sw, x_cV, x_cS, x_rV, x_rI, x_rZ, x_rJ, x_mm, x_pop, msel, mpl, mvr, mnw, List.getElem?_cons_zero, List.getElem?_cons_succ, List.set_cons_zero, List.set_cons_succ, List.length_cons, List.length_nil, List.drop_succ_cons, List.drop_zero, List.take_succ_cons, List.take_zero, List.reverse_cons, List.reverse_nil, List.nil_append, List.cons_append, List.append_nil, List.map_cons, List.map_nil, List.sum_cons, List.sum_nil, Option.toList_some, Option.toList_none, x_bs, Value.category, decide_eq_true_eq, decide_true, decide_false, if_true, if_false, Bool.false_eq_true, and_self, and_true, true_and, true_or, or_true, not_true_eq_false, not_false_eq_true, ↓reduceIte, reduceCtorEq, Nat.reduceEqDiff, Nat.reduceAdd, Nat.reduceSub, Nat.reduceMul, Nat.reduceLT, Nat.reduceLeDiff, Nat.reduceBEq, Nat.le_refl, Nat.zero_le, Nat.lt_irrefl, beq_self_eq_true, Nat.succ_ne_zero, Option.some.injEq, Prod.mk.injEq, Int32.reduceLT, Int32.reduceLE, y_60, rt_60_0, rt_60_1, rt_60_11, rt_60_12, rt_60_13, rt_60_14, rt_60_15, rt_60_16, rt_60_17, rt_60_18, rt_60_19, rt_60_20, rt_60_21, rt_60_22, rt_60_23, rt_60_24, rt_60_25, rt_60_26, rt_60_27, rt_60_28, rt_60_29, rt_60_30, rt_60_39, rt_60_41, rt_60_42, rt_60_45, rt_60_46, rt_60_47, rt_60_49, rt_60_50, rt_60_51, rt_60_52, rt_60_53, rt_60_54, rt_60_55, rt_60_56, rt_60_59, rt_60_61, rt_60_62, al_63, as_63, al_64, as_64, al_65, as_65, al_66, as_66, al_67, as_67, al_68, as_68, al_69, as_69, al_70, as_70, al_71, as_71, al_72, as_72, al_73, as_73, al_74, as_74, al_75, as_75, al_76, as_76, al_78, as_78, al_79, as_79, al_80, as_80, al_81, as_81, al_82, as_82, al_83, as_83, al_84, as_84, al_85, as_85, al_86, as_86, al_87, as_87, al_88, as_88, al_89, as_89, al_90, as_90, al_91, as_91, al_92, as_92, al_93, as_93, al_94, as_94, al_95, as_95, al_96, as_96, al_97, as_97, al_98, as_98, al_61, as_61, al_62, as_62, al_99, as_99, al_82_0, as_82_0, al_83_32, as_83_32, al_83_33, as_83_33, ad0, ad8, ad16, ad24, ad_0, mu2, mu8, mu34, nI_add, nI_1, uI_mm, dvN, dvM, k1, ← hI2]
  · refine ⟨k2.1, MT_of k2.2.1 ?_ (fun c j c1 c2 => ?_), k2.2.2.1, MA_34 k2.1.1 k2.2.2.2 (fun j _ => ?_)⟩
    · rw [bo 60 31 (by decide)]; exact f60 31 (by decide) (by decide) (by decide) (by decide)
    · rw [bo c j (by omega)]; exact fo c j (by omega)
    · rw [bo 83 j (by decide)]; exact fo 83 j (by decide)
  · rw [bo 60 43 (by decide), hI2, u2_j (by decide), u2_j (by decide), u2_j (by decide), u2_s]
  · rw [bo 60 44 (by decide), hI2, u2_j (by decide), u2_j (by decide), u2_s]
  · rw [bo 60 57 (by decide), hI2, u2_j (by decide), u2_s]
  · rw [bo 60 48 (by decide), hI2, u2_s]
  · unfold bxM; rw [if_pos ⟨rfl, hc⟩]
  · rw [bo c j c2]
    by_cases e : c = 60
    · subst e
      obtain ⟨z1, z2, z3, z4⟩ := c3 rfl
      rw [f60 j z1 z2 z3 z4, k3 60 j (by decide)]
    · rw [fo c j e, k3 c j c1]
end MJam
