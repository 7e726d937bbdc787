/-! PURE: the model: what fits -/
def hoS (S : SA) (c h : Nat) : SA := (scl S, shd S, fun j => if j = c then h else sho S j, sbo S, syr S, ssd S)
def thS (T : TA) (v : Option Nat) : SA := match v with
  | none => tS T
  | some h => hoS (tS T) (lcar T) h
/-- a loop within a loop: it ends by going on with the outer one -/
theorem mit_indR {G : mK → mK → mK} (Inv : Nat → List (Option Value) → mM → Prop) (Q : List (Option Value) → mM → Prop) (h0 : ∀ L μ, Inv 0 L μ → ∃ L' μ', (∀ s r : mK, G s r L [] μ = s L' [] μ') ∧ Q L' μ') (hs : ∀ d L μ, Inv (d + 1) L μ → (∃ L' μ', (∀ s r : mK, G s r L [] μ = s L' [] μ') ∧ Q L' μ') ∨ ∃ L' μ', Inv d L' μ' ∧ ∀ s r : mK, G s r L [] μ = r L' [] μ') : ∀ (d n : Nat) (L : List (Option Value)) (μ : mM), d < n → Inv d L μ → ∃ L' μ', Q L' μ' ∧ ∀ s : mK, mit (G s) n L [] μ = s L' [] μ' := by
  intro d
  induction d with
  | zero =>
    intro n L μ hn hI
    obtain ⟨L', μ', h1, h2⟩ := h0 L μ hI
    refine ⟨L', μ', h2, fun s => ?_⟩
    rw [show n = (n - 1) + 1 by omega, mit_succ, h1]
  | succ d ih =>
    intro n L μ hn hI
    rcases hs d L μ hI with ⟨L', μ', h1, h2⟩ | ⟨L', μ', h1, h2⟩
    · refine ⟨L', μ', h2, fun s => ?_⟩
      rw [show n = (n - 1) + 1 by omega, mit_succ, h1]
    · obtain ⟨L2, μ2, k1, k2⟩ := ih (n - 1) L' μ' (by omega) h1
      refine ⟨L2, μ2, k1, fun s => ?_⟩
      rw [show n = (n - 1) + 1 by omega, mit_succ, h2]
      exact k2 s
section MFits
variable {n : Nat} {I : Nat → Nat → Int32} {b : Nat} {A : AS} {T : TA} {S : SA}
def zI8 (I : Nat → Nat → Int32) (k : Nat) : Nat → Nat → Int32 := fun c i => if c = 83 ∧ i < k then 0 else I c i
theorem m_manyT (n : Nat) (J : Nat → Nat → Int64) (f : Nat) (hT : MT I b T) : FX12_many n [.ref 60] (mm I J f) = some (some (.int (nI (tk T))), mm I J f) := by
  have h2 := hT.1.1
  simp (disch := omega) only [eX12_many, kX12_many_0, x_no, x_cst, x_ldI, x_ldJ, x_ldA, x_stI, x_stJ, x_stA, x_inc, x_bin, x_un, x_i2l, x_bnJ, x_lshl, x_lcmp, x_dup, x_dp2, x_gI, x_gJ, x_gA, x_pI, x_pZ, x_pJ, x_pA, x_c0, x_c2, x_sw, x_cV, x_cS, x_rV, x_rI, x_rZ, x_rJ, x_mm, x_pop, msel, mpl, mvr, mnw, List.getElem?_cons_zero, List.getElem?_cons_succ, List.set_cons_zero, List.set_cons_succ, List.length_cons, List.length_nil, List.drop_succ_cons, List.drop_zero, List.take_succ_cons, List.take_zero, List.reverse_cons, List.reverse_nil, List.nil_append, List.cons_append, List.append_nil, List.map_cons, List.map_nil, List.sum_cons, List.sum_nil, Option.toList_some, Option.toList_none, Option.bind_some, Value.category, decide_eq_true_eq, decide_true, decide_false, if_true, if_false, Bool.false_eq_true, and_self, and_true, true_and, true_or, or_true, not_true_eq_false, not_false_eq_true, ↓reduceIte, reduceCtorEq, Nat.reduceEqDiff, Nat.reduceAdd, Nat.reduceSub, Nat.reduceMul, Nat.reduceLT, Nat.reduceLeDiff, Nat.reduceBEq, Nat.le_refl, Nat.zero_le, Nat.lt_irrefl, beq_self_eq_true, Nat.succ_ne_zero, Option.some.injEq, Prod.mk.injEq, Int32.reduceLT, Int32.reduceLE, y_60, rt_60_0, rt_60_1, rt_60_11, rt_60_12, rt_60_13, rt_60_14, rt_60_15, rt_60_16, rt_60_17, rt_60_18, rt_60_19, rt_60_20, rt_60_21, rt_60_22, rt_60_23, rt_60_24, rt_60_25, rt_60_26, rt_60_27, rt_60_28, rt_60_29, rt_60_30, rt_60_39, rt_60_41, rt_60_42, rt_60_45, rt_60_46, rt_60_47, rt_60_49, rt_60_50, rt_60_51, rt_60_52, rt_60_53, rt_60_54, rt_60_55, rt_60_56, rt_60_59, rt_60_61, rt_60_62, al_63, as_63, al_64, as_64, al_65, as_65, al_66, as_66, al_67, as_67, al_68, as_68, al_69, as_69, al_70, as_70, al_71, as_71, al_72, as_72, al_73, as_73, al_74, as_74, al_75, as_75, al_76, as_76, al_78, as_78, al_79, as_79, al_80, as_80, al_81, as_81, al_82, as_82, al_83, as_83, al_84, as_84, al_85, as_85, al_86, as_86, al_87, as_87, al_88, as_88, al_89, as_89, al_90, as_90, al_91, as_91, al_92, as_92, al_93, as_93, al_94, as_94, al_95, as_95, al_96, as_96, al_97, as_97, al_98, as_98, al_61, as_61, al_62, as_62, al_99, as_99, al_82_0, as_82_0, al_83_32, as_83_32, al_83_33, as_83_33, ad0, ad8, ad16, ad24, ad_0, mu2, mu8, mu34, nI_add, nI_1, uI_mm, dvN, dvM, hT.1.2, hT.2.1.2.2.1]
set_option maxHeartbeats 8000000 in
theorem m_layTold (hn : 300 < n) (J : Nat → Nat → Int64) (f : Nat) (ht : TRg T) (hT : MT I b T) {v : Option Nat} (hv : I 60 40 = oc v) (hv2 : ∀ h, v = some h → h ≤ 99 ∧ 0 < tk T) : ∃ I', FX12_layTold n [.ref 60] (mm I J f) = some (none, mm I' J f) ∧ MO I' b T (thS T v) ∧ ∀ c j, c ≠ 83 → I' c j = I c j := by
  have hb2 := hT.1.1
  have hbk := hT.1.2
  have hk8 := ht.1
  simp only [eX12_layTold, kX12_layTold_0, x_no, x_cst, x_ldI, x_ldJ, x_ldA, x_stI, x_stJ, x_stA, x_inc, x_bin, x_un, x_i2l, x_bnJ, x_lshl, x_lcmp, x_dup, x_dp2, x_gI, x_gJ, x_gA, x_pI, x_pZ, x_pJ, x_pA, x_c0, x_c2, x_sw, x_cV, x_cS, x_rV, x_rI, x_rZ, x_rJ, x_mm, x_pop, msel, mpl, mvr, mnw, List.getElem?_cons_zero, List.getElem?_cons_succ, List.set_cons_zero, List.set_cons_succ, List.length_cons, List.length_nil, List.drop_succ_cons, List.drop_zero, List.take_succ_cons, List.take_zero, List.reverse_cons, List.reverse_nil, List.nil_append, List.cons_append, List.append_nil, List.map_cons, List.map_nil, List.sum_cons, List.sum_nil, Option.toList_some, Option.toList_none, Option.bind_some, Value.category, decide_eq_true_eq, decide_true, decide_false, if_true, if_false, Bool.false_eq_true, and_self, and_true, true_and, true_or, or_true, not_true_eq_false, not_false_eq_true, ↓reduceIte, reduceCtorEq, Nat.reduceEqDiff, Nat.reduceAdd, Nat.reduceSub, Nat.reduceMul, Nat.reduceLT, Nat.reduceLeDiff, Nat.reduceBEq, Nat.le_refl, Nat.zero_le, Nat.lt_irrefl, beq_self_eq_true, Nat.succ_ne_zero, Option.some.injEq, Prod.mk.injEq, Int32.reduceLT, Int32.reduceLE, y_60, rt_60_0, rt_60_1, rt_60_11, rt_60_12, rt_60_13, rt_60_14, rt_60_15, rt_60_16, rt_60_17, rt_60_18, rt_60_19, rt_60_20, rt_60_21, rt_60_22, rt_60_23, rt_60_24, rt_60_25, rt_60_26, rt_60_27, rt_60_28, rt_60_29, rt_60_30, rt_60_39, rt_60_41, rt_60_42, rt_60_45, rt_60_46, rt_60_47, rt_60_49, rt_60_50, rt_60_51, rt_60_52, rt_60_53, rt_60_54, rt_60_55, rt_60_56, rt_60_59, rt_60_61, rt_60_62, al_63, as_63, al_64, as_64, al_65, as_65, al_66, as_66, al_67, as_67, al_68, as_68, al_69, as_69, al_70, as_70, al_71, as_71, al_72, as_72, al_73, as_73, al_74, as_74, al_75, as_75, al_76, as_76, al_78, as_78, al_79, as_79, al_80, as_80, al_81, as_81, al_82, as_82, al_83, as_83, al_84, as_84, al_85, as_85, al_86, as_86, al_87, as_87, al_88, as_88, al_89, as_89, al_90, as_90, al_91, as_91, al_92, as_92, al_93, as_93, al_94, as_94, al_95, as_95, al_96, as_96, al_97, as_97, al_98, as_98, al_61, as_61, al_62, as_62, al_99, as_99, al_82_0, as_82_0, al_83_32, as_83_32, al_83_33, as_83_33, ad0, ad8, ad16, ad24, ad_0, mu2, mu8, mu34, nI_add, nI_1, uI_mm, dvN, dvM]
  have fz : ∀ c j k, c ≠ 83 → zI8 I k c j = I c j := fun c j k hc => by simp [zI8, hc]
  have key : ∃ I', mit (kX12_layTold_23 n) n [some (.ref 60), some (.int 0), none] [] (mm (zI8 I 34) J f) = some (none, mm I' J f) ∧ MO I' b T (thS T v) ∧ ∀ c j, c ≠ 83 → I' c j = I c j := by
    refine mit_ind (G := kX12_layTold_23 n) (fun d L μ => ∃ (j : Nat) (I' : Nat → Nat → Int32) (x2 : Option Value), j + d = 8 ∧ μ = mm I' J f ∧ (∀ i, i < j → i < tk T → I' 83 i = I 71 (8 * b + i) ∧ I' 83 (8 + i) = I 72 (8 * b + i) ∧ I' 83 (16 + i) = I 73 (8 * b + i) ∧ I' 83 (24 + i) = I 74 (8 * b + i)) ∧ I' 83 32 = 0 ∧ (∀ c j, c ≠ 83 → I' c j = I c j) ∧ L = [some (.ref 60), some (.int (nI j)), x2]) (fun w => ∃ I', w = some (none, mm I' J f) ∧ MO I' b T (thS T v) ∧ ∀ c j, c ≠ 83 → I' c j = I c j) ?_ ?_ 8 n _ _ (by omega) ⟨0, zI8 I 34, none, rfl, rfl, fun i hi => by omega, by simp [zI8], fun c j hc => fz c j 34 hc, rfl⟩
    · rintro L μ ⟨j, I', x2, hj, rfl, h1, h2, h3, rfl⟩
      have : j = 8 := by omega
      subst this
      have hT' : MT I' b T := MT_of hT (h3 _ _ (by decide)) (fun c j c1 c2 => h3 c j (by omega))
      have m1 := m_manyT n J f hT'
      have e31 : I' 60 31 = nI b := hT'.1.2
      have e69 : I' 69 b = nI (ssd (tS T)) := hT'.2.1.2.2.2.2.2
      have fin : ∀ (I3 : Nat → Nat → Int32) (S' : SA), (∀ i, i < tk T → I3 83 i = oc (scl S' i) ∧ I3 83 (8 + i) = nI (shd S' i) ∧ I3 83 (16 + i) = nI (sho S' i) ∧ I3 83 (24 + i) = nI (sbo S' i)) → I3 83 32 = 0 → syr S' = 0 → ssd S' = ssd (tS T) → SRg (tk T) (tC T * tR T) S' → (∀ c j, c ≠ 83 → I3 c j = I c j) → MO (u2 I3 83 33 (nI (ssd (tS T)))) b T S' ∧ ∀ c j, c ≠ 83 → u2 I3 83 33 (nI (ssd (tS T))) c j = I c j := by
        intro I3 S' a1 a2 a3 a4 a5 a6
        refine ⟨⟨ht, MT_of hT (by rw [u2_a (by decide)]; exact a6 _ _ (by decide)) (fun c j c1 c2 => by rw [u2_a (by omega)]; exact a6 c j (by omega)), a5, ⟨fun i hi => ?_, ?_, ?_⟩⟩, fun c j hc => by rw [u2_a hc]; exact a6 c j hc⟩
        · rw [u2_j (by omega), u2_j (by omega), u2_j (by omega), u2_j (by omega)]; exact a1 i hi
        · rw [u2_j (by decide), a2, a3]; rfl
        · rw [u2_s, a4]
      have hd := hT.2.2.2.1
      cases v with
      | none =>
        have e40 : I' 60 40 < 0 := by rw [h3 _ _ (by decide), hv]; decide
        obtain ⟨w1, w2⟩ := fin I' (tS T) (fun i hi => by
          obtain ⟨q1, q2, q3, q4⟩ := h1 i (by omega) hi
          obtain ⟨p1, p2, p3, p4⟩ := hd i hi
          exact ⟨q1.trans p1, q2.trans p2, q3.trans p3, q4.trans p4⟩) h2 ht.2.2.2.2.2.2.1 rfl ht.2.2.2.2.2.1 h3
        refine ⟨_, fun r => ?_, _, rfl, w1, w2⟩
        simp (disch := omega) only [kX12_layTold_23, kX12_layTold_197, x_no, x_cst, x_ldI, x_ldJ, x_ldA, x_stI, x_stJ, x_stA, x_inc, x_bin, x_un, x_i2l, x_bnJ, x_lshl, x_lcmp, x_dup, x_dp2, x_gI, x_gJ, x_gA, x_pI, x_pZ, x_pJ, x_pA, x_c0, x_c2, x_sw, x_cV, x_cS, x_rV, x_rI, x_rZ, x_rJ, x_mm, x_pop, msel, mpl, mvr, mnw, List.getElem?_cons_zero, List.getElem?_cons_succ, List.set_cons_zero, List.set_cons_succ, List.length_cons, List.length_nil, List.drop_succ_cons, List.drop_zero, List.take_succ_cons, List.take_zero, List.reverse_cons, List.reverse_nil, List.nil_append, List.cons_append, List.append_nil, List.map_cons, List.map_nil, List.sum_cons, List.sum_nil, Option.toList_some, Option.toList_none, Option.bind_some, Value.category, decide_eq_true_eq, decide_true, decide_false, if_true, if_false, Bool.false_eq_true, and_self, and_true, true_and, true_or, or_true, not_true_eq_false, not_false_eq_true, ↓reduceIte, reduceCtorEq, Nat.reduceEqDiff, Nat.reduceAdd, Nat.reduceSub, Nat.reduceMul, Nat.reduceLT, Nat.reduceLeDiff, Nat.reduceBEq, Nat.le_refl, Nat.zero_le, Nat.lt_irrefl, beq_self_eq_true, Nat.succ_ne_zero, Option.some.injEq, Prod.mk.injEq, Int32.reduceLT, Int32.reduceLE, y_60, rt_60_0, rt_60_1, rt_60_11, rt_60_12, rt_60_13, rt_60_14, rt_60_15, rt_60_16, rt_60_17, rt_60_18, rt_60_19, rt_60_20, rt_60_21, rt_60_22, rt_60_23, rt_60_24, rt_60_25, rt_60_26, rt_60_27, rt_60_28, rt_60_29, rt_60_30, rt_60_39, rt_60_41, rt_60_42, rt_60_45, rt_60_46, rt_60_47, rt_60_49, rt_60_50, rt_60_51, rt_60_52, rt_60_53, rt_60_54, rt_60_55, rt_60_56, rt_60_59, rt_60_61, rt_60_62, al_63, as_63, al_64, as_64, al_65, as_65, al_66, as_66, al_67, as_67, al_68, as_68, al_69, as_69, al_70, as_70, al_71, as_71, al_72, as_72, al_73, as_73, al_74, as_74, al_75, as_75, al_76, as_76, al_78, as_78, al_79, as_79, al_80, as_80, al_81, as_81, al_82, as_82, al_83, as_83, al_84, as_84, al_85, as_85, al_86, as_86, al_87, as_87, al_88, as_88, al_89, as_89, al_90, as_90, al_91, as_91, al_92, as_92, al_93, as_93, al_94, as_94, al_95, as_95, al_96, as_96, al_97, as_97, al_98, as_98, al_61, as_61, al_62, as_62, al_99, as_99, al_82_0, as_82_0, al_83_32, as_83_32, al_83_33, as_83_33, ad0, ad8, ad16, ad24, ad_0, mu2, mu8, mu34, nI_add, nI_1, uI_mm, dvN, dvM, le88, e40, e31, e69]
      | some h =>
        obtain ⟨hh, hk0⟩ := hv2 h rfl
        have e40 : I' 60 40 = nI h := by rw [h3 _ _ (by decide), hv]; rfl
        have e40' : ¬ nI h < 0 := nI_pos (by omega)
        have ei : nI (16 + tk T) - 1 = nI (16 + lcar T) := by
          rw [show (1 : Int32) = nI 1 from rfl, pk_sub (by omega)]
          congr 1
          unfold lcar; omega
        have hlc : lcar T < tk T := by unfold lcar; omega
        obtain ⟨w1, w2⟩ := fin (u2 I' 83 (16 + lcar T) (nI h)) (hoS (tS T) (lcar T) h) (fun i hi => by
          obtain ⟨q1, q2, q3, q4⟩ := h1 i (by omega) hi
          obtain ⟨p1, p2, p3, p4⟩ := hd i hi
          refine ⟨by rw [u2_j (by omega)]; exact q1.trans p1, by rw [u2_j (by omega)]; exact q2.trans p2, ?_, by rw [u2_j (by omega)]; exact q4.trans p4⟩
          show u2 I' 83 (16 + lcar T) (nI h) 83 (16 + i) = nI (if i = lcar T then h else sho (tS T) i)
          by_cases e : i = lcar T
          · rw [if_pos e, e, u2_s]
          · rw [if_neg e, u2_j (by omega)]; exact q3.trans p3) (by rw [u2_j (by omega)]; exact h2) ht.2.2.2.2.2.2.1 rfl ⟨fun i hi => by
            obtain ⟨q1, q2, q3, q4⟩ := ht.2.2.2.2.2.1.1 i hi
            refine ⟨q1, q2, ?_, q4⟩
            show (if i = lcar T then h else sho (tS T) i) ≤ 99
            split <;> omega, ht.2.2.2.2.2.1.2⟩ (fun c j hc => by rw [u2_a hc]; exact h3 c j hc)
        refine ⟨_, fun r => ?_, _, rfl, w1, w2⟩
        have f31 : ∀ x, u2 I' 83 (16 + lcar T) x 60 31 = nI b := fun x => by rw [u2_a (by decide)]; exact e31
        have f69 : ∀ x, u2 I' 83 (16 + lcar T) x 69 b = nI (ssd (tS T)) := fun x => by rw [u2_a (by decide)]; exact e69
        simp (disch := omega) only [kX12_layTold_23, kX12_layTold_197, x_no, x_cst, x_ldI, x_ldJ, x_ldA, x_stI, x_stJ, x_stA, x_inc, x_bin, x_un, x_i2l, x_bnJ, x_lshl, x_lcmp, x_dup, x_dp2, x_gI, x_gJ, x_gA, x_pI, x_pZ, x_pJ, x_pA, x_c0, x_c2, x_sw, x_cV, x_cS, x_rV, x_rI, x_rZ, x_rJ, x_mm, x_pop, msel, mpl, mvr, mnw, List.getElem?_cons_zero, List.getElem?_cons_succ, List.set_cons_zero, List.set_cons_succ, List.length_cons, List.length_nil, List.drop_succ_cons, List.drop_zero, List.take_succ_cons, List.take_zero, List.reverse_cons, List.reverse_nil, List.nil_append, List.cons_append, List.append_nil, List.map_cons, List.map_nil, List.sum_cons, List.sum_nil, Option.toList_some, Option.toList_none, Option.bind_some, Value.category, decide_eq_true_eq, decide_true, decide_false, if_true, if_false, Bool.false_eq_true, and_self, and_true, true_and, true_or, or_true, not_true_eq_false, not_false_eq_true, ↓reduceIte, reduceCtorEq, Nat.reduceEqDiff, Nat.reduceAdd, Nat.reduceSub, Nat.reduceMul, Nat.reduceLT, Nat.reduceLeDiff, Nat.reduceBEq, Nat.le_refl, Nat.zero_le, Nat.lt_irrefl, beq_self_eq_true, Nat.succ_ne_zero, Option.some.injEq, Prod.mk.injEq, Int32.reduceLT, Int32.reduceLE, y_60, rt_60_0, rt_60_1, rt_60_11, rt_60_12, rt_60_13, rt_60_14, rt_60_15, rt_60_16, rt_60_17, rt_60_18, rt_60_19, rt_60_20, rt_60_21, rt_60_22, rt_60_23, rt_60_24, rt_60_25, rt_60_26, rt_60_27, rt_60_28, rt_60_29, rt_60_30, rt_60_39, rt_60_41, rt_60_42, rt_60_45, rt_60_46, rt_60_47, rt_60_49, rt_60_50, rt_60_51, rt_60_52, rt_60_53, rt_60_54, rt_60_55, rt_60_56, rt_60_59, rt_60_61, rt_60_62, al_63, as_63, al_64, as_64, al_65, as_65, al_66, as_66, al_67, as_67, al_68, as_68, al_69, as_69, al_70, as_70, al_71, as_71, al_72, as_72, al_73, as_73, al_74, as_74, al_75, as_75, al_76, as_76, al_78, as_78, al_79, as_79, al_80, as_80, al_81, as_81, al_82, as_82, al_83, as_83, al_84, as_84, al_85, as_85, al_86, as_86, al_87, as_87, al_88, as_88, al_89, as_89, al_90, as_90, al_91, as_91, al_92, as_92, al_93, as_93, al_94, as_94, al_95, as_95, al_96, as_96, al_97, as_97, al_98, as_98, al_61, as_61, al_62, as_62, al_99, as_99, al_82_0, as_82_0, al_83_32, as_83_32, al_83_33, as_83_33, ad0, ad8, ad16, ad24, ad_0, mu2, mu8, mu34, nI_add, nI_1, uI_mm, dvN, dvM, le88, e40, e40', m1, ei, f31, f69]
    · rintro d L μ ⟨j, I', x2, hj, rfl, h1, h2, h3, rfl⟩
      refine Or.inr ?_
      have hj8 : j < 8 := by omega
      have hT' : MT I' b T := MT_of hT (h3 _ _ (by decide)) (fun c j c1 c2 => h3 c j (by omega))
      have m1 := m_manyT n J f hT'
      have e31 : I' 60 31 = nI b := hT'.1.2
      have inv : ∀ v0 v1 v2 v3 : Int32, (j < tk T → v0 = I 71 (8 * b + j) ∧ v1 = I 72 (8 * b + j) ∧ v2 = I 73 (8 * b + j) ∧ v3 = I 74 (8 * b + j)) → (∀ i, i < j + 1 → i < tk T → u2 (u2 (u2 (u2 I' 83 j v0) 83 (8 + j) v1) 83 (16 + j) v2) 83 (24 + j) v3 83 i = I 71 (8 * b + i) ∧ u2 (u2 (u2 (u2 I' 83 j v0) 83 (8 + j) v1) 83 (16 + j) v2) 83 (24 + j) v3 83 (8 + i) = I 72 (8 * b + i) ∧ u2 (u2 (u2 (u2 I' 83 j v0) 83 (8 + j) v1) 83 (16 + j) v2) 83 (24 + j) v3 83 (16 + i) = I 73 (8 * b + i) ∧ u2 (u2 (u2 (u2 I' 83 j v0) 83 (8 + j) v1) 83 (16 + j) v2) 83 (24 + j) v3 83 (24 + i) = I 74 (8 * b + i)) ∧ u2 (u2 (u2 (u2 I' 83 j v0) 83 (8 + j) v1) 83 (16 + j) v2) 83 (24 + j) v3 83 32 = 0 ∧ ∀ c i, c ≠ 83 → u2 (u2 (u2 (u2 I' 83 j v0) 83 (8 + j) v1) 83 (16 + j) v2) 83 (24 + j) v3 c i = I c i := by
        intro v0 v1 v2 v3 hvs
        refine ⟨fun i hi hik => ?_, ?_, fun c i hc => ?_⟩
        · by_cases e : i = j
          · subst e
            obtain ⟨r0, r1, r2, r3⟩ := hvs hik
            refine ⟨?_, ?_, ?_, ?_⟩
            · rw [u2_j (by omega), u2_j (by omega), u2_j (by omega), u2_s]; exact r0
            · rw [u2_j (by omega), u2_j (by omega), u2_s]; exact r1
            · rw [u2_j (by omega), u2_s]; exact r2
            · rw [u2_s]; exact r3
          · obtain ⟨r0, r1, r2, r3⟩ := h1 i (by omega) hik
            refine ⟨?_, ?_, ?_, ?_⟩
            · rw [u2_j (by omega), u2_j (by omega), u2_j (by omega), u2_j (by omega)]; exact r0
            · rw [u2_j (by omega), u2_j (by omega), u2_j (by omega), u2_j (by omega)]; exact r1
            · rw [u2_j (by omega), u2_j (by omega), u2_j (by omega), u2_j (by omega)]; exact r2
            · rw [u2_j (by omega), u2_j (by omega), u2_j (by omega), u2_j (by omega)]; exact r3
        · rw [u2_j (by omega), u2_j (by omega), u2_j (by omega), u2_j (by omega)]; exact h2
        · rw [u2_a hc, u2_a hc, u2_a hc, u2_a hc]; exact h3 c i hc
      have fr : ∀ (K : Nat → Nat → Int32) (c i k : Nat) (x : Int32), c ≠ 83 → u2 K 83 k x c i = K c i := fun K c i k x hc => u2_a hc
      have a31 : ∀ (K : Nat → Nat → Int32) k x, u2 K 83 k x 60 31 = K 60 31 := fun K k x => u2_a (by decide)
      have a71 : ∀ (K : Nat → Nat → Int32) k x i, u2 K 83 k x 71 i = K 71 i := fun K k x i => u2_a (by decide)
      have a72 : ∀ (K : Nat → Nat → Int32) k x i, u2 K 83 k x 72 i = K 72 i := fun K k x i => u2_a (by decide)
      have a73 : ∀ (K : Nat → Nat → Int32) k x i, u2 K 83 k x 73 i = K 73 i := fun K k x i => u2_a (by decide)
      have a74 : ∀ (K : Nat → Nat → Int32) k x i, u2 K 83 k x 74 i = K 74 i := fun K k x i => u2_a (by decide)
      by_cases hjk : j < tk T
      · have c1 : ¬ tk T ≤ j := by omega
        obtain ⟨i1, i2, i3⟩ := inv (I' 71 (8 * b + j)) (I' 72 (8 * b + j)) (I' 73 (8 * b + j)) (I' 74 (8 * b + j)) (fun _ => ⟨h3 _ _ (by decide), h3 _ _ (by decide), h3 _ _ (by decide), h3 _ _ (by decide)⟩)
        refine ⟨_, _, ⟨j + 1, _, some (.int 1), by omega, rfl, i1, i2, i3, rfl⟩, fun r => ?_⟩
        have q1 : ¬ (1 : Int32) = 0 := by decide
        simp (disch := omega) only [kX12_layTold_23, kX12_layTold_42, kX12_layTold_72, kX12_layTold_103, kX12_layTold_134, kX12_layTold_165, x_no, x_cst, x_ldI, x_ldJ, x_ldA, x_stI, x_stJ, x_stA, x_inc, x_bin, x_un, x_i2l, x_bnJ, x_lshl, x_lcmp, x_dup, x_dp2, x_gI, x_gJ, x_gA, x_pI, x_pZ, x_pJ, x_pA, x_c0, x_c2, x_sw, x_cV, x_cS, x_rV, x_rI, x_rZ, x_rJ, x_mm, x_pop, msel, mpl, mvr, mnw, List.getElem?_cons_zero, List.getElem?_cons_succ, List.set_cons_zero, List.set_cons_succ, List.length_cons, List.length_nil, List.drop_succ_cons, List.drop_zero, List.take_succ_cons, List.take_zero, List.reverse_cons, List.reverse_nil, List.nil_append, List.cons_append, List.append_nil, List.map_cons, List.map_nil, List.sum_cons, List.sum_nil, Option.toList_some, Option.toList_none, Option.bind_some, Value.category, decide_eq_true_eq, decide_true, decide_false, if_true, if_false, Bool.false_eq_true, and_self, and_true, true_and, true_or, or_true, not_true_eq_false, not_false_eq_true, ↓reduceIte, reduceCtorEq, Nat.reduceEqDiff, Nat.reduceAdd, Nat.reduceSub, Nat.reduceMul, Nat.reduceLT, Nat.reduceLeDiff, Nat.reduceBEq, Nat.le_refl, Nat.zero_le, Nat.lt_irrefl, beq_self_eq_true, Nat.succ_ne_zero, Option.some.injEq, Prod.mk.injEq, Int32.reduceLT, Int32.reduceLE, y_60, rt_60_0, rt_60_1, rt_60_11, rt_60_12, rt_60_13, rt_60_14, rt_60_15, rt_60_16, rt_60_17, rt_60_18, rt_60_19, rt_60_20, rt_60_21, rt_60_22, rt_60_23, rt_60_24, rt_60_25, rt_60_26, rt_60_27, rt_60_28, rt_60_29, rt_60_30, rt_60_39, rt_60_41, rt_60_42, rt_60_45, rt_60_46, rt_60_47, rt_60_49, rt_60_50, rt_60_51, rt_60_52, rt_60_53, rt_60_54, rt_60_55, rt_60_56, rt_60_59, rt_60_61, rt_60_62, al_63, as_63, al_64, as_64, al_65, as_65, al_66, as_66, al_67, as_67, al_68, as_68, al_69, as_69, al_70, as_70, al_71, as_71, al_72, as_72, al_73, as_73, al_74, as_74, al_75, as_75, al_76, as_76, al_78, as_78, al_79, as_79, al_80, as_80, al_81, as_81, al_82, as_82, al_83, as_83, al_84, as_84, al_85, as_85, al_86, as_86, al_87, as_87, al_88, as_88, al_89, as_89, al_90, as_90, al_91, as_91, al_92, as_92, al_93, as_93, al_94, as_94, al_95, as_95, al_96, as_96, al_97, as_97, al_98, as_98, al_61, as_61, al_62, as_62, al_99, as_99, al_82_0, as_82_0, al_83_32, as_83_32, al_83_33, as_83_33, ad0, ad8, ad16, ad24, ad_0, mu2, mu8, mu34, nI_add, nI_1, uI_mm, dvN, dvM, nle8 hj8, m1, nI_leI, c1, q1, e31, a31, a71, a72, a73, a74]
      · have c1 : tk T ≤ j := by omega
        obtain ⟨i1, i2, i3⟩ := inv (-1) 0 0 0 (fun h => absurd h hjk)
        refine ⟨_, _, ⟨j + 1, _, some (.int 0), by omega, rfl, i1, i2, i3, rfl⟩, fun r => ?_⟩
        simp (disch := omega) only [kX12_layTold_23, kX12_layTold_42, kX12_layTold_72, kX12_layTold_103, kX12_layTold_134, kX12_layTold_165, x_no, x_cst, x_ldI, x_ldJ, x_ldA, x_stI, x_stJ, x_stA, x_inc, x_bin, x_un, x_i2l, x_bnJ, x_lshl, x_lcmp, x_dup, x_dp2, x_gI, x_gJ, x_gA, x_pI, x_pZ, x_pJ, x_pA, x_c0, x_c2, x_sw, x_cV, x_cS, x_rV, x_rI, x_rZ, x_rJ, x_mm, x_pop, msel, mpl, mvr, mnw, List.getElem?_cons_zero, List.getElem?_cons_succ, List.set_cons_zero, List.set_cons_succ, List.length_cons, List.length_nil, List.drop_succ_cons, List.drop_zero, List.take_succ_cons, List.take_zero, List.reverse_cons, List.reverse_nil, List.nil_append, List.cons_append, List.append_nil, List.map_cons, List.map_nil, List.sum_cons, List.sum_nil, Option.toList_some, Option.toList_none, Option.bind_some, Value.category, decide_eq_true_eq, decide_true, decide_false, if_true, if_false, Bool.false_eq_true, and_self, and_true, true_and, true_or, or_true, not_true_eq_false, not_false_eq_true, ↓reduceIte, reduceCtorEq, Nat.reduceEqDiff, Nat.reduceAdd, Nat.reduceSub, Nat.reduceMul, Nat.reduceLT, Nat.reduceLeDiff, Nat.reduceBEq, Nat.le_refl, Nat.zero_le, Nat.lt_irrefl, beq_self_eq_true, Nat.succ_ne_zero, Option.some.injEq, Prod.mk.injEq, Int32.reduceLT, Int32.reduceLE, y_60, rt_60_0, rt_60_1, rt_60_11, rt_60_12, rt_60_13, rt_60_14, rt_60_15, rt_60_16, rt_60_17, rt_60_18, rt_60_19, rt_60_20, rt_60_21, rt_60_22, rt_60_23, rt_60_24, rt_60_25, rt_60_26, rt_60_27, rt_60_28, rt_60_29, rt_60_30, rt_60_39, rt_60_41, rt_60_42, rt_60_45, rt_60_46, rt_60_47, rt_60_49, rt_60_50, rt_60_51, rt_60_52, rt_60_53, rt_60_54, rt_60_55, rt_60_56, rt_60_59, rt_60_61, rt_60_62, al_63, as_63, al_64, as_64, al_65, as_65, al_66, as_66, al_67, as_67, al_68, as_68, al_69, as_69, al_70, as_70, al_71, as_71, al_72, as_72, al_73, as_73, al_74, as_74, al_75, as_75, al_76, as_76, al_78, as_78, al_79, as_79, al_80, as_80, al_81, as_81, al_82, as_82, al_83, as_83, al_84, as_84, al_85, as_85, al_86, as_86, al_87, as_87, al_88, as_88, al_89, as_89, al_90, as_90, al_91, as_91, al_92, as_92, al_93, as_93, al_94, as_94, al_95, as_95, al_96, as_96, al_97, as_97, al_98, as_98, al_61, as_61, al_62, as_62, al_99, as_99, al_82_0, as_82_0, al_83_32, as_83_32, al_83_33, as_83_33, ad0, ad8, ad16, ad24, ad_0, mu2, mu8, mu34, nI_add, nI_1, uI_mm, dvN, dvM, nle8 hj8, m1, nI_leI, c1, e31, a31, a71, a72, a73, a74]
  obtain ⟨I', k1, k2, k3⟩ := key
  refine ⟨I', ?_, k2, k3⟩
  have key2 := mit_for (G := kX12_layTold_2 n) (fun j => [some (.ref 60), some (.int (nI j)), none]) (fun j => mm (zI8 I j) J f) (B := 34) (fun j hj r => ?_) (show 34 < n by omega) (v := some (none, mm I' J f)) (fun r => ?_)
  · have z0 : zI8 I 0 = I := by funext c i; simp [zI8]
    rw [z0] at key2
    exact key2
  · have e1 : u2 (zI8 I j) 83 j 0 = zI8 I (j + 1) := by
      funext c i
      unfold u2 zI8
      by_cases h : c = 83
      · by_cases h2 : i = j
        · simp [h, h2]
        · have : (i < j) = (i < j + 1) := by apply propext; omega
          simp [h, h2, this]
      · simp [h]
    simp (disch := omega) only [kX12_layTold_2, x_no, x_cst, x_ldI, x_ldJ, x_ldA, x_stI, x_stJ, x_stA, x_inc, x_bin, x_un, x_i2l, x_bnJ, x_lshl, x_lcmp, x_dup, x_dp2, x_gI, x_gJ, x_gA, x_pI, x_pZ, x_pJ, x_pA, x_c0, x_c2, x_sw, x_cV, x_cS, x_rV, x_rI, x_rZ, x_rJ, x_mm, x_pop, msel, mpl, mvr, mnw, List.getElem?_cons_zero, List.getElem?_cons_succ, List.set_cons_zero, List.set_cons_succ, List.length_cons, List.length_nil, List.drop_succ_cons, List.drop_zero, List.take_succ_cons, List.take_zero, List.reverse_cons, List.reverse_nil, List.nil_append, List.cons_append, List.append_nil, List.map_cons, List.map_nil, List.sum_cons, List.sum_nil, Option.toList_some, Option.toList_none, Option.bind_some, Value.category, decide_eq_true_eq, decide_true, decide_false, if_true, if_false, Bool.false_eq_true, and_self, and_true, true_and, true_or, or_true, not_true_eq_false, not_false_eq_true, ↓reduceIte, reduceCtorEq, Nat.reduceEqDiff, Nat.reduceAdd, Nat.reduceSub, Nat.reduceMul, Nat.reduceLT, Nat.reduceLeDiff, Nat.reduceBEq, Nat.le_refl, Nat.zero_le, Nat.lt_irrefl, beq_self_eq_true, Nat.succ_ne_zero, Option.some.injEq, Prod.mk.injEq, Int32.reduceLT, Int32.reduceLE, y_60, rt_60_0, rt_60_1, rt_60_11, rt_60_12, rt_60_13, rt_60_14, rt_60_15, rt_60_16, rt_60_17, rt_60_18, rt_60_19, rt_60_20, rt_60_21, rt_60_22, rt_60_23, rt_60_24, rt_60_25, rt_60_26, rt_60_27, rt_60_28, rt_60_29, rt_60_30, rt_60_39, rt_60_41, rt_60_42, rt_60_45, rt_60_46, rt_60_47, rt_60_49, rt_60_50, rt_60_51, rt_60_52, rt_60_53, rt_60_54, rt_60_55, rt_60_56, rt_60_59, rt_60_61, rt_60_62, al_63, as_63, al_64, as_64, al_65, as_65, al_66, as_66, al_67, as_67, al_68, as_68, al_69, as_69, al_70, as_70, al_71, as_71, al_72, as_72, al_73, as_73, al_74, as_74, al_75, as_75, al_76, as_76, al_78, as_78, al_79, as_79, al_80, as_80, al_81, as_81, al_82, as_82, al_83, as_83, al_84, as_84, al_85, as_85, al_86, as_86, al_87, as_87, al_88, as_88, al_89, as_89, al_90, as_90, al_91, as_91, al_92, as_92, al_93, as_93, al_94, as_94, al_95, as_95, al_96, as_96, al_97, as_97, al_98, as_98, al_61, as_61, al_62, as_62, al_99, as_99, al_82_0, as_82_0, al_83_32, as_83_32, al_83_33, as_83_33, ad0, ad8, ad16, ad24, ad_0, mu2, mu8, mu34, nI_add, nI_1, uI_mm, dvN, dvM, nle34 hj, e1]
  · simp (disch := omega) only [kX12_layTold_2, x_no, x_cst, x_ldI, x_ldJ, x_ldA, x_stI, x_stJ, x_stA, x_inc, x_bin, x_un, x_i2l, x_bnJ, x_lshl, x_lcmp, x_dup, x_dp2, x_gI, x_gJ, x_gA, x_pI, x_pZ, x_pJ, x_pA, x_c0, x_c2, x_sw, x_cV, x_cS, x_rV, x_rI, x_rZ, x_rJ, x_mm, x_pop, msel, mpl, mvr, mnw, List.getElem?_cons_zero, List.getElem?_cons_succ, List.set_cons_zero, List.set_cons_succ, List.length_cons, List.length_nil, List.drop_succ_cons, List.drop_zero, List.take_succ_cons, List.take_zero, List.reverse_cons, List.reverse_nil, List.nil_append, List.cons_append, List.append_nil, List.map_cons, List.map_nil, List.sum_cons, List.sum_nil, Option.toList_some, Option.toList_none, Option.bind_some, Value.category, decide_eq_true_eq, decide_true, decide_false, if_true, if_false, Bool.false_eq_true, and_self, and_true, true_and, true_or, or_true, not_true_eq_false, not_false_eq_true, ↓reduceIte, reduceCtorEq, Nat.reduceEqDiff, Nat.reduceAdd, Nat.reduceSub, Nat.reduceMul, Nat.reduceLT, Nat.reduceLeDiff, Nat.reduceBEq, Nat.le_refl, Nat.zero_le, Nat.lt_irrefl, beq_self_eq_true, Nat.succ_ne_zero, Option.some.injEq, Prod.mk.injEq, Int32.reduceLT, Int32.reduceLE, y_60, rt_60_0, rt_60_1, rt_60_11, rt_60_12, rt_60_13, rt_60_14, rt_60_15, rt_60_16, rt_60_17, rt_60_18, rt_60_19, rt_60_20, rt_60_21, rt_60_22, rt_60_23, rt_60_24, rt_60_25, rt_60_26, rt_60_27, rt_60_28, rt_60_29, rt_60_30, rt_60_39, rt_60_41, rt_60_42, rt_60_45, rt_60_46, rt_60_47, rt_60_49, rt_60_50, rt_60_51, rt_60_52, rt_60_53, rt_60_54, rt_60_55, rt_60_56, rt_60_59, rt_60_61, rt_60_62, al_63, as_63, al_64, as_64, al_65, as_65, al_66, as_66, al_67, as_67, al_68, as_68, al_69, as_69, al_70, as_70, al_71, as_71, al_72, as_72, al_73, as_73, al_74, as_74, al_75, as_75, al_76, as_76, al_78, as_78, al_79, as_79, al_80, as_80, al_81, as_81, al_82, as_82, al_83, as_83, al_84, as_84, al_85, as_85, al_86, as_86, al_87, as_87, al_88, as_88, al_89, as_89, al_90, as_90, al_91, as_91, al_92, as_92, al_93, as_93, al_94, as_94, al_95, as_95, al_96, as_96, al_97, as_97, al_98, as_98, al_61, as_61, al_62, as_62, al_99, as_99, al_82_0, as_82_0, al_83_32, as_83_32, al_83_33, as_83_33, ad0, ad8, ad16, ad24, ad_0, mu2, mu8, mu34, nI_add, nI_1, uI_mm, dvN, dvM, le34, k1]
theorem in_th (T : TA) (v : Option Nat) (j : Nat) : inA T (thS T v) j = inA T (tS T) j := by cases v <;> rfl
theorem in_qu (T : TA) (S : SA) (j : Nat) : ∀ y, inA T (quI T S y) j = inA T S j := by
  intro y
  induction y with
  | zero => rfl
  | succ y ih => exact ih
theorem bo_qu (T : TA) (S : SA) (j : Nat) : ∀ y, sbo (quI T S y) j = sbo S j := by
  intro y
  induction y with
  | zero => rfl
  | succ y ih => exact ih
theorem pos_qu (T : TA) (S : SA) (j : Nat) : ∀ y, pos (quI T S y) j = pos S j := by
  intro y
  induction y with
  | zero => rfl
  | succ y ih => exact ih
theorem many_th (ht : TRg T) (v : Option Nat) (y : Nat) : manyA T (quI T (thS T v) y) = tk T := by
  have hk := ht.1
  have hall := ht.2.2.2.2.2.2.2.2.2
  unfold manyA
  rw [cn_congr (Q := fun j => decide (j < tk T)) 8 (fun j _ => by
    rw [in_qu, in_th]
    unfold inA
    by_cases e : j < tk T
    · simp [e, hall j e]
    · simp [e])]
  rw [← cn_k hk (fun j hj => by simp; omega)]
  have : ∀ m, m ≤ tk T → cn (fun j => decide (j < tk T)) m = m := by
    intro m
    induction m with
    | zero => intro _; rfl
    | succ m ih =>
      intro hm
      unfold cn
      rw [if_pos (by simp; omega), ih (by omega)]
  exact this _ (Nat.le_refl _)
theorem lc_in (ht : TRg T) (hk : 0 < tk T) (v : Option Nat) (y : Nat) : inA T (quI T (thS T v) y) (lcar T) = true := by
  rw [in_qu, in_th]
  have hall := ht.2.2.2.2.2.2.2.2.2 (lcar T) (by unfold lcar; omega)
  unfold inA
  rw [hall]
  simp only [Bool.and_true, decide_eq_true_eq]
  unfold lcar; omega
theorem ho_qu (ht : TRg T) (hk : 0 < tk T) {h : Nat} (hh : h ≤ 99) : ∀ y, sho (quI T (thS T (some h)) y) (lcar T) = htY T h y := by
  intro y
  induction y with
  | zero =>
    show (if lcar T = lcar T then h else _) = h
    rw [if_pos rfl]
  | succ y ih =>
    have hin := lc_in ht hk (some h) y
    have hc8 : lcar T < 8 := by have := ht.1; unfold lcar; omega
    show (if lcar T < 8 ∧ inA T (quI T (thS T (some h)) y) (lcar T) = true then sho (quI T (thS T (some h)) y) (lcar T) - softN T (quI T (thS T (some h)) y) (lcar T) (nI (manyA T (quI T (thS T (some h)) y))) else _) = _
    rw [if_pos ⟨hc8, hin⟩, ih, many_th ht]
    show htY T h y - softN T (quI T (thS T (some h)) y) (lcar T) (nI (tk T)) = htY T h y - _
    congr 1
    unfold softN softC
    rw [ih, bo_qu, pos_qu, quI_yr]
    have e0 : syr (thS T (some h)) + y = y := by
      have : syr (thS T (some h)) = 0 := ht.2.2.2.2.2.2.1
      omega
    rw [e0]
    rfl
theorem tab_eq (ht : TRg T) (hk : 0 < tk T) {h : Nat} (hh : h ≤ 99) (y : Nat) : worthC T (quI T (thS T (some h)) y) (lcar T) (nI (manyA T (quI T (thS T (some h)) y))) = tabW T h y := by
  rw [many_th ht]
  unfold worthC
  rw [ho_qu ht hk hh, bo_qu, pos_qu, quI_yr]
  have e0 : syr (thS T (some h)) + y = y := by
    have : syr (thS T (some h)) = 0 := ht.2.2.2.2.2.2.1
    omega
  rw [e0]
  rfl
def TabM (I : Nat → Nat → Int32) (T : TA) : Prop := ∀ h y, h < 100 → y < 21 → I 91 (21 * h + y) = tabW T h y
/-- what the tables may change -/
def LWf (I I' : Nat → Nat → Int32) : Prop := (∀ c j, c ≠ 60 → c ≠ 82 → c ≠ 83 → c ≠ 84 → c ≠ 91 → I' c j = I c j) ∧ ∀ j, j ≠ 37 → j ≠ 38 → j ≠ 40 → I' 60 j = I 60 j
theorem LWf.tr {I I' I'' : Nat → Nat → Int32} (h1 : LWf I I') (h2 : LWf I' I'') : LWf I I'' := ⟨fun c j a1 a2 a3 a4 a5 => (h2.1 c j a1 a2 a3 a4 a5).trans (h1.1 c j a1 a2 a3 a4 a5), fun j a1 a2 a3 => (h2.2 j a1 a2 a3).trans (h1.2 j a1 a2 a3)⟩
theorem GF.lw {I I' : Nat → Nat → Int32} (h : GF I I') : LWf I I' := ⟨fun c j a1 a2 a3 a4 _ => h.1 c j a1 a2 a3 a4, fun j a1 a2 _ => h.2 j a1 a2⟩
theorem MT_LW {I' : Nat → Nat → Int32} (h : MT I b T) (w : LWf I I') : MT I' b T := MT_of h (w.2 31 (by decide) (by decide) (by decide)) (fun c j c1 c2 => w.1 c j (by omega) (by omega) (by omega) (by omega) (by omega))
theorem mu21 (c : Nat) : (21 : Int32) * nI c = nI (21 * c) := by rw [show (21 : Int32) = nI 21 from rfl, pk_mul]
set_option maxHeartbeats 8000000 in
theorem m_lw_in (hn : 300 < n) (J : Nat → Nat → Int64) (f : Nat) (ht : TRg T) (hk : 0 < tk T) {h : Nat} (hh : h < 100) (o : MO I b T (thS T (some h))) : ∃ I', (∀ r6, mit (kX12_layWorths_23 n r6) n [some (.ref 60), some (.int (nI h)), some (.int 0)] [] (mm I J f) = r6 [some (.ref 60), some (.int (nI (h + 1))), some (.int (nI 21))] [] (mm I' J f)) ∧ (∀ y, y < 21 → I' 91 (21 * h + y) = tabW T h y) ∧ (∀ i, i < 21 * h → I' 91 i = I 91 i) ∧ LWf I I' ∧ I' 60 40 = I 60 40 := by
  have key := mit_indR (G := fun s => kX12_layWorths_23 n s) (fun d L μ => ∃ (y : Nat) (I' : Nat → Nat → Int32), y + d = 21 ∧ μ = mm I' J f ∧ MO I' b T (quI T (thS T (some h)) y) ∧ (∀ z, z < y → I' 91 (21 * h + z) = tabW T h z) ∧ (∀ i, i < 21 * h → I' 91 i = I 91 i) ∧ LWf I I' ∧ I' 60 40 = I 60 40 ∧ L = [some (.ref 60), some (.int (nI h)), some (.int (nI y))]) (fun L μ => ∃ I', L = [some (.ref 60), some (.int (nI (h + 1))), some (.int (nI 21))] ∧ μ = mm I' J f ∧ (∀ y, y < 21 → I' 91 (21 * h + y) = tabW T h y) ∧ (∀ i, i < 21 * h → I' 91 i = I 91 i) ∧ LWf I I' ∧ I' 60 40 = I 60 40) ?_ ?_ 21 n [some (.ref 60), some (.int (nI h)), some (.int 0)] (mm I J f) (by omega) ⟨0, I, rfl, rfl, o, fun z hz => by omega, fun _ _ => rfl, ⟨fun _ _ _ _ _ _ _ => rfl, fun _ _ _ _ => rfl⟩, rfl, rfl⟩
  · obtain ⟨_, _, ⟨I', rfl, rfl, h1, h2, h3, h4⟩, h5⟩ := key
    exact ⟨I', h5, h1, h2, h3, h4⟩
  · rintro L μ ⟨y, I', hy, rfl, o', h1, h2, h3, h4, rfl⟩
    have : y = 21 := by omega
    subst this
    refine ⟨_, _, fun s r => ?_, I', rfl, rfl, h1, h2, h3, h4⟩
    have c1 : (20 : Int32) < nI 21 := by decide
    simp (disch := omega) only [kX12_layWorths_23, x_no, x_cst, x_ldI, x_ldJ, x_ldA, x_stI, x_stJ, x_stA, x_inc, x_bin, x_un, x_i2l, x_bnJ, x_lshl, x_lcmp, x_dup, x_dp2, x_gI, x_gJ, x_gA, x_pI, x_pZ, x_pJ, x_pA, x_c0, x_c2, x_sw, x_cV, x_cS, x_rV, x_rI, x_rZ, x_rJ, x_mm, x_pop, msel, mpl, mvr, mnw, List.getElem?_cons_zero, List.getElem?_cons_succ, List.set_cons_zero, List.set_cons_succ, List.length_cons, List.length_nil, List.drop_succ_cons, List.drop_zero, List.take_succ_cons, List.take_zero, List.reverse_cons, List.reverse_nil, List.nil_append, List.cons_append, List.append_nil, List.map_cons, List.map_nil, List.sum_cons, List.sum_nil, Option.toList_some, Option.toList_none, Option.bind_some, Value.category, decide_eq_true_eq, decide_true, decide_false, if_true, if_false, Bool.false_eq_true, and_self, and_true, true_and, true_or, or_true, not_true_eq_false, not_false_eq_true, ↓reduceIte, reduceCtorEq, Nat.reduceEqDiff, Nat.reduceAdd, Nat.reduceSub, Nat.reduceMul, Nat.reduceLT, Nat.reduceLeDiff, Nat.reduceBEq, Nat.le_refl, Nat.zero_le, Nat.lt_irrefl, beq_self_eq_true, Nat.succ_ne_zero, Option.some.injEq, Prod.mk.injEq, Int32.reduceLT, Int32.reduceLE, y_60, rt_60_0, rt_60_1, rt_60_11, rt_60_12, rt_60_13, rt_60_14, rt_60_15, rt_60_16, rt_60_17, rt_60_18, rt_60_19, rt_60_20, rt_60_21, rt_60_22, rt_60_23, rt_60_24, rt_60_25, rt_60_26, rt_60_27, rt_60_28, rt_60_29, rt_60_30, rt_60_39, rt_60_41, rt_60_42, rt_60_45, rt_60_46, rt_60_47, rt_60_49, rt_60_50, rt_60_51, rt_60_52, rt_60_53, rt_60_54, rt_60_55, rt_60_56, rt_60_59, rt_60_61, rt_60_62, al_63, as_63, al_64, as_64, al_65, as_65, al_66, as_66, al_67, as_67, al_68, as_68, al_69, as_69, al_70, as_70, al_71, as_71, al_72, as_72, al_73, as_73, al_74, as_74, al_75, as_75, al_76, as_76, al_78, as_78, al_79, as_79, al_80, as_80, al_81, as_81, al_82, as_82, al_83, as_83, al_84, as_84, al_85, as_85, al_86, as_86, al_87, as_87, al_88, as_88, al_89, as_89, al_90, as_90, al_91, as_91, al_92, as_92, al_93, as_93, al_94, as_94, al_95, as_95, al_96, as_96, al_97, as_97, al_98, as_98, al_61, as_61, al_62, as_62, al_99, as_99, al_82_0, as_82_0, al_83_32, as_83_32, al_83_33, as_83_33, ad0, ad8, ad16, ad24, ad_0, mu2, mu8, mu34, nI_add, nI_1, uI_mm, dvN, dvM, c1]
  · rintro d L μ ⟨y, I', hy, rfl, o', h1, h2, h3, h4, rfl⟩
    refine Or.inr ?_
    have c1 : ¬ (20 : Int32) < nI y := by
      rw [show (20 : Int32) = nI 20 from rfl, nI_ltI (by decide) (by omega)]; omega
    have m1 := m_many n J f o'
    have ei : nI (tk T) - 1 = nI (lcar T) := by rw [show (1 : Int32) = nI 1 from rfl, pk_sub (by omega)]; rfl
    obtain ⟨I2, g1, g2⟩ := m_worthOf hn J f o' (lc_in ht hk (some h) y)
    rw [tab_eq ht hk (show h ≤ 99 by omega)] at g1
    have o3 : MO (u2 I2 91 (21 * h + y) (tabW T h y)) b T (quI T (thS T (some h)) y) := MO_of (MO_MF o' g2) (u2_a (by decide)) (fun c j hc => u2_a (by omega))
    have hyr : syr (quI T (thS T (some h)) y) < 2000 := by
      rw [quI_yr]
      have : syr (thS T (some h)) = 0 := ht.2.2.2.2.2.2.1
      omega
    obtain ⟨I3, g3, g4, g5⟩ := m_goYear hn J f o3 hyr
    have lw : LWf I' I3 := (g2.gf.lw).tr (LWf.tr ⟨fun c j _ _ _ _ a5 => u2_a a5, fun j _ _ _ => u2_a (by decide)⟩ g5.lw)
    have f91 : ∀ i, i ≠ 21 * h + y → I3 91 i = I' 91 i := fun i hi => by rw [g5.1 91 i (by decide) (by decide) (by decide) (by decide), u2_j hi, g2.1 91 i (by decide) (by decide)]
    refine ⟨_, _, ⟨y + 1, I3, by omega, rfl, g4, fun z hz => ?_, fun i hi => ?_, h3.tr lw, ?_, rfl⟩, fun s r => ?_⟩
    · by_cases e : z = y
      · subst e
        rw [g5.1 91 _ (by decide) (by decide) (by decide) (by decide), u2_s]
      · rw [f91 _ (by omega)]; exact h1 z (by omega)
    · rw [f91 _ (by omega)]; exact h2 i hi
    · rw [g5.2 40 (by decide) (by decide), u2_a (by decide), g2.2 40 (by decide) (by decide)]; exact h4
    · simp (disch := omega) only [kX12_layWorths_23, x_no, x_cst, x_ldI, x_ldJ, x_ldA, x_stI, x_stJ, x_stA, x_inc, x_bin, x_un, x_i2l, x_bnJ, x_lshl, x_lcmp, x_dup, x_dp2, x_gI, x_gJ, x_gA, x_pI, x_pZ, x_pJ, x_pA, x_c0, x_c2, x_sw, x_cV, x_cS, x_rV, x_rI, x_rZ, x_rJ, x_mm, x_pop, msel, mpl, mvr, mnw, List.getElem?_cons_zero, List.getElem?_cons_succ, List.set_cons_zero, List.set_cons_succ, List.length_cons, List.length_nil, List.drop_succ_cons, List.drop_zero, List.take_succ_cons, List.take_zero, List.reverse_cons, List.reverse_nil, List.nil_append, List.cons_append, List.append_nil, List.map_cons, List.map_nil, List.sum_cons, List.sum_nil, Option.toList_some, Option.toList_none, Option.bind_some, Value.category, decide_eq_true_eq, decide_true, decide_false, if_true, if_false, Bool.false_eq_true, and_self, and_true, true_and, true_or, or_true, not_true_eq_false, not_false_eq_true, ↓reduceIte, reduceCtorEq, Nat.reduceEqDiff, Nat.reduceAdd, Nat.reduceSub, Nat.reduceMul, Nat.reduceLT, Nat.reduceLeDiff, Nat.reduceBEq, Nat.le_refl, Nat.zero_le, Nat.lt_irrefl, beq_self_eq_true, Nat.succ_ne_zero, Option.some.injEq, Prod.mk.injEq, Int32.reduceLT, Int32.reduceLE, y_60, rt_60_0, rt_60_1, rt_60_11, rt_60_12, rt_60_13, rt_60_14, rt_60_15, rt_60_16, rt_60_17, rt_60_18, rt_60_19, rt_60_20, rt_60_21, rt_60_22, rt_60_23, rt_60_24, rt_60_25, rt_60_26, rt_60_27, rt_60_28, rt_60_29, rt_60_30, rt_60_39, rt_60_41, rt_60_42, rt_60_45, rt_60_46, rt_60_47, rt_60_49, rt_60_50, rt_60_51, rt_60_52, rt_60_53, rt_60_54, rt_60_55, rt_60_56, rt_60_59, rt_60_61, rt_60_62, al_63, as_63, al_64, as_64, al_65, as_65, al_66, as_66, al_67, as_67, al_68, as_68, al_69, as_69, al_70, as_70, al_71, as_71, al_72, as_72, al_73, as_73, al_74, as_74, al_75, as_75, al_76, as_76, al_78, as_78, al_79, as_79, al_80, as_80, al_81, as_81, al_82, as_82, al_83, as_83, al_84, as_84, al_85, as_85, al_86, as_86, al_87, as_87, al_88, as_88, al_89, as_89, al_90, as_90, al_91, as_91, al_92, as_92, al_93, as_93, al_94, as_94, al_95, as_95, al_96, as_96, al_97, as_97, al_98, as_98, al_61, as_61, al_62, as_62, al_99, as_99, al_82_0, as_82_0, al_83_32, as_83_32, al_83_33, as_83_33, ad0, ad8, ad16, ad24, ad_0, mu2, mu8, mu34, nI_add, nI_1, uI_mm, dvN, dvM, c1, mu21, m1, ei, g1, g3]
set_option maxHeartbeats 8000000 in
theorem m_layWorths (hn : 300 < n) (J : Nat → Nat → Int64) (f : Nat) (o : MO I b T S) (hk : 0 < tk T) (h40 : I 60 40 = -1) : ∃ I', FX12_layWorths n [.ref 60] (mm I J f) = some (none, mm I' J f) ∧ TabM I' T ∧ QMf I I' := by
  have ht := o.1
  simp only [eX12_layWorths, kX12_layWorths_0, x_no, x_cst, x_ldI, x_ldJ, x_ldA, x_stI, x_stJ, x_stA, x_inc, x_bin, x_un, x_i2l, x_bnJ, x_lshl, x_lcmp, x_dup, x_dp2, x_gI, x_gJ, x_gA, x_pI, x_pZ, x_pJ, x_pA, x_c0, x_c2, x_sw, x_cV, x_cS, x_rV, x_rI, x_rZ, x_rJ, x_mm, x_pop, msel, mpl, mvr, mnw, List.getElem?_cons_zero, List.getElem?_cons_succ, List.set_cons_zero, List.set_cons_succ, List.length_cons, List.length_nil, List.drop_succ_cons, List.drop_zero, List.take_succ_cons, List.take_zero, List.reverse_cons, List.reverse_nil, List.nil_append, List.cons_append, List.append_nil, List.map_cons, List.map_nil, List.sum_cons, List.sum_nil, Option.toList_some, Option.toList_none, Option.bind_some, Value.category, decide_eq_true_eq, decide_true, decide_false, if_true, if_false, Bool.false_eq_true, and_self, and_true, true_and, true_or, or_true, not_true_eq_false, not_false_eq_true, ↓reduceIte, reduceCtorEq, Nat.reduceEqDiff, Nat.reduceAdd, Nat.reduceSub, Nat.reduceMul, Nat.reduceLT, Nat.reduceLeDiff, Nat.reduceBEq, Nat.le_refl, Nat.zero_le, Nat.lt_irrefl, beq_self_eq_true, Nat.succ_ne_zero, Option.some.injEq, Prod.mk.injEq, Int32.reduceLT, Int32.reduceLE, y_60, rt_60_0, rt_60_1, rt_60_11, rt_60_12, rt_60_13, rt_60_14, rt_60_15, rt_60_16, rt_60_17, rt_60_18, rt_60_19, rt_60_20, rt_60_21, rt_60_22, rt_60_23, rt_60_24, rt_60_25, rt_60_26, rt_60_27, rt_60_28, rt_60_29, rt_60_30, rt_60_39, rt_60_41, rt_60_42, rt_60_45, rt_60_46, rt_60_47, rt_60_49, rt_60_50, rt_60_51, rt_60_52, rt_60_53, rt_60_54, rt_60_55, rt_60_56, rt_60_59, rt_60_61, rt_60_62, al_63, as_63, al_64, as_64, al_65, as_65, al_66, as_66, al_67, as_67, al_68, as_68, al_69, as_69, al_70, as_70, al_71, as_71, al_72, as_72, al_73, as_73, al_74, as_74, al_75, as_75, al_76, as_76, al_78, as_78, al_79, as_79, al_80, as_80, al_81, as_81, al_82, as_82, al_83, as_83, al_84, as_84, al_85, as_85, al_86, as_86, al_87, as_87, al_88, as_88, al_89, as_89, al_90, as_90, al_91, as_91, al_92, as_92, al_93, as_93, al_94, as_94, al_95, as_95, al_96, as_96, al_97, as_97, al_98, as_98, al_61, as_61, al_62, as_62, al_99, as_99, al_82_0, as_82_0, al_83_32, as_83_32, al_83_33, as_83_33, ad0, ad8, ad16, ad24, ad_0, mu2, mu8, mu34, nI_add, nI_1, uI_mm, dvN, dvM, m_keepNow (show 34 < n by omega) J f I]
  have o1 := MO_kept o
  refine mit_ind (G := kX12_layWorths_6 n) (fun d L μ => ∃ (h : Nat) (I' : Nat → Nat → Int32) (x2 : Option Value), h + d = 100 ∧ μ = mm I' J f ∧ (∀ z y, z < h → y < 21 → I' 91 (21 * z + y) = tabW T z y) ∧ LWf (cp I 83 86 34) I' ∧ L = [some (.ref 60), some (.int (nI h)), x2]) (fun w => ∃ I', w = some (none, mm I' J f) ∧ TabM I' T ∧ QMf I I') ?_ ?_ 100 n _ _ (by omega) ⟨0, cp I 83 86 34, none, rfl, rfl, fun z y hz => by omega, ⟨fun _ _ _ _ _ _ _ => rfl, fun _ _ _ _ => rfl⟩, rfl⟩
  · rintro L μ ⟨h, I', x2, hh, rfl, h1, h2, rfl⟩
    have : h = 100 := by omega
    subst this
    refine ⟨_, fun r => ?_, cp (u2 I' 60 40 (-1)) 86 83 34, rfl, fun z y hz hy => ?_, ⟨fun c j a1 a2 a3 => ?_, fun j hj => ?_, fun j a1 a2 a3 => ?_⟩⟩
    · have c1 : (99 : Int32) < nI 100 := by decide
      simp (disch := omega) only [kX12_layWorths_6, x_no, x_cst, x_ldI, x_ldJ, x_ldA, x_stI, x_stJ, x_stA, x_inc, x_bin, x_un, x_i2l, x_bnJ, x_lshl, x_lcmp, x_dup, x_dp2, x_gI, x_gJ, x_gA, x_pI, x_pZ, x_pJ, x_pA, x_c0, x_c2, x_sw, x_cV, x_cS, x_rV, x_rI, x_rZ, x_rJ, x_mm, x_pop, msel, mpl, mvr, mnw, List.getElem?_cons_zero, List.getElem?_cons_succ, List.set_cons_zero, List.set_cons_succ, List.length_cons, List.length_nil, List.drop_succ_cons, List.drop_zero, List.take_succ_cons, List.take_zero, List.reverse_cons, List.reverse_nil, List.nil_append, List.cons_append, List.append_nil, List.map_cons, List.map_nil, List.sum_cons, List.sum_nil, Option.toList_some, Option.toList_none, Option.bind_some, Value.category, decide_eq_true_eq, decide_true, decide_false, if_true, if_false, Bool.false_eq_true, and_self, and_true, true_and, true_or, or_true, not_true_eq_false, not_false_eq_true, ↓reduceIte, reduceCtorEq, Nat.reduceEqDiff, Nat.reduceAdd, Nat.reduceSub, Nat.reduceMul, Nat.reduceLT, Nat.reduceLeDiff, Nat.reduceBEq, Nat.le_refl, Nat.zero_le, Nat.lt_irrefl, beq_self_eq_true, Nat.succ_ne_zero, Option.some.injEq, Prod.mk.injEq, Int32.reduceLT, Int32.reduceLE, y_60, rt_60_0, rt_60_1, rt_60_11, rt_60_12, rt_60_13, rt_60_14, rt_60_15, rt_60_16, rt_60_17, rt_60_18, rt_60_19, rt_60_20, rt_60_21, rt_60_22, rt_60_23, rt_60_24, rt_60_25, rt_60_26, rt_60_27, rt_60_28, rt_60_29, rt_60_30, rt_60_39, rt_60_41, rt_60_42, rt_60_45, rt_60_46, rt_60_47, rt_60_49, rt_60_50, rt_60_51, rt_60_52, rt_60_53, rt_60_54, rt_60_55, rt_60_56, rt_60_59, rt_60_61, rt_60_62, al_63, as_63, al_64, as_64, al_65, as_65, al_66, as_66, al_67, as_67, al_68, as_68, al_69, as_69, al_70, as_70, al_71, as_71, al_72, as_72, al_73, as_73, al_74, as_74, al_75, as_75, al_76, as_76, al_78, as_78, al_79, as_79, al_80, as_80, al_81, as_81, al_82, as_82, al_83, as_83, al_84, as_84, al_85, as_85, al_86, as_86, al_87, as_87, al_88, as_88, al_89, as_89, al_90, as_90, al_91, as_91, al_92, as_92, al_93, as_93, al_94, as_94, al_95, as_95, al_96, as_96, al_97, as_97, al_98, as_98, al_61, as_61, al_62, as_62, al_99, as_99, al_82_0, as_82_0, al_83_32, as_83_32, al_83_33, as_83_33, ad0, ad8, ad16, ad24, ad_0, mu2, mu8, mu34, nI_add, nI_1, uI_mm, dvN, dvM, c1, m_bringBack (show 34 < n by omega) J f (u2 I' 60 40 (-1))]
    · rw [cp_o (by decide), u2_a (by decide)]; exact h1 z y hz hy
    · rw [cp_o a2, u2_a a1, h2.1 c j a1 (fun e => a3 (by unfold mscr; omega)) a2 (fun e => a3 (by unfold mscr; omega)) (fun e => a3 (by unfold mscr; omega)), cp_o (fun e => a3 (by unfold mscr; omega))]
    · rw [cp_d hj, u2_a (by decide), h2.1 86 j (by decide) (by decide) (by decide) (by decide) (by decide), cp_d hj]
    · rw [cp_o (by decide)]
      by_cases e : j = 40
      · subst e; rw [u2_s, h40]
      · rw [u2_j e, h2.2 j a1 a2 e, cp_o (by decide)]
  · rintro d L μ ⟨h, I', x2, hh, rfl, h1, h2, rfl⟩
    refine Or.inr ?_
    have c1 : ¬ (99 : Int32) < nI h := by
      rw [show (99 : Int32) = nI 99 from rfl, nI_ltI (by decide) (by omega)]; omega
    have hT' : MT (u2 I' 60 40 (nI h)) b T := MT_of (MT_LW o1.2.1 h2) (u2_j (by decide)) (fun c j c1 c2 => u2_a (by omega))
    obtain ⟨I2, g1, g2, g3⟩ := m_layTold hn J f ht hT' (v := some h) u2_s (fun z hz => by cases hz; exact ⟨by omega, hk⟩)
    have lw2 : LWf I' I2 := ⟨fun c j a1 _ a3 _ _ => by rw [g3 c j a3, u2_a a1], fun j _ _ a3 => by rw [g3 60 j (by decide), u2_j a3]⟩
    obtain ⟨I3, k1, k2, k3, k4, k5⟩ := m_lw_in hn J f ht hk (show h < 100 by omega) g2
    refine ⟨[some (.ref 60), some (.int (nI (h + 1))), some (.int (nI 21))], mm I3 J f, ⟨h + 1, I3, some (.int (nI 21)), by omega, rfl, fun z y hz hy => ?_, h2.tr (lw2.tr k4), rfl⟩, fun r => ?_⟩
    · by_cases e : z = h
      · subst e; exact k2 y hy
      · rw [k3 _ (by omega), g3 91 _ (by decide), u2_a (by decide)]; exact h1 z y (by omega) hy
    · simp (disch := omega) only [kX12_layWorths_6, x_no, x_cst, x_ldI, x_ldJ, x_ldA, x_stI, x_stJ, x_stA, x_inc, x_bin, x_un, x_i2l, x_bnJ, x_lshl, x_lcmp, x_dup, x_dp2, x_gI, x_gJ, x_gA, x_pI, x_pZ, x_pJ, x_pA, x_c0, x_c2, x_sw, x_cV, x_cS, x_rV, x_rI, x_rZ, x_rJ, x_mm, x_pop, msel, mpl, mvr, mnw, List.getElem?_cons_zero, List.getElem?_cons_succ, List.set_cons_zero, List.set_cons_succ, List.length_cons, List.length_nil, List.drop_succ_cons, List.drop_zero, List.take_succ_cons, List.take_zero, List.reverse_cons, List.reverse_nil, List.nil_append, List.cons_append, List.append_nil, List.map_cons, List.map_nil, List.sum_cons, List.sum_nil, Option.toList_some, Option.toList_none, Option.bind_some, Value.category, decide_eq_true_eq, decide_true, decide_false, if_true, if_false, Bool.false_eq_true, and_self, and_true, true_and, true_or, or_true, not_true_eq_false, not_false_eq_true, ↓reduceIte, reduceCtorEq, Nat.reduceEqDiff, Nat.reduceAdd, Nat.reduceSub, Nat.reduceMul, Nat.reduceLT, Nat.reduceLeDiff, Nat.reduceBEq, Nat.le_refl, Nat.zero_le, Nat.lt_irrefl, beq_self_eq_true, Nat.succ_ne_zero, Option.some.injEq, Prod.mk.injEq, Int32.reduceLT, Int32.reduceLE, y_60, rt_60_0, rt_60_1, rt_60_11, rt_60_12, rt_60_13, rt_60_14, rt_60_15, rt_60_16, rt_60_17, rt_60_18, rt_60_19, rt_60_20, rt_60_21, rt_60_22, rt_60_23, rt_60_24, rt_60_25, rt_60_26, rt_60_27, rt_60_28, rt_60_29, rt_60_30, rt_60_39, rt_60_41, rt_60_42, rt_60_45, rt_60_46, rt_60_47, rt_60_49, rt_60_50, rt_60_51, rt_60_52, rt_60_53, rt_60_54, rt_60_55, rt_60_56, rt_60_59, rt_60_61, rt_60_62, al_63, as_63, al_64, as_64, al_65, as_65, al_66, as_66, al_67, as_67, al_68, as_68, al_69, as_69, al_70, as_70, al_71, as_71, al_72, as_72, al_73, as_73, al_74, as_74, al_75, as_75, al_76, as_76, al_78, as_78, al_79, as_79, al_80, as_80, al_81, as_81, al_82, as_82, al_83, as_83, al_84, as_84, al_85, as_85, al_86, as_86, al_87, as_87, al_88, as_88, al_89, as_89, al_90, as_90, al_91, as_91, al_92, as_92, al_93, as_93, al_94, as_94, al_95, as_95, al_96, as_96, al_97, as_97, al_98, as_98, al_61, as_61, al_62, as_62, al_99, as_99, al_82_0, as_82_0, al_83_32, as_83_32, al_83_33, as_83_33, ad0, ad8, ad16, ad24, ad_0, mu2, mu8, mu34, nI_add, nI_1, uI_mm, dvN, dvM, c1, g1, k1]
end MFits
