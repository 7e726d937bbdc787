/-! PURE: the model's jam -/
theorem line_dt {tp : List Nat} {i : Nat} {D : DR} {q : Nat × DR} (hD : dt D < 2048) (h : lineP tp i D = .ok q) : ¬ dt q.2 = 0 := by
  obtain ⟨-, -, -, -, o1, o2, o3, o4, o5, o6⟩ := or_bits (dt D) hD
  unfold lineP at h
  split at h
  · split at h
    · unfold strP at h
      obtain ⟨c, -, h⟩ := bnd_ok h
      obtain ⟨i1, -, h⟩ := bnd_ok h
      obtain ⟨r, -, h⟩ := bnd_ok h
      obtain ⟨i2, -, h⟩ := bnd_ok h
      cases h; exact o1
    · cases h
  split at h
  · split at h
    · unfold carP at h
      obtain ⟨i1, -, h⟩ := bnd_ok h
      obtain ⟨i2, -, h⟩ := bnd_ok h
      obtain ⟨p, -, h⟩ := bnd_ok h
      obtain ⟨i3, -, h⟩ := bnd_ok h
      obtain ⟨hh, -, h⟩ := bnd_ok h
      obtain ⟨i4, -, h⟩ := bnd_ok h
      obtain ⟨oo, -, h⟩ := bnd_ok h
      obtain ⟨bb, -, h⟩ := bnd_ok h
      obtain ⟨i5, -, h⟩ := bnd_ok h
      cases h; exact o2
    · cases h
  split at h
  · split at h
    · cases h
    · obtain ⟨s, -, h⟩ := bnd_ok h
      cases h; exact o3
  split at h
  · split at h
    · cases h
    · obtain ⟨s, -, h⟩ := bnd_ok h
      cases h; exact o4
  split at h
  · split at h
    · cases h
    · obtain ⟨v, -, h⟩ := bnd_ok h
      obtain ⟨i1, -, h⟩ := bnd_ok h
      cases h; exact o5
  split at h
  · split at h
    · cases h
    · obtain ⟨v, -, h⟩ := bnd_ok h
      obtain ⟨i1, -, h⟩ := bnd_ok h
      cases h; exact o6
  · cases h
section MJam2
variable {n : Nat} {I : Nat → Nat → Int32} {J : Nat → Nat → Int64} {tp : List Nat} {rb b : Nat} {A : AS}
theorem m_j74F (n ff m : Nat) {e : Nat × Nat} (h : FM I e) (x : Option Value) : mit (kX12_jam_74 n) (m + 1) [some (.ref 60), x] [] (mm I J ff) = kX12_jam_95 n [some (.ref 60), x] [] (mm I J ff) := by
  have gg := m_isGoodF (J := J) n ff h
  rw [mit_succ]
  simp only [kX12_jam_74, x_no, x_cst, x_ldI, x_ldJ, x_ldA, x_stI, x_stJ, x_stA, x_inc, x_bin, x_un, x_i2l, x_bnJ, x_lshl, x_lcmp, x_dup, x_dp2, x_gI, x_gJ, x_gA, x_pI, x_pZ, x_pJ, x_pA, x_c0, x_c2, x_sw, x_cV, x_cS, x_rV, x_rI, x_rZ, x_rJ, x_mm, x_pop, msel, mpl, mvr, mnw, List.getElem?_cons_zero, List.getElem?_cons_succ, List.set_cons_zero, List.set_cons_succ, List.length_cons, List.length_nil, List.drop_succ_cons, List.drop_zero, List.take_succ_cons, List.take_zero, List.reverse_cons, List.reverse_nil, List.nil_append, List.cons_append, List.append_nil, List.map_cons, List.map_nil, List.sum_cons, List.sum_nil, Option.toList_some, Option.toList_none, x_bs, Value.category, decide_eq_true_eq, decide_true, decide_false, if_true, if_false, Bool.false_eq_true, and_self, and_true, true_and, true_or, or_true, not_true_eq_false, not_false_eq_true, ↓reduceIte, reduceCtorEq, Nat.reduceEqDiff, Nat.reduceAdd, Nat.reduceSub, Nat.reduceMul, Nat.reduceLT, Nat.reduceLeDiff, Nat.reduceBEq, Nat.le_refl, Nat.zero_le, Nat.lt_irrefl, beq_self_eq_true, Nat.succ_ne_zero, Option.some.injEq, Prod.mk.injEq, Int32.reduceLT, Int32.reduceLE, y_60, rt_60_0, rt_60_1, rt_60_11, rt_60_12, rt_60_13, rt_60_14, rt_60_15, rt_60_16, rt_60_17, rt_60_18, rt_60_19, rt_60_20, rt_60_21, rt_60_22, rt_60_23, rt_60_24, rt_60_25, rt_60_26, rt_60_27, rt_60_28, rt_60_29, rt_60_30, rt_60_39, rt_60_41, rt_60_42, rt_60_45, rt_60_46, rt_60_47, rt_60_49, rt_60_50, rt_60_51, rt_60_52, rt_60_53, rt_60_54, rt_60_55, rt_60_56, rt_60_59, rt_60_61, rt_60_62, al_63, as_63, al_64, as_64, al_65, as_65, al_66, as_66, al_67, as_67, al_68, as_68, al_69, as_69, al_70, as_70, al_71, as_71, al_72, as_72, al_73, as_73, al_74, as_74, al_75, as_75, al_76, as_76, al_78, as_78, al_79, as_79, al_80, as_80, al_81, as_81, al_82, as_82, al_83, as_83, al_84, as_84, al_85, as_85, al_86, as_86, al_87, as_87, al_88, as_88, al_89, as_89, al_90, as_90, al_91, as_91, al_92, as_92, al_93, as_93, al_94, as_94, al_95, as_95, al_96, as_96, al_97, as_97, al_98, as_98, al_61, as_61, al_62, as_62, al_99, as_99, al_82_0, as_82_0, al_83_32, as_83_32, al_83_33, as_83_33, ad0, ad8, ad16, ad24, ad_0, mu2, mu8, mu34, nI_add, nI_1, uI_mm, dvN, dvM, gg]
/-- the lines, one behind another -/
theorem m_rlines (hn : 1700 < n) (ff : Nat) (x : Option Value) : ∀ (f : Nat) (I : Nat → Nat → Int32) (J : Nat → Nat → Int64) (i lt : Nat) (D : DR), RdM I J tp i → DrM I J tp rb lt D → DOK D → (lt = 0 ↔ dt D = 0) → lt ≤ i → zl tp - i < f → ∀ m,
    (∀ e, readP tp f i D = .error e → ∃ I' J', mit (kX12_jam_74 n) (m + f + 1) [some (.ref 60), x] [] (mm I J ff) = kX12_jam_95 n [some (.ref 60), x] [] (mm I' J' ff) ∧ FS tp I' e ∧ LG rb I I') ∧
    (∀ D', readP tp f i D = .ok D' → ∃ I' J' lt', mit (kX12_jam_74 n) (m + f + 1) [some (.ref 60), x] [] (mm I J ff) = kX12_jam_95 n [some (.ref 60), x] [] (mm I' J' ff) ∧ I' 60 4 = 0 ∧ DrM I' J' tp rb lt' D' ∧ DOK D' ∧ LG rb I I') := by
  intro f
  induction f with
  | zero => intro I J i lt D _ _ _ _ _ h; omega
  | succ f ih =>
    intro I J i lt D hr hd hD hlt hli hf m
    have gg := m_isGoodG n ff hr
    have q1 : ¬ (1 : Int32) = 0 := by decide
    have t8 := hr.2.1.2.2.1
    have kk := (mkk_1 _ (kn_rg tp i)).2.2.2.2.2
    have hz := hr.2.2.1
    have hl := (zl_ok tp).1
    have hl16 := hr.1.2.1
    rw [readP]
    by_cases c0 : kn tp i = 0
    · rw [if_pos c0]
      refine ⟨fun e he => (by cases he), fun D' he => ?_⟩
      cases he
      have d0 := kk.mpr c0
      refine ⟨I, J, lt, ?_, hr.2.2.2, hd, hD, LG.rf⟩
      rw [mit_succ]
      simp only [kX12_jam_74, x_no, x_cst, x_ldI, x_ldJ, x_ldA, x_stI, x_stJ, x_stA, x_inc, x_bin, x_un, x_i2l, x_bnJ, x_lshl, x_lcmp, x_dup, x_dp2, x_gI, x_gJ, x_gA, x_pI, x_pZ, x_pJ, x_pA, x_c0, x_c2, x_sw, x_cV, x_cS, x_rV, x_rI, x_rZ, x_rJ, x_mm, x_pop, msel, mpl, mvr, mnw, List.getElem?_cons_zero, List.getElem?_cons_succ, List.set_cons_zero, List.set_cons_succ, List.length_cons, List.length_nil, List.drop_succ_cons, List.drop_zero, List.take_succ_cons, List.take_zero, List.reverse_cons, List.reverse_nil, List.nil_append, List.cons_append, List.append_nil, List.map_cons, List.map_nil, List.sum_cons, List.sum_nil, Option.toList_some, Option.toList_none, x_bs, Value.category, decide_eq_true_eq, decide_true, decide_false, if_true, if_false, Bool.false_eq_true, and_self, and_true, true_and, true_or, or_true, not_true_eq_false, not_false_eq_true, ↓reduceIte, reduceCtorEq, Nat.reduceEqDiff, Nat.reduceAdd, Nat.reduceSub, Nat.reduceMul, Nat.reduceLT, Nat.reduceLeDiff, Nat.reduceBEq, Nat.le_refl, Nat.zero_le, Nat.lt_irrefl, beq_self_eq_true, Nat.succ_ne_zero, Option.some.injEq, Prod.mk.injEq, Int32.reduceLT, Int32.reduceLE, y_60, rt_60_0, rt_60_1, rt_60_11, rt_60_12, rt_60_13, rt_60_14, rt_60_15, rt_60_16, rt_60_17, rt_60_18, rt_60_19, rt_60_20, rt_60_21, rt_60_22, rt_60_23, rt_60_24, rt_60_25, rt_60_26, rt_60_27, rt_60_28, rt_60_29, rt_60_30, rt_60_39, rt_60_41, rt_60_42, rt_60_45, rt_60_46, rt_60_47, rt_60_49, rt_60_50, rt_60_51, rt_60_52, rt_60_53, rt_60_54, rt_60_55, rt_60_56, rt_60_59, rt_60_61, rt_60_62, al_63, as_63, al_64, as_64, al_65, as_65, al_66, as_66, al_67, as_67, al_68, as_68, al_69, as_69, al_70, as_70, al_71, as_71, al_72, as_72, al_73, as_73, al_74, as_74, al_75, as_75, al_76, as_76, al_78, as_78, al_79, as_79, al_80, as_80, al_81, as_81, al_82, as_82, al_83, as_83, al_84, as_84, al_85, as_85, al_86, as_86, al_87, as_87, al_88, as_88, al_89, as_89, al_90, as_90, al_91, as_91, al_92, as_92, al_93, as_93, al_94, as_94, al_95, as_95, al_96, as_96, al_97, as_97, al_98, as_98, al_61, as_61, al_62, as_62, al_99, as_99, al_82_0, as_82_0, al_83_32, as_83_32, al_83_33, as_83_33, ad0, ad8, ad16, ad24, ad_0, mu2, mu8, mu34, nI_add, nI_1, uI_mm, dvN, dvM, gg, q1, t8, d0]
    · rw [if_neg c0]
      have d0 : ¬ nI (mkk (kn tp i)) = 0 := fun z => c0 (kk.mp z)
      obtain ⟨l1, l2⟩ := m_readLine hn ff hr hd hD hlt (by omega)
      have st : ∀ I1 J1, FX12_readLine n [.ref 60] (mm I J ff) = some (none, mm I1 J1 ff) → mit (kX12_jam_74 n) (m + (f + 1) + 1) [some (.ref 60), x] [] (mm I J ff) = mit (kX12_jam_74 n) (m + f + 1) [some (.ref 60), x] [] (mm I1 J1 ff) := fun I1 J1 h => by
        rw [show m + (f + 1) + 1 = (m + f + 1) + 1 by omega, mit_succ]
        generalize mit (kX12_jam_74 n) (m + f + 1) = g
        simp only [kX12_jam_74, x_no, x_cst, x_ldI, x_ldJ, x_ldA, x_stI, x_stJ, x_stA, x_inc, x_bin, x_un, x_i2l, x_bnJ, x_lshl, x_lcmp, x_dup, x_dp2, x_gI, x_gJ, x_gA, x_pI, x_pZ, x_pJ, x_pA, x_c0, x_c2, x_sw, x_cV, x_cS, x_rV, x_rI, x_rZ, x_rJ, x_mm, x_pop, msel, mpl, mvr, mnw, List.getElem?_cons_zero, List.getElem?_cons_succ, List.set_cons_zero, List.set_cons_succ, List.length_cons, List.length_nil, List.drop_succ_cons, List.drop_zero, List.take_succ_cons, List.take_zero, List.reverse_cons, List.reverse_nil, List.nil_append, List.cons_append, List.append_nil, List.map_cons, List.map_nil, List.sum_cons, List.sum_nil, Option.toList_some, Option.toList_none, x_bs, Value.category, decide_eq_true_eq, decide_true, decide_false, if_true, if_false, Bool.false_eq_true, and_self, and_true, true_and, true_or, or_true, not_true_eq_false, not_false_eq_true, ↓reduceIte, reduceCtorEq, Nat.reduceEqDiff, Nat.reduceAdd, Nat.reduceSub, Nat.reduceMul, Nat.reduceLT, Nat.reduceLeDiff, Nat.reduceBEq, Nat.le_refl, Nat.zero_le, Nat.lt_irrefl, beq_self_eq_true, Nat.succ_ne_zero, Option.some.injEq, Prod.mk.injEq, Int32.reduceLT, Int32.reduceLE, y_60, rt_60_0, rt_60_1, rt_60_11, rt_60_12, rt_60_13, rt_60_14, rt_60_15, rt_60_16, rt_60_17, rt_60_18, rt_60_19, rt_60_20, rt_60_21, rt_60_22, rt_60_23, rt_60_24, rt_60_25, rt_60_26, rt_60_27, rt_60_28, rt_60_29, rt_60_30, rt_60_39, rt_60_41, rt_60_42, rt_60_45, rt_60_46, rt_60_47, rt_60_49, rt_60_50, rt_60_51, rt_60_52, rt_60_53, rt_60_54, rt_60_55, rt_60_56, rt_60_59, rt_60_61, rt_60_62, al_63, as_63, al_64, as_64, al_65, as_65, al_66, as_66, al_67, as_67, al_68, as_68, al_69, as_69, al_70, as_70, al_71, as_71, al_72, as_72, al_73, as_73, al_74, as_74, al_75, as_75, al_76, as_76, al_78, as_78, al_79, as_79, al_80, as_80, al_81, as_81, al_82, as_82, al_83, as_83, al_84, as_84, al_85, as_85, al_86, as_86, al_87, as_87, al_88, as_88, al_89, as_89, al_90, as_90, al_91, as_91, al_92, as_92, al_93, as_93, al_94, as_94, al_95, as_95, al_96, as_96, al_97, as_97, al_98, as_98, al_61, as_61, al_62, as_62, al_99, as_99, al_82_0, as_82_0, al_83_32, as_83_32, al_83_33, as_83_33, ad0, ad8, ad16, ad24, ad_0, mu2, mu8, mu34, nI_add, nI_1, uI_mm, dvN, dvM, gg, q1, t8, d0, h]
      cases hL : lineP tp i D with
      | error e =>
        refine ⟨fun e' he => ?_, fun D' he => by cases he⟩
        cases he
        obtain ⟨I1, J1, k1, k2, k3⟩ := l1 e hL
        exact ⟨I1, J1, by rw [st I1 J1 k1]; exact m_j74F n ff _ k2.1 x, k2, k3⟩
      | ok q =>
        obtain ⟨I1, J1, k1, k2, k3, k4⟩ := l2 q hL
        obtain ⟨g1, g2, g3⟩ := lineP_ok hD hz hL
        have g4 := line_dt hD.1 hL
        obtain ⟨r1, r2⟩ := ih I1 J1 q.1 (lt + 1) q.2 k2 k3 g3 ⟨fun z => by omega, fun z => absurd z g4⟩ (by omega) (by omega) m
        refine ⟨fun e he => ?_, fun D' he => ?_⟩
        · obtain ⟨I2, J2, y1, y2, y3⟩ := r1 e he
          exact ⟨I2, J2, by rw [st I1 J1 k1]; exact y1, y2, k4.tr y3⟩
        · obtain ⟨I2, J2, lt2, y1, y2, y3, y4, y5⟩ := r2 D' he
          exact ⟨I2, J2, lt2, by rw [st I1 J1 k1]; exact y1, y2, y3, y4, k4.tr y5⟩
/-- the text is the tape -/
def txI (I : Nat → Nat → Int32) (k : Nat) : Nat → Nat → Int32 := fun b j => if b = 62 ∧ j < k then I 61 j else I b j
theorem i8_i8t (x : Nat) : ((nI x).toInt8.toInt32).toInt8.toInt32 = (nI x).toInt8.toInt32 := i8_i8 _
set_option maxHeartbeats 8000000 in
theorem m_jam (hn : 2000 < n) (J : Nat → Nat → Int64) (f : Nat) (h : RM I b A) : ∃ I' J' b', FX12_jam n [.ref 60] (mm I J f) = some (some (.int (aJam A)), mm I' J' f) ∧ RM I' b' (sJam A) ∧ hiM I I' := by
  obtain ⟨h1, h2, h3, h4, h5, h6, h7, h8, h9⟩ := h
  obtain ⟨t1, t2, t3⟩ := h7
  have hb2 := h1.2.1.1.1
  have hb31 := h1.2.1.1.2
  obtain ⟨I1, hI1⟩ : ∃ I1, I1 = u2 (u2 (u2 I 60 4 0) 60 5 (-1)) 60 3 (nI (aTp A).length) := ⟨_, rfl⟩
  have e2 : u2 (u2 I 60 4 0) 60 5 (-1) 60 2 = nI (aTp A).length := by rw [u2_j (by decide), u2_j (by decide)]; exact t1
  have f1 : ∀ j, j ≠ 3 → j ≠ 4 → j ≠ 5 → I1 60 j = I 60 j := fun j j1 j2 j3 => by rw [hI1, u2_j j1, u2_j j3, u2_j j2]
  have o1 : ∀ c j, c ≠ 60 → I1 c j = I c j := fun c j hc => by rw [hI1, u2_a hc, u2_a hc, u2_a hc]
  have e3 : I1 60 3 = nI (aTp A).length := by rw [hI1, u2_s]
  have txo : ∀ k c j, c ≠ 62 → txI I1 k c j = I1 c j := fun k c j hc => by unfold txI; rw [if_neg (fun z => hc z.1)]
  -- the bank that isn't in use
  obtain ⟨rb, hrb, hrb2, hne⟩ : ∃ rb, rb < 2 ∧ (1 : Int32) - nI b = nI rb ∧ rb ≠ b := by
    rcases (show b = 0 ∨ b = 1 by omega) with z | z
    · exact ⟨1, by decide, by rw [z]; rfl, by omega⟩
    · exact ⟨0, by decide, by rw [z]; rfl, by omega⟩
  obtain ⟨I2, hI2⟩ : ∃ I2, I2 = u2 (u2 (u2 (txI I1 (aTp A).length) 60 2 0) 60 7 0) 60 32 (nI rb) := ⟨_, rfl⟩
  have f2 : ∀ j, j ≠ 2 → j ≠ 7 → j ≠ 32 → I2 60 j = I1 60 j := fun j j1 j2 j3 => by rw [hI2, u2_j j3, u2_j j2, u2_j j1, txo _ 60 j (by decide)]
  have o2 : ∀ c j, c ≠ 60 → c ≠ 62 → I2 c j = I c j := fun c j hc hc2 => by rw [hI2, u2_a hc, u2_a hc, u2_a hc, txo _ c j hc2, o1 c j hc]
  have e32 : I2 60 32 = nI rb := by rw [hI2, u2_s]
  have e5 : I2 60 5 = -1 := by rw [f2 5 (by decide) (by decide) (by decide), hI1, u2_j (by decide), u2_s]
  have tx2 : TxM I2 (aTp A) := by
    refine ⟨by rw [f2 3 (by decide) (by decide) (by decide)]; exact e3, t2, fun i hi => ⟨?_, (t3 i hi).2⟩⟩
    rw [hI2, u2_a (by decide), u2_a (by decide), u2_a (by decide)]
    unfold txI
    rw [if_pos ⟨rfl, hi⟩, o1 61 i (by decide)]
    exact (t3 i hi).1
  have cb := m_clearBank (J := J) n f hrb e32
  have dr := cb_Dr (J := J) (tp := aTp A) hrb e32 e5
  have cbo : ∀ c j, (c < 63 ∨ 70 < c ∨ j ≠ rb) → (c ≠ 60 ∨ j ≠ 33) → cbI I2 rb c j = I2 c j := fun c j a1 a2 => cb_o a1 a2
  have tx3 : TxM (cbI I2 rb) (aTp A) := TxM_of tx2 (cbo 60 3 (by omega) (by omega)) (fun j => cbo 62 j (by omega) (by omega))
  obtain ⟨I4, J4, g1, g2, g3⟩ := m_goOn0 (J := J) (by omega : 1700 < n) f tx3 (by rw [cbo 60 7 (by omega) (by omega), hI2, u2_j (by decide), u2_s]) (by rw [cbo 60 4 (by omega) (by omega), f2 4 (by decide) (by decide) (by decide), hI1, u2_j (by decide), u2_j (by decide), u2_s])
  have dr4 := DrM_g dr g3
  have hl := (zl_ok (aTp A)).1
  have ml := m_rlines (tp := aTp A) (rb := rb) (by omega : 1700 < n) f (some (.int (nI (aTp A).length))) (zl (aTp A) + 2) I4 J4 0 0 dr0 g2 dr4 DOK0 ⟨fun _ => rfl, fun _ => rfl⟩ (Nat.le_refl _) (by omega) (n - (zl (aTp A) + 2) - 1)
  rw [show n - (zl (aTp A) + 2) - 1 + (zl (aTp A) + 2) + 1 = n by omega] at ml
  -- the tape is copied
  have run : FX12_jam n [.ref 60] (mm I J f) = mit (kX12_jam_74 n) n [some (.ref 60), some (.int (nI (aTp A).length))] [] (mm I4 J4 f) := by
    have e0 : txI I1 0 = I1 := by
      funext c j; unfold txI; rw [if_neg (by omega)]
    have key := mit_for (G := kX12_jam_20 n) (fun j => [some (.ref 60), some (.int (nI j))]) (fun j => mm (txI I1 j) J f) (B := (aTp A).length) (fun j hj r => ?_) (show (aTp A).length < n by omega) (v := mit (kX12_jam_74 n) n [some (.ref 60), some (.int (nI (aTp A).length))] [] (mm I4 J4 f)) (fun r => ?_)
    · simp only [e0] at key
      rw [← key]
      show _ = mit (kX12_jam_20 n) n [some (.ref 60), some (.int 0)] [] (mm I1 J f)
      simp only [eX12_jam, kX12_jam_0, x_no, x_cst, x_ldI, x_ldJ, x_ldA, x_stI, x_stJ, x_stA, x_inc, x_bin, x_un, x_i2l, x_bnJ, x_lshl, x_lcmp, x_dup, x_dp2, x_gI, x_gJ, x_gA, x_pI, x_pZ, x_pJ, x_pA, x_c0, x_c2, x_sw, x_cV, x_cS, x_rV, x_rI, x_rZ, x_rJ, x_mm, x_pop, msel, mpl, mvr, mnw, List.getElem?_cons_zero, List.getElem?_cons_succ, List.set_cons_zero, List.set_cons_succ, List.length_cons, List.length_nil, List.drop_succ_cons, List.drop_zero, List.take_succ_cons, List.take_zero, List.reverse_cons, List.reverse_nil, List.nil_append, List.cons_append, List.append_nil, List.map_cons, List.map_nil, List.sum_cons, List.sum_nil, Option.toList_some, Option.toList_none, x_bs, Value.category, decide_eq_true_eq, decide_true, decide_false, if_true, if_false, Bool.false_eq_true, and_self, and_true, true_and, true_or, or_true, not_true_eq_false, not_false_eq_true, ↓reduceIte, reduceCtorEq, Nat.reduceEqDiff, Nat.reduceAdd, Nat.reduceSub, Nat.reduceMul, Nat.reduceLT, Nat.reduceLeDiff, Nat.reduceBEq, Nat.le_refl, Nat.zero_le, Nat.lt_irrefl, beq_self_eq_true, Nat.succ_ne_zero, Option.some.injEq, Prod.mk.injEq, Int32.reduceLT, Int32.reduceLE, y_60, rt_60_0, rt_60_1, rt_60_11, rt_60_12, rt_60_13, rt_60_14, rt_60_15, rt_60_16, rt_60_17, rt_60_18, rt_60_19, rt_60_20, rt_60_21, rt_60_22, rt_60_23, rt_60_24, rt_60_25, rt_60_26, rt_60_27, rt_60_28, rt_60_29, rt_60_30, rt_60_39, rt_60_41, rt_60_42, rt_60_45, rt_60_46, rt_60_47, rt_60_49, rt_60_50, rt_60_51, rt_60_52, rt_60_53, rt_60_54, rt_60_55, rt_60_56, rt_60_59, rt_60_61, rt_60_62, al_63, as_63, al_64, as_64, al_65, as_65, al_66, as_66, al_67, as_67, al_68, as_68, al_69, as_69, al_70, as_70, al_71, as_71, al_72, as_72, al_73, as_73, al_74, as_74, al_75, as_75, al_76, as_76, al_78, as_78, al_79, as_79, al_80, as_80, al_81, as_81, al_82, as_82, al_83, as_83, al_84, as_84, al_85, as_85, al_86, as_86, al_87, as_87, al_88, as_88, al_89, as_89, al_90, as_90, al_91, as_91, al_92, as_92, al_93, as_93, al_94, as_94, al_95, as_95, al_96, as_96, al_97, as_97, al_98, as_98, al_61, as_61, al_62, as_62, al_99, as_99, al_82_0, as_82_0, al_83_32, as_83_32, al_83_33, as_83_33, ad0, ad8, ad16, ad24, ad_0, mu2, mu8, mu34, nI_add, nI_1, uI_mm, dvN, dvM, e2, ← hI1]
    · have s3 : txI I1 j 60 3 = nI (aTp A).length := by rw [txo _ 60 3 (by decide)]; exact e3
      have nle : ¬ nI (aTp A).length ≤ nI j := by rw [nI_leI (by omega) (by omega)]; omega
      have v61 : txI I1 j 61 j = (nI ((aTp A).getD j 0)).toInt8.toInt32 := by rw [txo _ 61 j (by decide), o1 61 j (by decide)]; exact (t3 j hj).1
      have eu : u2 (txI I1 j) 62 j (mnw 1 (txI I1 j 61 j)) = txI I1 (j + 1) := by
        funext c k
        have mv : mnw 1 (txI I1 j 61 j) = I1 61 j := by
          rw [v61]
          show ((nI ((aTp A).getD j 0)).toInt8.toInt32).toInt8.toInt32 = _
          rw [i8_i8t, o1 61 j (by decide)]
          exact ((t3 j hj).1).symm
        rw [mv]
        unfold u2 txI
        by_cases e : c = 62
        · by_cases e2 : k = j
          · rw [if_pos ⟨e, e2⟩, if_pos ⟨e, by omega⟩, e2]
          · rw [if_neg (fun z => e2 z.2)]
            by_cases e3 : k < j
            · rw [if_pos ⟨e, e3⟩, if_pos ⟨e, by omega⟩]
            · rw [if_neg (fun z => e3 z.2), if_neg (by omega)]
        · rw [if_neg (fun z => e z.1), if_neg (fun z => e z.1), if_neg (fun z => e z.1)]
      have a61 : ∀ (k : mK) (L : List (Option Value)) (S : List Value), i_al 1 k L (.int (nI j) :: .ref 61 :: S) (mm (txI I1 j) J f) = k L (.int (txI I1 j 61 j) :: S) (mm (txI I1 j) J f) := fun k L S => alT y_61 (by decide) (by omega)
      have a62 : ∀ (k : mK) (L : List (Option Value)) (S : List Value), i_as 1 k L (.int (txI I1 j 61 j) :: .int (nI j) :: .ref 62 :: S) (mm (txI I1 j) J f) = k L S (mm (txI I1 (j + 1)) J f) := fun k L S => by
        rw [asT y_62 (by decide) (by omega), eu]
      simp only [kX12_jam_20, x_no, x_cst, x_ldI, x_ldJ, x_ldA, x_stI, x_stJ, x_stA, x_inc, x_bin, x_un, x_i2l, x_bnJ, x_lshl, x_lcmp, x_dup, x_dp2, x_gI, x_gJ, x_gA, x_pI, x_pZ, x_pJ, x_pA, x_c0, x_c2, x_sw, x_cV, x_cS, x_rV, x_rI, x_rZ, x_rJ, x_mm, x_pop, msel, mpl, mvr, mnw, List.getElem?_cons_zero, List.getElem?_cons_succ, List.set_cons_zero, List.set_cons_succ, List.length_cons, List.length_nil, List.drop_succ_cons, List.drop_zero, List.take_succ_cons, List.take_zero, List.reverse_cons, List.reverse_nil, List.nil_append, List.cons_append, List.append_nil, List.map_cons, List.map_nil, List.sum_cons, List.sum_nil, Option.toList_some, Option.toList_none, x_bs, Value.category, decide_eq_true_eq, decide_true, decide_false, if_true, if_false, Bool.false_eq_true, and_self, and_true, true_and, true_or, or_true, not_true_eq_false, not_false_eq_true, ↓reduceIte, reduceCtorEq, Nat.reduceEqDiff, Nat.reduceAdd, Nat.reduceSub, Nat.reduceMul, Nat.reduceLT, Nat.reduceLeDiff, Nat.reduceBEq, Nat.le_refl, Nat.zero_le, Nat.lt_irrefl, beq_self_eq_true, Nat.succ_ne_zero, Option.some.injEq, Prod.mk.injEq, Int32.reduceLT, Int32.reduceLE, y_60, rt_60_0, rt_60_1, rt_60_11, rt_60_12, rt_60_13, rt_60_14, rt_60_15, rt_60_16, rt_60_17, rt_60_18, rt_60_19, rt_60_20, rt_60_21, rt_60_22, rt_60_23, rt_60_24, rt_60_25, rt_60_26, rt_60_27, rt_60_28, rt_60_29, rt_60_30, rt_60_39, rt_60_41, rt_60_42, rt_60_45, rt_60_46, rt_60_47, rt_60_49, rt_60_50, rt_60_51, rt_60_52, rt_60_53, rt_60_54, rt_60_55, rt_60_56, rt_60_59, rt_60_61, rt_60_62, al_63, as_63, al_64, as_64, al_65, as_65, al_66, as_66, al_67, as_67, al_68, as_68, al_69, as_69, al_70, as_70, al_71, as_71, al_72, as_72, al_73, as_73, al_74, as_74, al_75, as_75, al_76, as_76, al_78, as_78, al_79, as_79, al_80, as_80, al_81, as_81, al_82, as_82, al_83, as_83, al_84, as_84, al_85, as_85, al_86, as_86, al_87, as_87, al_88, as_88, al_89, as_89, al_90, as_90, al_91, as_91, al_92, as_92, al_93, as_93, al_94, as_94, al_95, as_95, al_96, as_96, al_97, as_97, al_98, as_98, al_61, as_61, al_62, as_62, al_99, as_99, al_82_0, as_82_0, al_83_32, as_83_32, al_83_33, as_83_33, ad0, ad8, ad16, ad24, ad_0, mu2, mu8, mu34, nI_add, nI_1, uI_mm, dvN, dvM, s3, nle, a61, a62]
    · have le := Int32.le_refl (nI (aTp A).length)
      have s3 : txI I1 (aTp A).length 60 3 = nI (aTp A).length := by rw [txo _ 60 3 (by decide)]; exact e3
      have s31 : u2 (u2 (txI I1 (aTp A).length) 60 2 0) 60 7 0 60 31 = nI b := by rw [u2_j (by decide), u2_j (by decide), txo _ 60 31 (by decide), f1 31 (by decide) (by decide) (by decide)]; exact hb31
      simp only [kX12_jam_20, x_no, x_cst, x_ldI, x_ldJ, x_ldA, x_stI, x_stJ, x_stA, x_inc, x_bin, x_un, x_i2l, x_bnJ, x_lshl, x_lcmp, x_dup, x_dp2, x_gI, x_gJ, x_gA, x_pI, x_pZ, x_pJ, x_pA, x_c0, x_c2, x_sw, x_cV, x_cS, x_rV, x_rI, x_rZ, x_rJ, x_mm, x_pop, msel, mpl, mvr, mnw, List.getElem?_cons_zero, List.getElem?_cons_succ, List.set_cons_zero, List.set_cons_succ, List.length_cons, List.length_nil, List.drop_succ_cons, List.drop_zero, List.take_succ_cons, List.take_zero, List.reverse_cons, List.reverse_nil, List.nil_append, List.cons_append, List.append_nil, List.map_cons, List.map_nil, List.sum_cons, List.sum_nil, Option.toList_some, Option.toList_none, x_bs, Value.category, decide_eq_true_eq, decide_true, decide_false, if_true, if_false, Bool.false_eq_true, and_self, and_true, true_and, true_or, or_true, not_true_eq_false, not_false_eq_true, ↓reduceIte, reduceCtorEq, Nat.reduceEqDiff, Nat.reduceAdd, Nat.reduceSub, Nat.reduceMul, Nat.reduceLT, Nat.reduceLeDiff, Nat.reduceBEq, Nat.le_refl, Nat.zero_le, Nat.lt_irrefl, beq_self_eq_true, Nat.succ_ne_zero, Option.some.injEq, Prod.mk.injEq, Int32.reduceLT, Int32.reduceLE, y_60, rt_60_0, rt_60_1, rt_60_11, rt_60_12, rt_60_13, rt_60_14, rt_60_15, rt_60_16, rt_60_17, rt_60_18, rt_60_19, rt_60_20, rt_60_21, rt_60_22, rt_60_23, rt_60_24, rt_60_25, rt_60_26, rt_60_27, rt_60_28, rt_60_29, rt_60_30, rt_60_39, rt_60_41, rt_60_42, rt_60_45, rt_60_46, rt_60_47, rt_60_49, rt_60_50, rt_60_51, rt_60_52, rt_60_53, rt_60_54, rt_60_55, rt_60_56, rt_60_59, rt_60_61, rt_60_62, al_63, as_63, al_64, as_64, al_65, as_65, al_66, as_66, al_67, as_67, al_68, as_68, al_69, as_69, al_70, as_70, al_71, as_71, al_72, as_72, al_73, as_73, al_74, as_74, al_75, as_75, al_76, as_76, al_78, as_78, al_79, as_79, al_80, as_80, al_81, as_81, al_82, as_82, al_83, as_83, al_84, as_84, al_85, as_85, al_86, as_86, al_87, as_87, al_88, as_88, al_89, as_89, al_90, as_90, al_91, as_91, al_92, as_92, al_93, as_93, al_94, as_94, al_95, as_95, al_96, as_96, al_97, as_97, al_98, as_98, al_61, as_61, al_62, as_62, al_99, as_99, al_82_0, as_82_0, al_83_32, as_83_32, al_83_33, as_83_33, ad0, ad8, ad16, ad24, ad_0, mu2, mu8, mu34, nI_add, nI_1, uI_mm, dvN, dvM, s3, le, s31, hrb2, ← hI2, cb, g1]
  -- what the other bank, and all else, keeps
  have keep : ∀ c j, c ≠ 60 → c ≠ 62 → (63 ≤ c → c ≤ 70 → j ≠ rb) → I4 c j = I c j := fun c j c1 c2 c3 => by
    rw [g3.1 c j (Or.inl c1), cbo c j (by omega) (Or.inl c1), o2 c j c1 c2]
  have keep60 : ∀ j, 9 < j → j ≠ 32 → j ≠ 33 → I4 60 j = I 60 j := fun j j1 j2 j3 => by
    rw [g3.1 60 j (by omega), cbo 60 j (by omega) (by omega), f2 j (by omega) (by omega) j2, f1 j (by omega) (by omega) (by omega)]
  have z2 : I4 60 2 = 0 := by rw [g3.1 60 2 (by omega), cbo 60 2 (by omega) (by omega), hI2, u2_j (by decide), u2_j (by decide), u2_s]
  unfold sJam aJam jamR
  cases hr : readP (aTp A) (zl (aTp A) + 2) 0 dr0 with
  | error e =>
    obtain ⟨I5, J5, k1, k2, k3⟩ := ml.1 e hr
    have lg : ∀ c j, c ≠ 60 → (63 ≤ c → c ≤ 70 → j ≠ rb) → (71 ≤ c → c ≤ 74 → j < 8 * rb ∨ 8 * rb + 8 ≤ j) → (c = 75 ∨ c = 76 → j < 2 * rb ∨ 2 * rb + 2 ≤ j) → (c = 78 ∨ c = 79 → j < 560 * rb ∨ 560 * rb + 560 ≤ j) → c ≠ 62 → c ≠ 80 → c ≠ 81 → I5 c j = I c j := fun c j a0 a1 a2 a3 a4 a5 a6 a7 => by
      rw [k3 c j (fun z => absurd z a0) a1 a2 a3 a4 a6 a7, keep c j a0 a5 a1]
    have lg60 : ∀ j, 9 < j → j ≠ 32 → j < 33 ∨ 36 < j → I5 60 j = I 60 j := fun j j1 j2 j3 => by
      rw [k3 60 j (fun _ => by omega) (by omega) (by omega) (by omega) (by omega) (by decide) (by decide), keep60 j j1 j2 (by omega)]
    have hi : ∀ c j, 82 < c → I5 c j = I c j := fun c j hc => lg c j (by omega) (by omega) (by omega) (by omega) (by omega) (by omega) (by omega) (by omega)
    have gF := m_isGoodF (J := J5) n f k2.1
    refine ⟨I5, J5, b, ?_, ⟨?_, h2, HiM_of h1.k8 h3 (lg60 43 (by decide) (by decide) (by decide)) (lg60 44 (by decide) (by decide) (by decide)) (fun j => hi 85 j (by decide)), RowM_of h4 (lg60 48 (by decide) (by decide) (by decide)) (fun j => hi 87 j (by decide)), HM_of h5 (lg60 57 (by decide) (by decide) (by decide)) (lg60 58 (by decide) (by decide) (by decide)) (fun c j c1 _ => hi c j (by omega)), BxM_of h1.k8 h6 (fun j => hi 98 j (by decide)) (fun j => hi 99 j (by decide)), ⟨?_, Nat.zero_le _, fun i hi => absurd hi (by show ¬ i < 0; omega)⟩, ⟨k2.1.1, k2.1.2.1⟩, ?_⟩, fun c j hc => ?_⟩
    · rw [run, k1]
      simp only [kX12_jam_95, x_no, x_cst, x_ldI, x_ldJ, x_ldA, x_stI, x_stJ, x_stA, x_inc, x_bin, x_un, x_i2l, x_bnJ, x_lshl, x_lcmp, x_dup, x_dp2, x_gI, x_gJ, x_gA, x_pI, x_pZ, x_pJ, x_pA, x_c0, x_c2, x_sw, x_cV, x_cS, x_rV, x_rI, x_rZ, x_rJ, x_mm, x_pop, msel, mpl, mvr, mnw, List.getElem?_cons_zero, List.getElem?_cons_succ, List.set_cons_zero, List.set_cons_succ, List.length_cons, List.length_nil, List.drop_succ_cons, List.drop_zero, List.take_succ_cons, List.take_zero, List.reverse_cons, List.reverse_nil, List.nil_append, List.cons_append, List.append_nil, List.map_cons, List.map_nil, List.sum_cons, List.sum_nil, Option.toList_some, Option.toList_none, x_bs, Value.category, decide_eq_true_eq, decide_true, decide_false, if_true, if_false, Bool.false_eq_true, and_self, and_true, true_and, true_or, or_true, not_true_eq_false, not_false_eq_true, ↓reduceIte, reduceCtorEq, Nat.reduceEqDiff, Nat.reduceAdd, Nat.reduceSub, Nat.reduceMul, Nat.reduceLT, Nat.reduceLeDiff, Nat.reduceBEq, Nat.le_refl, Nat.zero_le, Nat.lt_irrefl, beq_self_eq_true, Nat.succ_ne_zero, Option.some.injEq, Prod.mk.injEq, Int32.reduceLT, Int32.reduceLE, y_60, rt_60_0, rt_60_1, rt_60_11, rt_60_12, rt_60_13, rt_60_14, rt_60_15, rt_60_16, rt_60_17, rt_60_18, rt_60_19, rt_60_20, rt_60_21, rt_60_22, rt_60_23, rt_60_24, rt_60_25, rt_60_26, rt_60_27, rt_60_28, rt_60_29, rt_60_30, rt_60_39, rt_60_41, rt_60_42, rt_60_45, rt_60_46, rt_60_47, rt_60_49, rt_60_50, rt_60_51, rt_60_52, rt_60_53, rt_60_54, rt_60_55, rt_60_56, rt_60_59, rt_60_61, rt_60_62, al_63, as_63, al_64, as_64, al_65, as_65, al_66, as_66, al_67, as_67, al_68, as_68, al_69, as_69, al_70, as_70, al_71, as_71, al_72, as_72, al_73, as_73, al_74, as_74, al_75, as_75, al_76, as_76, al_78, as_78, al_79, as_79, al_80, as_80, al_81, as_81, al_82, as_82, al_83, as_83, al_84, as_84, al_85, as_85, al_86, as_86, al_87, as_87, al_88, as_88, al_89, as_89, al_90, as_90, al_91, as_91, al_92, as_92, al_93, as_93, al_94, as_94, al_95, as_95, al_96, as_96, al_97, as_97, al_98, as_98, al_61, as_61, al_62, as_62, al_99, as_99, al_82_0, as_82_0, al_83_32, as_83_32, al_83_33, as_83_33, ad0, ad8, ad16, ad24, ad_0, mu2, mu8, mu34, nI_add, nI_1, uI_mm, dvN, dvM, gF]
    · refine ⟨h1.1, ?_, h1.2.2.1, MA_34 h1.k8 h1.2.2.2 (fun j _ => hi 83 j (by decide))⟩
      obtain ⟨⟨m1, m2⟩, ⟨m3, m4, m5, m6, m7, m8⟩, ⟨m9, m10⟩, m11, m12, m13⟩ := h1.2.1
      have hk8 := h1.k8
      have mf : ∀ r, r < 2 → ∀ c, MFC I (2 * b + r) c → MFC I5 (2 * b + r) c := fun r hr' c hm => by
        have ed : (2 * b + r) / 2 = b := by omega
        rcases hm with z | ⟨lo, z1, z2, z3, z4, z5⟩
        · exact Or.inl z
        · rw [ed] at z1
          refine Or.inr ⟨lo, by rw [ed]; exact z1, ?_, ?_, z4, fun i hi => ?_⟩
          · rw [lg 75 _ (by decide) (by omega) (by omega) (fun _ => by omega) (by omega) (by decide) (by decide) (by decide)]; exact z2
          · rw [lg 76 _ (by decide) (by omega) (by omega) (fun _ => by omega) (by omega) (by decide) (by decide) (by decide)]; exact z3
          · rw [lg 78 _ (by decide) (by omega) (by omega) (by omega) (fun _ => by omega) (by decide) (by decide) (by decide), lg 79 _ (by decide) (by omega) (by omega) (by omega) (fun _ => by omega) (by decide) (by decide) (by decide)]; exact z5 i hi
      have l1 : ∀ c, 63 ≤ c → c ≤ 70 → I5 c b = I c b := fun c c1 c2 => lg c b (by omega) (fun _ _ => Ne.symm hne) (by omega) (by omega) (by omega) (by omega) (by omega) (by omega)
      refine ⟨⟨m1, by rw [lg60 31 (by decide) (by decide) (by decide)]; exact m2⟩, ⟨by rw [l1 63 (by decide) (by decide)]; exact m3, by rw [l1 64 (by decide) (by decide)]; exact m4, by rw [l1 66 (by decide) (by decide)]; exact m5, by rw [l1 67 (by decide) (by decide)]; exact m6, by rw [l1 68 (by decide) (by decide)]; exact m7, by rw [l1 69 (by decide) (by decide)]; exact m8⟩, ⟨by rw [l1 70 (by decide) (by decide)]; exact m9, by rw [l1 70 (by decide) (by decide)]; exact m10⟩, fun j hj => ?_, mf 0 (by decide) _ m12, mf 1 (by decide) _ m13⟩
      have hj : j < tk (aT A) := hj
      have l2 : ∀ c, 71 ≤ c → c ≤ 74 → I5 c (8 * b + j) = I c (8 * b + j) := fun c c1 c2 => lg c _ (by omega) (by omega) (fun _ _ => by omega) (by omega) (by omega) (by omega) (by omega) (by omega)
      rw [l2 71 (by decide) (by decide), l2 72 (by decide) (by decide), l2 73 (by decide) (by decide), l2 74 (by decide) (by decide)]
      exact m11 j hj
    · rw [k3 60 2 (fun _ => by omega) (by omega) (by omega) (by omega) (by omega) (by decide) (by decide)]; exact z2
    · rw [lg60 40 (by decide) (by decide) (by decide)]; exact h9
    · exact lg c j (by omega) (by omega) (by omega) (by omega) (by omega) (by omega) (by omega) (by omega)
  | ok D =>
    obtain ⟨I5, J5, lt5, k1, k2, k3, k4, k5⟩ := ml.2 D hr
    have lg60 : ∀ j, 9 < j → j ≠ 32 → j < 33 ∨ 36 < j → I5 60 j = I 60 j := fun j j1 j2 j3 => by
      rw [k5 60 j (fun _ => by omega) (by omega) (by omega) (by omega) (by omega) (by decide) (by decide), keep60 j j1 j2 (by omega)]
    have hi : ∀ c j, 82 < c ∨ c < 60 → I5 c j = I c j := fun c j hc => by
      rw [k5 c j (by omega) (by omega) (by omega) (by omega) (by omega) (by omega) (by omega), keep c j (by omega) (by omega) (by omega)]
    have gG : FX12_isGood n [.ref 60] (mm I5 J5 f) = some (some (.int 1), mm I5 J5 f) := by rw [m_isGood, b2i_1 k2]
    have q1 : ¬ (1 : Int32) = 0 := by decide
    have i32 := k3.1.2
    have dr6 : DrM (u2 I5 60 31 (nI rb)) J5 (aTp A) rb lt5 D := DrM_of k3 ⟨u2_j (by decide), u2_j (by decide)⟩ (u2_j (by decide)) (fun c j c1 _ => u2_a (by omega)) (fun _ => rfl)
    have mt6 := Dr_MT dr6 k4 u2_s
    obtain ⟨m1, m2⟩ := mkT_rg k4
    obtain ⟨I7, s1, s2, ⟨s3, s4, s5, s6⟩, s7, s8⟩ := m_startAnew (J := J5) (by omega : 300 < n) f m1 mt6 (by rw [u2_j (by decide), lg60 40 (by decide) (by decide) (by decide)]; exact h9)
    have s2' : MO I7 rb (mkT D) (mkS D) := s2
    have i31 := s2'.2.1.1.2
    have i66 : I7 66 rb = nI (dc D).length := s2'.2.1.2.1.2.2.1
    have r60 : ∀ j, j ≠ 43 → j ≠ 44 → j ≠ 57 → j ≠ 48 → j ≠ 31 → I7 60 j = I5 60 j := fun j j1 j2 j3 j4 j5 => by rw [s8 60 j (by decide) (by decide) (fun _ => ⟨j1, j2, j3, j4⟩), u2_j j5]
    refine ⟨I7, J5, rb, ?_, ⟨s2', m2, ⟨⟨by show 0 < 1; decide, by show 1 ≤ 41; decide⟩, ⟨s3, s4⟩, fun i hi => absurd hi (by show ¬ i < 0; omega), fun i _ hi => absurd hi (by show ¬ i + 1 < 1; omega), rfl, fun i hi => ?_⟩, ⟨s6, Nat.zero_le _, fun i hi => absurd hi (by show ¬ i < 0; omega)⟩, ⟨Nat.zero_le _, s5, ⟨?_, h5.2.2.1.2⟩, fun i hi => absurd hi (by show ¬ i < 0; omega)⟩, fun c hc => s7 c hc, ⟨?_, Nat.zero_le _, fun i hi => absurd hi (by show ¬ i < 0; omega)⟩, ⟨?_, ?_⟩, ?_⟩, fun c j hc => ?_⟩
    · rw [run, k1]
      simp only [kX12_jam_95, x_no, x_cst, x_ldI, x_ldJ, x_ldA, x_stI, x_stJ, x_stA, x_inc, x_bin, x_un, x_i2l, x_bnJ, x_lshl, x_lcmp, x_dup, x_dp2, x_gI, x_gJ, x_gA, x_pI, x_pZ, x_pJ, x_pA, x_c0, x_c2, x_sw, x_cV, x_cS, x_rV, x_rI, x_rZ, x_rJ, x_mm, x_pop, msel, mpl, mvr, mnw, List.getElem?_cons_zero, List.getElem?_cons_succ, List.set_cons_zero, List.set_cons_succ, List.length_cons, List.length_nil, List.drop_succ_cons, List.drop_zero, List.take_succ_cons, List.take_zero, List.reverse_cons, List.reverse_nil, List.nil_append, List.cons_append, List.append_nil, List.map_cons, List.map_nil, List.sum_cons, List.sum_nil, Option.toList_some, Option.toList_none, x_bs, Value.category, decide_eq_true_eq, decide_true, decide_false, if_true, if_false, Bool.false_eq_true, and_self, and_true, true_and, true_or, or_true, not_true_eq_false, not_false_eq_true, ↓reduceIte, reduceCtorEq, Nat.reduceEqDiff, Nat.reduceAdd, Nat.reduceSub, Nat.reduceMul, Nat.reduceLT, Nat.reduceLeDiff, Nat.reduceBEq, Nat.le_refl, Nat.zero_le, Nat.lt_irrefl, beq_self_eq_true, Nat.succ_ne_zero, Option.some.injEq, Prod.mk.injEq, Int32.reduceLT, Int32.reduceLE, y_60, rt_60_0, rt_60_1, rt_60_11, rt_60_12, rt_60_13, rt_60_14, rt_60_15, rt_60_16, rt_60_17, rt_60_18, rt_60_19, rt_60_20, rt_60_21, rt_60_22, rt_60_23, rt_60_24, rt_60_25, rt_60_26, rt_60_27, rt_60_28, rt_60_29, rt_60_30, rt_60_39, rt_60_41, rt_60_42, rt_60_45, rt_60_46, rt_60_47, rt_60_49, rt_60_50, rt_60_51, rt_60_52, rt_60_53, rt_60_54, rt_60_55, rt_60_56, rt_60_59, rt_60_61, rt_60_62, al_63, as_63, al_64, as_64, al_65, as_65, al_66, as_66, al_67, as_67, al_68, as_68, al_69, as_69, al_70, as_70, al_71, as_71, al_72, as_72, al_73, as_73, al_74, as_74, al_75, as_75, al_76, as_76, al_78, as_78, al_79, as_79, al_80, as_80, al_81, as_81, al_82, as_82, al_83, as_83, al_84, as_84, al_85, as_85, al_86, as_86, al_87, as_87, al_88, as_88, al_89, as_89, al_90, as_90, al_91, as_91, al_92, as_92, al_93, as_93, al_94, as_94, al_95, as_95, al_96, as_96, al_97, as_97, al_98, as_98, al_61, as_61, al_62, as_62, al_99, as_99, al_82_0, as_82_0, al_83_32, as_83_32, al_83_33, as_83_33, ad0, ad8, ad16, ad24, ad_0, mu2, mu8, mu34, nI_add, nI_1, uI_mm, dvN, dvM, gG, q1, i32, s1, i31, hrb, i66]
    · have : i = 0 := by have hi : i < 1 := hi; omega
      subst this
      exact m2
    · rw [r60 58 (by decide) (by decide) (by decide) (by decide) (by decide), lg60 58 (by decide) (by decide) (by decide)]; exact h5.2.2.1.1
    · rw [r60 2 (by decide) (by decide) (by decide) (by decide) (by decide), k5 60 2 (fun _ => by omega) (by omega) (by omega) (by omega) (by omega) (by decide) (by decide)]; exact z2
    · rw [r60 4 (by decide) (by decide) (by decide) (by decide) (by decide)]; exact k2
    · rw [r60 5 (by decide) (by decide) (by decide) (by decide) (by decide)]; exact k3.2.2.1.2
    · rw [r60 40 (by decide) (by decide) (by decide) (by decide) (by decide), lg60 40 (by decide) (by decide) (by decide)]; exact h9
    · rw [s8 c j (by omega) (by omega) (by omega), u2_a (by omega)]; exact hi c j (Or.inr hc)
end MJam2
