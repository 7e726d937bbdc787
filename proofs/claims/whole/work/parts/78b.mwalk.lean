/-! PURE: the model: walk, reach -/
def fv (x : Option Nat) : Int32 := match x with
  | none => 1000
  | some d => nI d
def lf (T : TA) (S : SA) (src : Nat → Bool) (k p : Nat) : Option Nat := ffd (fun j => lv (wE T S) (wN T) (wm T) src j p) 0 k
def bsb (a b c d : Nat) : Bool := decide ((nI a - nI b) * (nI a - nI b) + (nI c - nI d) * (nI c - nI d) = 1) == decide ((a = b ∧ (c + 1 = d ∨ d + 1 = c)) ∨ (c = d ∧ (a + 1 = b ∨ b + 1 = a)))
theorem bsb_all : ∀ a, a < 8 → ∀ b, b < 8 → ∀ c, c < 8 → ∀ d, d < 8 → bsb a b c d = true := by decide +kernel
theorem beside_all (a : Nat) (ha : a < 8) (b : Nat) (hb : b < 8) (c : Nat) (hc : c < 8) (d : Nat) (hd : d < 8) : ((nI a - nI b) * (nI a - nI b) + (nI c - nI d) * (nI c - nI d) = 1 ↔ ((a = b ∧ (c + 1 = d ∨ d + 1 = c)) ∨ (c = d ∧ (a + 1 = b ∨ b + 1 = a)))) := by
  have h := bsb_all a ha b hb c hc d hd
  unfold bsb at h
  rw [beq_iff_eq] at h
  exact decide_eq_decide.mp h
theorem u2_u2 {I : Nat → Nat → Int32} {a j : Nat} {x y : Int32} : u2 (u2 I a j x) a j y = u2 I a j y := by
  funext c i
  unfold u2
  by_cases h : c = a ∧ i = j
  · rw [if_pos h, if_pos h]
  · rw [if_neg h, if_neg h, if_neg h]
section Top
variable {E : Nat → Bool} {N : Nat → Nat → Bool} {m : Nat} {src : Nat → Bool}
/-- whoever is new at k + 1: there are k + 2 by then -/
theorem lv_new (hE : ∀ p, E p = true → p < m) : ∀ k p, lv E N m src (k + 1) p = true → lv E N m src k p = false → k + 2 ≤ cn (lv E N m src (k + 1)) m := by
  intro k
  induction k with
  | zero =>
    intro p h1 h2
    rcases lv_succ.mp h1 with h | ⟨hp, q, hq, h3, h4⟩
    · rw [h2] at h; cases h
    · have hpm := hE p hp
      rw [cn_clr (P := lv E N m src (0 + 1)) (c := p) m hpm h1]
      have : 0 < cn (fun j => lv E N m src (0 + 1) j && !decide (j = p)) m := by
        rcases Nat.eq_zero_or_pos (cn (fun j => lv E N m src (0 + 1) j && !decide (j = p)) m) with h | h
        · rw [cn_ex] at h
          have h5 := h q hq
          have h6 : lv E N m src (0 + 1) q = true := lv_mono 1 0 h3
          have h7 : ¬ q = p := fun e => by rw [e, h2] at h3; cases h3
          simp [h6, h7] at h5
        · exact h
      omega
  | succ k ih =>
    intro p h1 h2
    rcases lv_succ.mp h1 with h | ⟨hp, q, hq, h3, h4⟩
    · rw [h2] at h; cases h
    · have hpm := hE p hp
      have hq2 : lv E N m src k q = false := by
        cases e : lv E N m src k q
        · rfl
        · have : lv E N m src (k + 1) p = true := lv_succ.mpr (Or.inr ⟨hp, q, hq, e, h4⟩)
          rw [h2] at this; cases this
      have h5 := ih q h3 hq2
      rw [cn_clr (P := lv E N m src (k + 1 + 1)) (c := p) m hpm h1]
      have : cn (lv E N m src (k + 1)) m ≤ cn (fun j => lv E N m src (k + 1 + 1) j && !decide (j = p)) m := by
        refine cn_le_of m (fun j _ hj => ?_)
        have h6 : lv E N m src (k + 1 + 1) j = true := lv_mono 1 (k + 1) hj
        have h7 : ¬ j = p := fun e => by rw [e, h2] at hj; cases hj
        simp [h6, h7]
      omega
theorem lv_top (hE : ∀ p, E p = true → p < m) (p : Nat) : ffd (fun j => lv E N m src j p) 0 (m + 1) = ffd (fun j => lv E N m src j p) 0 m := by
  rw [ffd_snoc]
  cases h : ffd (fun j => lv E N m src j p) 0 m with
  | some x => rfl
  | none =>
    have hno := ffd_none _ 0 h
    simp only [Nat.zero_add]
    rw [if_neg]
    intro h1
    cases m with
    | zero => have := hE p (lv_E _ h1); omega
    | succ k =>
      have h2 := lv_new hE k p h1 (hno k (by omega) (by omega))
      have h3 := cn_le (lv E N (k + 1) src (k + 1)) (k + 1)
      omega
end Top
section MWalk
variable {n : Nat} {I : Nat → Nat → Int32} {b : Nat} {T : TA} {S : SA} {src : Nat → Bool}
theorem lf_lt {k p d : Nat} (h : lf T S src k p = some d) : d < k := by
  have := (ffd_some _ 0 d h).2.1
  omega
theorem lf_snoc (k p : Nat) : lf T S src (k + 1) p = match lf T S src k p with
    | some x => some x
    | none => if lv (wE T S) (wN T) (wm T) src k p = true then some k else none := by
  unfold lf
  rw [ffd_snoc]
  simp only [Nat.zero_add]
  generalize ffd (fun j => lv (wE T S) (wN T) (wm T) src j p) 0 k = z
  cases z <;> rfl
theorem lf_at (k p : Nat) : lf T S src (k + 2) p = some k ↔ lf T S src (k + 1) p = some k := by
  rw [lf_snoc (k + 1)]
  cases h : lf T S src (k + 1) p with
  | some x => rfl
  | none =>
    simp only
    split <;> simp
theorem lf_eq (k p : Nat) : lf T S src (k + 1) p = some k ↔ lv (wE T S) (wN T) (wm T) src k p = true ∧ lf T S src k p = none := by
  rw [lf_snoc]
  cases h : lf T S src k p with
  | some x =>
    have := lf_lt h
    simp only [Option.some.injEq, reduceCtorEq, and_false, iff_false]
    omega
  | none =>
    simp only
    split <;> simp_all
theorem lf_none {k p : Nat} (h : lf T S src (k + 1) p = none) : lv (wE T S) (wN T) (wm T) src k p = false := ffd_none _ 0 h k (by omega) (by omega)
theorem lv_lf {k p : Nat} (h : ∀ j, j < k → lv (wE T S) (wN T) (wm T) src j p = false) : lf T S src k p = none := by
  unfold lf
  exact ffd_nil k 0 (fun i _ hi => h i (by omega))
/-- those at n, beside p: is there one -/
theorem far_iff (o : TRg T) {k p : Nat} (hE : opn T S p = true) (h : lf T S src (k + 1) p = none) : ¬ cn (fun q => decide (lf T S src (k + 1) q = some k) && nb (tC T) (tR T) p q) (wm T) = 0 ↔ lv (wE T S) (wN T) (wm T) src (k + 1) p = true := by
  have hpm := opn_lt hE
  have h0 := lf_none h
  rw [cn_pos]
  constructor
  · rintro ⟨q, hq, h1⟩
    simp only [Bool.and_eq_true, decide_eq_true_eq] at h1
    refine lv_succ.mpr (Or.inr ⟨hE, q, hq, ((lf_eq k q).mp h1.1).1, ?_⟩)
    show nb (tC T) (tR T) q p = true
    rw [nb_sym o.2.1 hq hpm]; exact h1.2
  · intro h1
    rcases lv_succ.mp h1 with h2 | ⟨-, q, hq, h3, h4⟩
    · rw [h0] at h2; cases h2
    · refine ⟨q, hq, ?_⟩
      simp only [Bool.and_eq_true, decide_eq_true_eq]
      have h4' : nb (tC T) (tR T) q p = true := h4
      rw [nb_sym o.2.1 hq hpm] at h4'
      refine ⟨(lf_eq k q).mpr ⟨h3, lv_lf (fun j hj => ?_)⟩, h4'⟩
      cases e : lv (wE T S) (wN T) (wm T) src j q
      · rfl
      · have h5 : lv (wE T S) (wN T) (wm T) src (j + 1) p = true := lv_succ.mpr (Or.inr ⟨hE, q, hq, e, h4⟩)
        have h6 := lv_mono (k - (j + 1)) (j + 1) h5
        rw [show j + 1 + (k - (j + 1)) = k by omega, h0] at h6
        cases h6
set_option maxHeartbeats 8000000 in
theorem m_areBeside (n : Nat) (J : Nat → Nat → Int64) (f : Nat) (o : MO I b T S) {p q : Nat} (hp : p < wm T) (hq : q < wm T) : FX12_areBeside n [.ref 60, .int (nI p), .int (nI q)] (mm I J f) = some (some (.int (b2i (nb (tC T) (tR T) p q = true))), mm I J f) := by
  have hb2 := o.b2
  have hC := o.1.2.1
  have hR := o.1.2.2.1
  have h64 := o.cm
  have hp' : p < tC T * tR T := hp
  have hq' : q < tC T * tR T := hq
  have m1 : p % tC T < 8 := Nat.lt_of_lt_of_le (Nat.mod_lt _ (by omega)) hC.2
  have m2 : q % tC T < 8 := Nat.lt_of_lt_of_le (Nat.mod_lt _ (by omega)) hC.2
  have m3 : p / tC T < 8 := Nat.lt_of_lt_of_le (Nat.div_lt_of_lt_mul hp') hR.2
  have m4 : q / tC T < 8 := Nat.lt_of_lt_of_le (Nat.div_lt_of_lt_mul hq') hR.2
  have key := beside_all _ m1 _ m2 _ m3 _ m4
  have hN := nb_N (R := tR T) hC hp' hq'
  have hiff : (nI (p % tC T) - nI (q % tC T)) * (nI (p % tC T) - nI (q % tC T)) + (nI (p / tC T) - nI (q / tC T)) * (nI (p / tC T) - nI (q / tC T)) = 1 ↔ nb (tC T) (tR T) p q = true := by
    rw [key, hN]
    unfold nbN
    omega
  by_cases e : nb (tC T) (tR T) p q = true
  · simp (disch := omega) only [eX12_areBeside, kX12_areBeside_0, kX12_areBeside_36, kX12_areBeside_67, x_no, x_cst, x_ldI, x_ldJ, x_ldA, x_stI, x_stJ, x_stA, x_inc, x_bin, x_un, x_i2l, x_bnJ, x_lshl, x_lcmp, x_dup, x_dp2, x_gI, x_gJ, x_gA, x_pI, x_pZ, x_pJ, x_pA, x_c0, x_c2, x_sw, x_cV, x_cS, x_rV, x_rI, x_rZ, x_rJ, x_mm, x_pop, msel, mpl, mvr, mnw, List.getElem?_cons_zero, List.getElem?_cons_succ, List.set_cons_zero, List.set_cons_succ, List.length_cons, List.length_nil, List.drop_succ_cons, List.drop_zero, List.take_succ_cons, List.take_zero, List.reverse_cons, List.reverse_nil, List.nil_append, List.cons_append, List.append_nil, List.map_cons, List.map_nil, List.sum_cons, List.sum_nil, Option.toList_some, Option.toList_none, Option.bind_some, Value.category, decide_eq_true_eq, decide_true, decide_false, if_true, if_false, Bool.false_eq_true, and_self, and_true, true_and, true_or, or_true, not_true_eq_false, not_false_eq_true, ↓reduceIte, reduceCtorEq, Nat.reduceEqDiff, Nat.reduceAdd, Nat.reduceSub, Nat.reduceMul, Nat.reduceLT, Nat.reduceLeDiff, Nat.reduceBEq, Nat.le_refl, Nat.zero_le, Nat.lt_irrefl, beq_self_eq_true, Nat.succ_ne_zero, Option.some.injEq, Prod.mk.injEq, Int32.reduceLT, Int32.reduceLE, y_60, rt_60_0, rt_60_1, rt_60_11, rt_60_12, rt_60_13, rt_60_14, rt_60_15, rt_60_16, rt_60_17, rt_60_18, rt_60_19, rt_60_20, rt_60_21, rt_60_22, rt_60_23, rt_60_24, rt_60_25, rt_60_26, rt_60_27, rt_60_28, rt_60_29, rt_60_30, rt_60_39, rt_60_41, rt_60_42, rt_60_45, rt_60_46, rt_60_47, rt_60_49, rt_60_50, rt_60_51, rt_60_52, rt_60_53, rt_60_54, rt_60_55, rt_60_56, rt_60_59, rt_60_61, rt_60_62, al_63, as_63, al_64, as_64, al_65, as_65, al_66, as_66, al_67, as_67, al_68, as_68, al_69, as_69, al_70, as_70, al_71, as_71, al_72, as_72, al_73, as_73, al_74, as_74, al_75, as_75, al_76, as_76, al_78, as_78, al_79, as_79, al_80, as_80, al_81, as_81, al_82, as_82, al_83, as_83, al_84, as_84, al_85, as_85, al_86, as_86, al_87, as_87, al_88, as_88, al_89, as_89, al_90, as_90, al_91, as_91, al_92, as_92, al_93, as_93, al_94, as_94, al_95, as_95, al_96, as_96, al_97, as_97, al_98, as_98, al_61, as_61, al_62, as_62, al_99, as_99, al_82_0, as_82_0, al_83_32, as_83_32, al_83_33, as_83_33, ad0, ad8, ad16, ad24, ad_0, mu2, mu8, mu34, nI_add, nI_1, uI_mm, dvN, dvM, o.bk, o.C, hiff, e, b2i]
  · simp (disch := omega) only [eX12_areBeside, kX12_areBeside_0, kX12_areBeside_36, kX12_areBeside_67, x_no, x_cst, x_ldI, x_ldJ, x_ldA, x_stI, x_stJ, x_stA, x_inc, x_bin, x_un, x_i2l, x_bnJ, x_lshl, x_lcmp, x_dup, x_dp2, x_gI, x_gJ, x_gA, x_pI, x_pZ, x_pJ, x_pA, x_c0, x_c2, x_sw, x_cV, x_cS, x_rV, x_rI, x_rZ, x_rJ, x_mm, x_pop, msel, mpl, mvr, mnw, List.getElem?_cons_zero, List.getElem?_cons_succ, List.set_cons_zero, List.set_cons_succ, List.length_cons, List.length_nil, List.drop_succ_cons, List.drop_zero, List.take_succ_cons, List.take_zero, List.reverse_cons, List.reverse_nil, List.nil_append, List.cons_append, List.append_nil, List.map_cons, List.map_nil, List.sum_cons, List.sum_nil, Option.toList_some, Option.toList_none, Option.bind_some, Value.category, decide_eq_true_eq, decide_true, decide_false, if_true, if_false, Bool.false_eq_true, and_self, and_true, true_and, true_or, or_true, not_true_eq_false, not_false_eq_true, ↓reduceIte, reduceCtorEq, Nat.reduceEqDiff, Nat.reduceAdd, Nat.reduceSub, Nat.reduceMul, Nat.reduceLT, Nat.reduceLeDiff, Nat.reduceBEq, Nat.le_refl, Nat.zero_le, Nat.lt_irrefl, beq_self_eq_true, Nat.succ_ne_zero, Option.some.injEq, Prod.mk.injEq, Int32.reduceLT, Int32.reduceLE, y_60, rt_60_0, rt_60_1, rt_60_11, rt_60_12, rt_60_13, rt_60_14, rt_60_15, rt_60_16, rt_60_17, rt_60_18, rt_60_19, rt_60_20, rt_60_21, rt_60_22, rt_60_23, rt_60_24, rt_60_25, rt_60_26, rt_60_27, rt_60_28, rt_60_29, rt_60_30, rt_60_39, rt_60_41, rt_60_42, rt_60_45, rt_60_46, rt_60_47, rt_60_49, rt_60_50, rt_60_51, rt_60_52, rt_60_53, rt_60_54, rt_60_55, rt_60_56, rt_60_59, rt_60_61, rt_60_62, al_63, as_63, al_64, as_64, al_65, as_65, al_66, as_66, al_67, as_67, al_68, as_68, al_69, as_69, al_70, as_70, al_71, as_71, al_72, as_72, al_73, as_73, al_74, as_74, al_75, as_75, al_76, as_76, al_78, as_78, al_79, as_79, al_80, as_80, al_81, as_81, al_82, as_82, al_83, as_83, al_84, as_84, al_85, as_85, al_86, as_86, al_87, as_87, al_88, as_88, al_89, as_89, al_90, as_90, al_91, as_91, al_92, as_92, al_93, as_93, al_94, as_94, al_95, as_95, al_96, as_96, al_97, as_97, al_98, as_98, al_61, as_61, al_62, as_62, al_99, as_99, al_82_0, as_82_0, al_83_32, as_83_32, al_83_33, as_83_33, ad0, ad8, ad16, ad24, ad_0, mu2, mu8, mu34, nI_add, nI_1, uI_mm, dvN, dvM, o.bk, o.C, hiff, e, b2i]
theorem m_spotsW (n : Nat) (J : Nat → Nat → Int64) (f : Nat) (o : MO I b T S) : FX12_spots n [.ref 60] (mm I J f) = some (some (.int (nI (wm T))), mm I J f) := m_spots n J f o
def FrM (I : Nat → Nat → Int32) (D : Nat → Option Nat) (m : Nat) : Prop := ∀ p, p < m → I 90 p = fv (D p)
theorem fv_eq {x : Option Nat} {k : Nat} (hx : ∀ d, x = some d → d ≤ 65) (hk : k ≤ 65) : fv x = nI k ↔ x = some k := by
  cases x with
  | none =>
    have : ¬ (1000 : Int32) = nI k := by
      rw [show (1000 : Int32) = nI 1000 from rfl, nI_eq (by decide) (by omega)]; omega
    simp [fv, this]
  | some d =>
    have := hx d rfl
    simp only [fv, Option.some.injEq]
    exact nI_eq (by omega) (by omega)
theorem fv_lt {x : Option Nat} (hx : ∀ d, x = some d → d ≤ 65) : fv x < 1000 ↔ x.isSome = true := by
  cases x with
  | none => simp [fv]
  | some d =>
    have := hx d rfl
    have h : nI d < 1000 := lit_lt (k := 1000) rfl (by decide) (by omega)
    simp [fv, h]
theorem fv_1000 {x : Option Nat} (hx : ∀ d, x = some d → d ≤ 65) : fv x = 1000 ↔ x = none := by
  cases x with
  | none => simp [fv]
  | some d =>
    have := hx d rfl
    have h : ¬ nI d = 1000 := by
      rw [show (1000 : Int32) = nI 1000 from rfl, nI_eq (by omega) (by decide)]; omega
    simp [fv, h]
theorem cr90 {c i p : Nat} {x : Int32} (h : c ≠ 90) : u2 I 90 p x c i = I c i := u2_a h
theorem MO_90 {I' : Nat → Nat → Int32} (o : MO I b T S) (h : ∀ c j, c ≠ 90 → I' c j = I c j) : MO I' b T S := MO_of o (h _ _ (by decide)) (fun c j hc => h c j (by omega))
set_option maxHeartbeats 8000000 in
theorem far_in (hn : 300 < n) (J : Nat → Nat → Int64) (f : Nat) (o : MO I b T S) {D : Nat → Option Nat} (hF : FrM I D (wm T)) (hD : ∀ p d, D p = some d → d ≤ 65) {k p : Nat} (hk : k < 65) (hp : p < wm T) (hDp : D p = none) (r2 r12 : mK) : mit (kX12_layFar_45 n r2 r12) n [some (.ref 60), some (.int (nI k)), some (.int (nI p)), some (.int 0)] [] (mm I J f) = r12 [some (.ref 60), some (.int (nI k)), some (.int (nI (p + 1))), some (.int (nI (wm T)))] [] (mm (u2 I 90 p (fv (if cn (fun q => decide (D q = some k) && nb (tC T) (tR T) p q) (wm T) = 0 then none else some (k + 1)))) J f) := by
  have h64 : wm T ≤ 64 := o.cm
  generalize hP : (fun q => decide (D q = some k) && nb (tC T) (tR T) p q) = P
  have oj : ∀ x, MO (u2 I 90 p x) b T S := fun x => MO_90 o (fun c j hc => u2_a hc)
  have key := mit_for (G := kX12_layFar_45 n r2 r12) (fun j => [some (.ref 60), some (.int (nI k)), some (.int (nI p)), some (.int (nI j))]) (fun j => mm (u2 I 90 p (fv (if cn P j = 0 then none else some (k + 1)))) J f) (B := wm T) (fun j hj r => ?_) (show wm T < n by omega) (v := r12 [some (.ref 60), some (.int (nI k)), some (.int (nI (p + 1))), some (.int (nI (wm T)))] [] (mm (u2 I 90 p (fv (if cn P (wm T) = 0 then none else some (k + 1)))) J f)) (fun r => ?_)
  · have e0 : u2 I 90 p (fv (if cn P 0 = 0 then none else some (k + 1))) = I := by
      have e1 : fv (if cn P 0 = 0 then none else some (k + 1)) = I 90 p := by
        rw [if_pos (by rfl), hF p hp, hDp]
      rw [e1]
      funext c i
      unfold u2
      by_cases h : c = 90 ∧ i = p
      · rw [if_pos h, h.1, h.2]
      · rw [if_neg h]
    rw [e0] at key
    exact key
  · have c1 : ¬ wm T ≤ j := by omega
    have m1 := m_spotsW n J f (oj (fv (if cn P j = 0 then none else some (k + 1))))
    have mb := m_areBeside n J f (oj (fv (if cn P j = 0 then none else some (k + 1)))) hp hj
    have hPj : P j = (decide (D j = some k) && nb (tC T) (tR T) p j) := by rw [← hP]
    have hc1 : cn P (j + 1) = if P j = true then cn P j + 1 else cn P j := rfl
    have eat : u2 I 90 p (fv (if cn P j = 0 then none else some (k + 1))) 90 j = nI k ↔ D j = some k := by
      by_cases e : j = p
      · subst e
        rw [u2_s, hDp]
        refine ⟨fun z => ?_, fun z => by cases z⟩
        have := (fv_eq (x := if cn P j = 0 then none else some (k + 1)) (fun d hd => by
          split at hd
          · cases hd
          · cases hd; omega) (by omega)).mp z
        split at this
        · cases this
        · cases this
      · rw [u2_j e, hF j hj]
        exact fv_eq (hD j) (by omega)
    by_cases e1 : D j = some k
    · by_cases e2 : nb (tC T) (tR T) p j = true
      · have e3 : P j = true := by rw [hPj, e2]; simp [e1]
        have e4 : fv (if cn P (j + 1) = 0 then none else some (k + 1)) = nI (k + 1) := by
          rw [hc1, if_pos e3, if_neg (by omega)]; rfl
        rw [e4]
        simp (disch := omega) only [kX12_layFar_45, kX12_layFar_81, x_no, x_cst, x_ldI, x_ldJ, x_ldA, x_stI, x_stJ, x_stA, x_inc, x_bin, x_un, x_i2l, x_bnJ, x_lshl, x_lcmp, x_dup, x_dp2, x_gI, x_gJ, x_gA, x_pI, x_pZ, x_pJ, x_pA, x_c0, x_c2, x_sw, x_cV, x_cS, x_rV, x_rI, x_rZ, x_rJ, x_mm, x_pop, msel, mpl, mvr, mnw, List.getElem?_cons_zero, List.getElem?_cons_succ, List.set_cons_zero, List.set_cons_succ, List.length_cons, List.length_nil, List.drop_succ_cons, List.drop_zero, List.take_succ_cons, List.take_zero, List.reverse_cons, List.reverse_nil, List.nil_append, List.cons_append, List.append_nil, List.map_cons, List.map_nil, List.sum_cons, List.sum_nil, Option.toList_some, Option.toList_none, Option.bind_some, Value.category, decide_eq_true_eq, decide_true, decide_false, if_true, if_false, Bool.false_eq_true, and_self, and_true, true_and, true_or, or_true, not_true_eq_false, not_false_eq_true, ↓reduceIte, reduceCtorEq, Nat.reduceEqDiff, Nat.reduceAdd, Nat.reduceSub, Nat.reduceMul, Nat.reduceLT, Nat.reduceLeDiff, Nat.reduceBEq, Nat.le_refl, Nat.zero_le, Nat.lt_irrefl, beq_self_eq_true, Nat.succ_ne_zero, Option.some.injEq, Prod.mk.injEq, Int32.reduceLT, Int32.reduceLE, y_60, rt_60_0, rt_60_1, rt_60_11, rt_60_12, rt_60_13, rt_60_14, rt_60_15, rt_60_16, rt_60_17, rt_60_18, rt_60_19, rt_60_20, rt_60_21, rt_60_22, rt_60_23, rt_60_24, rt_60_25, rt_60_26, rt_60_27, rt_60_28, rt_60_29, rt_60_30, rt_60_39, rt_60_41, rt_60_42, rt_60_45, rt_60_46, rt_60_47, rt_60_49, rt_60_50, rt_60_51, rt_60_52, rt_60_53, rt_60_54, rt_60_55, rt_60_56, rt_60_59, rt_60_61, rt_60_62, al_63, as_63, al_64, as_64, al_65, as_65, al_66, as_66, al_67, as_67, al_68, as_68, al_69, as_69, al_70, as_70, al_71, as_71, al_72, as_72, al_73, as_73, al_74, as_74, al_75, as_75, al_76, as_76, al_78, as_78, al_79, as_79, al_80, as_80, al_81, as_81, al_82, as_82, al_83, as_83, al_84, as_84, al_85, as_85, al_86, as_86, al_87, as_87, al_88, as_88, al_89, as_89, al_90, as_90, al_91, as_91, al_92, as_92, al_93, as_93, al_94, as_94, al_95, as_95, al_96, as_96, al_97, as_97, al_98, as_98, al_61, as_61, al_62, as_62, al_99, as_99, al_82_0, as_82_0, al_83_32, as_83_32, al_83_33, as_83_33, ad0, ad8, ad16, ad24, ad_0, mu2, mu8, mu34, nI_add, nI_1, uI_mm, dvN, dvM, m1, nI_leI, c1, eat, e1, mb, b2i_eq0, e2, u2_u2]
      · have e3 : ¬ P j = true := by rw [hPj]; simp [e2]
        rw [hc1, if_neg e3]
        simp (disch := omega) only [kX12_layFar_45, kX12_layFar_81, x_no, x_cst, x_ldI, x_ldJ, x_ldA, x_stI, x_stJ, x_stA, x_inc, x_bin, x_un, x_i2l, x_bnJ, x_lshl, x_lcmp, x_dup, x_dp2, x_gI, x_gJ, x_gA, x_pI, x_pZ, x_pJ, x_pA, x_c0, x_c2, x_sw, x_cV, x_cS, x_rV, x_rI, x_rZ, x_rJ, x_mm, x_pop, msel, mpl, mvr, mnw, List.getElem?_cons_zero, List.getElem?_cons_succ, List.set_cons_zero, List.set_cons_succ, List.length_cons, List.length_nil, List.drop_succ_cons, List.drop_zero, List.take_succ_cons, List.take_zero, List.reverse_cons, List.reverse_nil, List.nil_append, List.cons_append, List.append_nil, List.map_cons, List.map_nil, List.sum_cons, List.sum_nil, Option.toList_some, Option.toList_none, Option.bind_some, Value.category, decide_eq_true_eq, decide_true, decide_false, if_true, if_false, Bool.false_eq_true, and_self, and_true, true_and, true_or, or_true, not_true_eq_false, not_false_eq_true, ↓reduceIte, reduceCtorEq, Nat.reduceEqDiff, Nat.reduceAdd, Nat.reduceSub, Nat.reduceMul, Nat.reduceLT, Nat.reduceLeDiff, Nat.reduceBEq, Nat.le_refl, Nat.zero_le, Nat.lt_irrefl, beq_self_eq_true, Nat.succ_ne_zero, Option.some.injEq, Prod.mk.injEq, Int32.reduceLT, Int32.reduceLE, y_60, rt_60_0, rt_60_1, rt_60_11, rt_60_12, rt_60_13, rt_60_14, rt_60_15, rt_60_16, rt_60_17, rt_60_18, rt_60_19, rt_60_20, rt_60_21, rt_60_22, rt_60_23, rt_60_24, rt_60_25, rt_60_26, rt_60_27, rt_60_28, rt_60_29, rt_60_30, rt_60_39, rt_60_41, rt_60_42, rt_60_45, rt_60_46, rt_60_47, rt_60_49, rt_60_50, rt_60_51, rt_60_52, rt_60_53, rt_60_54, rt_60_55, rt_60_56, rt_60_59, rt_60_61, rt_60_62, al_63, as_63, al_64, as_64, al_65, as_65, al_66, as_66, al_67, as_67, al_68, as_68, al_69, as_69, al_70, as_70, al_71, as_71, al_72, as_72, al_73, as_73, al_74, as_74, al_75, as_75, al_76, as_76, al_78, as_78, al_79, as_79, al_80, as_80, al_81, as_81, al_82, as_82, al_83, as_83, al_84, as_84, al_85, as_85, al_86, as_86, al_87, as_87, al_88, as_88, al_89, as_89, al_90, as_90, al_91, as_91, al_92, as_92, al_93, as_93, al_94, as_94, al_95, as_95, al_96, as_96, al_97, as_97, al_98, as_98, al_61, as_61, al_62, as_62, al_99, as_99, al_82_0, as_82_0, al_83_32, as_83_32, al_83_33, as_83_33, ad0, ad8, ad16, ad24, ad_0, mu2, mu8, mu34, nI_add, nI_1, uI_mm, dvN, dvM, m1, nI_leI, c1, eat, e1, mb, b2i_eq0, e2]
    · have e3 : ¬ P j = true := by rw [hPj]; simp [e1]
      rw [hc1, if_neg e3]
      simp (disch := omega) only [kX12_layFar_45, kX12_layFar_81, x_no, x_cst, x_ldI, x_ldJ, x_ldA, x_stI, x_stJ, x_stA, x_inc, x_bin, x_un, x_i2l, x_bnJ, x_lshl, x_lcmp, x_dup, x_dp2, x_gI, x_gJ, x_gA, x_pI, x_pZ, x_pJ, x_pA, x_c0, x_c2, x_sw, x_cV, x_cS, x_rV, x_rI, x_rZ, x_rJ, x_mm, x_pop, msel, mpl, mvr, mnw, List.getElem?_cons_zero, List.getElem?_cons_succ, List.set_cons_zero, List.set_cons_succ, List.length_cons, List.length_nil, List.drop_succ_cons, List.drop_zero, List.take_succ_cons, List.take_zero, List.reverse_cons, List.reverse_nil, List.nil_append, List.cons_append, List.append_nil, List.map_cons, List.map_nil, List.sum_cons, List.sum_nil, Option.toList_some, Option.toList_none, Option.bind_some, Value.category, decide_eq_true_eq, decide_true, decide_false, if_true, if_false, Bool.false_eq_true, and_self, and_true, true_and, true_or, or_true, not_true_eq_false, not_false_eq_true, ↓reduceIte, reduceCtorEq, Nat.reduceEqDiff, Nat.reduceAdd, Nat.reduceSub, Nat.reduceMul, Nat.reduceLT, Nat.reduceLeDiff, Nat.reduceBEq, Nat.le_refl, Nat.zero_le, Nat.lt_irrefl, beq_self_eq_true, Nat.succ_ne_zero, Option.some.injEq, Prod.mk.injEq, Int32.reduceLT, Int32.reduceLE, y_60, rt_60_0, rt_60_1, rt_60_11, rt_60_12, rt_60_13, rt_60_14, rt_60_15, rt_60_16, rt_60_17, rt_60_18, rt_60_19, rt_60_20, rt_60_21, rt_60_22, rt_60_23, rt_60_24, rt_60_25, rt_60_26, rt_60_27, rt_60_28, rt_60_29, rt_60_30, rt_60_39, rt_60_41, rt_60_42, rt_60_45, rt_60_46, rt_60_47, rt_60_49, rt_60_50, rt_60_51, rt_60_52, rt_60_53, rt_60_54, rt_60_55, rt_60_56, rt_60_59, rt_60_61, rt_60_62, al_63, as_63, al_64, as_64, al_65, as_65, al_66, as_66, al_67, as_67, al_68, as_68, al_69, as_69, al_70, as_70, al_71, as_71, al_72, as_72, al_73, as_73, al_74, as_74, al_75, as_75, al_76, as_76, al_78, as_78, al_79, as_79, al_80, as_80, al_81, as_81, al_82, as_82, al_83, as_83, al_84, as_84, al_85, as_85, al_86, as_86, al_87, as_87, al_88, as_88, al_89, as_89, al_90, as_90, al_91, as_91, al_92, as_92, al_93, as_93, al_94, as_94, al_95, as_95, al_96, as_96, al_97, as_97, al_98, as_98, al_61, as_61, al_62, as_62, al_99, as_99, al_82_0, as_82_0, al_83_32, as_83_32, al_83_33, as_83_33, ad0, ad8, ad16, ad24, ad_0, mu2, mu8, mu34, nI_add, nI_1, uI_mm, dvN, dvM, m1, nI_leI, c1, eat, e1]
  · have m1 := m_spotsW n J f (oj (fv (if cn P (wm T) = 0 then none else some (k + 1))))
    simp (disch := omega) only [kX12_layFar_45, kX12_layFar_87, x_no, x_cst, x_ldI, x_ldJ, x_ldA, x_stI, x_stJ, x_stA, x_inc, x_bin, x_un, x_i2l, x_bnJ, x_lshl, x_lcmp, x_dup, x_dp2, x_gI, x_gJ, x_gA, x_pI, x_pZ, x_pJ, x_pA, x_c0, x_c2, x_sw, x_cV, x_cS, x_rV, x_rI, x_rZ, x_rJ, x_mm, x_pop, msel, mpl, mvr, mnw, List.getElem?_cons_zero, List.getElem?_cons_succ, List.set_cons_zero, List.set_cons_succ, List.length_cons, List.length_nil, List.drop_succ_cons, List.drop_zero, List.take_succ_cons, List.take_zero, List.reverse_cons, List.reverse_nil, List.nil_append, List.cons_append, List.append_nil, List.map_cons, List.map_nil, List.sum_cons, List.sum_nil, Option.toList_some, Option.toList_none, Option.bind_some, Value.category, decide_eq_true_eq, decide_true, decide_false, if_true, if_false, Bool.false_eq_true, and_self, and_true, true_and, true_or, or_true, not_true_eq_false, not_false_eq_true, ↓reduceIte, reduceCtorEq, Nat.reduceEqDiff, Nat.reduceAdd, Nat.reduceSub, Nat.reduceMul, Nat.reduceLT, Nat.reduceLeDiff, Nat.reduceBEq, Nat.le_refl, Nat.zero_le, Nat.lt_irrefl, beq_self_eq_true, Nat.succ_ne_zero, Option.some.injEq, Prod.mk.injEq, Int32.reduceLT, Int32.reduceLE, y_60, rt_60_0, rt_60_1, rt_60_11, rt_60_12, rt_60_13, rt_60_14, rt_60_15, rt_60_16, rt_60_17, rt_60_18, rt_60_19, rt_60_20, rt_60_21, rt_60_22, rt_60_23, rt_60_24, rt_60_25, rt_60_26, rt_60_27, rt_60_28, rt_60_29, rt_60_30, rt_60_39, rt_60_41, rt_60_42, rt_60_45, rt_60_46, rt_60_47, rt_60_49, rt_60_50, rt_60_51, rt_60_52, rt_60_53, rt_60_54, rt_60_55, rt_60_56, rt_60_59, rt_60_61, rt_60_62, al_63, as_63, al_64, as_64, al_65, as_65, al_66, as_66, al_67, as_67, al_68, as_68, al_69, as_69, al_70, as_70, al_71, as_71, al_72, as_72, al_73, as_73, al_74, as_74, al_75, as_75, al_76, as_76, al_78, as_78, al_79, as_79, al_80, as_80, al_81, as_81, al_82, as_82, al_83, as_83, al_84, as_84, al_85, as_85, al_86, as_86, al_87, as_87, al_88, as_88, al_89, as_89, al_90, as_90, al_91, as_91, al_92, as_92, al_93, as_93, al_94, as_94, al_95, as_95, al_96, as_96, al_97, as_97, al_98, as_98, al_61, as_61, al_62, as_62, al_99, as_99, al_82_0, as_82_0, al_83_32, as_83_32, al_83_33, as_83_33, ad0, ad8, ad16, ad24, ad_0, mu2, mu8, mu34, nI_add, nI_1, uI_mm, dvN, dvM, m1, Int32.le_refl]
/-- within round k, those below p done -/
def mixD (T : TA) (S : SA) (src : Nat → Bool) (k p : Nat) : Nat → Option Nat := fun q => if q < p then lf T S src (k + 2) q else lf T S src (k + 1) q
theorem mixD_le {k p q d : Nat} (h : mixD T S src k p q = some d) : d < k + 2 := by
  unfold mixD at h
  split at h
  · exact lf_lt h
  · have := lf_lt h; omega
theorem mixD_eq (k p q : Nat) : mixD T S src k p q = some k ↔ lf T S src (k + 1) q = some k := by
  unfold mixD
  split
  · exact lf_at k q
  · rfl
set_option maxHeartbeats 8000000 in
theorem far_round (hn : 300 < n) (J : Nat → Nat → Int64) (f : Nat) (o : MO I b T S) {k : Nat} (hk : k < 64) (hF : FrM I (lf T S src (k + 1)) (wm T)) (x3 : Option Value) : ∃ I' x3', (∀ r2, mit (kX12_layFar_12 n r2) n [some (.ref 60), some (.int (nI k)), some (.int 0), x3] [] (mm I J f) = r2 [some (.ref 60), some (.int (nI (k + 1))), some (.int (nI (wm T))), x3'] [] (mm I' J f)) ∧ FrM I' (lf T S src (k + 2)) (wm T) ∧ ∀ c j, c ≠ 90 → I' c j = I c j := by
  have h64 : wm T ≤ 64 := o.cm
  have key := mit_indR (G := fun s => kX12_layFar_12 n s) (fun d L μ => ∃ (p : Nat) (I' : Nat → Nat → Int32) (x3 : Option Value), p + d = wm T ∧ μ = mm I' J f ∧ FrM I' (mixD T S src k p) (wm T) ∧ (∀ c j, c ≠ 90 → I' c j = I c j) ∧ L = [some (.ref 60), some (.int (nI k)), some (.int (nI p)), x3]) (fun L μ => ∃ (I' : Nat → Nat → Int32) (x3 : Option Value), L = [some (.ref 60), some (.int (nI (k + 1))), some (.int (nI (wm T))), x3] ∧ μ = mm I' J f ∧ FrM I' (lf T S src (k + 2)) (wm T) ∧ ∀ c j, c ≠ 90 → I' c j = I c j) ?_ ?_ (wm T) n [some (.ref 60), some (.int (nI k)), some (.int 0), x3] (mm I J f) (by omega) ⟨0, I, x3, by omega, rfl, fun p hp => by rw [hF p hp]; simp [mixD], fun _ _ _ => rfl, rfl⟩
  · obtain ⟨_, _, ⟨I', x3', rfl, rfl, h1, h2⟩, h5⟩ := key
    exact ⟨I', x3', h5, h1, h2⟩
  · rintro L μ ⟨p, I', x3, hp, rfl, h1, h2, rfl⟩
    have : p = wm T := by omega
    subst this
    refine ⟨_, _, fun s r => ?_, I', x3, rfl, rfl, fun q hq => ?_, h2⟩
    · have m1 := m_spotsW n J f (MO_90 o h2)
      simp (disch := omega) only [kX12_layFar_12, x_no, x_cst, x_ldI, x_ldJ, x_ldA, x_stI, x_stJ, x_stA, x_inc, x_bin, x_un, x_i2l, x_bnJ, x_lshl, x_lcmp, x_dup, x_dp2, x_gI, x_gJ, x_gA, x_pI, x_pZ, x_pJ, x_pA, x_c0, x_c2, x_sw, x_cV, x_cS, x_rV, x_rI, x_rZ, x_rJ, x_mm, x_pop, msel, mpl, mvr, mnw, List.getElem?_cons_zero, List.getElem?_cons_succ, List.set_cons_zero, List.set_cons_succ, List.length_cons, List.length_nil, List.drop_succ_cons, List.drop_zero, List.take_succ_cons, List.take_zero, List.reverse_cons, List.reverse_nil, List.nil_append, List.cons_append, List.append_nil, List.map_cons, List.map_nil, List.sum_cons, List.sum_nil, Option.toList_some, Option.toList_none, Option.bind_some, Value.category, decide_eq_true_eq, decide_true, decide_false, if_true, if_false, Bool.false_eq_true, and_self, and_true, true_and, true_or, or_true, not_true_eq_false, not_false_eq_true, ↓reduceIte, reduceCtorEq, Nat.reduceEqDiff, Nat.reduceAdd, Nat.reduceSub, Nat.reduceMul, Nat.reduceLT, Nat.reduceLeDiff, Nat.reduceBEq, Nat.le_refl, Nat.zero_le, Nat.lt_irrefl, beq_self_eq_true, Nat.succ_ne_zero, Option.some.injEq, Prod.mk.injEq, Int32.reduceLT, Int32.reduceLE, y_60, rt_60_0, rt_60_1, rt_60_11, rt_60_12, rt_60_13, rt_60_14, rt_60_15, rt_60_16, rt_60_17, rt_60_18, rt_60_19, rt_60_20, rt_60_21, rt_60_22, rt_60_23, rt_60_24, rt_60_25, rt_60_26, rt_60_27, rt_60_28, rt_60_29, rt_60_30, rt_60_39, rt_60_41, rt_60_42, rt_60_45, rt_60_46, rt_60_47, rt_60_49, rt_60_50, rt_60_51, rt_60_52, rt_60_53, rt_60_54, rt_60_55, rt_60_56, rt_60_59, rt_60_61, rt_60_62, al_63, as_63, al_64, as_64, al_65, as_65, al_66, as_66, al_67, as_67, al_68, as_68, al_69, as_69, al_70, as_70, al_71, as_71, al_72, as_72, al_73, as_73, al_74, as_74, al_75, as_75, al_76, as_76, al_78, as_78, al_79, as_79, al_80, as_80, al_81, as_81, al_82, as_82, al_83, as_83, al_84, as_84, al_85, as_85, al_86, as_86, al_87, as_87, al_88, as_88, al_89, as_89, al_90, as_90, al_91, as_91, al_92, as_92, al_93, as_93, al_94, as_94, al_95, as_95, al_96, as_96, al_97, as_97, al_98, as_98, al_61, as_61, al_62, as_62, al_99, as_99, al_82_0, as_82_0, al_83_32, as_83_32, al_83_33, as_83_33, ad0, ad8, ad16, ad24, ad_0, mu2, mu8, mu34, nI_add, nI_1, uI_mm, dvN, dvM, m1, Int32.le_refl]
    · rw [h1 q hq]
      unfold mixD
      rw [if_pos hq]
  · rintro d L μ ⟨p, I', x3, hp, rfl, h1, h2, rfl⟩
    refine Or.inr ?_
    have hpm : p < wm T := by omega
    have c1 : ¬ wm T ≤ p := by omega
    have o' := MO_90 o h2
    have m1 := m_spotsW n J f o'
    have e90 : I' 90 p = fv (lf T S src (k + 1) p) := by
      rw [h1 p hpm]
      unfold mixD
      rw [if_neg (by omega)]
    have hlt := fv_lt (x := lf T S src (k + 1) p) (fun d hd => by have := lf_lt hd; omega)
    have mw := m_whoAt (show 8 < n by omega) J f o' (show p < 2 ^ 31 by omega)
    have hwn := whoAt_neg T S (nI p)
    have same : lf T S src (k + 2) p = lf T S src (k + 1) p → FrM I' (mixD T S src k (p + 1)) (wm T) := by
      intro hs q hq
      rw [h1 q hq]
      unfold mixD
      by_cases e : q = p
      · subst e
        rw [if_neg (by omega), if_pos (by omega), hs]
      · by_cases e2 : q < p
        · rw [if_pos e2, if_pos (by omega)]
        · rw [if_neg e2, if_neg (by omega)]
    cases e0 : lf T S src (k + 1) p with
    | some x =>
      have hs : lf T S src (k + 2) p = lf T S src (k + 1) p := by rw [lf_snoc (k + 1), e0]
      have e1 : fv (some x) < 1000 := by rw [← e0]; exact hlt.mpr (by rw [e0]; rfl)
      rw [e0] at e90
      refine ⟨_, _, ⟨p + 1, I', x3, by omega, rfl, same hs, h2, rfl⟩, fun s r => ?_⟩
      simp (disch := omega) only [kX12_layFar_12, kX12_layFar_87, x_no, x_cst, x_ldI, x_ldJ, x_ldA, x_stI, x_stJ, x_stA, x_inc, x_bin, x_un, x_i2l, x_bnJ, x_lshl, x_lcmp, x_dup, x_dp2, x_gI, x_gJ, x_gA, x_pI, x_pZ, x_pJ, x_pA, x_c0, x_c2, x_sw, x_cV, x_cS, x_rV, x_rI, x_rZ, x_rJ, x_mm, x_pop, msel, mpl, mvr, mnw, List.getElem?_cons_zero, List.getElem?_cons_succ, List.set_cons_zero, List.set_cons_succ, List.length_cons, List.length_nil, List.drop_succ_cons, List.drop_zero, List.take_succ_cons, List.take_zero, List.reverse_cons, List.reverse_nil, List.nil_append, List.cons_append, List.append_nil, List.map_cons, List.map_nil, List.sum_cons, List.sum_nil, Option.toList_some, Option.toList_none, Option.bind_some, Value.category, decide_eq_true_eq, decide_true, decide_false, if_true, if_false, Bool.false_eq_true, and_self, and_true, true_and, true_or, or_true, not_true_eq_false, not_false_eq_true, ↓reduceIte, reduceCtorEq, Nat.reduceEqDiff, Nat.reduceAdd, Nat.reduceSub, Nat.reduceMul, Nat.reduceLT, Nat.reduceLeDiff, Nat.reduceBEq, Nat.le_refl, Nat.zero_le, Nat.lt_irrefl, beq_self_eq_true, Nat.succ_ne_zero, Option.some.injEq, Prod.mk.injEq, Int32.reduceLT, Int32.reduceLE, y_60, rt_60_0, rt_60_1, rt_60_11, rt_60_12, rt_60_13, rt_60_14, rt_60_15, rt_60_16, rt_60_17, rt_60_18, rt_60_19, rt_60_20, rt_60_21, rt_60_22, rt_60_23, rt_60_24, rt_60_25, rt_60_26, rt_60_27, rt_60_28, rt_60_29, rt_60_30, rt_60_39, rt_60_41, rt_60_42, rt_60_45, rt_60_46, rt_60_47, rt_60_49, rt_60_50, rt_60_51, rt_60_52, rt_60_53, rt_60_54, rt_60_55, rt_60_56, rt_60_59, rt_60_61, rt_60_62, al_63, as_63, al_64, as_64, al_65, as_65, al_66, as_66, al_67, as_67, al_68, as_68, al_69, as_69, al_70, as_70, al_71, as_71, al_72, as_72, al_73, as_73, al_74, as_74, al_75, as_75, al_76, as_76, al_78, as_78, al_79, as_79, al_80, as_80, al_81, as_81, al_82, as_82, al_83, as_83, al_84, as_84, al_85, as_85, al_86, as_86, al_87, as_87, al_88, as_88, al_89, as_89, al_90, as_90, al_91, as_91, al_92, as_92, al_93, as_93, al_94, as_94, al_95, as_95, al_96, as_96, al_97, as_97, al_98, as_98, al_61, as_61, al_62, as_62, al_99, as_99, al_82_0, as_82_0, al_83_32, as_83_32, al_83_33, as_83_33, ad0, ad8, ad16, ad24, ad_0, mu2, mu8, mu34, nI_add, nI_1, uI_mm, dvN, dvM, m1, nI_leI, c1, e90, e1]
    | none =>
      have e1 : ¬ fv none < 1000 := by decide
      rw [e0] at e90
      by_cases e2 : whoAtA T S (nI p) = -1
      · have hE : opn T S p = true := by simp only [opn, e2, decide_true, Bool.and_true, decide_eq_true_eq]; exact hpm
        have e2' := hwn.mpr e2
        have hDp : mixD T S src k p p = none := by unfold mixD; rw [if_neg (by omega), e0]
        have fi := fun r2 r12 => far_in hn J f o' h1 (fun q d hd => by have := mixD_le hd; omega) (k := k) (p := p) (by omega) hpm hDp r2 r12
        have hcn : cn (fun q => decide (mixD T S src k p q = some k) && nb (tC T) (tR T) p q) (wm T) = cn (fun q => decide (lf T S src (k + 1) q = some k) && nb (tC T) (tR T) p q) (wm T) := cn_congr _ (fun q _ => by
          rw [decide_eq_decide.mpr (mixD_eq k p q)])
        have hfar := far_iff o.1 hE e0
        have hval : (if cn (fun q => decide (mixD T S src k p q = some k) && nb (tC T) (tR T) p q) (wm T) = 0 then none else some (k + 1)) = lf T S src (k + 2) p := by
          rw [lf_snoc (k + 1), e0, hcn]
          simp only
          by_cases e3 : lv (wE T S) (wN T) (wm T) src (k + 1) p = true
          · rw [if_neg (hfar.mpr e3), if_pos e3]
          · rw [if_neg e3, if_pos]
            exact Classical.byContradiction (fun z => e3 (hfar.mp z))
        rw [hval] at fi
        refine ⟨_, _, ⟨p + 1, u2 I' 90 p (fv (lf T S src (k + 2) p)), some (.int (nI (wm T))), by omega, rfl, fun q hq => ?_, fun c j hc => by rw [u2_a hc]; exact h2 c j hc, rfl⟩, fun s r => ?_⟩
        · by_cases e : q = p
          · subst e
            rw [u2_s]
            unfold mixD
            rw [if_pos (by omega)]
          · rw [u2_j e, h1 q hq]
            unfold mixD
            by_cases e2 : q < p
            · rw [if_pos e2, if_pos (by omega)]
            · rw [if_neg e2, if_neg (by omega)]
        · simp (disch := omega) only [kX12_layFar_12, x_no, x_cst, x_ldI, x_ldJ, x_ldA, x_stI, x_stJ, x_stA, x_inc, x_bin, x_un, x_i2l, x_bnJ, x_lshl, x_lcmp, x_dup, x_dp2, x_gI, x_gJ, x_gA, x_pI, x_pZ, x_pJ, x_pA, x_c0, x_c2, x_sw, x_cV, x_cS, x_rV, x_rI, x_rZ, x_rJ, x_mm, x_pop, msel, mpl, mvr, mnw, List.getElem?_cons_zero, List.getElem?_cons_succ, List.set_cons_zero, List.set_cons_succ, List.length_cons, List.length_nil, List.drop_succ_cons, List.drop_zero, List.take_succ_cons, List.take_zero, List.reverse_cons, List.reverse_nil, List.nil_append, List.cons_append, List.append_nil, List.map_cons, List.map_nil, List.sum_cons, List.sum_nil, Option.toList_some, Option.toList_none, Option.bind_some, Value.category, decide_eq_true_eq, decide_true, decide_false, if_true, if_false, Bool.false_eq_true, and_self, and_true, true_and, true_or, or_true, not_true_eq_false, not_false_eq_true, ↓reduceIte, reduceCtorEq, Nat.reduceEqDiff, Nat.reduceAdd, Nat.reduceSub, Nat.reduceMul, Nat.reduceLT, Nat.reduceLeDiff, Nat.reduceBEq, Nat.le_refl, Nat.zero_le, Nat.lt_irrefl, beq_self_eq_true, Nat.succ_ne_zero, Option.some.injEq, Prod.mk.injEq, Int32.reduceLT, Int32.reduceLE, y_60, rt_60_0, rt_60_1, rt_60_11, rt_60_12, rt_60_13, rt_60_14, rt_60_15, rt_60_16, rt_60_17, rt_60_18, rt_60_19, rt_60_20, rt_60_21, rt_60_22, rt_60_23, rt_60_24, rt_60_25, rt_60_26, rt_60_27, rt_60_28, rt_60_29, rt_60_30, rt_60_39, rt_60_41, rt_60_42, rt_60_45, rt_60_46, rt_60_47, rt_60_49, rt_60_50, rt_60_51, rt_60_52, rt_60_53, rt_60_54, rt_60_55, rt_60_56, rt_60_59, rt_60_61, rt_60_62, al_63, as_63, al_64, as_64, al_65, as_65, al_66, as_66, al_67, as_67, al_68, as_68, al_69, as_69, al_70, as_70, al_71, as_71, al_72, as_72, al_73, as_73, al_74, as_74, al_75, as_75, al_76, as_76, al_78, as_78, al_79, as_79, al_80, as_80, al_81, as_81, al_82, as_82, al_83, as_83, al_84, as_84, al_85, as_85, al_86, as_86, al_87, as_87, al_88, as_88, al_89, as_89, al_90, as_90, al_91, as_91, al_92, as_92, al_93, as_93, al_94, as_94, al_95, as_95, al_96, as_96, al_97, as_97, al_98, as_98, al_61, as_61, al_62, as_62, al_99, as_99, al_82_0, as_82_0, al_83_32, as_83_32, al_83_33, as_83_33, ad0, ad8, ad16, ad24, ad_0, mu2, mu8, mu34, nI_add, nI_1, uI_mm, dvN, dvM, m1, nI_leI, c1, e90, e1, mw, e2']
          exact fi s r
      · have hE : opn T S p = false := by simp [opn, e2]
        have e2' : ¬ whoAtA T S (nI p) < 0 := fun z => e2 (hwn.mp z)
        have hs : lf T S src (k + 2) p = lf T S src (k + 1) p := by
          rw [lf_snoc (k + 1), e0]
          simp only
          rw [if_neg (fun z => by rw [show opn T S p = true from lv_E _ z] at hE; cases hE)]
        refine ⟨_, _, ⟨p + 1, I', x3, by omega, rfl, same hs, h2, rfl⟩, fun s r => ?_⟩
        simp (disch := omega) only [kX12_layFar_12, kX12_layFar_87, x_no, x_cst, x_ldI, x_ldJ, x_ldA, x_stI, x_stJ, x_stA, x_inc, x_bin, x_un, x_i2l, x_bnJ, x_lshl, x_lcmp, x_dup, x_dp2, x_gI, x_gJ, x_gA, x_pI, x_pZ, x_pJ, x_pA, x_c0, x_c2, x_sw, x_cV, x_cS, x_rV, x_rI, x_rZ, x_rJ, x_mm, x_pop, msel, mpl, mvr, mnw, List.getElem?_cons_zero, List.getElem?_cons_succ, List.set_cons_zero, List.set_cons_succ, List.length_cons, List.length_nil, List.drop_succ_cons, List.drop_zero, List.take_succ_cons, List.take_zero, List.reverse_cons, List.reverse_nil, List.nil_append, List.cons_append, List.append_nil, List.map_cons, List.map_nil, List.sum_cons, List.sum_nil, Option.toList_some, Option.toList_none, Option.bind_some, Value.category, decide_eq_true_eq, decide_true, decide_false, if_true, if_false, Bool.false_eq_true, and_self, and_true, true_and, true_or, or_true, not_true_eq_false, not_false_eq_true, ↓reduceIte, reduceCtorEq, Nat.reduceEqDiff, Nat.reduceAdd, Nat.reduceSub, Nat.reduceMul, Nat.reduceLT, Nat.reduceLeDiff, Nat.reduceBEq, Nat.le_refl, Nat.zero_le, Nat.lt_irrefl, beq_self_eq_true, Nat.succ_ne_zero, Option.some.injEq, Prod.mk.injEq, Int32.reduceLT, Int32.reduceLE, y_60, rt_60_0, rt_60_1, rt_60_11, rt_60_12, rt_60_13, rt_60_14, rt_60_15, rt_60_16, rt_60_17, rt_60_18, rt_60_19, rt_60_20, rt_60_21, rt_60_22, rt_60_23, rt_60_24, rt_60_25, rt_60_26, rt_60_27, rt_60_28, rt_60_29, rt_60_30, rt_60_39, rt_60_41, rt_60_42, rt_60_45, rt_60_46, rt_60_47, rt_60_49, rt_60_50, rt_60_51, rt_60_52, rt_60_53, rt_60_54, rt_60_55, rt_60_56, rt_60_59, rt_60_61, rt_60_62, al_63, as_63, al_64, as_64, al_65, as_65, al_66, as_66, al_67, as_67, al_68, as_68, al_69, as_69, al_70, as_70, al_71, as_71, al_72, as_72, al_73, as_73, al_74, as_74, al_75, as_75, al_76, as_76, al_78, as_78, al_79, as_79, al_80, as_80, al_81, as_81, al_82, as_82, al_83, as_83, al_84, as_84, al_85, as_85, al_86, as_86, al_87, as_87, al_88, as_88, al_89, as_89, al_90, as_90, al_91, as_91, al_92, as_92, al_93, as_93, al_94, as_94, al_95, as_95, al_96, as_96, al_97, as_97, al_98, as_98, al_61, as_61, al_62, as_62, al_99, as_99, al_82_0, as_82_0, al_83_32, as_83_32, al_83_33, as_83_33, ad0, ad8, ad16, ad24, ad_0, mu2, mu8, mu34, nI_add, nI_1, uI_mm, dvN, dvM, m1, nI_leI, c1, e90, e1, mw, e2']
set_option maxHeartbeats 8000000 in
theorem m_layFar (hn : 300 < n) (J : Nat → Nat → Int64) (f : Nat) (o : MO I b T S) (hF : FrM I (lf T S src 1) (wm T)) : ∃ I', FX12_layFar n [.ref 60] (mm I J f) = some (none, mm I' J f) ∧ FrM I' (dsp T S src) (wm T) ∧ ∀ c j, c ≠ 90 → I' c j = I c j := by
  have h64 : wm T ≤ 64 := o.cm
  simp only [eX12_layFar, kX12_layFar_0, x_no, x_cst, x_ldI, x_ldJ, x_ldA, x_stI, x_stJ, x_stA, x_inc, x_bin, x_un, x_i2l, x_bnJ, x_lshl, x_lcmp, x_dup, x_dp2, x_gI, x_gJ, x_gA, x_pI, x_pZ, x_pJ, x_pA, x_c0, x_c2, x_sw, x_cV, x_cS, x_rV, x_rI, x_rZ, x_rJ, x_mm, x_pop, msel, mpl, mvr, mnw, List.getElem?_cons_zero, List.getElem?_cons_succ, List.set_cons_zero, List.set_cons_succ, List.length_cons, List.length_nil, List.drop_succ_cons, List.drop_zero, List.take_succ_cons, List.take_zero, List.reverse_cons, List.reverse_nil, List.nil_append, List.cons_append, List.append_nil, List.map_cons, List.map_nil, List.sum_cons, List.sum_nil, Option.toList_some, Option.toList_none, Option.bind_some, Value.category, decide_eq_true_eq, decide_true, decide_false, if_true, if_false, Bool.false_eq_true, and_self, and_true, true_and, true_or, or_true, not_true_eq_false, not_false_eq_true, ↓reduceIte, reduceCtorEq, Nat.reduceEqDiff, Nat.reduceAdd, Nat.reduceSub, Nat.reduceMul, Nat.reduceLT, Nat.reduceLeDiff, Nat.reduceBEq, Nat.le_refl, Nat.zero_le, Nat.lt_irrefl, beq_self_eq_true, Nat.succ_ne_zero, Option.some.injEq, Prod.mk.injEq, Int32.reduceLT, Int32.reduceLE, y_60, rt_60_0, rt_60_1, rt_60_11, rt_60_12, rt_60_13, rt_60_14, rt_60_15, rt_60_16, rt_60_17, rt_60_18, rt_60_19, rt_60_20, rt_60_21, rt_60_22, rt_60_23, rt_60_24, rt_60_25, rt_60_26, rt_60_27, rt_60_28, rt_60_29, rt_60_30, rt_60_39, rt_60_41, rt_60_42, rt_60_45, rt_60_46, rt_60_47, rt_60_49, rt_60_50, rt_60_51, rt_60_52, rt_60_53, rt_60_54, rt_60_55, rt_60_56, rt_60_59, rt_60_61, rt_60_62, al_63, as_63, al_64, as_64, al_65, as_65, al_66, as_66, al_67, as_67, al_68, as_68, al_69, as_69, al_70, as_70, al_71, as_71, al_72, as_72, al_73, as_73, al_74, as_74, al_75, as_75, al_76, as_76, al_78, as_78, al_79, as_79, al_80, as_80, al_81, as_81, al_82, as_82, al_83, as_83, al_84, as_84, al_85, as_85, al_86, as_86, al_87, as_87, al_88, as_88, al_89, as_89, al_90, as_90, al_91, as_91, al_92, as_92, al_93, as_93, al_94, as_94, al_95, as_95, al_96, as_96, al_97, as_97, al_98, as_98, al_61, as_61, al_62, as_62, al_99, as_99, al_82_0, as_82_0, al_83_32, as_83_32, al_83_33, as_83_33, ad0, ad8, ad16, ad24, ad_0, mu2, mu8, mu34, nI_add, nI_1, uI_mm, dvN, dvM]
  refine mit_ind (G := kX12_layFar_2 n) (fun d L μ => ∃ (k : Nat) (I' : Nat → Nat → Int32) (x2 x3 : Option Value), k + d = wm T ∧ μ = mm I' J f ∧ FrM I' (lf T S src (k + 1)) (wm T) ∧ (∀ c j, c ≠ 90 → I' c j = I c j) ∧ L = [some (.ref 60), some (.int (nI k)), x2, x3]) (fun v => ∃ I', v = some (none, mm I' J f) ∧ FrM I' (dsp T S src) (wm T) ∧ ∀ c j, c ≠ 90 → I' c j = I c j) ?_ ?_ (wm T) n _ _ (by omega) ⟨0, I, none, none, by omega, rfl, hF, fun _ _ _ => rfl, rfl⟩
  · rintro L μ ⟨k, I', x2, x3, hk, rfl, h1, h2, rfl⟩
    have : k = wm T := by omega
    subst this
    refine ⟨_, fun r => ?_, I', rfl, fun p hp => ?_, h2⟩
    · have m1 := m_spotsW n J f (MO_90 o h2)
      simp (disch := omega) only [kX12_layFar_2, x_no, x_cst, x_ldI, x_ldJ, x_ldA, x_stI, x_stJ, x_stA, x_inc, x_bin, x_un, x_i2l, x_bnJ, x_lshl, x_lcmp, x_dup, x_dp2, x_gI, x_gJ, x_gA, x_pI, x_pZ, x_pJ, x_pA, x_c0, x_c2, x_sw, x_cV, x_cS, x_rV, x_rI, x_rZ, x_rJ, x_mm, x_pop, msel, mpl, mvr, mnw, List.getElem?_cons_zero, List.getElem?_cons_succ, List.set_cons_zero, List.set_cons_succ, List.length_cons, List.length_nil, List.drop_succ_cons, List.drop_zero, List.take_succ_cons, List.take_zero, List.reverse_cons, List.reverse_nil, List.nil_append, List.cons_append, List.append_nil, List.map_cons, List.map_nil, List.sum_cons, List.sum_nil, Option.toList_some, Option.toList_none, Option.bind_some, Value.category, decide_eq_true_eq, decide_true, decide_false, if_true, if_false, Bool.false_eq_true, and_self, and_true, true_and, true_or, or_true, not_true_eq_false, not_false_eq_true, ↓reduceIte, reduceCtorEq, Nat.reduceEqDiff, Nat.reduceAdd, Nat.reduceSub, Nat.reduceMul, Nat.reduceLT, Nat.reduceLeDiff, Nat.reduceBEq, Nat.le_refl, Nat.zero_le, Nat.lt_irrefl, beq_self_eq_true, Nat.succ_ne_zero, Option.some.injEq, Prod.mk.injEq, Int32.reduceLT, Int32.reduceLE, y_60, rt_60_0, rt_60_1, rt_60_11, rt_60_12, rt_60_13, rt_60_14, rt_60_15, rt_60_16, rt_60_17, rt_60_18, rt_60_19, rt_60_20, rt_60_21, rt_60_22, rt_60_23, rt_60_24, rt_60_25, rt_60_26, rt_60_27, rt_60_28, rt_60_29, rt_60_30, rt_60_39, rt_60_41, rt_60_42, rt_60_45, rt_60_46, rt_60_47, rt_60_49, rt_60_50, rt_60_51, rt_60_52, rt_60_53, rt_60_54, rt_60_55, rt_60_56, rt_60_59, rt_60_61, rt_60_62, al_63, as_63, al_64, as_64, al_65, as_65, al_66, as_66, al_67, as_67, al_68, as_68, al_69, as_69, al_70, as_70, al_71, as_71, al_72, as_72, al_73, as_73, al_74, as_74, al_75, as_75, al_76, as_76, al_78, as_78, al_79, as_79, al_80, as_80, al_81, as_81, al_82, as_82, al_83, as_83, al_84, as_84, al_85, as_85, al_86, as_86, al_87, as_87, al_88, as_88, al_89, as_89, al_90, as_90, al_91, as_91, al_92, as_92, al_93, as_93, al_94, as_94, al_95, as_95, al_96, as_96, al_97, as_97, al_98, as_98, al_61, as_61, al_62, as_62, al_99, as_99, al_82_0, as_82_0, al_83_32, as_83_32, al_83_33, as_83_33, ad0, ad8, ad16, ad24, ad_0, mu2, mu8, mu34, nI_add, nI_1, uI_mm, dvN, dvM, m1, Int32.le_refl]
    · rw [h1 p hp]
      congr 1
      exact lv_top (fun p hp => opn_lt hp) p
  · rintro d L μ ⟨k, I', x2, x3, hk, rfl, h1, h2, rfl⟩
    refine Or.inr ?_
    have c1 : ¬ wm T ≤ k := by omega
    have m1 := m_spotsW n J f (MO_90 o h2)
    obtain ⟨I2, x3', g1, g2, g3⟩ := far_round hn J f (MO_90 o h2) (show k < 64 by omega) h1 x3
    refine ⟨_, _, ⟨k + 1, I2, some (.int (nI (wm T))), x3', by omega, rfl, g2, fun c j hc => (g3 c j hc).trans (h2 c j hc), rfl⟩, fun r => ?_⟩
    simp (disch := omega) only [kX12_layFar_2, x_no, x_cst, x_ldI, x_ldJ, x_ldA, x_stI, x_stJ, x_stA, x_inc, x_bin, x_un, x_i2l, x_bnJ, x_lshl, x_lcmp, x_dup, x_dp2, x_gI, x_gJ, x_gA, x_pI, x_pZ, x_pJ, x_pA, x_c0, x_c2, x_sw, x_cV, x_cS, x_rV, x_rI, x_rZ, x_rJ, x_mm, x_pop, msel, mpl, mvr, mnw, List.getElem?_cons_zero, List.getElem?_cons_succ, List.set_cons_zero, List.set_cons_succ, List.length_cons, List.length_nil, List.drop_succ_cons, List.drop_zero, List.take_succ_cons, List.take_zero, List.reverse_cons, List.reverse_nil, List.nil_append, List.cons_append, List.append_nil, List.map_cons, List.map_nil, List.sum_cons, List.sum_nil, Option.toList_some, Option.toList_none, Option.bind_some, Value.category, decide_eq_true_eq, decide_true, decide_false, if_true, if_false, Bool.false_eq_true, and_self, and_true, true_and, true_or, or_true, not_true_eq_false, not_false_eq_true, ↓reduceIte, reduceCtorEq, Nat.reduceEqDiff, Nat.reduceAdd, Nat.reduceSub, Nat.reduceMul, Nat.reduceLT, Nat.reduceLeDiff, Nat.reduceBEq, Nat.le_refl, Nat.zero_le, Nat.lt_irrefl, beq_self_eq_true, Nat.succ_ne_zero, Option.some.injEq, Prod.mk.injEq, Int32.reduceLT, Int32.reduceLE, y_60, rt_60_0, rt_60_1, rt_60_11, rt_60_12, rt_60_13, rt_60_14, rt_60_15, rt_60_16, rt_60_17, rt_60_18, rt_60_19, rt_60_20, rt_60_21, rt_60_22, rt_60_23, rt_60_24, rt_60_25, rt_60_26, rt_60_27, rt_60_28, rt_60_29, rt_60_30, rt_60_39, rt_60_41, rt_60_42, rt_60_45, rt_60_46, rt_60_47, rt_60_49, rt_60_50, rt_60_51, rt_60_52, rt_60_53, rt_60_54, rt_60_55, rt_60_56, rt_60_59, rt_60_61, rt_60_62, al_63, as_63, al_64, as_64, al_65, as_65, al_66, as_66, al_67, as_67, al_68, as_68, al_69, as_69, al_70, as_70, al_71, as_71, al_72, as_72, al_73, as_73, al_74, as_74, al_75, as_75, al_76, as_76, al_78, as_78, al_79, as_79, al_80, as_80, al_81, as_81, al_82, as_82, al_83, as_83, al_84, as_84, al_85, as_85, al_86, as_86, al_87, as_87, al_88, as_88, al_89, as_89, al_90, as_90, al_91, as_91, al_92, as_92, al_93, as_93, al_94, as_94, al_95, as_95, al_96, as_96, al_97, as_97, al_98, as_98, al_61, as_61, al_62, as_62, al_99, as_99, al_82_0, as_82_0, al_83_32, as_83_32, al_83_33, as_83_33, ad0, ad8, ad16, ad24, ad_0, mu2, mu8, mu34, nI_add, nI_1, uI_mm, dvN, dvM, m1, nI_leI, c1]
    exact g1 r
end MWalk
