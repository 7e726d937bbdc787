/-! PURE: the model's constructor; what both hold at first -/
def LM0 : List OP := (0, 4, 12, 0) :: LC1
def LJ1 : List OP := (1, 60, 0, 61) :: (0, 1, 1620, 0) :: LM0
def LJ2 : List OP := (1, 60, 1, 62) :: (0, 1, 1600, 0) :: LJ1
def LJ3 : List OP := (2, 60, 5, 4294967295) :: LJ2
def LJ4 : List OP := (1, 60, 11, 63) :: (0, 0, 2, 0) :: LJ3
def LJ5 : List OP := (1, 60, 12, 64) :: (0, 0, 2, 0) :: LJ4
def LJ6 : List OP := (1, 60, 13, 65) :: (0, 0, 2, 0) :: LJ5
def LJ7 : List OP := (1, 60, 14, 66) :: (0, 0, 2, 0) :: LJ6
def LJ8 : List OP := (1, 60, 15, 67) :: (0, 0, 2, 0) :: LJ7
def LJ9 : List OP := (1, 60, 16, 68) :: (0, 0, 2, 0) :: LJ8
def LJ10 : List OP := (1, 60, 17, 69) :: (0, 0, 2, 0) :: LJ9
def LJ11 : List OP := (1, 60, 18, 70) :: (0, 0, 2, 0) :: LJ10
def LJ12 : List OP := (1, 60, 19, 71) :: (0, 0, 16, 0) :: LJ11
def LJ13 : List OP := (1, 60, 20, 72) :: (0, 0, 16, 0) :: LJ12
def LJ14 : List OP := (1, 60, 21, 73) :: (0, 0, 16, 0) :: LJ13
def LJ15 : List OP := (1, 60, 22, 74) :: (0, 0, 16, 0) :: LJ14
def LJ16 : List OP := (1, 60, 23, 75) :: (0, 0, 4, 0) :: LJ15
def LJ17 : List OP := (1, 60, 24, 76) :: (0, 0, 4, 0) :: LJ16
def LJ18 : List OP := (1, 60, 25, 77) :: (0, 3, 16, 0) :: LJ17
def LJ19 : List OP := (1, 60, 26, 78) :: (0, 0, 1120, 0) :: LJ18
def LJ20 : List OP := (1, 60, 27, 79) :: (0, 0, 1120, 0) :: LJ19
def LJ21 : List OP := (1, 60, 28, 80) :: (0, 0, 90, 0) :: LJ20
def LJ22 : List OP := (1, 60, 29, 81) :: (0, 0, 90, 0) :: LJ21
def LJ23 : List OP := (1, 60, 30, 82) :: (0, 0, 60, 0) :: LJ22
def LJ24 : List OP := (1, 60, 39, 83) :: (0, 0, 34, 0) :: LJ23
def LJ25 : List OP := (2, 60, 40, 4294967295) :: LJ24
def LJ26 : List OP := (1, 60, 41, 84) :: (0, 0, 8, 0) :: LJ25
def LJ27 : List OP := (1, 60, 42, 85) :: (0, 0, 1394, 0) :: LJ26
def LJ28 : List OP := (1, 60, 45, 86) :: (0, 0, 34, 0) :: LJ27
def LJ29 : List OP := (1, 60, 46, 87) :: (0, 0, 16, 0) :: LJ28
def LJ30 : List OP := (1, 60, 47, 88) :: (0, 0, 8, 0) :: LJ29
def LJ31 : List OP := (1, 60, 49, 89) :: (0, 0, 16, 0) :: LJ30
def LJ32 : List OP := (1, 60, 50, 90) :: (0, 0, 64, 0) :: LJ31
def LJ33 : List OP := (1, 60, 51, 91) :: (0, 0, 2100, 0) :: LJ32
def LJ34 : List OP := (1, 60, 52, 92) :: (0, 0, 30, 0) :: LJ33
def LJ35 : List OP := (1, 60, 53, 93) :: (0, 0, 30, 0) :: LJ34
def LJ36 : List OP := (1, 60, 54, 94) :: (0, 0, 30, 0) :: LJ35
def LJ37 : List OP := (1, 60, 55, 95) :: (0, 0, 30, 0) :: LJ36
def LJ38 : List OP := (1, 60, 56, 96) :: (0, 0, 30, 0) :: LJ37
def LJ39 : List OP := (1, 60, 59, 97) :: (0, 0, 100, 0) :: LJ38
def LJ40 : List OP := (1, 60, 61, 98) :: (0, 0, 102, 0) :: LJ39
def LJ41 : List OP := (1, 60, 62, 99) :: (0, 2, 3, 0) :: LJ40
def LM1 : List OP := LJ41
/-- cells that hold references -/
def isOb (a : Nat) : Bool := [0, 2, 7, 10, 13, 18, 21, 24, 26, 29, 34, 39, 41, 44, 46, 55, 60].contains a
theorem rt_out (a j : Nat) (h : ¬ (isOb a = true ∧ j < 63)) : RT 21 a j = none := by
  unfold RT
  split <;> first | rfl | exact absurd (by decide) h
theorem rd_out {l : List OP} (hl : (l.all fun o => !decide (o.1 = 1) || (isOb o.2.1 && decide (o.2.2.1 < 63))) = true) {a j : Nat} (h : ¬ (isOb a = true ∧ j < 63)) : rdO l a j = none := by
  induction l with
  | nil => rfl
  | cons o l ih =>
    rw [List.all_cons, Bool.and_eq_true] at hl
    have c1 : ¬ (o.1 = 1 ∧ a = o.2.1 ∧ j = o.2.2.1) := fun z => by
      have h1 := hl.1
      simp only [z.1, decide_true, Bool.not_true, Bool.false_or, Bool.and_eq_true, decide_eq_true_eq] at h1
      exact h ⟨by rw [z.2.1]; exact h1.1, by rw [z.2.2]; exact h1.2⟩
    show (if o.1 = 1 ∧ a = o.2.1 ∧ j = o.2.2.1 then some o.2.2.2 else if o.1 = 0 ∧ a = cN l then none else rdO l a j) = none
    rw [if_neg c1, ih hl.2]
    simp
theorem rt_in : ∀ a ∈ [0, 2, 7, 10, 13, 18, 21, 24, 26, 29, 34, 39, 41, 44, 46, 55, 60], ∀ j, j < 63 → rdO LM1 a j = RT 21 a j := by decide +kernel
theorem sh_in : ∀ b, b < 100 → shO LM1 b = LAY[b]? := by decide +kernel
theorem mk4 {μ : mM} {I : Nat → Nat → Int32} {J : Nat → Nat → Int64} {R : Nat → Nat → Option Nat} {L : List (Nat × Nat)} (h1 : μ.1 = I) (h2 : μ.2.1 = J) (h3 : μ.2.2.1 = R) (h4 : μ.2.2.2 = L) : μ = (I, J, R, L) := by
  obtain ⟨I', J', R', L'⟩ := μ
  cases h1; cases h2; cases h3; cases h4
  rfl
theorem LM1_mm : Mo LM1 = mm (fun a j => ivO LM1 a j) (fun _ _ => 0) 21 := by
  have h1 : (Mo LM1).1 = fun a j => ivO LM1 a j := by funext a j; exact iv_M LM1 a j
  have h2 : (Mo LM1).2.1 = fun _ _ => 0 := j_M LM1
  have h3 : (Mo LM1).2.2.1 = RT 21 := by
    funext a j
    rw [rd_M]
    by_cases h : isOb a = true ∧ j < 63
    · exact rt_in a (by simpa [isOb] using h.1) j h.2
    · rw [rt_out a j h]
      exact rd_out (by decide +kernel) h
  have h4 : (Mo LM1).2.2.2 = LAY := by
    apply List.ext_getElem?
    intro b
    rw [sh_M]
    rcases Nat.lt_or_ge b 100 with g | g
    · exact sh_in b g
    · rw [sh_len LM1 b (Nat.le_trans (by decide +kernel : cN LM1 ≤ 100) g), List.getElem?_eq_none (show LAY.length ≤ b from g)]
  exact mk4 h1 h2 h3 h4
def IE : Nat → Nat → Int32 := fun a j => ivO LM1 a j
def A0 : AS := (mkT dr0, mkS dr0, [mkS dr0], 0, [], [], 0, fun _ => none, [], 0, none)
theorem IE_0 {a : Nat} (h : (LM1.all fun o => decide (o.1 = 0) || decide (o.1 = 1) || !decide (a = o.2.1)) = true) (j : Nat) : IE a j = 0 := iv_0 h j
section InitM
variable {n : Nat} {I' : Nat → Nat → Int32}
theorem RC_0 (h : ∀ b j, b < 60 → I' b j = IE b j) : RC I' A0 := by
  obtain ⟨m1, m2⟩ := mkT_rg DOK0
  have v : ∀ a j x, a < 60 → IE a j = x → I' a j = x := fun a j x ha hx => (h a j ha).trans hx
  refine ⟨⟨Or.inl rfl, m1, ⟨⟨v 2 0 _ (by decide) (by decide +kernel), v 2 1 _ (by decide) (by decide +kernel), v 2 2 _ (by decide) (by decide +kernel), v 2 3 _ (by decide) (by decide +kernel), v 2 4 _ (by decide) (by decide +kernel), v 2 5 _ (by decide) (by decide +kernel)⟩, fun j hj => absurd hj (Nat.not_lt_zero _), ⟨v 7 2 _ (by decide) (by decide +kernel), Nat.zero_le _, fun i hi => absurd hi (Nat.not_lt_zero _)⟩, ⟨v 10 2 _ (by decide) (by decide +kernel), Nat.zero_le _, fun i hi => absurd hi (Nat.not_lt_zero _)⟩⟩, m2.1, ⟨fun j hj => absurd hj (Nat.not_lt_zero _), v 29 5 _ (by decide) (by decide +kernel), v 29 6 _ (by decide) (by decide +kernel)⟩⟩, m2, ⟨(by decide : 0 < 1), (by decide : 1 ≤ 41), v 44 2 _ (by decide) (by decide +kernel), v 44 3 _ (by decide) (by decide +kernel), fun i hi => ?_⟩, ⟨v 55 1 _ (by decide) (by decide +kernel), Nat.zero_le _, fun i hi => absurd hi (Nat.not_lt_zero _)⟩, ⟨Nat.zero_le _, v 46 6 _ (by decide) (by decide +kernel), ⟨v 46 7 _ (by decide) (by decide +kernel), Nat.zero_le _⟩, fun i hi => absurd hi (Nat.not_lt_zero _), Or.inl (v 46 9 _ (by decide) (by decide +kernel))⟩, fun b hb => ?_, ⟨v 0 1 _ (by decide) (by decide +kernel), Nat.zero_le _, fun i hi => absurd hi (Nat.not_lt_zero _)⟩, v 24 11 _ (by decide) (by decide +kernel), v 24 12 _ (by decide) (by decide +kernel)⟩
  · have : i = 0 := by have hi : i < 1 := hi; omega
    subst this
    exact ⟨⟨fun j hj => absurd hj (Nat.not_lt_zero _), v 45 _ _ (by decide) (IE_0 (by decide +kernel) _), v 45 _ _ (by decide) (IE_0 (by decide +kernel) _)⟩, m2⟩
  · exact v 59 b _ (by decide) (IE_0 (by decide +kernel) b)
theorem eJ0 : mn (Mo LM1) = 100 := by rw [mn_M]; decide +kernel
set_option maxHeartbeats 4000000 in
theorem iX12 (hn : 300 < n) : ∃ I', FX12_init n [.ref 60] (Mo LM0) = some (none, mm I' (fun _ _ => 0) 21) ∧ RM I' 0 A0 ∧ ∀ b j, b < 60 → I' b j = IE b j := by
  have e32 : IE 60 32 = nI 0 := by decide +kernel
  have e5 : IE 60 5 = -1 := by decide +kernel
  have cb := m_clearBank (J := fun _ _ => 0) n 21 (rb := 0) (by decide) e32
  have dr := cb_Dr (J := fun _ _ => 0) (tp := []) (rb := 0) (by decide) e32 e5
  have k60 : ∀ j, j ≠ 33 → cbI IE 0 60 j = IE 60 j := fun j hj => cb_o (Or.inl (by decide)) (Or.inr hj)
  have mt := Dr_MT dr DOK0 (by rw [k60 31 (by decide)]; decide +kernel)
  obtain ⟨m1, m2⟩ := mkT_rg DOK0
  obtain ⟨I7, s1, s2, ⟨s3, s4, s5, s6⟩, s7, s8⟩ := m_startAnew (J := fun _ _ => 0) hn 21 m1 mt (by rw [k60 40 (by decide)]; decide +kernel)
  have s2' : MO I7 0 (mkT dr0) (mkS dr0) := s2
  have r60 : ∀ j, j ≠ 43 → j ≠ 44 → j ≠ 57 → j ≠ 48 → j ≠ 33 → I7 60 j = IE 60 j := fun j j1 j2 j3 j4 j5 => by rw [s8 60 j (by decide) (by decide) (fun _ => ⟨j1, j2, j3, j4⟩), k60 j j5]
  refine ⟨I7, ?_, ⟨s2', m2, ⟨⟨(by decide : 0 < 1), (by decide : 1 ≤ 41)⟩, ⟨s3, s4⟩, fun i hi => absurd hi (Nat.not_lt_zero _), fun i _ hi => absurd hi (by show ¬ i + 1 < 1; omega), rfl, fun i hi => ?_⟩, ⟨s6, Nat.zero_le _, fun i hi => absurd hi (Nat.not_lt_zero _)⟩, ⟨Nat.zero_le _, s5, ⟨?_, Nat.zero_le _⟩, fun i hi => absurd hi (Nat.not_lt_zero _)⟩, fun c hc => s7 c hc, ⟨?_, Nat.zero_le _, fun i hi => absurd hi (Nat.not_lt_zero _)⟩, ⟨?_, ?_⟩, ?_⟩, fun c j hc => ?_⟩
  · have tail : (i_ldA 0 (i_cV 12 0 (FX12_clearBank n) (i_ldA 0 (i_cV 12 0 (FX12_startAnew n) (kX12_init_329 n))))) [some (.ref 60)] [] (Mo LM1) = some (none, mm I7 (fun _ _ => 0) 21) := by
      rw [LM1_mm]
      show (i_ldA 0 (i_cV 12 0 (FX12_clearBank n) (i_ldA 0 (i_cV 12 0 (FX12_startAnew n) (kX12_init_329 n))))) [some (.ref 60)] [] (mm IE (fun _ _ => 0) 21) = _
      simp only [kX12_init_329, x_no, x_cst, x_ldI, x_ldJ, x_ldA, x_stI, x_stJ, x_stA, x_inc, x_bin, x_un, x_i2l, x_bnJ, x_lshl, x_lcmp, x_dup, x_dp2, x_gI, x_gJ, x_gA, x_pI, x_pZ, x_pJ, x_pA, x_c0, x_c2, x_sw, x_cV, x_cS, x_rV, x_rI, x_rZ, x_rJ, x_mm, x_pop, msel, mpl, mvr, mnw, List.getElem?_cons_zero, List.getElem?_cons_succ, List.set_cons_zero, List.set_cons_succ, List.length_cons, List.length_nil, List.drop_succ_cons, List.drop_zero, List.take_succ_cons, List.take_zero, List.reverse_cons, List.reverse_nil, List.nil_append, List.cons_append, List.append_nil, List.map_cons, List.map_nil, List.sum_cons, List.sum_nil, Option.toList_some, Option.toList_none, x_bs, Value.category, decide_eq_true_eq, decide_true, decide_false, if_true, if_false, Bool.false_eq_true, and_self, and_true, true_and, true_or, or_true, not_true_eq_false, not_false_eq_true, ↓reduceIte, reduceCtorEq, Nat.reduceEqDiff, Nat.reduceAdd, Nat.reduceSub, Nat.reduceMul, Nat.reduceLT, Nat.reduceLeDiff, Nat.reduceBEq, Nat.le_refl, Nat.zero_le, Nat.lt_irrefl, beq_self_eq_true, Nat.succ_ne_zero, Option.some.injEq, Prod.mk.injEq, Int32.reduceLT, Int32.reduceLE, y_60, rt_60_0, rt_60_1, rt_60_11, rt_60_12, rt_60_13, rt_60_14, rt_60_15, rt_60_16, rt_60_17, rt_60_18, rt_60_19, rt_60_20, rt_60_21, rt_60_22, rt_60_23, rt_60_24, rt_60_25, rt_60_26, rt_60_27, rt_60_28, rt_60_29, rt_60_30, rt_60_39, rt_60_41, rt_60_42, rt_60_45, rt_60_46, rt_60_47, rt_60_49, rt_60_50, rt_60_51, rt_60_52, rt_60_53, rt_60_54, rt_60_55, rt_60_56, rt_60_59, rt_60_61, rt_60_62, al_63, as_63, al_64, as_64, al_65, as_65, al_66, as_66, al_67, as_67, al_68, as_68, al_69, as_69, al_70, as_70, al_71, as_71, al_72, as_72, al_73, as_73, al_74, as_74, al_75, as_75, al_76, as_76, al_78, as_78, al_79, as_79, al_80, as_80, al_81, as_81, al_82, as_82, al_83, as_83, al_84, as_84, al_85, as_85, al_86, as_86, al_87, as_87, al_88, as_88, al_89, as_89, al_90, as_90, al_91, as_91, al_92, as_92, al_93, as_93, al_94, as_94, al_95, as_95, al_96, as_96, al_97, as_97, al_98, as_98, al_61, as_61, al_62, as_62, al_99, as_99, al_82_0, as_82_0, al_83_32, as_83_32, al_83_33, as_83_33, ad0, ad8, ad16, ad24, ad_0, mu2, mu8, mu34, nI_add, nI_1, uI_mm, dvN, dvM, cb, s1]
    rw [eX12_init]
    refine Bob (a := 60) (by rfl) ?_
    refine Eq.trans (Bna (a := 60) (m := 61) (l := LM0) (by rfl) (by rfl) (by decide +kernel) (by decide +kernel)) ?_
    refine Eq.trans (Bna (a := 60) (m := 62) (l := LJ1) (by rfl) (by rfl) (by decide +kernel) (by decide +kernel)) ?_
    refine Eq.trans (Bpi (a := 60) (v := 4294967295) (l := LJ2) (by rfl) (by decide +kernel) (by decide +kernel)) ?_
    refine Eq.trans (Bna (a := 60) (m := 63) (l := LJ3) (by rfl) (by rfl) (by decide +kernel) (by decide +kernel)) ?_
    refine Eq.trans (Bna (a := 60) (m := 64) (l := LJ4) (by rfl) (by rfl) (by decide +kernel) (by decide +kernel)) ?_
    refine Eq.trans (Bna (a := 60) (m := 65) (l := LJ5) (by rfl) (by rfl) (by decide +kernel) (by decide +kernel)) ?_
    refine Eq.trans (Bna (a := 60) (m := 66) (l := LJ6) (by rfl) (by rfl) (by decide +kernel) (by decide +kernel)) ?_
    refine Eq.trans (Bna (a := 60) (m := 67) (l := LJ7) (by rfl) (by rfl) (by decide +kernel) (by decide +kernel)) ?_
    refine Eq.trans (Bna (a := 60) (m := 68) (l := LJ8) (by rfl) (by rfl) (by decide +kernel) (by decide +kernel)) ?_
    refine Eq.trans (Bna (a := 60) (m := 69) (l := LJ9) (by rfl) (by rfl) (by decide +kernel) (by decide +kernel)) ?_
    refine Eq.trans (Bna (a := 60) (m := 70) (l := LJ10) (by rfl) (by rfl) (by decide +kernel) (by decide +kernel)) ?_
    refine Eq.trans (Bna (a := 60) (m := 71) (l := LJ11) (by rfl) (by rfl) (by decide +kernel) (by decide +kernel)) ?_
    refine Eq.trans (Bna (a := 60) (m := 72) (l := LJ12) (by rfl) (by rfl) (by decide +kernel) (by decide +kernel)) ?_
    refine Eq.trans (Bna (a := 60) (m := 73) (l := LJ13) (by rfl) (by rfl) (by decide +kernel) (by decide +kernel)) ?_
    refine Eq.trans (Bna (a := 60) (m := 74) (l := LJ14) (by rfl) (by rfl) (by decide +kernel) (by decide +kernel)) ?_
    refine Eq.trans (Bna (a := 60) (m := 75) (l := LJ15) (by rfl) (by rfl) (by decide +kernel) (by decide +kernel)) ?_
    refine Eq.trans (Bna (a := 60) (m := 76) (l := LJ16) (by rfl) (by rfl) (by decide +kernel) (by decide +kernel)) ?_
    refine Eq.trans (Bna (a := 60) (m := 77) (l := LJ17) (by rfl) (by rfl) (by decide +kernel) (by decide +kernel)) ?_
    refine Eq.trans (Bna (a := 60) (m := 78) (l := LJ18) (by rfl) (by rfl) (by decide +kernel) (by decide +kernel)) ?_
    refine Eq.trans (Bna (a := 60) (m := 79) (l := LJ19) (by rfl) (by rfl) (by decide +kernel) (by decide +kernel)) ?_
    refine Eq.trans (Bna (a := 60) (m := 80) (l := LJ20) (by rfl) (by rfl) (by decide +kernel) (by decide +kernel)) ?_
    refine Eq.trans (Bna (a := 60) (m := 81) (l := LJ21) (by rfl) (by rfl) (by decide +kernel) (by decide +kernel)) ?_
    refine Eq.trans (Bna (a := 60) (m := 82) (l := LJ22) (by rfl) (by rfl) (by decide +kernel) (by decide +kernel)) ?_
    refine Eq.trans (Bna (a := 60) (m := 83) (l := LJ23) (by rfl) (by rfl) (by decide +kernel) (by decide +kernel)) ?_
    refine Eq.trans (Bpi (a := 60) (v := 4294967295) (l := LJ24) (by rfl) (by decide +kernel) (by decide +kernel)) ?_
    refine Eq.trans (Bna (a := 60) (m := 84) (l := LJ25) (by rfl) (by rfl) (by decide +kernel) (by decide +kernel)) ?_
    refine Eq.trans (Bna (a := 60) (m := 85) (l := LJ26) (by rfl) (by rfl) (by decide +kernel) (by decide +kernel)) ?_
    refine Eq.trans (Bna (a := 60) (m := 86) (l := LJ27) (by rfl) (by rfl) (by decide +kernel) (by decide +kernel)) ?_
    refine Eq.trans (Bna (a := 60) (m := 87) (l := LJ28) (by rfl) (by rfl) (by decide +kernel) (by decide +kernel)) ?_
    refine Eq.trans (Bna (a := 60) (m := 88) (l := LJ29) (by rfl) (by rfl) (by decide +kernel) (by decide +kernel)) ?_
    refine Eq.trans (Bna (a := 60) (m := 89) (l := LJ30) (by rfl) (by rfl) (by decide +kernel) (by decide +kernel)) ?_
    refine Eq.trans (Bna (a := 60) (m := 90) (l := LJ31) (by rfl) (by rfl) (by decide +kernel) (by decide +kernel)) ?_
    refine Eq.trans (Bna (a := 60) (m := 91) (l := LJ32) (by rfl) (by rfl) (by decide +kernel) (by decide +kernel)) ?_
    refine Eq.trans (Bna (a := 60) (m := 92) (l := LJ33) (by rfl) (by rfl) (by decide +kernel) (by decide +kernel)) ?_
    refine Eq.trans (Bna (a := 60) (m := 93) (l := LJ34) (by rfl) (by rfl) (by decide +kernel) (by decide +kernel)) ?_
    refine Eq.trans (Bna (a := 60) (m := 94) (l := LJ35) (by rfl) (by rfl) (by decide +kernel) (by decide +kernel)) ?_
    refine Eq.trans (Bna (a := 60) (m := 95) (l := LJ36) (by rfl) (by rfl) (by decide +kernel) (by decide +kernel)) ?_
    refine Eq.trans (Bna (a := 60) (m := 96) (l := LJ37) (by rfl) (by rfl) (by decide +kernel) (by decide +kernel)) ?_
    refine Eq.trans (Bna (a := 60) (m := 97) (l := LJ38) (by rfl) (by rfl) (by decide +kernel) (by decide +kernel)) ?_
    refine Eq.trans (Bna (a := 60) (m := 98) (l := LJ39) (by rfl) (by rfl) (by decide +kernel) (by decide +kernel)) ?_
    refine Eq.trans (Bna (a := 60) (m := 99) (l := LJ40) (by rfl) (by rfl) (by decide +kernel) (by decide +kernel)) ?_
    exact tail
  · have : i = 0 := by have hi : i < 1 := hi; omega
    subst this
    exact m2
  · rw [r60 58 (by decide) (by decide) (by decide) (by decide) (by decide)]; decide +kernel
  · rw [r60 2 (by decide) (by decide) (by decide) (by decide) (by decide)]; decide +kernel
  · rw [r60 4 (by decide) (by decide) (by decide) (by decide) (by decide)]; decide +kernel
  · rw [r60 5 (by decide) (by decide) (by decide) (by decide) (by decide)]; decide +kernel
  · rw [r60 40 (by decide) (by decide) (by decide) (by decide) (by decide)]; decide +kernel
  · rw [s8 c j (by omega) (by omega) (by omega), cb_o (Or.inl (by omega)) (Or.inl (by omega))]
end InitM
