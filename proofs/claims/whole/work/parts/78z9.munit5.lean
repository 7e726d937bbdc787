/-! PURE: the model's unit does what the pile's does -/
section MUnit5
variable {n : Nat} {I : Nat → Nat → Int32} {J : Nat → Nat → Int64} {tp : List Nat} {i u rb lo U : Nat} {cs : List (Nat × Nat)} {P : List Nat}
theorem m_unit (hn : 1700 < n) (f : Nat) (h : XM I J tp rb lo U (i, u, cs, P, true)) (hP : ¬ P = []) (hl : P.length < 89) (hU : U + u ≤ 60) (hu : u ≤ 30) (ha : wi P ≤ 7) (hlo : 560 * rb ≤ lo ∧ lo + cs.length < 560 * rb + 560) :
    (∀ j, qU tp U i u cs P = .error j → ∃ I', FX12_unit n [.ref 60] (mm I J f) = some (some (.int 1), mm I' J f) ∧ FS tp I' (rf tp j) ∧ XG rb lo I I') ∧
    (∀ q', qU tp U i u cs P = .ok q' → UR n f I J tp rb lo U (FX12_unit n [.ref 60] (mm I J f)) q') := by
  have h34 : I 60 34 = nI (wi P) := h.2.2.2.2.2.2.2
  have m0 := m_unit0 n f h hP hl hU hu
  obtain ⟨m1, m2⟩ := m_unit1 n f h.1 ha h34 (b2i (topR P ≤ 3 ∨ 7 ≤ topR P)) (nt := (topR P ≤ 3 ∨ 7 ≤ topR P) ∧ kn tp i = 28) (full := U + u = 60 ∨ u = 30)
  have m1 : uok ((topR P ≤ 3 ∨ 7 ≤ topR P) ∧ kn tp i = 28) (kn tp i) (wi P) (U + u = 60 ∨ u = 30) → FX12_unit n [.ref 60] (mm I J f) = _ := fun z => m0.trans (m1 z)
  have m2 : ¬ uok ((topR P ≤ 3 ∨ 7 ≤ topR P) ∧ kn tp i = 28) (kn tp i) (wi P) (U + u = 60 ∨ u = 30) → FX12_unit n [.ref 60] (mm I J f) = _ := fun z => m0.trans (m2 z)
  obtain ⟨u1, u2', u3⟩ := m_unit2 hn f h hl hlo (b2i (topR P ≤ 3 ∨ 7 ≤ topR P)) (b2i (U + u = 60 ∨ u = 30))
  have er : ¬ uok ((topR P ≤ 3 ∨ 7 ≤ topR P) ∧ kn tp i = 28) (kn tp i) (wi P) (U + u = 60 ∨ u = 30) → ∃ I', FX12_unit n [.ref 60] (mm I J f) = some (some (.int 1), mm I' J f) ∧ FS tp I' (rf tp i) ∧ XG rb lo I I' := fun z => ⟨_, m2 z, fmI_FS h.1 (rf_rg tp i), XG.g5 fmI_o⟩
  unfold qU
  by_cases cn : (topR P ≤ 3 ∨ 7 ≤ topR P) ∧ kn tp i = 28
  · rw [if_pos cn]
    by_cases c7 : wi P ≤ 6
    · rw [if_pos c7]
      refine ⟨fun j hj => (by cases hj), fun q' hq => ?_⟩
      cases hq
      have k5 : b2i (kn tp i = 5) = 0 := b2i_0 (by omega)
      rw [m1 (Or.inl ⟨cn, by omega⟩), b2i_1 cn, k5]
      exact u1 cn.2
    · rw [if_neg c7]
      refine ⟨fun j hj => ?_, fun q' hq => by cases hq⟩
      cases hj
      refine er (fun z => ?_)
      rcases z with z | z
      · omega
      · exact z.1 cn
  · rw [if_neg cn]
    have bn := b2i_0 cn
    by_cases cs' : stU tp U (wi P) i u = true
    · rw [if_pos cs']
      simp only [stU, Bool.and_eq_true, decide_eq_true_eq] at cs'
      obtain ⟨⟨c1, c2⟩, c3⟩ := cs'
      by_cases c5 : kn tp i = 5
      · rw [if_pos c5] at c3 ⊢
        simp only [decide_eq_true_eq] at c3
        refine ⟨fun j hj => (by cases hj), fun q' hq => ?_⟩
        cases hq
        rw [m1 (Or.inr ⟨cn, by omega, Or.inr (Or.inr ⟨c5, by omega⟩)⟩), bn, b2i_1 c5]
        exact u2' c5
      · rw [if_neg c5] at c3 ⊢
        simp only [isV, Bool.or_eq_true, Bool.and_eq_true, decide_eq_true_eq] at c3
        refine ⟨fun j hj => (by cases hj), fun q' hq => ?_⟩
        cases hq
        rw [m1 (Or.inr ⟨cn, by omega, by omega⟩), bn, b2i_0 c5]
        exact u3 (by omega)
    · rw [if_neg cs']
      refine ⟨fun j hj => ?_, fun q' hq => by cases hq⟩
      cases hj
      refine er (fun z => cs' ?_)
      rcases z with z | ⟨-, z1, z2⟩
      · exact absurd z.1 cn
      · simp only [stU, Bool.and_eq_true, decide_eq_true_eq]
        refine ⟨⟨by omega, by omega⟩, ?_⟩
        by_cases c5 : kn tp i = 5
        · rw [if_pos c5]
          simp only [decide_eq_true_eq]
          omega
        · rw [if_neg c5]
          simp only [isV, Bool.or_eq_true, Bool.and_eq_true, decide_eq_true_eq]
          omega
end MUnit5
