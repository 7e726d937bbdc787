/-! PURE: formulas read, as the document's grammar has them, and by a pile -/
abbrev XS : Type := Nat × Nat × List (Nat × Nat)
def lev (k : Nat) : Nat := if k = 26 then 0 else if k = 27 then 1 else if 7 ≤ k ∧ k ≤ 9 then 2 else if 10 ≤ k ∧ k ≤ 11 then 3 else if 12 ≤ k ∧ k ≤ 14 then 4 else 9
def isV (k : Nat) : Bool := decide (29 ≤ k) && decide (k ≤ 33)
def stU (tp : List Nat) (U a i u : Nat) : Bool := decide (u < 30) && decide (U + u < 60) && (if kn tp i = 5 then decide (a ≤ 6) else (decide (kn tp i = 2) || isV (kn tp i)))
def utok (tp : List Nat) (i : Nat) : Nat × Nat := if kn tp i = 2 then (0, nvt tp i) else (kn tp i, 0)
def pLoop (tp : List Nat) (g : XS → Except Nat XS) (lvl : Nat) : Nat → XS → Except Nat XS
  | 0, s => .ok s
  | c + 1, s => if lev (kn tp s.1) = lvl then
      match g (s.1 + 1, s.2.1, s.2.2) with
      | .error j => .error j
      | .ok s' => if lvl = 2 then .ok (s'.1, s'.2.1, s'.2.2 ++ [(kn tp s.1, 0)]) else pLoop tp g lvl c (s'.1, s'.2.1, s'.2.2 ++ [(kn tp s.1, 0)])
    else .ok s
def pP (tp : List Nat) (U : Nat) : Nat → Nat → Nat → XS → Except Nat XS
  | 0, _, _, s => .error s.1
  | d + 1, lvl, a, s => if 5 ≤ lvl then
      (if stU tp U a s.1 s.2.1 = true then
        (if kn tp s.1 = 5 then
          match pP tp U d 0 (a + 1) (s.1 + 1, s.2.1 + 1, s.2.2) with
          | .error j => .error j
          | .ok s' => if kn tp s'.1 = 6 then .ok (s'.1 + 1, s'.2.1, s'.2.2) else .error s'.1
        else .ok (s.1 + 1, s.2.1 + 1, s.2.2 ++ [utok tp s.1]))
      else .error s.1)
    else if lvl = 2 ∧ kn tp s.1 = 28 then
      (if a ≤ 6 then
        match pP tp U d 2 (a + 1) (s.1 + 1, s.2.1, s.2.2) with
        | .error j => .error j
        | .ok s' => .ok (s'.1, s'.2.1, s'.2.2 ++ [(28, 0)])
      else .error s.1)
    else match pP tp U d (lvl + 1) a s with
      | .error j => .error j
      | .ok s' => pLoop tp (pP tp U d (lvl + 1) a) lvl 60 s'
/-- what stands behind a part that has been read -/
def POk (tp : List Nat) (U a : Nat) (s s' : XS) : Prop := s.1 < s'.1 ∧ s'.1 ≤ zl tp ∧ s.2.1 < s'.2.1 ∧ s'.2.1 ≤ 30 ∧ U + s'.2.1 ≤ 60 ∧ s'.2.2.length + 1 ≤ s.2.2.length + (9 - a) * (s'.2.1 - s.2.1) ∧ ∃ ext, s'.2.2 = s.2.2 ++ ext ∧ ∀ rest δ, δ + (s'.2.1 - s.2.1) ≤ 30 → wfd rest (δ + 1) → wfd (ext ++ rest) δ
theorem zl_next (tp : List Nat) {i : Nat} (h : i ≤ zl tp) (hk : 2 ≤ kn tp i) : i + 1 ≤ zl tp := by
  rcases Nat.lt_or_ge i (zl tp) with g | g
  · exact g
  · have : i = zl tp := by omega
    have := (zl_ok tp).2.1
    subst_vars
    omega
theorem lev_b {k : Nat} (h : lev k ≤ 4) : isB k := by
  unfold lev at h
  unfold isB
  split at h
  · omega
  split at h
  · omega
  split at h
  · omega
  split at h
  · omega
  split at h
  · omega
  · omega
theorem pLoop_ok {tp : List Nat} {U a lvl : Nat} {g : XS → Except Nat XS} (hl : lvl ≤ 4) (ha : a ≤ 8) (hg : ∀ s s', s.1 ≤ zl tp → s.2.1 ≤ 30 → g s = .ok s' → POk tp U a s s') (s0 : XS) : ∀ c s s', POk tp U a s0 s → pLoop tp g lvl c s = .ok s' → POk tp U a s0 s' ∧ (30 < s.2.1 + c → lvl ≠ 2 → lev (kn tp s'.1) ≠ lvl) := by
  intro c
  induction c with
  | zero =>
    intro s s' h1 h2
    simp only [pLoop, Except.ok.injEq] at h2
    subst h2
    refine ⟨h1, fun hc => ?_⟩
    have := h1.2.2.2.1
    omega
  | succ c ih =>
    intro s s' h1 h2
    unfold pLoop at h2
    by_cases e : lev (kn tp s.1) = lvl
    · rw [if_pos e] at h2
      have hB := lev_b (k := kn tp s.1) (by omega)
      have hk2 : 2 ≤ kn tp s.1 := by unfold isB at hB; omega
      have hz := zl_next tp h1.2.1 hk2
      cases hq : g (s.1 + 1, s.2.1, s.2.2) with
      | error j => rw [hq] at h2; cases h2
      | ok s1 =>
        rw [hq] at h2
        have h3 := hg (s.1 + 1, s.2.1, s.2.2) s1 hz h1.2.2.2.1 hq
        have h4 : POk tp U a s0 (s1.1, s1.2.1, s1.2.2 ++ [(kn tp s.1, 0)]) := by
          obtain ⟨a1, a2, a3, a4, a5, a6, x1, a7, a8⟩ := h1
          obtain ⟨b1, b2, b3, b4, b5, b6, x2, b7, b8⟩ := h3
          simp only at b1 b2 b3 b4 b5 b6 b7
          refine ⟨by simp only; omega, b2, by simp only; omega, b4, b5, ?_, x1 ++ (x2 ++ [(kn tp s.1, 0)]), ?_, fun rest δ hδ hw => ?_⟩
          · simp only [List.length_append, List.length_cons, List.length_nil]
            have hsplit : s1.2.1 - s0.2.1 = (s.2.1 - s0.2.1) + (s1.2.1 - s.2.1) := by omega
            rw [hsplit, Nat.mul_add]
            omega
          · simp only [b7, a7, List.append_assoc]
          · simp only at hδ b8
            rw [List.append_assoc]
            refine a8 _ _ (by omega) ?_
            rw [List.append_assoc]
            refine b8 _ _ (by omega) ?_
            exact Or.inr (Or.inr ⟨hB, by omega, hw⟩)
        by_cases e2 : lvl = 2
        · simp only [e2, if_true, Except.ok.injEq] at h2
          subst h2
          exact ⟨h4, fun _ h => absurd e2 h⟩
        · simp only [e2, if_false] at h2
          obtain ⟨k1, k2⟩ := ih _ _ h4 h2
          refine ⟨k1, fun hc hne => k2 ?_ hne⟩
          have := h3.2.2.1
          simp only at this ⊢
          omega
    · rw [if_neg e] at h2
      cases h2
      exact ⟨h1, fun _ _ => e⟩
theorem pP_ok (tp : List Nat) (U : Nat) : ∀ d lvl a s s', a ≤ 7 → s.1 ≤ zl tp → s.2.1 ≤ 30 → pP tp U d lvl a s = .ok s' → POk tp U a s s' := by
  intro d
  induction d with
  | zero => intro lvl a s s' _ _ _ h; cases h
  | succ d ih =>
    intro lvl a s s' ha hz hu h
    unfold pP at h
    by_cases e5 : 5 ≤ lvl
    · rw [if_pos e5] at h
      by_cases e1 : stU tp U a s.1 s.2.1 = true
      · rw [if_pos e1] at h
        have e1' := e1
        simp only [stU, Bool.and_eq_true, decide_eq_true_eq] at e1'
        obtain ⟨⟨u1, u2⟩, u3⟩ := e1'
        by_cases e2 : kn tp s.1 = 5
        · rw [if_pos e2] at h
          rw [if_pos e2, decide_eq_true_eq] at u3
          have hz1 := zl_next tp hz (by omega)
          cases hq : pP tp U d 0 (a + 1) (s.1 + 1, s.2.1 + 1, s.2.2) with
          | error j => rw [hq] at h; cases h
          | ok s1 =>
            rw [hq] at h
            obtain ⟨b1, b2, b3, b4, b5, b6, x2, b7, b8⟩ := ih _ _ _ _ (by omega) hz1 (by simp only; omega) hq
            simp only at b1 b2 b3 b4 b5 b6 b7 b8
            by_cases e3 : kn tp s1.1 = 6
            · simp only [e3, if_true, Except.ok.injEq] at h
              subst h
              have hz2 := zl_next tp b2 (by omega)
              refine ⟨by simp only; omega, hz2, by simp only; omega, b4, b5, ?_, x2, b7, fun rest δ hδ hw => b8 rest δ (by simp only at hδ; omega) hw⟩
              simp only
              have hs : s1.2.1 - s.2.1 = (s1.2.1 - (s.2.1 + 1)) + 1 := by omega
              rw [hs, Nat.mul_add]
              have hm : (9 - (a + 1)) * (s1.2.1 - (s.2.1 + 1)) ≤ (9 - a) * (s1.2.1 - (s.2.1 + 1)) := Nat.mul_le_mul_right _ (by omega)
              omega
            · simp only [e3, if_false] at h
              cases h
        · rw [if_neg e2] at h
          rw [if_neg e2, Bool.or_eq_true, decide_eq_true_eq] at u3
          simp only [Except.ok.injEq] at h
          subst h
          have hk2 : 2 ≤ kn tp s.1 := by
            rcases u3 with u3 | u3
            · omega
            · simp only [isV, Bool.and_eq_true, decide_eq_true_eq] at u3; omega
          have hz1 := zl_next tp hz hk2
          refine ⟨by simp only; omega, hz1, by simp only; omega, by simp only; omega, by simp only; omega, ?_, [utok tp s.1], rfl, fun rest δ hδ hw => ?_⟩
          · simp only [List.length_append, List.length_cons, List.length_nil]
            rw [show s.2.1 + 1 - s.2.1 = 1 by omega]
            omega
          · simp only at hδ
            refine Or.inl ⟨?_, by omega, hw⟩
            unfold utok
            rcases u3 with u3 | u3
            · rw [if_pos u3]
              exact Or.inl ⟨rfl, nvt_le tp u3⟩
            · simp only [isV, Bool.and_eq_true, decide_eq_true_eq] at u3
              rw [if_neg (by omega)]
              exact Or.inr u3
      · rw [if_neg e1] at h; cases h
    · rw [if_neg e5] at h
      by_cases e1 : lvl = 2 ∧ kn tp s.1 = 28
      · rw [if_pos e1] at h
        by_cases e2 : a ≤ 6
        · rw [if_pos e2] at h
          have hz1 := zl_next tp hz (by omega)
          cases hq : pP tp U d 2 (a + 1) (s.1 + 1, s.2.1, s.2.2) with
          | error j => rw [hq] at h; cases h
          | ok s1 =>
            rw [hq] at h
            simp only [Except.ok.injEq] at h
            subst h
            obtain ⟨b1, b2, b3, b4, b5, b6, x2, b7, b8⟩ := ih 2 (a + 1) (s.1 + 1, s.2.1, s.2.2) s1 (by omega) hz1 hu hq
            simp only at b1 b2 b3 b4 b5 b6 b7 b8
            refine ⟨by simp only; omega, b2, b3, b4, b5, ?_, x2 ++ [(28, 0)], by simp only [b7, List.append_assoc], fun rest δ hδ hw => ?_⟩
            · simp only [List.length_append, List.length_cons, List.length_nil]
              have hm : (9 - (a + 1)) * (s1.2.1 - s.2.1) + (s1.2.1 - s.2.1) = (9 - a) * (s1.2.1 - s.2.1) := by
                rw [← Nat.succ_mul]; congr 1; omega
              omega
            · simp only at hδ
              rw [List.append_assoc]
              refine b8 _ _ hδ ?_
              exact Or.inr (Or.inl ⟨rfl, by omega, hw⟩)
        · rw [if_neg e2] at h; cases h
      · rw [if_neg e1] at h
        cases hq : pP tp U d (lvl + 1) a s with
        | error j => rw [hq] at h; cases h
        | ok s1 =>
          rw [hq] at h
          have h1 := ih _ _ _ _ ha hz hu hq
          exact (pLoop_ok (by omega) (by omega) (fun s s' hz hu hs => ih _ _ _ _ ha hz hu hs) s 60 s1 s' h1 h).1
