/-! PURE: the pile reads what the grammar reads -/
def rk (k : Nat) : Nat := if k = 26 then 1 else if k = 27 then 2 else if k = 28 then 3 else if 7 ≤ k ∧ k ≤ 9 then 4 else if 10 ≤ k ∧ k ≤ 11 then 5 else if 12 ≤ k ∧ k ≤ 14 then 6 else if k = 5 then 7 else if k = 99 then 8 else 0
def wi : List Nat → Nat
  | [] => 0
  | k :: P => (if k = 28 ∨ k = 5 then 1 else 0) + wi P
def cmpd : List Nat → Bool
  | [] => false
  | k :: P => if rk k = 5 ∨ rk k = 6 then cmpd P else decide (rk k = 4)
def pop1 (r : Nat) : List Nat → List (Nat × Nat) × List Nat
  | [] => ([], [])
  | k :: P => if rk k ≤ 6 ∧ r ≤ rk k then ((k, 0) :: (pop1 r P).1, (pop1 r P).2) else ([], k :: P)
abbrev AQ : Type := Nat × Nat × List (Nat × Nat) × List Nat × Bool
def topR (P : List Nat) : Nat := rk (P.headD 99)
def rkT (k : Nat) : Nat := if lev k ≤ 4 then rk k else 0
def qU (tp : List Nat) (U i u : Nat) (cs : List (Nat × Nat)) (P : List Nat) : Except Nat AQ :=
  if (topR P ≤ 3 ∨ 7 ≤ topR P) ∧ kn tp i = 28 then (if wi P ≤ 6 then .ok (i + 1, u, cs, 28 :: P, true) else .error i)
  else if stU tp U (wi P) i u = true then (if kn tp i = 5 then .ok (i + 1, u + 1, cs, 5 :: P, true) else .ok (i + 1, u + 1, cs ++ [utok tp i], P, false))
  else .error i
def qB (tp : List Nat) (i u : Nat) (cs : List (Nat × Nat)) (P : List Nat) : Except Nat AQ :=
  if lev (kn tp i) = 2 ∧ cmpd P = true then .error i
  else if lev (kn tp i) ≤ 4 then .ok (i + 1, u, cs ++ (pop1 (rkT (kn tp i)) P).1, kn tp i :: (pop1 (rkT (kn tp i)) P).2, true)
  else if (pop1 (rkT (kn tp i)) P).2.headD 99 = 5 then (if kn tp i = 6 then .ok (i + 1, u, cs ++ (pop1 (rkT (kn tp i)) P).1, (pop1 (rkT (kn tp i)) P).2.tail, false) else .error i)
  else .ok (i, u, cs ++ (pop1 (rkT (kn tp i)) P).1, (pop1 (rkT (kn tp i)) P).2.tail, false)
def qS (tp : List Nat) (U : Nat) (q : AQ) : Except Nat AQ := if q.2.2.2.2 = true then qU tp U q.1 q.2.1 q.2.2.1 q.2.2.2.1 else qB tp q.1 q.2.1 q.2.2.1 q.2.2.2.1
def qRun (tp : List Nat) (U : Nat) : Nat → AQ → Except Nat XS
  | 0, q => .error q.1
  | f + 1, q => if q.2.2.2.1 = [] then .ok (q.1, q.2.1, q.2.2.1) else
    match qS tp U q with
    | .error j => .error j
    | .ok q' => qRun tp U f q'
theorem qRun_ok {tp : List Nat} {U f : Nat} {q q' : AQ} (h1 : q.2.2.2.1 ≠ []) (h2 : qS tp U q = .ok q') : qRun tp U (f + 1) q = qRun tp U f q' := by
  rw [qRun, if_neg h1, h2]
theorem qRun_er {tp : List Nat} {U f j : Nat} {q : AQ} (hf : 0 < f) (h1 : q.2.2.2.1 ≠ []) (h2 : qS tp U q = .error j) : qRun tp U f q = .error j := by
  rw [show f = (f - 1) + 1 by omega, qRun, if_neg h1, h2]
theorem pop_all {r : Nat} {P : List Nat} (hP : P = [] ∨ 6 < topR P ∨ topR P < r) : ∀ Q : List Nat, (∀ k ∈ Q, r ≤ rk k ∧ rk k ≤ 6) → pop1 r (Q ++ P) = (Q.map (fun k => (k, 0)), P) := by
  intro Q
  induction Q with
  | nil =>
    intro _
    cases P with
    | nil => rfl
    | cons k P =>
      show (if rk k ≤ 6 ∧ r ≤ rk k then _ else _) = _
      rw [if_neg]
      · rfl
      · intro h
        rcases hP with h1 | h1
        · cases h1
        · have h1 : 6 < rk k ∨ rk k < r := h1
          omega
  | cons k Q ih =>
    intro h
    have hk := h k (List.mem_cons_self ..)
    rw [List.cons_append, pop1, if_pos ⟨hk.2, hk.1⟩, ih (fun z hz => h z (List.mem_cons_of_mem _ hz))]
    rfl
theorem cmpd_app {P : List Nat} : ∀ Q : List Nat, (∀ k ∈ Q, 5 ≤ rk k ∧ rk k ≤ 6) → cmpd (Q ++ P) = cmpd P := by
  intro Q
  induction Q with
  | nil => intro _; rfl
  | cons k Q ih =>
    intro h
    have hk := h k (List.mem_cons_self ..)
    show (if rk k = 5 ∨ rk k = 6 then _ else _) = _
    rw [if_pos (by omega)]
    exact ih (fun z hz => h z (List.mem_cons_of_mem _ hz))
theorem lev_rk {k : Nat} (h : lev k ≤ 4) : rk k = (if lev k = 0 then 1 else if lev k = 1 then 2 else if lev k = 2 then 4 else if lev k = 3 then 5 else 6) ∧ ¬ k = 28 ∧ ¬ k = 5 := by
  unfold lev at h ⊢
  unfold rk
  by_cases a1 : k = 26
  · subst a1; decide
  by_cases a2 : k = 27
  · subst a2; decide
  by_cases a3 : 7 ≤ k ∧ k ≤ 9
  · simp [a1, a2, a3, show ¬ k = 28 by omega, show ¬ k = 5 by omega]
  by_cases a4 : 10 ≤ k ∧ k ≤ 11
  · simp [a1, a2, a3, a4, show ¬ k = 28 by omega, show ¬ k = 5 by omega]
  by_cases a5 : 12 ≤ k ∧ k ≤ 14
  · simp [a1, a2, a3, a4, a5, show ¬ k = 28 by omega, show ¬ k = 5 by omega]
  · simp [a1, a2, a3, a4, a5] at h
def limR (l : Nat) : Nat := match l with
  | 0 => 0
  | 1 => 1
  | 2 => 3
  | 3 => 4
  | 4 => 5
  | _ => 6
def lwr (l : Nat) : Nat := match l with
  | 0 => 1
  | 1 => 2
  | 2 => 3
  | 3 => 5
  | 4 => 6
  | _ => 7
/-- behind a part of level l: what is left on the pile, which token stands there -/
def BehN (tp : List Nat) (l i : Nat) (Q P : List Nat) : Prop := (∀ k ∈ Q, lwr l ≤ rk k ∧ rk k ≤ 6) ∧ (l ≤ lev (kn tp i) → lev (kn tp i) ≤ 4 → lev (kn tp i) = 2 ∧ l ≤ 2) ∧ (lev (kn tp i) = 2 → l ≤ 2 → cmpd (Q ++ P) = true)
def Sim (tp : List Nat) (U : Nat) (r : Except Nat XS) (l : Nat) (s : XS) (P : List Nat) (w : Bool) (cs : List (Nat × Nat)) (Q0 : List Nat) : Prop :=
  (∀ j, r = .error j → ∀ f, zl tp - s.1 < f → qRun tp U f (s.1, s.2.1, cs, Q0 ++ P, w) = .error j) ∧
  (∀ s', r = .ok s' → ∃ Q cs2, s'.2.2 = cs2 ++ Q.map (fun k => (k, 0)) ∧ BehN tp l s'.1 Q P ∧ s.1 ≤ s'.1 ∧ ∀ f, qRun tp U (f + (s'.1 - s.1)) (s.1, s.2.1, cs, Q0 ++ P, w) = qRun tp U f (s'.1, s'.2.1, cs2, Q ++ P, false))
def PCx (tp : List Nat) (U l a : Nat) (s : XS) (P : List Nat) : Prop := a = wi P ∧ a ≤ 7 ∧ P ≠ [] ∧ (7 ≤ topR P ∨ topR P ≤ limR l) ∧ (3 ≤ l → ¬ kn tp s.1 = 28 ∨ (4 ≤ topR P ∧ topR P ≤ 6)) ∧ s.1 ≤ zl tp ∧ s.2.1 ≤ 30 ∧ U + s.2.1 ≤ 60
/-- one sign between two parts: taken from the pile's side -/
theorem sgn_step {tp : List Nat} {U i u : Nat} {cs : List (Nat × Nat)} {Q P : List Nat} (hv : lev (kn tp i) ≤ 4) (hc : ¬ (lev (kn tp i) = 2 ∧ cmpd (Q ++ P) = true)) (hQ : ∀ k ∈ Q, rk (kn tp i) ≤ rk k ∧ rk k ≤ 6) (hP : P ≠ [] ∧ (6 < topR P ∨ topR P < rk (kn tp i))) (f : Nat) : qRun tp U (f + 1) (i, u, cs, Q ++ P, false) = qRun tp U f (i + 1, u, cs ++ Q.map (fun k => (k, 0)), kn tp i :: P, true) := by
  refine qRun_ok ?_ ?_
  · simp only [ne_eq, List.append_eq_nil_iff, not_and]
    exact fun _ => hP.1
  · show qB tp i u cs (Q ++ P) = _
    have hr : rkT (kn tp i) = rk (kn tp i) := by unfold rkT; rw [if_pos hv]
    unfold qB
    rw [if_neg hc, if_pos hv, hr, pop_all (Or.inr hP.2) Q hQ]
theorem loop_sim {tp : List Nat} {U l a : Nat} {g : XS → Except Nat XS} (hl : l ≤ 4) (hl2 : l ≠ 2) {P : List Nat} (ha : a = wi P) (ha7 : a ≤ 7) (hP : P ≠ [] ∧ (7 ≤ topR P ∨ topR P ≤ limR l)) (hok : ∀ s s', s.1 ≤ zl tp → s.2.1 ≤ 30 → g s = .ok s' → POk tp U a s s') (hg : ∀ s P, PCx tp U (l + 1) a s P → Sim tp U (g s) (l + 1) s P true s.2.2 []) : ∀ c s Q cs, s.1 ≤ zl tp → s.2.1 ≤ 30 → U + s.2.1 ≤ 60 → 30 < s.2.1 + c → s.2.2 = cs ++ Q.map (fun k => (k, 0)) → (∀ k ∈ Q, lwr l ≤ rk k ∧ rk k ≤ 6) → (l + 1 ≤ lev (kn tp s.1) → lev (kn tp s.1) ≤ 4 → lev (kn tp s.1) = 2 ∧ l + 1 ≤ 2) → (lev (kn tp s.1) = 2 → l + 1 ≤ 2 → cmpd (Q ++ P) = true) → Sim tp U (pLoop tp g l c s) l s P false cs Q := by
  intro c
  induction c with
  | zero => intro s Q cs _ h2 _ h4; omega
  | succ c ih =>
    intro s Q cs h1 h2 h3 h4 h5 h6 h7 h8
    unfold pLoop
    by_cases e : lev (kn tp s.1) = l
    · rw [if_pos e]
      have hv : lev (kn tp s.1) ≤ 4 := by omega
      obtain ⟨r1, r2, r3⟩ := lev_rk hv
      have hk2 : 2 ≤ kn tp s.1 := by have := lev_b hv; unfold isB at this; omega
      have hz := zl_next tp h1 hk2
      have hrk : rk (kn tp s.1) = lwr l ∧ limR l < rk (kn tp s.1) ∧ rk (kn tp s.1) ≤ limR (l + 1) ∧ (2 ≤ l → 4 ≤ rk (kn tp s.1)) ∧ rk (kn tp s.1) ≤ 6 := by
        rw [r1, e]
        rcases (show l = 0 ∨ l = 1 ∨ l = 3 ∨ l = 4 by omega) with rfl | rfl | rfl | rfl <;> decide
      have hst := fun f => sgn_step (U := U) (u := s.2.1) (cs := cs) hv (fun z => hl2 (by omega)) (fun k hk => by rw [hrk.1]; exact h6 k hk) ⟨hP.1, by rcases hP.2 with q | q <;> omega⟩ f
      rw [← h5] at hst
      have hcx : PCx tp U (l + 1) a (s.1 + 1, s.2.1, s.2.2) (kn tp s.1 :: P) := by
        refine ⟨?_, ha7, by simp, Or.inr hrk.2.2.1, fun h => Or.inr ⟨hrk.2.2.2.1 (by omega), hrk.2.2.2.2⟩, hz, h2, h3⟩
        show a = (if kn tp s.1 = 28 ∨ kn tp s.1 = 5 then 1 else 0) + wi P
        rw [if_neg (by omega), Nat.zero_add]; exact ha
      obtain ⟨g1, g2⟩ := hg _ _ hcx
      cases hq : g (s.1 + 1, s.2.1, s.2.2) with
      | error j =>
        refine ⟨fun j' hj f hf => ?_, fun s' hs => by cases hs⟩
        simp only [Except.error.injEq] at hj
        subst hj
        rw [show f = (f - 1) + 1 by omega, hst]
        exact g1 j hq (f - 1) (by simp only; omega)
      | ok s1 =>
        obtain ⟨Q1, cs1, k1, k2, k3, k4⟩ := g2 s1 hq
        obtain ⟨b1, b2, b3, b4, b5, b6, x2, b7, b8⟩ := hok (s.1 + 1, s.2.1, s.2.2) s1 hz h2 hq
        simp only at b1 b2 b3 b4 b5 k3
        have hres := ih (s1.1, s1.2.1, s1.2.2 ++ [(kn tp s.1, 0)]) (Q1 ++ [kn tp s.1]) cs1 b2 b4 b5 (by simp only; omega) (by simp only [k1, List.append_assoc, List.map_append, List.map_cons, List.map_nil]) (fun k hk => by
          rcases List.mem_append.mp hk with hk | hk
          · have := k2.1 k hk
            have hlo : lwr l ≤ lwr (l + 1) := by
              rcases (show l = 0 ∨ l = 1 ∨ l = 3 ∨ l = 4 by omega) with rfl | rfl | rfl | rfl <;> decide
            omega
          · simp only [List.mem_singleton] at hk
            subst hk
            omega) k2.2.1 (fun q1 q2 => by
          have := k2.2.2 q1 q2
          simpa using this)
        have hpre : ∀ f, qRun tp U (f + (s1.1 - s.1)) (s.1, s.2.1, cs, Q ++ P, false) = qRun tp U f (s1.1, s1.2.1, cs1, (Q1 ++ [kn tp s.1]) ++ P, false) := by
          intro f
          rw [show f + (s1.1 - s.1) = (f + (s1.1 - (s.1 + 1))) + 1 by omega, hst]
          have := k4 f
          simp only [List.nil_append] at this
          rw [this]
          simp
        show Sim tp U (if l = 2 then _ else pLoop tp g l c (s1.1, s1.2.1, s1.2.2 ++ [(kn tp s.1, 0)])) l s P false cs Q
        rw [if_neg hl2]
        obtain ⟨m1, m2⟩ := hres
        refine ⟨fun j hj f hf => ?_, fun s' hs => ?_⟩
        · have := m1 j hj (f - (s1.1 - s.1)) (by simp only; omega)
          rw [← hpre, show f - (s1.1 - s.1) + (s1.1 - s.1) = f by omega] at this
          exact this
        · obtain ⟨Q2, cs2, n1, n2, n3, n4⟩ := m2 s' hs
          simp only at n3 n4
          refine ⟨Q2, cs2, n1, n2, by omega, fun f => ?_⟩
          rw [show f + (s'.1 - s.1) = (f + (s'.1 - s1.1)) + (s1.1 - s.1) by omega, hpre, n4]
    · rw [if_neg e]
      refine ⟨fun j hj => (by cases hj), fun s' hs => ?_⟩
      cases hs
      refine ⟨Q, cs, h5, ⟨h6, fun q1 q2 => ?_, fun q1 q2 => h8 q1 (by omega)⟩, Nat.le_refl _, fun f => by rw [Nat.sub_self]; rfl⟩
      have := h7 (by omega) q2
      exact ⟨this.1, by omega⟩
theorem wi_cons (k : Nat) (P : List Nat) : wi (k :: P) = (if k = 28 ∨ k = 5 then 1 else 0) + wi P := rfl
set_option maxHeartbeats 1000000 in
theorem pile_sim (tp : List Nat) (U : Nat) : ∀ d l a s P, l ≤ 5 → 6 * (8 - a) ≤ d + l → PCx tp U l a s P → Sim tp U (pP tp U d l a s) l s P true s.2.2 [] := by
  intro d
  induction d with
  | zero => intro l a s P hl hd hc; have := hc.2.1; omega
  | succ d ih =>
    intro l a s P hl hd hc
    obtain ⟨ha, ha7, hP, hctx, hnot, hz, hu, hU⟩ := hc
    have hne : ∀ w : Bool, ((s.1, s.2.1, s.2.2, [] ++ P, w) : AQ).2.2.2.1 ≠ [] := fun w => hP
    unfold pP
    by_cases e5 : 5 ≤ l
    · rw [if_pos e5]
      have hl5 : l = 5 := by omega
      subst hl5
      have hn28 : ¬ ((topR P ≤ 3 ∨ 7 ≤ topR P) ∧ kn tp s.1 = 28) := fun z => by
        rcases hnot (by decide) with q | q
        · exact q z.2
        · omega
      by_cases e1 : stU tp U a s.1 s.2.1 = true
      · rw [if_pos e1]
        have e1w := e1
        rw [ha] at e1w
        simp only [stU, Bool.and_eq_true, decide_eq_true_eq] at e1
        obtain ⟨⟨u1, u2⟩, u3⟩ := e1
        by_cases e2 : kn tp s.1 = 5
        · rw [if_pos e2]
          rw [if_pos e2, decide_eq_true_eq] at u3
          have hz1 := zl_next tp hz (by omega)
          have hst : ∀ f, qRun tp U (f + 1) (s.1, s.2.1, s.2.2, [] ++ P, true) = qRun tp U f (s.1 + 1, s.2.1 + 1, s.2.2, 5 :: P, true) := fun f => by
            refine qRun_ok (hne true) ?_
            show qU tp U s.1 s.2.1 s.2.2 P = _
            unfold qU
            rw [if_neg hn28, if_pos e1w, if_pos e2]
          have hcx : PCx tp U 0 (a + 1) (s.1 + 1, s.2.1 + 1, s.2.2) (5 :: P) := by
            refine ⟨?_, by omega, by simp, Or.inl (show 7 ≤ rk 5 by decide), fun h => by omega, hz1, by simp only; omega, by simp only; omega⟩
            rw [wi_cons, if_pos (Or.inr rfl)]; omega
          obtain ⟨g1, g2⟩ := ih 0 (a + 1) _ _ (by decide) (by omega) hcx
          cases hq : pP tp U d 0 (a + 1) (s.1 + 1, s.2.1 + 1, s.2.2) with
          | error j =>
            refine ⟨fun j' hj f hf => ?_, fun s' hs => by cases hs⟩
            simp only [Except.error.injEq] at hj
            subst hj
            rw [show f = (f - 1) + 1 by omega, hst]
            exact g1 j hq (f - 1) (by simp only; omega)
          | ok s1 =>
            obtain ⟨Q1, cs1, k1, k2, k3, k4⟩ := g2 s1 hq
            obtain ⟨b1, b2, b3, b4, b5, b6, x2, b7, b8⟩ := pP_ok tp U d 0 (a + 1) _ _ (by omega) hz1 (by simp only; omega) hq
            simp only at b1 b2 k3
            have hpre : ∀ f, qRun tp U (f + (s1.1 - s.1)) (s.1, s.2.1, s.2.2, [] ++ P, true) = qRun tp U f (s1.1, s1.2.1, cs1, Q1 ++ 5 :: P, false) := by
              intro f
              rw [show f + (s1.1 - s.1) = (f + (s1.1 - (s.1 + 1))) + 1 by omega, hst]
              exact k4 f
            have hne1 : ((s1.1, s1.2.1, cs1, Q1 ++ 5 :: P, false) : AQ).2.2.2.1 ≠ [] := by simp
            have hlv : lev (kn tp s1.1) = 2 ∨ 4 < lev (kn tp s1.1) := by
              rcases Nat.lt_or_ge 4 (lev (kn tp s1.1)) with q | q
              · exact Or.inr q
              · exact Or.inl (k2.2.1 (Nat.zero_le _) q).1
            by_cases e3 : kn tp s1.1 = 6
            · simp only [e3, if_true]
              have hl6 : lev 6 = 9 := by decide
              have hst2 : ∀ f, qRun tp U (f + 1) (s1.1, s1.2.1, cs1, Q1 ++ 5 :: P, false) = qRun tp U f (s1.1 + 1, s1.2.1, s1.2.2, P, false) := fun f => by
                refine qRun_ok hne1 ?_
                show qB tp s1.1 s1.2.1 cs1 (Q1 ++ 5 :: P) = _
                have hr : rkT (kn tp s1.1) = 0 := by rw [e3]; decide
                unfold qB
                rw [hr, pop_all (P := 5 :: P) (Or.inr (Or.inl (show 6 < rk 5 by decide))) Q1 (fun k hk => ⟨Nat.zero_le _, (k2.1 k hk).2⟩), ← k1, e3, hl6, if_neg (by omega), if_neg (by omega)]
                rfl
              refine ⟨fun j hj => (by cases hj), fun s' hs => ?_⟩
              cases hs
              refine ⟨[], s1.2.2, by simp, ⟨fun k hk => by simp at hk, fun q1 q2 => by omega, fun q1 q2 => by omega⟩, by simp only; omega, fun f => ?_⟩
              show qRun tp U (f + (s1.1 + 1 - s.1)) _ = qRun tp U f (s1.1 + 1, s1.2.1, s1.2.2, P, false)
              rw [show f + (s1.1 + 1 - s.1) = (f + 1) + (s1.1 - s.1) by omega, hpre, hst2]
            · simp only [e3, if_false]
              refine ⟨fun j hj f hf => ?_, fun s' hs => by cases hs⟩
              simp only [Except.error.injEq] at hj
              subst hj
              rw [show f = (f - (s1.1 - s.1)) + (s1.1 - s.1) by omega, hpre]
              refine qRun_er (by omega) hne1 ?_
              show qB tp s1.1 s1.2.1 cs1 (Q1 ++ 5 :: P) = _
              unfold qB
              rcases hlv with q | q
              · rw [if_pos ⟨q, k2.2.2 q (by decide)⟩]
              · have hr : rkT (kn tp s1.1) = 0 := by unfold rkT; rw [if_neg (by omega)]
                rw [hr, pop_all (P := 5 :: P) (Or.inr (Or.inl (show 6 < rk 5 by decide))) Q1 (fun k hk => ⟨Nat.zero_le _, (k2.1 k hk).2⟩), if_neg (by omega), if_neg (by omega)]
                rw [if_pos (show ((List.map (fun k => (k, 0)) Q1, 5 :: P) : List (Nat × Nat) × List Nat).2.headD 99 = 5 from rfl), if_neg e3]
        · rw [if_neg e2]
          refine ⟨fun j hj => (by cases hj), fun s' hs => ?_⟩
          cases hs
          refine ⟨[], s.2.2 ++ [utok tp s.1], by simp, ⟨fun k hk => by simp at hk, fun q1 q2 => by omega, fun q1 q2 => by omega⟩, by simp only; omega, fun f => ?_⟩
          show qRun tp U (f + (s.1 + 1 - s.1)) _ = qRun tp U f (s.1 + 1, s.2.1 + 1, s.2.2 ++ [utok tp s.1], P, false)
          rw [show s.1 + 1 - s.1 = 1 by omega]
          refine qRun_ok (hne true) ?_
          show qU tp U s.1 s.2.1 s.2.2 P = _
          unfold qU
          rw [if_neg hn28, if_pos e1w, if_neg e2]
      · rw [if_neg e1]
        refine ⟨fun j hj f hf => ?_, fun s' hs => by cases hs⟩
        simp only [Except.error.injEq] at hj
        subst hj
        refine qRun_er (by omega) (hne true) ?_
        show qU tp U s.1 s.2.1 s.2.2 P = _
        unfold qU
        rw [ha] at e1
        rw [if_neg hn28, if_neg e1]
    · rw [if_neg e5]
      by_cases e1 : l = 2 ∧ kn tp s.1 = 28
      · rw [if_pos e1]
        obtain ⟨rfl, e28⟩ := e1
        have hbeg : (topR P ≤ 3 ∨ 7 ≤ topR P) ∧ kn tp s.1 = 28 := ⟨by rcases hctx with q | q; exact Or.inr q; exact Or.inl q, e28⟩
        by_cases e2 : a ≤ 6
        · rw [if_pos e2]
          have hz1 := zl_next tp hz (by omega)
          have hst : ∀ f, qRun tp U (f + 1) (s.1, s.2.1, s.2.2, [] ++ P, true) = qRun tp U f (s.1 + 1, s.2.1, s.2.2, 28 :: P, true) := fun f => by
            refine qRun_ok (hne true) ?_
            show qU tp U s.1 s.2.1 s.2.2 P = _
            unfold qU
            rw [if_pos hbeg, if_pos (by omega)]
          have hcx : PCx tp U 2 (a + 1) (s.1 + 1, s.2.1, s.2.2) (28 :: P) := by
            refine ⟨?_, by omega, by simp, Or.inr (show rk 28 ≤ 3 by decide), fun h => by omega, hz1, hu, hU⟩
            rw [wi_cons, if_pos (Or.inl rfl)]; omega
          obtain ⟨g1, g2⟩ := ih 2 (a + 1) _ _ (by decide) (by omega) hcx
          cases hq : pP tp U d 2 (a + 1) (s.1 + 1, s.2.1, s.2.2) with
          | error j =>
            refine ⟨fun j' hj f hf => ?_, fun s' hs => by cases hs⟩
            simp only [Except.error.injEq] at hj
            subst hj
            rw [show f = (f - 1) + 1 by omega, hst]
            exact g1 j hq (f - 1) (by simp only; omega)
          | ok s1 =>
            obtain ⟨Q1, cs1, k1, k2, k3, k4⟩ := g2 s1 hq
            simp only at k3 k4
            refine ⟨fun j hj => (by cases hj), fun s' hs => ?_⟩
            cases hs
            refine ⟨Q1 ++ [28], cs1, by simp only [k1, List.append_assoc, List.map_append, List.map_cons, List.map_nil], ⟨fun k hk => ?_, k2.2.1, fun q1 q2 => ?_⟩, by simp only; omega, fun f => ?_⟩
            · rcases List.mem_append.mp hk with hk | hk
              · exact k2.1 k hk
              · simp only [List.mem_singleton] at hk
                subst hk; decide
            · have := k2.2.2 q1 q2
              simpa using this
            · show qRun tp U (f + (s1.1 - s.1)) _ = _
              rw [show f + (s1.1 - s.1) = (f + (s1.1 - (s.1 + 1))) + 1 by omega, hst]
              have := k4 f
              simp only [List.nil_append] at this
              rw [this]
              simp
        · rw [if_neg e2]
          refine ⟨fun j hj f hf => ?_, fun s' hs => by cases hs⟩
          simp only [Except.error.injEq] at hj
          subst hj
          refine qRun_er (by omega) (hne true) ?_
          show qU tp U s.1 s.2.1 s.2.2 P = _
          unfold qU
          rw [if_pos hbeg, if_neg (by omega)]
      · rw [if_neg e1]
        have hcx : PCx tp U (l + 1) a s P := by
          refine ⟨ha, ha7, hP, ?_, fun h => ?_, hz, hu, hU⟩
          · rcases hctx with q | q
            · exact Or.inl q
            · refine Or.inr (Nat.le_trans q ?_)
              rcases (show l = 0 ∨ l = 1 ∨ l = 2 ∨ l = 3 ∨ l = 4 by omega) with rfl | rfl | rfl | rfl | rfl <;> decide
          · by_cases e3 : 3 ≤ l
            · exact hnot e3
            · exact Or.inl (fun z => e1 ⟨by omega, z⟩)
        obtain ⟨g1, g2⟩ := ih (l + 1) a s P (by omega) (by omega) hcx
        cases hq : pP tp U d (l + 1) a s with
        | error j =>
          refine ⟨fun j' hj f hf => ?_, fun s' hs => by cases hs⟩
          simp only [Except.error.injEq] at hj
          subst hj
          exact g1 j hq f hf
        | ok s1 =>
          obtain ⟨Q1, cs1, k1, k2, k3, k4⟩ := g2 s1 hq
          obtain ⟨b1, b2, b3, b4, b5, b6, x2, b7, b8⟩ := pP_ok tp U d (l + 1) a _ _ ha7 hz hu hq
          have hok : ∀ s s', s.1 ≤ zl tp → s.2.1 ≤ 30 → pP tp U d (l + 1) a s = .ok s' → POk tp U a s s' := fun s s' h1 h2 h3 => pP_ok tp U d (l + 1) a s s' ha7 h1 h2 h3
          have hgg : ∀ s P, PCx tp U (l + 1) a s P → Sim tp U (pP tp U d (l + 1) a s) (l + 1) s P true s.2.2 [] := fun s P h => ih (l + 1) a s P (by omega) (by omega) h
          show Sim tp U (pLoop tp (pP tp U d (l + 1) a) l 60 s1) l s P true s.2.2 []
          have main : Sim tp U (pLoop tp (pP tp U d (l + 1) a) l 60 s1) l s1 P false cs1 Q1 := by
            by_cases el : l = 2
            · subst el
              have hlo : ∀ k ∈ Q1, 5 ≤ rk k ∧ rk k ≤ 6 := k2.1
              show Sim tp U (pLoop tp _ 2 (59 + 1) s1) 2 s1 P false cs1 Q1
              unfold pLoop
              by_cases e : lev (kn tp s1.1) = 2
              · rw [if_pos e]
                have hv : lev (kn tp s1.1) ≤ 4 := by omega
                obtain ⟨r1, r2, r3⟩ := lev_rk hv
                have r1' : rk (kn tp s1.1) = 4 := by rw [r1, e]; rfl
                have hk2 : 2 ≤ kn tp s1.1 := by have := lev_b hv; unfold isB at this; omega
                have hz1 := zl_next tp b2 hk2
                have hnc : cmpd (Q1 ++ P) = false := by
                  rw [cmpd_app Q1 hlo]
                  cases P with
                  | nil => rfl
                  | cons k P =>
                    have hc2 : 7 ≤ rk k ∨ rk k ≤ 3 := hctx
                    show (if rk k = 5 ∨ rk k = 6 then _ else _) = _
                    rw [if_neg (by omega)]
                    simp; omega
                have hst := fun f => sgn_step (U := U) (u := s1.2.1) (cs := cs1) hv (fun z => by rw [hnc] at z; cases z.2) (fun k hk => by have := hlo k hk; omega) ⟨hP, by rw [r1']; have hc2 : 7 ≤ topR P ∨ topR P ≤ 3 := hctx; omega⟩ f
                rw [← k1] at hst
                have hcx2 : PCx tp U 3 a (s1.1 + 1, s1.2.1, s1.2.2) (kn tp s1.1 :: P) := by
                  refine ⟨?_, ha7, by simp, Or.inr (by show rk (kn tp s1.1) ≤ 4; omega), fun h => Or.inr (by show 4 ≤ rk (kn tp s1.1) ∧ rk (kn tp s1.1) ≤ 6; omega), hz1, b4, b5⟩
                  rw [wi_cons, if_neg (by omega), Nat.zero_add]; exact ha
                obtain ⟨m1, m2⟩ := hgg _ _ hcx2
                cases hq2 : pP tp U d (2 + 1) a (s1.1 + 1, s1.2.1, s1.2.2) with
                | error j =>
                  refine ⟨fun j' hj f hf => ?_, fun s' hs => by cases hs⟩
                  simp only [Except.error.injEq] at hj
                  subst hj
                  rw [show f = (f - 1) + 1 by omega, hst]
                  exact m1 j hq2 (f - 1) (by simp only; omega)
                | ok s2 =>
                  obtain ⟨Q2, cs2, n1, n2, n3, n4⟩ := m2 s2 hq2
                  simp only at n3 n4
                  refine ⟨fun j hj => (by cases hj), fun s' hs => ?_⟩
                  cases hs
                  have hq5 : ∀ k ∈ Q2, 5 ≤ rk k ∧ rk k ≤ 6 := n2.1
                  refine ⟨Q2 ++ [kn tp s1.1], cs2, by simp only [n1, List.append_assoc, List.map_append, List.map_cons, List.map_nil], ⟨fun k hk => ?_, fun q1 q2 => ?_, fun q1 q2 => ?_⟩, by simp only; omega, fun f => ?_⟩
                  · show 3 ≤ rk k ∧ rk k ≤ 6
                    rcases List.mem_append.mp hk with hk | hk
                    · have := hq5 k hk; omega
                    · simp only [List.mem_singleton] at hk
                      subst hk; omega
                  · simp only at q1 q2 ⊢
                    refine ⟨?_, by decide⟩
                    rcases Nat.lt_or_ge 2 (lev (kn tp s2.1)) with q | q
                    · have := (n2.2.1 (by omega) q2).2
                      omega
                    · omega
                  · rw [List.append_assoc, cmpd_app Q2 hq5]
                    show (if rk (kn tp s1.1) = 5 ∨ rk (kn tp s1.1) = 6 then _ else _) = _
                    rw [if_neg (by omega), r1']
                    rfl
                  · show qRun tp U (f + (s2.1 - s1.1)) _ = _
                    rw [show f + (s2.1 - s1.1) = (f + (s2.1 - (s1.1 + 1))) + 1 by omega, hst]
                    have := n4 f
                    simp only [List.nil_append] at this
                    rw [this]
                    simp
              · rw [if_neg e]
                refine ⟨fun j hj => (by cases hj), fun s' hs => ?_⟩
                cases hs
                refine ⟨Q1, cs1, k1, ⟨fun k hk => by have := hlo k hk; show 3 ≤ rk k ∧ rk k ≤ 6; omega, fun q1 q2 => ?_, fun q1 _ => absurd q1 e⟩, Nat.le_refl _, fun f => by rw [Nat.sub_self]; rfl⟩
                have := (k2.2.1 (by omega) q2).2
                omega
            · refine loop_sim (by omega) el ha ha7 ⟨hP, hctx⟩ hok hgg 60 s1 Q1 cs1 b2 b4 b5 (by omega) k1 (fun k hk => ?_) k2.2.1 k2.2.2
              have := k2.1 k hk
              have hlo : lwr l ≤ lwr (l + 1) := by
                rcases (show l = 0 ∨ l = 1 ∨ l = 3 ∨ l = 4 by omega) with rfl | rfl | rfl | rfl <;> decide
              omega
          obtain ⟨m1, m2⟩ := main
          refine ⟨fun j hj f hf => ?_, fun s' hs => ?_⟩
          · have := m1 j hj (f - (s1.1 - s.1)) (by omega)
            rw [← k4, show f - (s1.1 - s.1) + (s1.1 - s.1) = f by omega] at this
            exact this
          · obtain ⟨Q2, cs2, n1, n2, n3, n4⟩ := m2 s' hs
            refine ⟨Q2, cs2, n1, n2, by omega, fun f => ?_⟩
            rw [show f + (s'.1 - s.1) = (f + (s'.1 - s1.1)) + (s1.1 - s.1) by omega, k4, n4]
/-- the whole formula -/
theorem form_sim (tp : List Nat) (U i : Nat) (hz : i ≤ zl tp) (hU : U ≤ 60) (f : Nat) (hf : zl tp + 1 - i < f) : qRun tp U f (i, 0, [], [99], true) = match pP tp U 80 0 0 (i, 0, []) with
    | .error j => .error j
    | .ok s' => if lev (kn tp s'.1) = 2 then .error s'.1 else .ok s' := by
  have hcx : PCx tp U 0 0 (i, 0, []) [99] := ⟨rfl, by decide, by simp, Or.inl (by decide), fun h => by omega, hz, Nat.zero_le _, by simpa using hU⟩
  obtain ⟨g1, g2⟩ := pile_sim tp U 80 0 0 (i, 0, []) [99] (by decide) (by decide) hcx
  cases hq : pP tp U 80 0 0 (i, 0, []) with
  | error j => exact g1 j hq f (by simp only; omega)
  | ok s' =>
    obtain ⟨Q, cs2, k1, k2, k3, k4⟩ := g2 s' hq
    obtain ⟨b1, b2, -⟩ := pP_ok tp U 80 0 0 _ _ (by decide) hz (Nat.zero_le _) hq
    simp only at k3 k4 b1
    have := k4 (f - (s'.1 - i))
    rw [show f - (s'.1 - i) + (s'.1 - i) = f by omega] at this
    simp only [List.nil_append] at this
    rw [this]
    have hne : ((s'.1, s'.2.1, cs2, Q ++ [99], false) : AQ).2.2.2.1 ≠ [] := by simp
    by_cases e : lev (kn tp s'.1) = 2
    · simp only [e, if_true]
      refine qRun_er (by omega) hne ?_
      show qB tp s'.1 s'.2.1 cs2 (Q ++ [99]) = _
      unfold qB
      rw [if_pos ⟨e, k2.2.2 e (by decide)⟩]
    · simp only [e, if_false]
      have h4 : 4 < lev (kn tp s'.1) := by
        rcases Nat.lt_or_ge 4 (lev (kn tp s'.1)) with q | q
        · exact q
        · exact absurd (k2.2.1 (Nat.zero_le _) q).1 e
      have hr : rkT (kn tp s'.1) = 0 := by unfold rkT; rw [if_neg (by omega)]
      rw [show f - (s'.1 - i) = (f - (s'.1 - i) - 2) + 1 + 1 by omega, qRun_ok hne (q' := (s'.1, s'.2.1, s'.2.2, [], false))]
      · rw [qRun, if_pos rfl]
      · show qB tp s'.1 s'.2.1 cs2 (Q ++ [99]) = _
        unfold qB
        rw [hr, pop_all (Or.inr (Or.inl (by decide))) Q (fun k hk => ⟨Nat.zero_le _, (k2.1 k hk).2⟩), if_neg (fun z => e z.1), if_neg (by omega), ← k1]
        rfl
