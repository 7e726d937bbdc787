/-! PURE: ways for walkers, in numbers -/
def bes (C R p s : Nat) : Option Nat := match s with
  | 0 => if 0 < p / C then some (p - C) else none
  | 1 => if 0 < p % C then some (p - 1) else none
  | 2 => if p % C < C - 1 then some (p + 1) else none
  | _ => if p / C < R - 1 then some (p + C) else none
def nb (C R q p : Nat) : Bool := decide (bes C R q 0 = some p) || decide (bes C R q 1 = some p) || decide (bes C R q 2 = some p) || decide (bes C R q 3 = some p)
theorem nb_iff {C R q p : Nat} : nb C R q p = true ↔ ∃ s, s < 4 ∧ bes C R q s = some p := by
  simp only [nb, Bool.or_eq_true, decide_eq_true_eq]
  constructor
  · rintro (((h | h) | h) | h)
    · exact ⟨0, by decide, h⟩
    · exact ⟨1, by decide, h⟩
    · exact ⟨2, by decide, h⟩
    · exact ⟨3, by decide, h⟩
  · rintro ⟨s, hs, h⟩
    rcases (show s = 0 ∨ s = 1 ∨ s = 2 ∨ s = 3 by omega) with rfl | rfl | rfl | rfl <;> simp [h]
def nbN (C q p : Nat) : Prop := (p % C = q % C ∧ (p / C + 1 = q / C ∨ q / C + 1 = p / C)) ∨ (p / C = q / C ∧ (p % C + 1 = q % C ∨ q % C + 1 = p % C))
set_option maxHeartbeats 4000000 in
theorem nb_N {C R q p : Nat} (hC : 1 ≤ C ∧ C ≤ 8) (hq : q < C * R) (hp : p < C * R) : nb C R q p = true ↔ nbN C q p := by
  simp only [nb, bes, nbN, Bool.or_eq_true, decide_eq_true_eq, Option.ite_none_right_eq_some, Option.some.injEq]
  rcases (show C = 1 ∨ C = 2 ∨ C = 3 ∨ C = 4 ∨ C = 5 ∨ C = 6 ∨ C = 7 ∨ C = 8 by omega) with rfl | rfl | rfl | rfl | rfl | rfl | rfl | rfl <;> omega
theorem nb_sym {C R q p : Nat} (hC : 1 ≤ C ∧ C ≤ 8) (hq : q < C * R) (hp : p < C * R) : nb C R q p = nb C R p q := by
  have h1 := nb_N hC hq hp
  have h2 := nb_N (R := R) hC hp hq
  have h3 : nbN C q p ↔ nbN C p q := by unfold nbN; omega
  cases e : nb C R q p <;> cases e' : nb C R p q <;> simp_all
theorem bes_lt {C R q p s : Nat} (hC : 1 ≤ C ∧ C ≤ 8) (hq : q < C * R) (h : bes C R q s = some p) : p < C * R := by
  unfold bes at h
  rcases (show C = 1 ∨ C = 2 ∨ C = 3 ∨ C = 4 ∨ C = 5 ∨ C = 6 ∨ C = 7 ∨ C = 8 by omega) with rfl | rfl | rfl | rfl | rfl | rfl | rfl | rfl <;> split at h <;> simp only [Option.ite_none_right_eq_some, Option.some.injEq] at h <;> omega
/-- reached within k steps -/
def lv (E : Nat → Bool) (N : Nat → Nat → Bool) (m : Nat) (src : Nat → Bool) : Nat → Nat → Bool
  | 0, p => E p && src p
  | k + 1, p => lv E N m src k p || (E p && decide (¬ cn (fun q => lv E N m src k q && N q p) m = 0))
section Dist
variable {E : Nat → Bool} {N : Nat → Nat → Bool} {m : Nat} {src : Nat → Bool}
theorem cn_pos {P : Nat → Bool} {k : Nat} : ¬ cn P k = 0 ↔ ∃ j, j < k ∧ P j = true := by
  rw [cn_ex]
  constructor
  · intro h
    refine Classical.byContradiction (fun hno => h (fun j hj => ?_))
    cases e : P j
    · rfl
    · exact absurd ⟨j, hj, e⟩ hno
  · rintro ⟨j, hj, h⟩ h2
    rw [h2 j hj] at h; cases h
theorem lv_succ {k p : Nat} : lv E N m src (k + 1) p = true ↔ lv E N m src k p = true ∨ (E p = true ∧ ∃ q, q < m ∧ lv E N m src k q = true ∧ N q p = true) := by
  simp only [lv, Bool.or_eq_true, Bool.and_eq_true, decide_eq_true_eq, cn_pos]
theorem lv_mono {p : Nat} : ∀ d k, lv E N m src k p = true → lv E N m src (k + d) p = true := by
  intro d
  induction d with
  | zero => exact fun _ h => h
  | succ d ih => exact fun k h => lv_succ.mpr (Or.inl (ih k h))
theorem lv_E {p : Nat} : ∀ k, lv E N m src k p = true → E p = true := by
  intro k
  induction k with
  | zero => intro h; simp only [lv, Bool.and_eq_true] at h; exact h.1
  | succ k ih =>
    intro h
    rcases lv_succ.mp h with h | h
    · exact ih h
    · exact h.1
/-- how far: the first k -/
def ds (E : Nat → Bool) (N : Nat → Nat → Bool) (m : Nat) (src : Nat → Bool) (p : Nat) : Option Nat := ffd (fun k => lv E N m src k p) 0 m
/-- it has to be the first number of steps within which one comes there -/
def isD (E : Nat → Bool) (N : Nat → Nat → Bool) (m : Nat) (src : Nat → Bool) (p : Nat) (x : Option Nat) : Prop := match x with
  | some d => d < m ∧ lv E N m src d p = true ∧ ∀ k, lv E N m src k p = true → d ≤ k
  | none => ∀ k, lv E N m src k p = false
theorem isD_ds {p : Nat} {x : Option Nat} (h : isD E N m src p x) : x = ds E N m src p := by
  unfold ds
  cases x with
  | none =>
    cases e : ffd (fun k => lv E N m src k p) 0 m with
    | none => rfl
    | some v =>
      obtain ⟨_, _, h3, _⟩ := ffd_some _ 0 v e
      rw [h v] at h3; cases h3
  | some d =>
    obtain ⟨h1, h2, h3⟩ := h
    cases e : ffd (fun k => lv E N m src k p) 0 m with
    | none =>
      have := ffd_none _ 0 e d (by omega) (by omega)
      rw [h2] at this; cases this
    | some v =>
      obtain ⟨_, _, g3, g4⟩ := ffd_some _ 0 v e
      have a1 := h3 v g3
      rcases Nat.lt_or_ge d v with hlt | hge
      · have := g4 d (by omega) hlt
        rw [h2] at this; cases this
      · rw [show d = v by omega]
theorem getD_app {l : List Nat} {x a : Nat} : (l ++ [x]).getD a 0 = if a = l.length then x else l.getD a 0 := by
  by_cases h : a = l.length
  · subst h; simp
  · rw [if_neg h]
    by_cases h2 : a < l.length
    · simp [List.getElem?_append_left h2]
    · have h3 : l.length ≤ a := by omega
      rw [List.getD_eq_getElem?_getD, List.getD_eq_getElem?_getD, List.getElem?_eq_none (show (l ++ [x]).length ≤ a by simp; omega), List.getElem?_eq_none h3]
def stv (st : Nat → Option Nat) (p : Nat) : Nat := (st p).getD 0
/-- what holds while one spreads, the first i of the queue done -/
def BI (E : Nat → Bool) (N : Nat → Nat → Bool) (m : Nat) (src : Nat → Bool) (st : Nat → Option Nat) (Q : List Nat) (i : Nat) : Prop :=
  (∀ p d, st p = some d → lv E N m src d p = true ∧ p < m ∧ ∃ a, a < Q.length ∧ Q.getD a 0 = p) ∧
  (∀ a, a < Q.length → (st (Q.getD a 0)).isSome = true ∧ Q.getD a 0 < m) ∧
  (Q.length = cn (fun p => (st p).isSome) m) ∧
  (∀ a, a < i → a < Q.length → ∀ q, E q = true → q < m → N (Q.getD a 0) q = true → ∃ d, st q = some d ∧ d ≤ stv st (Q.getD a 0) + 1) ∧
  (∀ a b, a ≤ b → b < Q.length → stv st (Q.getD a 0) ≤ stv st (Q.getD b 0)) ∧
  (i < Q.length → ∀ b, b < Q.length → stv st (Q.getD b 0) ≤ stv st (Q.getD i 0) + 1) ∧
  (∀ a, a < Q.length → stv st (Q.getD a 0) ≤ a) ∧
  (∀ p d, st p = some d → E p = true)
theorem BI.vis {st : Nat → Option Nat} {Q : List Nat} {i : Nat} (h : BI E N m src st Q i) : ∀ p d, st p = some d → lv E N m src d p = true ∧ p < m ∧ ∃ a, a < Q.length ∧ Q.getD a 0 = p := h.1
theorem BI.que {st : Nat → Option Nat} {Q : List Nat} {i : Nat} (h : BI E N m src st Q i) : ∀ a, a < Q.length → (st (Q.getD a 0)).isSome = true ∧ Q.getD a 0 < m := h.2.1
theorem BI.num {st : Nat → Option Nat} {Q : List Nat} {i : Nat} (h : BI E N m src st Q i) : Q.length = cn (fun p => (st p).isSome) m := h.2.2.1
theorem BI.don {st : Nat → Option Nat} {Q : List Nat} {i : Nat} (h : BI E N m src st Q i) : ∀ a, a < i → a < Q.length → ∀ q, E q = true → q < m → N (Q.getD a 0) q = true → ∃ d, st q = some d ∧ d ≤ stv st (Q.getD a 0) + 1 := h.2.2.2.1
theorem BI.inc {st : Nat → Option Nat} {Q : List Nat} {i : Nat} (h : BI E N m src st Q i) : ∀ a b, a ≤ b → b < Q.length → stv st (Q.getD a 0) ≤ stv st (Q.getD b 0) := h.2.2.2.2.1
theorem BI.lim {st : Nat → Option Nat} {Q : List Nat} {i : Nat} (h : BI E N m src st Q i) : i < Q.length → ∀ b, b < Q.length → stv st (Q.getD b 0) ≤ stv st (Q.getD i 0) + 1 := h.2.2.2.2.2.1
theorem BI.idx {st : Nat → Option Nat} {Q : List Nat} {i : Nat} (h : BI E N m src st Q i) : ∀ a, a < Q.length → stv st (Q.getD a 0) ≤ a := h.2.2.2.2.2.2.1
theorem BI.opn {st : Nat → Option Nat} {Q : List Nat} {i : Nat} (h : BI E N m src st Q i) : ∀ p d, st p = some d → E p = true := h.2.2.2.2.2.2.2
def uST (st : Nat → Option Nat) (p x : Nat) : Nat → Option Nat := fun q => if q = p then some x else st q
/-- one more has been come to -/
theorem BI.come {st : Nat → Option Nat} {Q : List Nat} {i p x : Nat} (h : BI E N m src st Q i) (hp : p < m) (hE : E p = true) (hn : st p = none) (hl : lv E N m src x p = true) (hx : ∀ b, b < Q.length → stv st (Q.getD b 0) ≤ x) (hi : (i < Q.length → x ≤ stv st (Q.getD i 0) + 1) ∧ i ≤ Q.length) (hx2 : x ≤ Q.length) : BI E N m src (uST st p x) (Q ++ [p]) i := by
  have hne : ∀ a, a < Q.length → Q.getD a 0 ≠ p := by
    intro a ha e
    have := (h.que a ha).1
    rw [e, hn] at this; cases this
  have hg : ∀ a, a < Q.length → (Q ++ [p]).getD a 0 = Q.getD a 0 := fun a ha => by rw [getD_app, if_neg (by omega)]
  have hg2 : (Q ++ [p]).getD Q.length 0 = p := by rw [getD_app, if_pos rfl]
  have hs : ∀ a, a < Q.length → stv (uST st p x) (Q.getD a 0) = stv st (Q.getD a 0) := fun a ha => by
    unfold stv uST
    rw [if_neg (hne a ha)]
  have hs2 : stv (uST st p x) p = x := by simp [stv, uST]
  have hL : (Q ++ [p]).length = Q.length + 1 := by simp
  refine ⟨?_, ?_, ?_, ?_, ?_, ?_, ?_, ?_⟩
  · intro q d hd
    unfold uST at hd
    by_cases e : q = p
    · subst e
      rw [if_pos rfl] at hd
      cases hd
      exact ⟨hl, hp, Q.length, by omega, hg2⟩
    · rw [if_neg e] at hd
      obtain ⟨h1, h2, a, ha, h3⟩ := h.vis q d hd
      exact ⟨h1, h2, a, by omega, by rw [hg a ha]; exact h3⟩
  · intro a ha
    by_cases e : a = Q.length
    · subst e
      rw [hg2]
      exact ⟨by simp [uST], hp⟩
    · rw [hg a (by omega)]
      refine ⟨?_, (h.que a (by omega)).2⟩
      simp only [uST, hne a (by omega), if_false]
      exact (h.que a (by omega)).1
  · rw [hL, cn_clr (P := fun q => (uST st p x q).isSome) (c := p) m hp (by simp [uST]), h.num]
    congr 1
    apply cn_congr
    intro j hj
    by_cases e : j = p
    · subst e; simp [hn]
    · simp [uST, e]
  · intro a ha ha2 q hq hqm hN
    by_cases e : a = Q.length
    · omega
    · rw [hg a (by omega)] at hN ⊢
      rw [hs a (by omega)]
      obtain ⟨d, h1, h2⟩ := h.don a ha (by omega) q hq hqm hN
      refine ⟨d, ?_, h2⟩
      have : q ≠ p := fun e => by rw [e, hn] at h1; cases h1
      simp [uST, this, h1]
  · intro a b hab hb
    by_cases e : b = Q.length
    · subst e
      rw [hg2, hs2]
      by_cases e2 : a = Q.length
      · subst e2; rw [hg2, hs2]; omega
      · rw [hg a (by omega), hs a (by omega)]; exact hx a (by omega)
    · rw [hg a (by omega), hg b (by omega), hs a (by omega), hs b (by omega)]
      exact h.inc a b hab (by omega)
  · intro hi2 b hb
    by_cases ei : i = Q.length
    · subst ei
      rw [hg2, hs2]
      by_cases e : b = Q.length
      · subst e; rw [hg2, hs2]; omega
      · rw [hg b (by omega), hs b (by omega)]
        have := hx b (by omega); omega
    · have hi' : i < Q.length := by omega
      rw [hg i hi', hs i hi']
      by_cases e : b = Q.length
      · subst e; rw [hg2, hs2]; exact hi.1 hi'
      · rw [hg b (by omega), hs b (by omega)]
        exact h.lim hi' b (by omega)
  · intro a ha
    by_cases e : a = Q.length
    · subst e; rw [hg2, hs2]; exact hx2
    · rw [hg a (by omega), hs a (by omega)]; exact h.idx a (by omega)
  · intro q d hd
    unfold uST at hd
    by_cases e : q = p
    · subst e; exact hE
    · rw [if_neg e] at hd; exact h.opn q d hd
theorem BI.len {st : Nat → Option Nat} {Q : List Nat} {i : Nat} (h : BI E N m src st Q i) : Q.length ≤ m := by
  rw [h.num]; exact cn_le _ m
/-- when all is done, it is how far -/
theorem BI.fin {st : Nat → Option Nat} {Q : List Nat} {i : Nat} (h : BI E N m src st Q i) (hi : Q.length ≤ i) (hE : ∀ p, E p = true → p < m) (hs : ∀ p, E p = true → src p = true → st p = some 0) : ∀ p, st p = ds E N m src p := by
  intro p
  apply isD_ds
  have comp : ∀ k q, lv E N m src k q = true → ∃ d, st q = some d ∧ d ≤ k := by
    intro k
    induction k with
    | zero =>
      intro q hq
      simp only [lv, Bool.and_eq_true] at hq
      exact ⟨0, hs q hq.1 hq.2, Nat.le_refl _⟩
    | succ k ih =>
      intro q hq
      rcases lv_succ.mp hq with hq | ⟨hEq, r, hr, hlr, hN⟩
      · obtain ⟨d, h1, h2⟩ := ih q hq
        exact ⟨d, h1, by omega⟩
      · obtain ⟨d, h1, h2⟩ := ih r hlr
        obtain ⟨_, _, a, ha, h4⟩ := h.vis r d h1
        obtain ⟨d', g1, g2⟩ := h.don a (by omega) ha q hEq (hE q hEq) (by rw [h4]; exact hN)
        refine ⟨d', g1, ?_⟩
        rw [h4] at g2
        simp only [stv, h1, Option.getD_some] at g2
        omega
  cases e : st p with
  | none =>
    intro k
    cases e2 : lv E N m src k p
    · rfl
    · obtain ⟨d, h1, _⟩ := comp k p e2
      rw [e] at h1; cases h1
  | some d =>
    obtain ⟨h1, h2, a, ha, h3⟩ := h.vis p d e
    refine ⟨?_, h1, fun k hk => ?_⟩
    · have h4 := h.idx a ha
      rw [h3] at h4
      simp only [stv, e, Option.getD_some] at h4
      have := h.len
      omega
    · obtain ⟨d', g1, g2⟩ := comp k p hk
      rw [e] at g1; cases g1; exact g2
/-- from one to another it is as far as back -/
theorem lv_pre (hE : ∀ p, E p = true → p < m) (hsy : ∀ p q, p < m → q < m → N p q = N q p) {a b : Nat} (ha : E a = true) (hb : E b = true) (hab : N a b = true) : ∀ k p, lv E N m (fun q => decide (q = b)) k p = true → lv E N m (fun q => decide (q = a)) (k + 1) p = true := by
  intro k
  induction k with
  | zero =>
    intro p hp
    simp only [lv, Bool.and_eq_true, decide_eq_true_eq] at hp
    obtain ⟨h1, rfl⟩ := hp
    exact lv_succ.mpr (Or.inr ⟨h1, a, hE a ha, by simp [lv, ha], hab⟩)
  | succ k ih =>
    intro p hp
    rcases lv_succ.mp hp with h | ⟨h1, q, h2, h3, h4⟩
    · exact lv_succ.mpr (Or.inl (ih p h))
    · exact lv_succ.mpr (Or.inr ⟨h1, q, h2, ih q h3, h4⟩)
theorem lv_sym (hE : ∀ p, E p = true → p < m) (hsy : ∀ p q, p < m → q < m → N p q = N q p) : ∀ k a b, lv E N m (fun q => decide (q = a)) k b = true → lv E N m (fun q => decide (q = b)) k a = true := by
  intro k
  induction k with
  | zero =>
    intro a b h
    simp only [lv, Bool.and_eq_true, decide_eq_true_eq] at h ⊢
    obtain ⟨h1, rfl⟩ := h
    exact ⟨h1, rfl⟩
  | succ k ih =>
    intro a b h
    rcases lv_succ.mp h with h | ⟨h1, q, h2, h3, h4⟩
    · exact lv_succ.mpr (Or.inl (ih a b h))
    · have hq := lv_E k h3
      exact lv_pre hE hsy h1 hq (by rw [← hsy q b h2 (hE b h1)]; exact h4) k a (ih a q h3)
theorem ds_sym (hE : ∀ p, E p = true → p < m) (hsy : ∀ p q, p < m → q < m → N p q = N q p) (a b : Nat) : ds E N m (fun q => decide (q = a)) b = ds E N m (fun q => decide (q = b)) a := by
  unfold ds
  congr 1
  funext k
  cases e : lv E N m (fun q => decide (q = a)) k b <;> cases e' : lv E N m (fun q => decide (q = b)) k a
  · rfl
  · rw [lv_sym hE hsy k b a e'] at e; cases e
  · rw [lv_sym hE hsy k a b e] at e'; cases e'
  · rfl
end Dist
