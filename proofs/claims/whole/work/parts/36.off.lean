/-! PURE: who comes off, who is stuck, who is ahead -/
section Off
variable {B : Nat → Nat → Bool}
def frA (B : Nat → Nat → Bool) (L : Nat → Bool) (c : Nat) : Bool := L c && decide (cn (fun o => B c o && L o) 8 = 0)
def rm (L : Nat → Bool) (c : Nat) : Nat → Bool := fun j => L j && !decide (j = c)
theorem frA_iff {L : Nat → Bool} {c : Nat} : frA B L c = true ↔ L c = true ∧ ∀ o, o < 8 → B c o = true → L o = false := by
  simp only [frA, Bool.and_eq_true, decide_eq_true_eq, cn_ex]
  constructor
  · rintro ⟨h1, h2⟩
    refine ⟨h1, fun o ho hb => ?_⟩
    have := h2 o ho
    simpa [hb] using this
  · rintro ⟨h1, h2⟩
    refine ⟨h1, fun o ho => ?_⟩
    cases e : B c o
    · rfl
    · simp [h2 o ho e]
theorem rm_iff {L : Nat → Bool} {c j : Nat} : rm L c j = true ↔ L j = true ∧ j ≠ c := by
  simp [rm]
def sub8 (X L : Nat → Bool) : Prop := ∀ c, c < 8 → X c = true → L c = true
def nof (B : Nat → Nat → Bool) (X : Nat → Bool) : Prop := ∀ c, c < 8 → frA B X c = false
def isW (B : Nat → Nat → Bool) (L W : Nat → Bool) : Prop := sub8 W L ∧ nof B W ∧ ∀ X, sub8 X L → nof B X → sub8 X W
theorem isW_uni {L W W' : Nat → Bool} (h : isW B L W) (h' : isW B L W') : ∀ j, j < 8 → W j = W' j := by
  intro j hj
  have h1 := h.2.2 W' h'.1 h'.2.1 j hj
  have h2 := h'.2.2 W h.1 h.2.1 j hj
  cases e : W j <;> cases e' : W' j <;> simp_all
theorem isW_none {L : Nat → Bool} (h : nof B L) : isW B L L := ⟨fun _ _ h => h, h, fun _ h1 _ => h1⟩
theorem fr_sub {L X : Nat → Bool} {c : Nat} (h : sub8 X L) (hf : frA B L c = true) (hX : X c = true) : frA B X c = true := by
  rw [frA_iff] at hf ⊢
  refine ⟨hX, fun o ho hb => ?_⟩
  have := hf.2 o ho hb
  cases e : X o
  · rfl
  · have := h o ho e; simp_all
theorem isW_rm {L W : Nat → Bool} {c : Nat} (hc : c < 8) (hf : frA B L c = true) (h : isW B (rm L c) W) : isW B L W := by
  refine ⟨fun j hj hw => (rm_iff.mp (h.1 j hj hw)).1, h.2.1, fun X hX hn => h.2.2 X (fun j hj hx => ?_) hn⟩
  refine rm_iff.mpr ⟨hX j hj hx, fun e => ?_⟩
  subst e
  have := fr_sub hX hf hx
  rw [hn j hc] at this; cases this
/-- the least that is free each time -/
def nxt (B : Nat → Nat → Bool) (L : Nat → Bool) : Option Nat := ffd (frA B L) 0 8
def offs (B : Nat → Nat → Bool) : Nat → (Nat → Bool) → List Nat × (Nat → Bool)
  | 0, L => ([], L)
  | m + 1, L => match nxt B L with
    | none => ([], L)
    | some c => (c :: (offs B m (rm L c)).1, (offs B m (rm L c)).2)
theorem ffd_some {P : Nat → Bool} : ∀ d j v, ffd P j d = some v → j ≤ v ∧ v < j + d ∧ P v = true ∧ ∀ i, j ≤ i → i < v → P i = false := by
  intro d
  induction d with
  | zero => intro j v h; cases h
  | succ d ih =>
    intro j v h
    unfold ffd at h
    split at h
    · rename_i hp
      cases h
      exact ⟨Nat.le_refl _, by omega, hp, fun i h1 h2 => by omega⟩
    · rename_i hp
      obtain ⟨h1, h2, h3, h4⟩ := ih (j + 1) v h
      refine ⟨by omega, by omega, h3, fun i a1 a2 => ?_⟩
      by_cases e : i = j
      · subst e; simpa using hp
      · exact h4 i (by omega) a2
theorem ffd_none {P : Nat → Bool} : ∀ d j, ffd P j d = none → ∀ i, j ≤ i → i < j + d → P i = false := by
  intro d
  induction d with
  | zero => intro j _ i h1 h2; omega
  | succ d ih =>
    intro j h i h1 h2
    unfold ffd at h
    split at h
    · cases h
    · rename_i hp
      by_cases e : i = j
      · subst e; simpa using hp
      · exact ih (j + 1) h i (by omega) (by omega)
theorem nxt_some {L : Nat → Bool} {c : Nat} (h : nxt B L = some c) : c < 8 ∧ frA B L c = true := by
  obtain ⟨_, h2, h3, _⟩ := ffd_some 8 0 c h
  exact ⟨by omega, h3⟩
theorem nxt_none {L : Nat → Bool} (h : nxt B L = none) : nof B L := fun c hc => ffd_none 8 0 h c (by omega) (by omega)
theorem nxt_isN {L : Nat → Bool} (h : nof B L) : nxt B L = none := by
  cases e : nxt B L with
  | none => rfl
  | some c =>
    obtain ⟨h1, h2⟩ := nxt_some e
    rw [h c h1] at h2; cases h2
theorem cn_rm {L : Nat → Bool} {c : Nat} (hc : c < 8) (h : L c = true) : cn L 8 = cn (rm L c) 8 + 1 := cn_clr 8 hc h
theorem nof_empty {L : Nat → Bool} (h : cn L 8 = 0) : nof B L := by
  intro c hc
  have := (cn_ex 8).mp h c hc
  simp [frA, this]
theorem offs_W : ∀ m (L : Nat → Bool), cn L 8 ≤ m → isW B L (offs B m L).2 := by
  intro m
  induction m with
  | zero => intro L h; exact isW_none (nof_empty (by omega))
  | succ m ih =>
    intro L h
    unfold offs
    split
    · rename_i e; exact isW_none (nxt_none e)
    · rename_i c e
      obtain ⟨h1, h2⟩ := nxt_some e
      have h3 := cn_rm h1 (frA_iff.mp h2).1
      exact isW_rm h1 h2 (ih (rm L c) (by omega))
theorem offs_len : ∀ m (L : Nat → Bool), cn L 8 = (offs B m L).1.length + cn (offs B m L).2 8 := by
  intro m
  induction m with
  | zero => intro L; simp [offs]
  | succ m ih =>
    intro L
    unfold offs
    split
    · simp
    · rename_i c e
      obtain ⟨h1, h2⟩ := nxt_some e
      have h3 := cn_rm h1 (frA_iff.mp h2).1
      have := ih (rm L c)
      simp only [List.length_cons]
      omega
theorem offs_more : ∀ m (L : Nat → Bool), cn L 8 ≤ m → ∀ d, offs B (m + d) L = offs B m L := by
  intro m
  induction m with
  | zero =>
    intro L h d
    have hn := nxt_isN (B := B) (nof_empty (B := B) (show cn L 8 = 0 by omega))
    cases d with
    | zero => rfl
    | succ d => rw [Nat.zero_add]; unfold offs; rw [hn]
  | succ m ih =>
    intro L h d
    rw [show m + 1 + d = (m + d) + 1 by omega]
    unfold offs
    split
    · rfl
    · rename_i c e
      obtain ⟨h1, h2⟩ := nxt_some e
      have h3 := cn_rm h1 (frA_iff.mp h2).1
      rw [ih (rm L c) (by omega) d]
/-- one sweep over those below k -/
def sw (B : Nat → Nat → Bool) (L : Nat → Bool) : Nat → (Nat → Bool)
  | 0 => L
  | c + 1 => if frA B (sw B L c) c = true then rm (sw B L c) c else sw B L c
def stk (B : Nat → Nat → Bool) (L : Nat → Bool) : Nat → (Nat → Bool)
  | 0 => L
  | r + 1 => sw B (stk B L r) 8
theorem sw_sub {L : Nat → Bool} : ∀ k, sub8 (sw B L k) L := by
  intro k
  induction k with
  | zero => exact fun _ _ h => h
  | succ k ih =>
    intro j hj h
    unfold sw at h
    split at h
    · exact ih j hj (rm_iff.mp h).1
    · exact ih j hj h
theorem sw_mono {L : Nat → Bool} {k d : Nat} : sub8 (sw B L (k + d)) (sw B L k) := by
  induction d with
  | zero => exact fun _ _ h => h
  | succ d ih =>
    intro j hj h
    rw [← Nat.add_assoc] at h
    unfold sw at h
    split at h
    · exact ih j hj (rm_iff.mp h).1
    · exact ih j hj h
theorem sw_W {L W : Nat → Bool} : ∀ k, k ≤ 8 → isW B (sw B L k) W → isW B L W := by
  intro k
  induction k with
  | zero => exact fun _ h => h
  | succ k ih =>
    intro hk h
    unfold sw at h
    split at h
    · rename_i hf
      exact ih (by omega) (isW_rm (by omega) hf h)
    · exact ih (by omega) h
theorem sw_none {L : Nat → Bool} (h : nof B L) : ∀ k, k ≤ 8 → sw B L k = L := by
  intro k
  induction k with
  | zero => exact fun _ => rfl
  | succ k ih =>
    intro hk
    unfold sw
    rw [ih (by omega), h k (by omega)]
    rfl
theorem cn_lt {P Q : Nat → Bool} (h : sub8 P Q) {c : Nat} (hc : c < 8) (h1 : Q c = true) (h2 : P c = false) : cn P 8 < cn Q 8 := by
  rw [cn_rm hc h1]
  have : cn P 8 ≤ cn (rm Q c) 8 := cn_le_of 8 (fun j hj hp => rm_iff.mpr ⟨h j hj hp, fun e => by subst e; rw [h2] at hp; cases hp⟩)
  omega
theorem sw_less {L : Nat → Bool} {c : Nat} (hc : c < 8) (hf : frA B L c = true) : cn (sw B L 8) 8 < cn L 8 := by
  have h1 : sw B L (c + 1) c = false := by
    unfold sw
    cases e : sw B L c c
    · split
      · simp [rm]
      · exact e
    · rw [if_pos (fr_sub (sw_sub c) hf e)]
      simp [rm]
  have h2 : sw B L 8 c = false := by
    cases e : sw B L 8 c
    · rfl
    · have := sw_mono (B := B) (L := L) (k := c + 1) (d := 8 - (c + 1)) c hc (by rw [show c + 1 + (8 - (c + 1)) = 8 by omega]; exact e)
      rw [h1] at this; cases this
  exact cn_lt (sw_sub 8) hc (frA_iff.mp hf).1 h2
theorem stk_W {L W : Nat → Bool} : ∀ r, isW B (stk B L r) W → isW B L W := by
  intro r
  induction r with
  | zero => exact fun h => h
  | succ r ih => exact fun h => ih (sw_W 8 (Nat.le_refl _) h)
theorem stk_no {L : Nat → Bool} : ∀ r, nof B (stk B L r) ∨ cn (stk B L r) 8 + r ≤ 8 := by
  intro r
  induction r with
  | zero => exact Or.inr (cn_le _ 8)
  | succ r ih =>
    by_cases h : nof B (stk B L r)
    · refine Or.inl ?_
      show nof B (sw B (stk B L r) 8)
      rw [sw_none h 8 (Nat.le_refl _)]; exact h
    · rcases ih with h1 | h1
      · exact absurd h1 h
      · have : ∃ c, c < 8 ∧ frA B (stk B L r) c = true := by
          cases e : nxt B (stk B L r) with
          | none => exact absurd (nxt_none e) h
          | some c => exact ⟨c, nxt_some e⟩
        obtain ⟨c, hc, hf⟩ := this
        have h2 := sw_less hc hf
        refine Or.inr ?_
        show cn (sw B (stk B L r) 8) 8 + (r + 1) ≤ 8
        omega
theorem stk8_W {L : Nat → Bool} : isW B L (stk B L 8) := by
  apply stk_W 8
  rcases stk_no (B := B) (L := L) 8 with h | h
  · exact isW_none h
  · exact isW_none (nof_empty (by omega))
/-- both ways agree -/
theorem stk_offs (L : Nat → Bool) : ∀ j, j < 8 → stk B L 8 j = (offs B 8 L).2 j := isW_uni stk8_W (offs_W 8 L (cn_le L 8))
theorem stk_len (L : Nat → Bool) : (offs B 8 L).1.length + cn (stk B L 8) 8 = cn L 8 := by
  have := offs_len (B := B) 8 L
  rw [cn_congr 8 (stk_offs (B := B) L)]
  omega
/-- all that must go ahead -/
def ah1 (B : Nat → Nat → Bool) (A : Nat → Bool) : Nat → (Nat → Bool)
  | 0 => A
  | o + 1 => if ah1 B A o o = true then (fun j => ah1 B A o j || B o j) else ah1 B A o
def ahd (B : Nat → Nat → Bool) (c : Nat) : Nat → (Nat → Bool)
  | 0 => B c
  | r + 1 => ah1 B (ahd B c r) 8
def clo (B : Nat → Nat → Bool) (X : Nat → Bool) : Prop := ∀ o, o < 8 → X o = true → ∀ p, p < 8 → B o p = true → X p = true
theorem ah1_sup {A : Nat → Bool} : ∀ k, sub8 A (ah1 B A k) := by
  intro k
  induction k with
  | zero => exact fun _ _ h => h
  | succ k ih =>
    intro j hj h
    unfold ah1
    split
    · simp [ih j hj h]
    · exact ih j hj h
theorem ah1_mono {A : Nat → Bool} {k d : Nat} : sub8 (ah1 B A k) (ah1 B A (k + d)) := by
  induction d with
  | zero => exact fun _ _ h => h
  | succ d ih =>
    intro j hj h
    rw [← Nat.add_assoc]
    unfold ah1
    split
    · simp [ih j hj h]
    · exact ih j hj h
theorem ah1_in {A X : Nat → Bool} (hX : clo B X) (h : sub8 A X) : ∀ k, k ≤ 8 → sub8 (ah1 B A k) X := by
  intro k
  induction k with
  | zero => exact fun _ => h
  | succ k ih =>
    intro hk j hj hh
    unfold ah1 at hh
    split at hh
    · rename_i hf
      simp only [Bool.or_eq_true] at hh
      rcases hh with hh | hh
      · exact ih (by omega) j hj hh
      · exact hX k (by omega) (ih (by omega) k (by omega) hf) j hj hh
    · exact ih (by omega) j hj hh
theorem ah1_all {A : Nat → Bool} {o : Nat} (ho : o < 8) (h : A o = true) : sub8 (B o) (ah1 B A 8) := by
  intro p hp hb
  have h1 : ah1 B A (o + 1) p = true := by
    unfold ah1
    rw [if_pos (ah1_sup o o ho h)]
    simp [hb]
  have := ah1_mono (B := B) (A := A) (k := o + 1) (d := 8 - (o + 1)) p hp h1
  rw [show o + 1 + (8 - (o + 1)) = 8 by omega] at this
  exact this
theorem ahd_clo {c : Nat} : ∀ r, clo B (ahd B c r) ∨ r ≤ cn (ahd B c r) 8 := by
  intro r
  induction r with
  | zero => exact Or.inr (Nat.zero_le _)
  | succ r ih =>
    by_cases hcl : clo B (ahd B c r)
    · have h1 : sub8 (ahd B c (r + 1)) (ahd B c r) := ah1_in hcl (fun _ _ h => h) 8 (Nat.le_refl _)
      have h2 : sub8 (ahd B c r) (ahd B c (r + 1)) := ah1_sup 8
      exact Or.inl (fun o ho hx p hp hb => h2 p hp (hcl o ho (h1 o ho hx) p hp hb))
    · rcases ih with h | h
      · exact absurd h hcl
      · refine Or.inr ?_
        have : ∃ o p, o < 8 ∧ p < 8 ∧ ahd B c r o = true ∧ B o p = true ∧ ahd B c r p = false := by
          refine Classical.byContradiction (fun hno => hcl (fun o ho hx p hp hb => ?_))
          cases e : ahd B c r p
          · exact absurd ⟨o, p, ho, hp, hx, hb, e⟩ hno
          · rfl
        obtain ⟨o, p, ho, hp, h1, h2, h3⟩ := this
        have h4 : ahd B c (r + 1) p = true := ah1_all ho h1 p hp h2
        have := cn_lt (P := ahd B c r) (Q := ahd B c (r + 1)) (ah1_sup 8) hp h4 h3
        omega
theorem ahd8_clo {c : Nat} : clo B (ahd B c 8) := by
  rcases ahd_clo (B := B) (c := c) 8 with h | h
  · exact h
  · intro o ho hx p hp hb
    cases e : ahd B c 8 p
    · have h1 : cn (rm (fun _ => true) p) 8 = 7 := by
        have := cn_rm (L := fun _ => true) hp rfl
        have h8 : cn (fun _ => true) 8 = 8 := rfl
        omega
      have h2 : cn (ahd B c 8) 8 ≤ cn (rm (fun _ => true) p) 8 := cn_le_of 8 (fun j hj hh => rm_iff.mpr ⟨rfl, fun e' => by subst e'; rw [e] at hh; cases hh⟩)
      omega
    · rfl
theorem ahd_sup {c : Nat} : ∀ r, sub8 (B c) (ahd B c r) := by
  intro r
  induction r with
  | zero => exact fun _ _ h => h
  | succ r ih => exact fun j hj h => ah1_sup 8 j hj (ih j hj h)
theorem ahd_min {c : Nat} {X : Nat → Bool} (hX : clo B X) (h : sub8 (B c) X) : ∀ r, sub8 (ahd B c r) X := by
  intro r
  induction r with
  | zero => exact h
  | succ r ih => exact ah1_in hX ih 8 (Nat.le_refl _)
theorem offs_fr {c : Nat} (hc : c < 8) : ∀ m (L : Nat → Bool), L c = true → (offs B m L).2 c = false → ∃ L1, sub8 L1 L ∧ frA B L1 c = true ∧ ∀ x, x < 8 → L x = true → L1 x = false → ∀ p, p < 8 → B x p = true → L p = true → L1 p = false := by
  intro m
  induction m with
  | zero => intro L h1 h2; simp only [offs] at h2; rw [h1] at h2; cases h2
  | succ m ih =>
    intro L h1 h2
    unfold offs at h2
    split at h2
    · simp only at h2; rw [h1] at h2; cases h2
    · rename_i d e
      obtain ⟨g1, g2⟩ := nxt_some e
      by_cases hcd : c = d
      · subst hcd
        exact ⟨L, fun _ _ h => h, g2, fun x _ hx hx' => by rw [hx] at hx'; cases hx'⟩
      · obtain ⟨L1, q1, q2, q3⟩ := ih (rm L d) (rm_iff.mpr ⟨h1, hcd⟩) h2
        refine ⟨L1, fun j hj h => (rm_iff.mp (q1 j hj h)).1, q2, fun x hx hLx hx1 p hp hb hLp => ?_⟩
        by_cases hpd : p = d
        · subst hpd
          cases e' : L1 p
          · rfl
          · exact absurd rfl (rm_iff.mp (q1 p hp e')).2
        · by_cases hxd : x = d
          · subst hxd
            have := (frA_iff.mp g2).2 p hp hb
            rw [hLp] at this; cases this
          · exact q3 x hx (rm_iff.mpr ⟨hLx, hxd⟩) hx1 p hp hb (rm_iff.mpr ⟨hLp, hpd⟩)
/-- a set with one more -/
def adj (A : Nat → Bool) (c : Nat) : Nat → Bool := fun j => A j || decide (j = c)
theorem until_yes {L : Nat → Bool} {c : Nat} (hc : c < 8) (hL : L c = true) (hB : ∀ o p, p < 8 → B o p = true → L p = true) (h : stk B L 8 c = false) : ahd B c 8 c = false ∧ (offs B 8 (adj (ahd B c 8) c)).1.length = cn (adj (ahd B c 8) c) 8 := by
  have hW := stk8_W (B := B) (L := L)
  have hA : ahd B c 8 c = false := by
    obtain ⟨L1, q1, q2, q3⟩ := offs_fr (B := B) hc 8 L hL (by rw [← stk_offs L c hc]; exact h)
    have hX : clo B (fun j => L j && !L1 j) := by
      intro o ho hx p hp hb
      simp only [Bool.and_eq_true, Bool.not_eq_true'] at hx ⊢
      exact ⟨hB o p hp hb, q3 o ho hx.1 hx.2 p hp hb (hB o p hp hb)⟩
    have h2 : sub8 (B c) (fun j => L j && !L1 j) := by
      intro p hp hb
      simp only [Bool.and_eq_true, Bool.not_eq_true']
      exact ⟨hB c p hp hb, (frA_iff.mp q2).2 p hp hb⟩
    cases e : ahd B c 8 c
    · rfl
    · have := ahd_min hX h2 8 c hc e
      simp only [Bool.and_eq_true, Bool.not_eq_true'] at this
      have h3 := (frA_iff.mp q2).1
      rw [this.2] at h3; cases h3
  refine ⟨hA, ?_⟩
  -- those who are not stuck are closed
  have hN : ∀ o, o < 8 → L o = true → stk B L 8 o = false → ∀ p, p < 8 → B o p = true → stk B L 8 p = false := by
    intro o ho hLo hso p hp hb
    cases e : stk B L 8 p
    · rfl
    · have : sub8 (adj (stk B L 8) o) (stk B L 8) := hW.2.2 _ (fun j hj hh => by
        simp only [adj, Bool.or_eq_true, decide_eq_true_eq] at hh
        rcases hh with hh | rfl
        · exact hW.1 j hj hh
        · exact hLo) (fun j hj => by
        cases e' : frA B (adj (stk B L 8) o) j
        · rfl
        · exfalso
          obtain ⟨z1, z2⟩ := frA_iff.mp e'
          by_cases hjo : j = o
          · subst hjo
            have := z2 p hp hb
            simp [adj, e] at this
          · have hj' : stk B L 8 j = true := by
              simp only [adj, Bool.or_eq_true, decide_eq_true_eq] at z1
              exact z1.resolve_right hjo
            have : frA B (stk B L 8) j = true := fr_sub (fun i hi hh => by simp [adj, hh]) e' hj'
            rw [hW.2.1 j hj] at this; cases this)
      have h1 := this o ho (by simp [adj])
      rw [hso] at h1; cases h1
  have hX : clo B (fun j => L j && !stk B L 8 j) := by
    intro o ho hx p hp hb
    simp only [Bool.and_eq_true, Bool.not_eq_true'] at hx ⊢
    exact ⟨hB o p hp hb, hN o ho hx.1 hx.2 p hp hb⟩
  have hs : sub8 (adj (ahd B c 8) c) (fun j => L j && !stk B L 8 j) := by
    intro j hj hh
    simp only [adj, Bool.or_eq_true, decide_eq_true_eq] at hh
    rcases hh with hh | rfl
    · exact ahd_min hX (fun p hp hb => by
        simp only [Bool.and_eq_true, Bool.not_eq_true']
        exact ⟨hB c p hp hb, hN c hc hL h p hp hb⟩) 8 j hj hh
    · simp [hL, h]
  have hW2 := offs_W (B := B) 8 (adj (ahd B c 8) c) (cn_le _ 8)
  have h0 : cn (offs B 8 (adj (ahd B c 8) c)).2 8 = 0 := by
    rw [cn_ex]
    intro j hj
    cases e : (offs B 8 (adj (ahd B c 8) c)).2 j
    · rfl
    · have h1 := hs j hj (hW2.1 j hj e)
      have h2 := hW.2.2 _ (fun i hi hh => by
        have := hs i hi (hW2.1 i hi hh)
        simp only [Bool.and_eq_true] at this
        exact this.1) hW2.2.1 j hj e
      simp [h2] at h1
  have := offs_len (B := B) 8 (adj (ahd B c 8) c)
  omega
theorem until_no {L : Nat → Bool} {c : Nat} (hc : c < 8) (h : stk B L 8 c = true) : (offs B 8 (adj (ahd B c 8) c)).1.length < cn (adj (ahd B c 8) c) 8 := by
  have hW := stk8_W (B := B) (L := L)
  have hW2 := offs_W (B := B) 8 (adj (ahd B c 8) c) (cn_le _ 8)
  have hcl : ∀ o, o < 8 → adj (ahd B c 8) c o = true → ∀ p, p < 8 → B o p = true → adj (ahd B c 8) c p = true := by
    intro o ho hx p hp hb
    simp only [adj, Bool.or_eq_true, decide_eq_true_eq] at hx ⊢
    rcases hx with hx | rfl
    · exact Or.inl (ahd8_clo o ho hx p hp hb)
    · exact Or.inl (ahd_sup 8 p hp hb)
  have h1 := hW2.2.2 (fun j => stk B L 8 j && adj (ahd B c 8) c j) (fun j hj hh => by
    simp only [Bool.and_eq_true] at hh; exact hh.2) (fun j hj => by
    cases e : frA B (fun j => stk B L 8 j && adj (ahd B c 8) c j) j
    · rfl
    · exfalso
      obtain ⟨z1, z2⟩ := frA_iff.mp e
      simp only [Bool.and_eq_true] at z1
      have : frA B (stk B L 8) j = true := frA_iff.mpr ⟨z1.1, fun o ho hb => by
        have := z2 o ho hb
        have h3 := hcl j hj z1.2 o ho hb
        simp only [h3, Bool.and_true] at this
        exact this⟩
      rw [hW.2.1 j hj] at this; cases this) c hc (by simp [h, adj])
  have h2 : 0 < cn (offs B 8 (adj (ahd B c 8) c)).2 8 := by
    rcases Nat.eq_zero_or_pos (cn (offs B 8 (adj (ahd B c 8) c)).2 8) with h0 | h0
    · have := (cn_ex 8).mp h0 c hc
      rw [h1] at this; cases this
    · exact h0
  have := offs_len (B := B) 8 (adj (ahd B c 8) c)
  omega
theorem cn_adj {A : Nat → Bool} {c : Nat} (hc : c < 8) (h : A c = false) : cn (adj A c) 8 = cn A 8 + 1 := by
  rw [cn_rm (L := adj A c) hc (by simp [adj])]
  congr 1
  apply cn_congr
  intro j hj
  simp only [rm, adj]
  by_cases e : j = c
  · subst e; simp [h]
  · simp [e]
end Off
