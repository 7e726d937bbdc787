/-! PURE: sets of cars, in bits -/
def gb (x : Int32) (i : Nat) : Bool := x.toBitVec.getLsbD i
theorem gb_ext {x y : Int32} (h : ∀ i, i < 32 → gb x i = gb y i) : x = y := by
  apply Int32.toBitVec_inj.mp
  apply BitVec.eq_of_getLsbD_eq
  intro i hi
  exact h i hi
theorem gb_and (x y : Int32) (i : Nat) : gb (x &&& y) i = (gb x i && gb y i) := by simp [gb]
theorem gb_or (x y : Int32) (i : Nat) : gb (x ||| y) i = (gb x i || gb y i) := by simp [gb]
theorem gb_xor (x y : Int32) (i : Nat) : gb (x ^^^ y) i = (gb x i ^^ gb y i) := by simp [gb]
theorem gb_0 (i : Nat) : gb 0 i = false := by simp [gb]
theorem gb_m1 : ∀ i, i < 32 → gb (-1) i = true := by decide
theorem gb_bit1 : ∀ j, j < 32 → ∀ i, i < 32 → gb (bit1 (nI j)) i = decide (i = j) := by decide
theorem gb_bs (P : Nat → Bool) : ∀ k, k ≤ 32 → ∀ i, i < 32 → gb (bs P k) i = (decide (i < k) && P i) := by
  intro k
  induction k with
  | zero => intro _ i _; simp [bs, gb_0]
  | succ k ih =>
    intro hk i hi
    unfold bs
    by_cases hP : P k = true
    · rw [if_pos hP, gb_or, ih (by omega) i hi, gb_bit1 k (by omega) i hi]
      by_cases h : i = k
      · subst h; simp [hP]
      · have : (i < k + 1) = (i < k) := by apply propext; omega
        simp [h, this]
    · rw [if_neg hP, ih (by omega) i hi]
      by_cases h : i = k
      · subst h; simp [hP]
      · have : (i < k + 1) = (i < k) := by apply propext; omega
        simp [this]
theorem bs_and (P Q : Nat → Bool) : bs P 8 &&& bs Q 8 = bs (fun j => P j && Q j) 8 := by
  apply gb_ext
  intro i hi
  rw [gb_and, gb_bs _ 8 (by decide) i hi, gb_bs _ 8 (by decide) i hi, gb_bs _ 8 (by decide) i hi]
  cases decide (i < 8) <;> simp
theorem bs_or (P Q : Nat → Bool) : bs P 8 ||| bs Q 8 = bs (fun j => P j || Q j) 8 := by
  apply gb_ext
  intro i hi
  rw [gb_or, gb_bs _ 8 (by decide) i hi, gb_bs _ 8 (by decide) i hi, gb_bs _ 8 (by decide) i hi]
  cases decide (i < 8) <;> simp
theorem bs_orbit (P : Nat → Bool) {c : Nat} (hc : c < 8) : bs P 8 ||| bit1 (nI c) = bs (fun j => P j || decide (j = c)) 8 := by
  apply gb_ext
  intro i hi
  rw [gb_or, gb_bs _ 8 (by decide) i hi, gb_bs _ 8 (by decide) i hi, gb_bit1 c (by omega) i hi]
  by_cases h : i = c
  · subst h; simp [hc]
  · simp [h]
theorem bs_clr (P : Nat → Bool) {c : Nat} (hc : c < 8) : bs P 8 &&& (bit1 (nI c) ^^^ -1) = bs (fun j => P j && !decide (j = c)) 8 := by
  apply gb_ext
  intro i hi
  rw [gb_and, gb_xor, gb_bs _ 8 (by decide) i hi, gb_bs _ 8 (by decide) i hi, gb_bit1 c (by omega) i hi, gb_m1 i hi]
  cases decide (i < 8) <;> simp
theorem bs_dif (P Q : Nat → Bool) : bs P 8 &&& (bs Q 8 ^^^ -1) = bs (fun j => P j && !Q j) 8 := by
  apply gb_ext
  intro i hi
  rw [gb_and, gb_xor, gb_bs _ 8 (by decide) i hi, gb_bs _ 8 (by decide) i hi, gb_bs _ 8 (by decide) i hi, gb_m1 i hi]
  cases decide (i < 8) <;> simp
theorem bs_inj {P Q : Nat → Bool} : bs P 8 = bs Q 8 ↔ ∀ j, j < 8 → P j = Q j := by
  constructor
  · intro h j hj
    have := congrArg (fun x => gb x j) h
    simp only [gb_bs _ 8 (by decide) j (by omega), hj, decide_true, Bool.true_and] at this
    exact this
  · intro h; exact bs_congr 8 h
theorem bs_0 : bs (fun _ => false) 8 = 0 := by decide
theorem bs_eq0 {P : Nat → Bool} : bs P 8 = 0 ↔ ∀ j, j < 8 → P j = false := by
  rw [← bs_0, bs_inj]
theorem bs_tst (P : Nat → Bool) {c : Nat} (hc : c < 8) : bs P 8 &&& bit1 (nI c) = 0 ↔ P c = false := by
  have h : bs P 8 &&& bit1 (nI c) = bs (fun j => P j && decide (j = c)) 8 := by
    apply gb_ext
    intro i hi
    rw [gb_and, gb_bs _ 8 (by decide) i hi, gb_bs _ 8 (by decide) i hi, gb_bit1 c (by omega) i hi]
    cases decide (i < 8) <;> simp
  rw [h, bs_eq0]
  constructor
  · intro h1
    have := h1 c hc
    simpa using this
  · intro h1 j _
    by_cases hj : j = c
    · subst hj; simp [h1]
    · simp [hj]
theorem gb_nI {s : Nat} (hs : s < 2 ^ 32) {i : Nat} (hi : i < 32) : gb (nI s) i = s.testBit i := by
  show (BitVec.ofNat 32 s).getLsbD i = _
  rw [BitVec.getLsbD_ofNat]
  simp [hi]
theorem nI_bs {s : Nat} (hs : s < 256) : nI s = bs (fun j => s.testBit j) 8 := by
  apply gb_ext
  intro i hi
  rw [gb_nI (by omega) hi, gb_bs _ 8 (by decide) i hi]
  by_cases h : i < 8
  · simp [h]
  · simp only [h, decide_false, Bool.false_and]
    apply Nat.testBit_lt_two_pow
    calc s < 2 ^ 8 := hs
      _ ≤ 2 ^ i := Nat.pow_le_pow_right (by decide) (by omega)
/-- the model's look at a bit -/
theorem sh_bit (x : Int32) : ∀ c, c < 32 → ((x >>> (nI c &&& 31)) &&& 1 = 1 ↔ gb x c = true) := by
  intro c hc
  have e : ∀ c, c < 32 → ((nI c &&& 31).toBitVec.smod 32).toNat = c := by decide
  have h1 : ∀ i, i < 32 → gb ((x >>> (nI c &&& 31)) &&& 1) i = (decide (i = 0) && gb x c) := by
    intro i hi
    rw [gb_and]
    have g1 : ∀ i, i < 32 → gb 1 i = decide (i = 0) := by decide
    rw [g1 i hi]
    by_cases h0 : i = 0
    · subst h0
      simp only [decide_true, Bool.and_true, Bool.true_and]
      show (BitVec.sshiftRight' x.toBitVec ((nI c &&& 31).toBitVec.smod 32)).getLsbD 0 = _
      rw [BitVec.sshiftRight', e c hc, BitVec.getLsbD_sshiftRight]
      simp [gb, hc]
    · simp [h0]
  constructor
  · intro h
    have := h1 0 (by decide)
    rw [h] at this
    simpa [gb] using this.symm
  · intro h
    apply gb_ext
    intro i hi
    rw [h1 i hi, h]
    have g1 : ∀ i, i < 32 → gb 1 i = decide (i = 0) := by decide
    rw [g1 i hi]; simp
theorem bs_sh (P : Nat → Bool) {c : Nat} (hc : c < 8) : ((bs P 8 >>> (nI c &&& 31)) &&& 1 = 1 ↔ P c = true) := by
  rw [sh_bit _ c (by omega), gb_bs _ 8 (by decide) c (by omega)]
  simp [hc]
theorem cn_ex {P : Nat → Bool} : ∀ k, cn P k = 0 ↔ ∀ j, j < k → P j = false := by
  intro k
  induction k with
  | zero => simp [cn]
  | succ k ih =>
    unfold cn
    by_cases h : P k = true
    · rw [if_pos h]
      constructor
      · intro q; omega
      · intro q
        have := q k (by omega)
        rw [h] at this; cases this
    · rw [if_neg h, ih]
      constructor
      · intro q j hj
        by_cases e : j = k
        · subst e; simpa using h
        · exact q j (by omega)
      · intro q j hj; exact q j (by omega)
theorem cn_le_of {P Q : Nat → Bool} : ∀ k, (∀ j, j < k → P j = true → Q j = true) → cn P k ≤ cn Q k := by
  intro k
  induction k with
  | zero => intro _; exact Nat.le_refl _
  | succ k ih =>
    intro h
    have := ih (fun j hj => h j (by omega))
    unfold cn
    by_cases hp : P k = true
    · rw [if_pos hp, if_pos (h k (by omega) hp)]; omega
    · rw [if_neg hp]; split <;> omega
theorem cn_clr {P : Nat → Bool} {c : Nat} : ∀ k, c < k → P c = true → cn P k = cn (fun j => P j && !decide (j = c)) k + 1 := by
  intro k
  induction k with
  | zero => intro h; omega
  | succ k ih =>
    intro hc hP
    by_cases e : c = k
    · subst e
      have h1 : cn (fun j => P j && !decide (j = c)) c = cn P c := cn_congr c (fun j hj => by simp [show ¬ j = c by omega])
      unfold cn
      rw [if_pos hP, if_neg (by simp), h1]
    · have := ih (by omega) hP
      have h2 : (P k && !decide (k = c)) = P k := by simp [show ¬ k = c by omega]
      unfold cn
      rw [h2]
      by_cases hk : P k = true
      · rw [if_pos hk, if_pos hk, this]
      · rw [if_neg hk, if_neg hk, this]
