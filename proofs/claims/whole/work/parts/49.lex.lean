/-! PURE: tokens, in numbers -/
/-- while C, at most d times -/
def wh (C : Nat → Bool) : Nat → Nat → Nat
  | q, 0 => q
  | q, d + 1 => if C q = true then wh C (q + 1) d else q
theorem wh_rg (C : Nat → Bool) : ∀ d q, q ≤ wh C q d ∧ wh C q d ≤ q + d ∧ (∀ j, q ≤ j → j < wh C q d → C j = true) ∧ (wh C q d < q + d → C (wh C q d) = false) := by
  intro d
  induction d with
  | zero => intro q; exact ⟨Nat.le_refl _, Nat.le_refl _, fun j h1 h2 => by simp only [wh] at h2; omega, fun h => by simp only [wh] at h; omega⟩
  | succ d ih =>
    intro q
    unfold wh
    by_cases h : C q = true
    · rw [if_pos h]
      obtain ⟨h1, h2, h3, h4⟩ := ih (q + 1)
      refine ⟨by omega, by omega, fun j j1 j2 => ?_, fun hh => h4 (by omega)⟩
      by_cases e : j = q
      · subst e; exact h
      · exact h3 j (by omega) j2
    · rw [if_neg h]
      exact ⟨Nat.le_refl _, by omega, fun j h1 h2 => by omega, fun _ => by simpa using h⟩
theorem wh_eq {C : Nat → Bool} {q r : Nat} : ∀ d, q ≤ r → r ≤ q + d → (∀ j, q ≤ j → j < r → C j = true) → C r = false → wh C q d = r := by
  intro d h1 h2 h3 h4
  obtain ⟨a1, a2, a3, a4⟩ := wh_rg C d q
  rcases Nat.lt_trichotomy (wh C q d) r with h | h | h
  · have := h3 _ a1 h
    rw [a4 (by omega)] at this; cases this
  · exact h
  · have := a3 r h1 h
    rw [h4] at this; cases this
/-- a loop that goes on while C -/
theorem mit_while {G : mK → mK} (st : Nat → List (Option Value)) (me : Nat → mM) (C : Nat → Bool) (v : Nat → Option mR) {B : Nat} (h1 : ∀ q, q ≤ B → C q = true → ∀ r : mK, G r (st q) [] (me q) = r (st (q + 1)) [] (me (q + 1))) (h2 : ∀ q, q ≤ B → C q = false → ∀ r : mK, G r (st q) [] (me q) = v q) (hB : C B = false) : ∀ d q m, q + d = B → mit G (m + d + 1) (st q) [] (me q) = v (wh C q d) := by
  intro d
  induction d with
  | zero =>
    intro q m hq
    rw [mit_succ]
    exact h2 q (by omega) (by rw [show q = B by omega]; exact hB) _
  | succ d ih =>
    intro q m hq
    unfold wh
    rw [show m + (d + 1) + 1 = (m + d + 1) + 1 by omega, mit_succ]
    by_cases h : C q = true
    · rw [if_pos h, h1 q (by omega) h]
      exact ih (q + 1) m (by omega)
    · rw [if_neg h]
      exact h2 q (by omega) (by simpa using h) _
def bt (tp : List Nat) (k : Nat) : Nat := tp.getD k 0
def isLt (b : Nat) : Bool := decide (97 ≤ b) && decide (b ≤ 122)
def isDg (b : Nat) : Bool := decide (48 ≤ b) && decide (b ≤ 57)
def isBk (b : Nat) : Bool := decide (b = 32) || decide (b = 10)
theorem bt_ge {tp : List Nat} {k : Nat} (h : tp.length ≤ k) : bt tp k = 0 := by
  unfold bt
  rw [List.getD_eq_getElem?_getD, List.getElem?_eq_none h]
  rfl
/-- behind blanks -/
def sk (tp : List Nat) (p : Nat) : Nat := wh (fun q => decide (q < tp.length) && isBk (bt tp q)) p (tp.length - p)
def teL (tp : List Nat) (p : Nat) : Nat := wh (fun q => isLt (bt tp q)) p (tp.length - p)
def teD (tp : List Nat) (p : Nat) : Nat := wh (fun q => isDg (bt tp q)) p (tp.length - p)
/-- behind a token -/
def te (tp : List Nat) (p : Nat) : Nat := if isLt (bt tp p) = true then teL tp p else if isDg (bt tp p) = true then teD tp p else p + 1
/-- a word's letters, blanks behind -/
def pw (tp : List Nat) (p e i : Nat) : Nat := if p + i < e then bt tp (p + i) else 32
def WTl : List Nat := [115, 116, 114, 101, 101, 116, 32, 32, 98, 121, 32, 32, 32, 32, 32, 32, 99, 97, 114, 32, 32, 32, 32, 32, 97, 116, 32, 32, 32, 32, 32, 32, 104, 101, 97, 100, 115, 32, 32, 32, 104, 111, 111, 116, 115, 32, 32, 32, 98, 111, 100, 121, 32, 32, 32, 32, 115, 111, 102, 116, 101, 110, 115, 32, 119, 111, 114, 116, 104, 32, 32, 32, 98, 114, 101, 97, 107, 115, 32, 32, 100, 114, 97, 119, 32, 32, 32, 32, 111, 114, 32, 32, 32, 32, 32, 32, 97, 110, 100, 32, 32, 32, 32, 32, 110, 111, 116, 32, 32, 32, 32, 32, 104, 111, 111, 116, 32, 32, 32, 32, 98, 111, 100, 105, 101, 100, 32, 32, 109, 97, 110, 121, 32, 32, 32, 32, 108, 97, 110, 101, 32, 32, 32, 32, 121, 101, 97, 114, 32, 32, 32, 32]
def WT (w i : Nat) : Nat := WTl.getD (8 * w + i) 0
def isW8 (tp : List Nat) (p e w : Nat) : Bool := (ffd (fun i => !decide (pw tp p e i = WT w i)) 0 8).isNone
def kw (tp : List Nat) (p e : Nat) : Nat := match ffd (isW8 tp p e) 0 19 with
  | some w => 15 + w
  | none => 3
def SGl : List Nat := [59, 40, 41, 60, 62, 61, 43, 45, 42, 47, 37]
def sgk (b : Nat) : Nat := match ffd (fun i => decide (SGl.getD i 0 = b)) 0 11 with
  | some i => 4 + i
  | none => 1
def kd (tp : List Nat) (p e : Nat) : Nat := if tp.length ≤ p then 0
  else if isLt (bt tp p) = true then (if 8 < e - p then 1 else kw tp p e)
  else if isDg (bt tp p) = true then (if 4 < e - p ∨ isLt (bt tp e) = true then 1 else 2)
  else sgk (bt tp p)
/-- where the i-th token is looked for -/
def ps (tp : List Nat) : Nat → Nat
  | 0 => 0
  | i + 1 => te tp (sk tp (ps tp i))
def pl (tp : List Nat) (i : Nat) : Nat := sk tp (ps tp i)
def en (tp : List Nat) (i : Nat) : Nat := te tp (pl tp i)
def kn (tp : List Nat) (i : Nat) : Nat := kd tp (pl tp i) (en tp i)
theorem ps_succ (tp : List Nat) (i : Nat) : ps tp (i + 1) = en tp i := rfl
theorem sk_rg (tp : List Nat) {p : Nat} (h : p ≤ tp.length) : p ≤ sk tp p ∧ sk tp p ≤ tp.length := by
  obtain ⟨h1, h2, _⟩ := wh_rg (fun q => decide (q < tp.length) && isBk (bt tp q)) (tp.length - p) p
  unfold sk
  omega
theorem te_rg (tp : List Nat) {p : Nat} (h : p < tp.length) : p < te tp p ∧ te tp p ≤ tp.length := by
  unfold te
  split
  · rename_i hl
    obtain ⟨h1, h2, h3, h4⟩ := wh_rg (fun q => isLt (bt tp q)) (tp.length - p) p
    refine ⟨?_, by unfold teL; omega⟩
    unfold teL
    rcases Nat.lt_or_ge p (wh (fun q => isLt (bt tp q)) p (tp.length - p)) with h5 | h5
    · exact h5
    · have h6 : wh (fun q => isLt (bt tp q)) p (tp.length - p) = p := by omega
      have h7 := h4 (by omega)
      rw [h6] at h7
      rw [hl] at h7; cases h7
  · split
    · rename_i hl
      obtain ⟨h1, h2, h3, h4⟩ := wh_rg (fun q => isDg (bt tp q)) (tp.length - p) p
      refine ⟨?_, by unfold teD; omega⟩
      unfold teD
      rcases Nat.lt_or_ge p (wh (fun q => isDg (bt tp q)) p (tp.length - p)) with h5 | h5
      · exact h5
      · have h6 : wh (fun q => isDg (bt tp q)) p (tp.length - p) = p := by omega
        have h7 := h4 (by omega)
        rw [h6] at h7
        rw [hl] at h7; cases h7
    · omega
theorem kw_rg (tp : List Nat) (p e : Nat) : 3 ≤ kw tp p e ∧ kw tp p e ≤ 33 := by
  unfold kw
  cases h : ffd (isW8 tp p e) 0 19 with
  | none => simp
  | some w =>
    obtain ⟨_, h2, _⟩ := ffd_some _ 0 w h
    simp only; omega
theorem sgk_rg (b : Nat) : sgk b = 1 ∨ (4 ≤ sgk b ∧ sgk b ≤ 14) := by
  unfold sgk
  cases h : ffd (fun i => decide (SGl.getD i 0 = b)) 0 11 with
  | none => exact Or.inl rfl
  | some w =>
    obtain ⟨_, h2, _⟩ := ffd_some _ 0 w h
    refine Or.inr ?_
    simp only; omega
theorem kn_rg (tp : List Nat) (i : Nat) : kn tp i ≤ 33 := by
  unfold kn kd
  have h1 := kw_rg tp (pl tp i) (en tp i)
  have h2 := sgk_rg (bt tp (pl tp i))
  split
  · omega
  · split
    · split <;> omega
    · split
      · split <;> omega
      · omega
theorem kn_0 {tp : List Nat} {i : Nat} : kn tp i = 0 ↔ tp.length ≤ pl tp i := by
  unfold kn kd
  have h1 := kw_rg tp (pl tp i) (en tp i)
  have h2 := sgk_rg (bt tp (pl tp i))
  constructor
  · intro h
    split at h
    · assumption
    · split at h
      · split at h <;> omega
      · split at h
        · split at h <;> omega
        · omega
  · intro h
    rw [if_pos h]
/-- as long as no end has come, each token stands further on -/
theorem ps_rg (tp : List Nat) : ∀ i, (∀ j, j < i → ¬ kn tp j = 0) → i ≤ ps tp i ∧ ps tp i ≤ tp.length := by
  intro i
  induction i with
  | zero => intro _; exact ⟨Nat.le_refl _, Nat.zero_le _⟩
  | succ i ih =>
    intro h
    obtain ⟨h1, h2⟩ := ih (fun j hj => h j (by omega))
    have h3 := sk_rg tp h2
    have h4 : pl tp i < tp.length := by
      have := h i (by omega)
      rw [kn_0] at this; omega
    have h5 := te_rg tp h4
    have h6 : sk tp (ps tp i) = pl tp i := rfl
    rw [ps_succ]
    unfold en
    omega
/-- the last token: an end, or none -/
def zl (tp : List Nat) : Nat := (ffd (fun i => decide (kn tp i ≤ 1)) 0 (tp.length + 1)).getD 0
theorem zl_ok (tp : List Nat) : zl tp ≤ tp.length ∧ kn tp (zl tp) ≤ 1 ∧ ∀ j, j < zl tp → 2 ≤ kn tp j := by
  unfold zl
  cases h : ffd (fun i => decide (kn tp i ≤ 1)) 0 (tp.length + 1) with
  | none =>
    have hno := ffd_none _ 0 h
    have h1 := ps_rg tp (tp.length + 1) (fun j hj hk => by
      have := hno j (by omega) (by omega)
      simp [hk] at this)
    omega
  | some v =>
    obtain ⟨_, h2, h3, h4⟩ := ffd_some _ 0 v h
    refine ⟨by simp only [Option.getD_some]; omega, by simpa using h3, fun j hj => ?_⟩
    have := h4 j (by omega) hj
    simp only [decide_eq_false_iff_not] at this
    omega
theorem pl_rg (tp : List Nat) {i : Nat} (h : i ≤ zl tp) : ps tp i ≤ pl tp i ∧ pl tp i ≤ tp.length ∧ ps tp i ≤ tp.length := by
  obtain ⟨z1, z2, z3⟩ := zl_ok tp
  have h1 := ps_rg tp i (fun j hj hk => by have := z3 j (by omega); omega)
  have h2 := sk_rg tp h1.2
  exact ⟨h2.1, h2.2, h1.2⟩
theorem pl_lt (tp : List Nat) {i : Nat} (h : i ≤ zl tp) (hk : ¬ kn tp i = 0) : pl tp i < tp.length ∧ pl tp i < en tp i ∧ en tp i ≤ tp.length := by
  have h1 : pl tp i < tp.length := by rw [kn_0] at hk; omega
  have h2 := te_rg tp h1
  exact ⟨h1, h2.1, h2.2⟩
/-- a number's value -/
def nvl (tp : List Nat) (p : Nat) : Nat → Nat
  | 0 => 0
  | d + 1 => nvl tp p d * 10 + (bt tp (p + d) - 48)
def nvt (tp : List Nat) (i : Nat) : Nat := nvl tp (pl tp i) (en tp i - pl tp i)
/-- a word's value, by some base -/
def wvl (base off : Nat) (tp : List Nat) (p : Nat) : Nat → Nat
  | 0 => 0
  | d + 1 => wvl base off tp p d * base + (bt tp (p + d) - off)
def wvt (tp : List Nat) (i : Nat) : Nat := wvl 256 0 tp (pl tp i) (en tp i - pl tp i)
