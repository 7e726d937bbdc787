/-! PURE: words by their values -/
def WVl : List Nat := [126943972648308, 25209, 6513010, 24948, 448377480307, 448546174067, 1651467385, 32492108151877235, 512970880104, 108243466677107, 1685217655, 28530, 6385252, 7237492, 1752133492, 108230565520740, 1835101817, 1818324581, 2036687218]
def WV (w : Nat) : Nat := WVl.getD w 0
def wln (w : Nat) : Nat := [6, 2, 3, 2, 5, 5, 4, 7, 5, 6, 4, 2, 3, 3, 4, 6, 4, 4, 4].getD w 0
theorem WT_all : ∀ w, w < 19 → wln w ≤ 8 ∧ val 256 (WT w) (wln w) = WV w ∧ ∀ i, i < 8 → (i < wln w → 97 ≤ WT w i ∧ WT w i ≤ 122) ∧ (¬ i < wln w → WT w i = 32) := by decide +kernel
theorem WV_inj : ∀ w, w < 19 → ∀ v, v < 19 → WV w = WV v → w = v := by decide +kernel
theorem KV_WV : ∀ v ∈ KV, ∃ w, w < 19 ∧ v = WV w := by
  intro v hv
  simp only [KV, List.mem_cons, List.not_mem_nil, or_false] at hv
  rcases hv with rfl | rfl | rfl | rfl | rfl | rfl | rfl | rfl | rfl | rfl | rfl | rfl | rfl | rfl | rfl | rfl | rfl | rfl | rfl
  · exact ⟨0, by decide, rfl⟩
  · exact ⟨1, by decide, rfl⟩
  · exact ⟨2, by decide, rfl⟩
  · exact ⟨3, by decide, rfl⟩
  · exact ⟨4, by decide, rfl⟩
  · exact ⟨5, by decide, rfl⟩
  · exact ⟨6, by decide, rfl⟩
  · exact ⟨7, by decide, rfl⟩
  · exact ⟨8, by decide, rfl⟩
  · exact ⟨9, by decide, rfl⟩
  · exact ⟨10, by decide, rfl⟩
  · exact ⟨14, by decide, rfl⟩
  · exact ⟨15, by decide, rfl⟩
  · exact ⟨16, by decide, rfl⟩
  · exact ⟨17, by decide, rfl⟩
  · exact ⟨18, by decide, rfl⟩
  · exact ⟨11, by decide, rfl⟩
  · exact ⟨12, by decide, rfl⟩
  · exact ⟨13, by decide, rfl⟩
theorem WV_KV : ∀ w, w < 19 → keptB (WV w) = true := by decide +kernel
theorem kept_iff (x : Nat) : keptB x = true ↔ ∃ w, w < 19 ∧ x = WV w := by
  constructor
  · intro h
    obtain ⟨v, hv, e⟩ := List.any_eq_true.mp h
    simp only [decide_eq_true_eq] at e
    subst e
    exact KV_WV _ hv
  · rintro ⟨w, hw, rfl⟩
    exact WV_KV w hw
theorem val_ext {B : Nat} {g h : Nat → Nat} : ∀ l, (∀ i, i < l → g i = h i) → val B g l = val B h l := by
  intro l
  induction l with
  | zero => intro _; rfl
  | succ l ih =>
    intro hh
    simp only [val]
    rw [ih (fun j hj => hh j (by omega)), hh l (by omega)]
theorem w8_iff {tp : List Nat} {p e w : Nat} (hw : w < 19) (hl : e - p ≤ 8) (ha : ∀ j, j < e - p → 97 ≤ bt tp (p + j) ∧ bt tp (p + j) ≤ 122) : isW8 tp p e w = true ↔ wvl 256 0 tp p (e - p) = WV w := by
  obtain ⟨w1, w2, w3⟩ := WT_all w hw
  have e1 : isW8 tp p e w = true ↔ ∀ i, i < 8 → pw tp p e i = WT w i := by
    unfold isW8
    cases h : ffd (fun i => !decide (pw tp p e i = WT w i)) 0 8 with
    | none =>
      have := ffd_none _ 0 h
      refine ⟨fun _ i hi => ?_, fun _ => rfl⟩
      have := this i (by omega) (by omega)
      simpa using this
    | some v =>
      obtain ⟨_, h2, h3, _⟩ := ffd_some _ 0 v h
      refine ⟨fun q => (by cases q), fun q => ?_⟩
      have := q v (by omega)
      simp [this] at h3
  rw [e1, wvl_val, ← w2]
  constructor
  · intro h
    have hlen : e - p = wln w := by
      rcases Nat.lt_trichotomy (e - p) (wln w) with q | q | q
      · have h1 := h (e - p) (by omega)
        have h2 := (w3 (e - p) (by omega)).1 q
        unfold pw at h1
        rw [if_neg (by omega)] at h1
        omega
      · exact q
      · have h1 := h (wln w) (by omega)
        have h2 := (w3 (wln w) (by omega)).2 (by omega)
        unfold pw at h1
        rw [if_pos (by omega)] at h1
        have := ha (wln w) q
        omega
    rw [hlen]
    refine val_ext _ (fun i hi => ?_)
    have h1 := h i (by omega)
    unfold pw at h1
    rw [if_pos (by omega)] at h1
    simpa using h1
  · intro h
    obtain ⟨h1, h2⟩ := val_inj _ _ (fun i hi => by have := ha i hi; simp only [Nat.sub_zero]; omega) (fun i hi => by have := (w3 i (by omega)).1 hi; omega) h
    intro i hi
    unfold pw
    by_cases q : i < e - p
    · rw [if_pos (by omega)]
      have := h2 i q
      simpa using this
    · rw [if_neg (by omega)]
      exact ((w3 i hi).2 (by omega)).symm
theorem kw_iff {tp : List Nat} {p e w : Nat} (hw : w < 19) (hl : e - p ≤ 8) (ha : ∀ j, j < e - p → 97 ≤ bt tp (p + j) ∧ bt tp (p + j) ≤ 122) : kw tp p e = 15 + w ↔ wvl 256 0 tp p (e - p) = WV w := by
  unfold kw
  cases h : ffd (isW8 tp p e) 0 19 with
  | none =>
    have := ffd_none _ 0 h
    refine ⟨fun q => by simp only at q; omega, fun q => ?_⟩
    have h1 := this w (by omega) (by omega)
    rw [(w8_iff hw hl ha).mpr q] at h1
    cases h1
  | some v =>
    obtain ⟨_, h2, h3, _⟩ := ffd_some _ 0 v h
    have h4 := (w8_iff (show v < 19 by omega) hl ha).mp h3
    simp only
    constructor
    · intro q
      have : v = w := by omega
      rw [← this]; exact h4
    · intro q
      rw [WV_inj v (by omega) w hw (h4.symm.trans q)]
theorem kept_kw {tp : List Nat} {p e : Nat} (hl : e - p ≤ 8) (ha : ∀ j, j < e - p → 97 ≤ bt tp (p + j) ∧ bt tp (p + j) ≤ 122) : keptB (wvl 256 0 tp p (e - p)) = true ↔ ¬ kw tp p e = 3 := by
  rw [kept_iff]
  constructor
  · rintro ⟨w, hw, e1⟩
    have := (kw_iff hw hl ha).mpr e1
    omega
  · intro h
    have h1 : ∃ w, w < 19 ∧ kw tp p e = 15 + w := by
      unfold kw at h ⊢
      cases h2 : ffd (isW8 tp p e) 0 19 with
      | none => rw [h2] at h; exact absurd rfl h
      | some v =>
        obtain ⟨_, h3, _, _⟩ := ffd_some _ 0 v h2
        exact ⟨v, by omega, rfl⟩
    obtain ⟨w, hw, e1⟩ := h1
    exact ⟨w, hw, (kw_iff hw hl ha).mp e1⟩
theorem wvl_lt2 (tp : List Nat) (p : Nat) : ∀ d, (∀ j, j < d + 1 → bt tp (p + j) ≤ 122) → wvl 256 0 tp p (d + 1) < 123 * 256 ^ d := by
  intro d
  induction d with
  | zero =>
    intro h
    have h3 := h 0 (by omega)
    show 0 * 256 + (bt tp (p + 0) - 0) < 123 * 1
    omega
  | succ d ih =>
    intro h
    have h1 := ih (fun j hj => h j (by omega))
    have h3 := h (d + 1) (by omega)
    have h4 : wvl 256 0 tp p (d + 1 + 1) = wvl 256 0 tp p (d + 1) * 256 + (bt tp (p + (d + 1)) - 0) := rfl
    rw [h4, Nat.pow_succ]
    omega
theorem wvl_63 (tp : List Nat) (p : Nat) {d : Nat} (hd : d ≤ 8) (h : ∀ j, j < d → bt tp (p + j) ≤ 122) : wvl 256 0 tp p d < 2 ^ 63 := by
  cases d with
  | zero => show 0 < 2 ^ 63; decide
  | succ d =>
    have h1 := wvl_lt2 tp p d h
    have h2 : 256 ^ d ≤ 256 ^ 7 := Nat.pow_le_pow_right (by decide) (by omega)
    have h3 : 123 * 256 ^ 7 < 2 ^ 63 := by decide
    omega
/-- the model's sorts of tokens -/
def mkk (k : Nat) : Nat := if k = 0 then 0 else if k = 1 then 1 else if k = 2 then 4 else if k = 3 then 2 else if k ≤ 14 then 5 else 3
/-- a letter is put behind a name -/
theorem jN_s {v b : Nat} (hv : v < 2 ^ 55) (hb : b < 256) : jN v <<< ((8 : Int32).toInt64 &&& 63) ||| jN b = jN (v * 256 + b) := by
  rw [show ((8 : Int32).toInt64 &&& 63) = (8 : Int64) from rfl]
  apply Int64.toBitVec_inj.mp
  rw [Int64.toBitVec_or, Int64.toBitVec_shiftLeft]
  have e : ∀ x, (jN x).toBitVec = BitVec.ofNat 64 x := fun x => rfl
  have e8 : (8 : Int64).toBitVec.smod 64 = 8#64 := by decide
  rw [e, e, e, e8]
  apply BitVec.eq_of_toNat_eq
  rw [BitVec.toNat_or]
  have e1 : (BitVec.ofNat 64 v <<< 8#64).toNat = v <<< 8 := by
    show (BitVec.ofNat 64 v <<< (8#64).toNat).toNat = v <<< 8
    rw [BitVec.toNat_shiftLeft, BitVec.toNat_ofNat, Nat.mod_eq_of_lt (show v < 2 ^ 64 by omega)]
    apply Nat.mod_eq_of_lt
    show v <<< 8 < 2 ^ 64
    rw [Nat.shiftLeft_eq]; omega
  rw [e1, BitVec.toNat_ofNat, BitVec.toNat_ofNat, Nat.mod_eq_of_lt (show b < 2 ^ 64 by omega), Nat.mod_eq_of_lt (show v * 256 + b < 2 ^ 64 by omega), ← Nat.shiftLeft_add_eq_or_of_lt (show b < 2 ^ 8 by omega), Nat.shiftLeft_eq]
