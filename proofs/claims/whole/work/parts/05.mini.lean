/-! THE MINI MACHINE. A state: locals, operand stack, memory. References are places in the own part of the heap (0, 1, ..), a float stands for a reference into the rest. -/
/-- ints, longs, references, shapes: (0, n) int[n], (1, n) byte[n], (2, n) boolean[n], (3, n) long[n], (4, c) an object of class c -/
abbrev mM : Type := (Nat → Nat → Int32) × (Nat → Nat → Int64) × (Nat → Nat → Option Nat) × List (Nat × Nat)
abbrev mR : Type := Option Value × mM
abbrev mK : Type := List (Option Value) → List Value → mM → Option mR
/-- where the own part begins; the other references; the classes; the classes of the arrays -/
abbrev mE : Type := Nat × (UInt32 → Option Nat) × va_G × (Nat → ClassId)
def nfOf (ci : Nat) : Nat := match vwCl[ci]? with
  | some q => q.2.2
  | none => 0
def mz1 (q : Nat × Nat) : Nat := match q.1 with
  | 4 => nfOf q.2
  | _ => q.2
def mn (μ : mM) : Nat := μ.2.2.2.length
def mz (μ : mM) : Nat := (μ.2.2.2.map mz1).sum
def tr (E : mE) (v : Value) : Value := match v with
  | .ref a => .ref (E.1 + a)
  | .float w => va_rf (E.2.1 w)
  | v => v
theorem tr_cat (E : mE) (v : Value) : (tr E v).category = v.category := by
  cases v with
  | float w => show (va_rf (E.2.1 w)).category = 1; cases E.2.1 w <;> rfl
  | _ => rfl
def mrf (E : mE) (r : Option Nat) : Value := match r with
  | none => .null
  | some a => .ref (E.1 + a)
/-- what a field of the type ty holds -/
def mfv (E : mE) (μ : mM) (a j : Nat) (ty : FieldType) : Value := match ty with
  | .long => .long (μ.2.1 a j)
  | .object _ => mrf E (μ.2.2.1 a j)
  | .array _ => mrf E (μ.2.2.1 a j)
  | _ => .int (μ.1 a j)
def mfs (E : mE) (μ : mM) (a ci : Nat) : List Value := (List.range (nfOf ci)).map (fun j => mfv E μ a j (tyOf ci j))
def mcell (E : mE) (μ : mM) (a : Nat) (q : Nat × Nat) : va_E := match q.1 with
  | 4 => .inr (q.2, mfs E μ a q.2)
  | 3 => .inl (E.2.2.2 3, q.2, .inr (.inl (μ.2.1 a)))
  | t => .inl (E.2.2.2 t, q.2, .inl (μ.1 a))
def mws (E : mE) (μ : mM) : va_W := μ.2.2.2.mapIdx (fun a q => (E.1 + a, mcell E μ a q))
theorem mws_get {E : mE} {μ : mM} {a : Nat} {q : Nat × Nat} (h : μ.2.2.2[a]? = some q) : (mws E μ)[a]? = some (E.1 + a, mcell E μ a q) := by
  simp [mws, List.getElem?_mapIdx, h]
theorem mws_at {E : mE} {μ : mM} {a : Nat} {x : Nat × va_E} (h : (mws E μ)[a]? = some x) : ∃ q, μ.2.2.2[a]? = some q ∧ x = (E.1 + a, mcell E μ a q) := by
  simp only [mws, List.getElem?_mapIdx, Option.map_eq_some_iff] at h
  obtain ⟨q, h1, h2⟩ := h
  exact ⟨q, h1, h2.symm⟩
def mA (E : mE) : Nat → Prop := fun q => E.1 ≤ q
theorem mws_D (E : mE) (μ : mM) : va_D (mA E) (mws E μ) := by
  refine ⟨fun i j p q hp hq e => ?_, fun k q h => ?_⟩
  · obtain ⟨x, -, rfl⟩ := mws_at hp
    obtain ⟨y, -, rfl⟩ := mws_at hq
    simp only at e
    omega
  · obtain ⟨x, -, rfl⟩ := mws_at h
    exact Nat.le_add_right _ _
/-- one cell changed -/
theorem mws_set {E : mE} {μ ν : mM} {a : Nat} {q : Nat × Nat} (hq : μ.2.2.2[a]? = some q) (hY : ν.2.2.2 = μ.2.2.2) (h : ∀ b, b ≠ a → ν.1 b = μ.1 b ∧ ν.2.1 b = μ.2.1 b ∧ ν.2.2.1 b = μ.2.2.1 b) : (mws E μ).set a (E.1 + a, mcell E ν a q) = mws E ν := by
  have hl : a < (mws E μ).length := by
    simp only [mws, List.length_mapIdx]
    exact (List.getElem?_eq_some_iff.mp hq).1
  refine List.ext_getElem? fun i => ?_
  by_cases hi : i = a
  · subst hi
    rw [List.getElem?_set_self hl, mws_get (q := q) (by rw [hY]; exact hq)]
  · rw [List.getElem?_set_ne (fun e => hi e.symm)]
    simp only [mws, List.getElem?_mapIdx, hY]
    obtain ⟨h1, h2, h3⟩ := h i hi
    have : ∀ x, mcell E μ i x = mcell E ν i x := by
      intro x
      unfold mcell mfs mfv
      rw [h1, h2, h3]
    simp [this]
def mtys (E : mE) : List (ClassId × FieldType) := [(E.2.2.2 0, .int), (E.2.2.2 1, .byte), (E.2.2.2 2, .boolean), (E.2.2.2 3, .long)]
/-- the heap holds the memory -/
def mOwn (E : mE) (μ : mM) (H : Heap) : Prop := va_P E.2.2.1 vwCl (mws E μ) H ∧ H.size = E.1 + mn μ
def mKn (E : mE) (U : State) : Prop := va_K E.2.2.1 vwCl (mtys E) U
/-- what a method's end says -/
def mQ (E : mE) (X : State → Heap → Prop) (r : mR) : Array Value → State → Outcome → State → Prop := fun _ st oc t => oc = .returned (r.1.map (tr E)) ∧ mOwn E r.2 t.heap ∧ mKn E t ∧ va_F (mA E) st t
/-- the locals -/
def mLR (E : mE) (L : List (Option Value)) (ls : Array Slot) : Prop := ls.size = L.length ∧ lv_wf ls ∧ ∀ (i : Nat) (v : Value), L[i]? = some (some v) → ls[i]? = some (.val (tr E v))
def masc (E : mE) (L : List (Option Value)) : List (Nat × Value) := (List.range L.length).filterMap (fun i => match L[i]? with
  | some (some v) => some (i, tr E v)
  | _ => none)
theorem masc_mem {E : mE} {L : List (Option Value)} {i : Nat} {w : Value} : (i, w) ∈ masc E L ↔ ∃ v, L[i]? = some (some v) ∧ w = tr E v := by
  unfold masc
  rw [List.mem_filterMap]
  constructor
  · rintro ⟨j, hj, h⟩
    split at h
    · rename_i v hv
      simp only [Option.some.injEq, Prod.mk.injEq] at h
      obtain ⟨rfl, rfl⟩ := h
      exact ⟨v, hv, rfl⟩
    · cases h
  · rintro ⟨v, hv, rfl⟩
    refine ⟨i, List.mem_range.mpr (List.getElem?_eq_some_iff.mp hv).1, ?_⟩
    rw [hv]
theorem mLR_has {E : mE} {L : List (Option Value)} {ls : Array Slot} (h : mLR E L ls) : lv_has ls L.length (masc E L) := by
  refine ⟨h.1, h.2.1, fun q hq => ?_⟩
  obtain ⟨i, w⟩ := q
  obtain ⟨v, hv, rfl⟩ := masc_mem.mp hq
  exact h.2.2 i v hv
theorem mLR_of {E : mE} {L : List (Option Value)} {ls : Array Slot} {l : List (Nat × Value)} {n : Nat} (h : lv_has ls n l) (hn : n = L.length) (hm : ∀ i v, L[i]? = some (some v) → (i, tr E v) ∈ l) : mLR E L ls :=
  ⟨hn ▸ h.1, h.2.1, fun i v hv => h.2.2 _ (hm i v hv)⟩
/-- is the local ahead of n a long -/
def mpl (L : List (Option Value)) (n : Nat) : Bool := match n with
  | 0 => false
  | j + 1 => match L[j]? with
    | some (some v) => v.category == 2
    | _ => false
theorem mLR_st1 {E : mE} {L : List (Option Value)} {ls' : Array Slot} {n : Nat} {x : Value} (hn : n < L.length) (hp : mpl L n = false) (h : lv_has ls' L.length ((n, tr E x) :: (masc E L).filter (fun q => !(q.1 == n) && !(q.1 + 1 == n && q.2.category == 2)))) : mLR E (L.set n (some x)) ls' := by
  refine mLR_of h (by simp) fun i v hv => ?_
  by_cases hi : i = n
  · subst hi
    rw [List.getElem?_set_self hn] at hv
    cases hv
    exact List.mem_cons_self
  · rw [List.getElem?_set_ne (fun e => hi e.symm)] at hv
    refine List.mem_cons_of_mem _ (List.mem_filter.mpr ⟨masc_mem.mpr ⟨v, hv, rfl⟩, ?_⟩)
    have h1 : (i == n) = false := by simp [hi]
    have h2 : (i + 1 == n && (tr E v).category == 2) = false := by
      by_cases e : i + 1 = n
      · subst e
        simp only [mpl, hv] at hp
        rw [tr_cat, hp]; simp
      · simp [e]
    simp [h1, h2]
theorem mLR_st2 {E : mE} {L : List (Option Value)} {ls' : Array Slot} {n : Nat} {x : Value} (hn : n + 1 < L.length) (hp : mpl L n = false) (h : lv_has ls' L.length ((n, tr E x) :: (masc E L).filter (fun q => !(q.1 == n) && (!(q.1 == n + 1) && !(q.1 + 1 == n && q.2.category == 2))))) : mLR E ((L.set n (some x)).set (n + 1) none) ls' := by
  refine mLR_of h (by simp) fun i v hv => ?_
  by_cases hi1 : i = n + 1
  · subst hi1
    rw [List.getElem?_set_self (by simpa using hn)] at hv
    cases hv
  rw [List.getElem?_set_ne (fun e => hi1 e.symm)] at hv
  by_cases hi : i = n
  · subst hi
    rw [List.getElem?_set_self (by omega)] at hv
    cases hv
    exact List.mem_cons_self
  · rw [List.getElem?_set_ne (fun e => hi e.symm)] at hv
    refine List.mem_cons_of_mem _ (List.mem_filter.mpr ⟨masc_mem.mpr ⟨v, hv, rfl⟩, ?_⟩)
    have h1 : (i == n) = false := by simp [hi]
    have h3 : (i == n + 1) = false := by simp [hi1]
    have h2 : (i + 1 == n && (tr E v).category == 2) = false := by
      by_cases e : i + 1 = n
      · subst e
        simp only [mpl, hv] at hp
        rw [tr_cat, hp]; simp
      · simp [e]
    simp [h1, h2, h3]
/-- the locals at a method's entry -/
def mLs : List Value → List (Option Value)
  | [] => []
  | v :: vs => if v.category = 2 then some v :: none :: mLs vs else some v :: mLs vs
def mL0 (n : Nat) (vs : List Value) : List (Option Value) := mLs vs ++ List.replicate (n - (mLs vs).length) none
theorem mLs_args (E : mE) : ∀ (vs : List Value) (s i : Nat) (v : Value), (mLs vs)[i]? = some (some v) → (s + i, tr E v) ∈ lv_args s (vs.map (tr E)) := by
  intro vs
  induction vs with
  | nil => intro s i v h; simp [mLs] at h
  | cons w vs ih =>
    intro s i v h
    simp only [List.map_cons, lv_args, tr_cat]
    unfold mLs at h
    by_cases hc : w.category = 2
    · rw [if_pos hc] at h ⊢
      match i, h with
      | 0, h =>
        simp only [List.getElem?_cons_zero, Option.some.injEq] at h
        subst h
        exact List.mem_cons_self
      | 1, h => simp at h
      | i + 2, h =>
        have := ih (s + 2) i v (by simpa using h)
        rw [show s + (i + 2) = s + 2 + i by omega]
        exact List.mem_cons_of_mem _ this
    · rw [if_neg hc] at h ⊢
      match i, h with
      | 0, h =>
        simp only [List.getElem?_cons_zero, Option.some.injEq] at h
        subst h
        exact List.mem_cons_self
      | i + 1, h =>
        have := ih (s + 1) i v (by simpa using h)
        rw [show s + (i + 1) = s + 1 + i by omega]
        exact List.mem_cons_of_mem _ this
theorem mLs_len (E : mE) : ∀ vs : List Value, (lg_sl (vs.map (tr E))).length = (mLs vs).length := by
  intro vs
  induction vs with
  | nil => rfl
  | cons w vs ih =>
    have h1 : (tr E w).category = w.category := tr_cat E w
    simp only [List.map_cons, lg_sl, mLs, List.flatMap_cons, List.length_append] at ih ⊢
    by_cases hc : w.category = 2
    · simp [h1, hc, ih]; omega
    · simp [h1, hc, ih]; omega
