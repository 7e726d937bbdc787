/-! PURE: loops, numbers, sets -/
theorem mit_succ (G : mK → mK) (m : Nat) : mit G (m + 1) = G (mit G m) := rfl
theorem mit_forD {G : mK → mK} (st : Nat → List (Option Value)) (me : Nat → mM) {B : Nat} (h : ∀ j, j < B → ∀ r : mK, G r (st j) [] (me j) = r (st (j + 1)) [] (me (j + 1))) : ∀ d m, d ≤ B → mit G (m + d) (st (B - d)) [] (me (B - d)) = mit G m (st B) [] (me B) := by
  intro d
  induction d with
  | zero => intro m _; rfl
  | succ d ih =>
    intro m hd
    rw [show m + (d + 1) = (m + d) + 1 by omega, mit_succ, h (B - (d + 1)) (by omega), show B - (d + 1) + 1 = B - d by omega]
    exact ih m (by omega)
/-- a loop that goes on to its end -/
theorem mit_for {G : mK → mK} (st : Nat → List (Option Value)) (me : Nat → mM) {B : Nat} (h : ∀ j, j < B → ∀ r : mK, G r (st j) [] (me j) = r (st (j + 1)) [] (me (j + 1))) {n : Nat} (hn : B < n) {v : Option mR} (he : ∀ r : mK, G r (st B) [] (me B) = v) : mit G n (st 0) [] (me 0) = v := by
  have h1 := mit_forD st me h B (n - B) (Nat.le_refl _)
  rw [Nat.sub_self, show n - B + B = n by omega] at h1
  rw [h1, show n - B = (n - B - 1) + 1 by omega, mit_succ]
  exact he _
/-- the first j of those from j on, d of them -/
def ffd (P : Nat → Bool) : Nat → Nat → Option Nat
  | _, 0 => none
  | j, d + 1 => if P j = true then some j else ffd P (j + 1) d
theorem mit_findD {G : mK → mK} (st : Nat → List (Option Value)) (me : Nat → mM) {B : Nat} (P : Nat → Bool) (w : Nat → Option mR) (h : ∀ j, j < B → ∀ r : mK, G r (st j) [] (me j) = if P j = true then w j else r (st (j + 1)) [] (me (j + 1))) {v : Option mR} (he : ∀ r : mK, G r (st B) [] (me B) = v) : ∀ d m, d ≤ B → mit G (m + 1 + d) (st (B - d)) [] (me (B - d)) = match ffd P (B - d) d with
    | some j => w j
    | none => v := by
  intro d
  induction d with
  | zero => intro m _; rw [Nat.sub_zero, Nat.add_zero, mit_succ]; exact he _
  | succ d ih =>
    intro m hd
    rw [show m + 1 + (d + 1) = (m + 1 + d) + 1 by omega, mit_succ, h (B - (d + 1)) (by omega), ffd]
    by_cases hP : P (B - (d + 1)) = true
    · rw [if_pos hP, if_pos hP]
    · rw [if_neg hP, if_neg hP, show B - (d + 1) + 1 = B - d by omega]
      exact ih m (by omega)
/-- a loop that ends at the first of a kind -/
theorem mit_find {G : mK → mK} (st : Nat → List (Option Value)) (me : Nat → mM) {B : Nat} (P : Nat → Bool) (w : Nat → Option mR) (h : ∀ j, j < B → ∀ r : mK, G r (st j) [] (me j) = if P j = true then w j else r (st (j + 1)) [] (me (j + 1))) {n : Nat} (hn : B < n) {v : Option mR} (he : ∀ r : mK, G r (st B) [] (me B) = v) : mit G n (st 0) [] (me 0) = match ffd P 0 B with
    | some j => w j
    | none => v := by
  have h1 := mit_findD st me P w h he B (n - B - 1) (Nat.le_refl _)
  rw [Nat.sub_self, show n - B - 1 + 1 + B = n by omega] at h1
  exact h1
/-- any loop: a number that falls -/
theorem mit_ind {G : mK → mK} (Inv : Nat → List (Option Value) → mM → Prop) (Q : Option mR → Prop) (h0 : ∀ L μ, Inv 0 L μ → ∃ v, (∀ r : mK, G r L [] μ = v) ∧ Q v) (hs : ∀ d L μ, Inv (d + 1) L μ → (∃ v, (∀ r : mK, G r L [] μ = v) ∧ Q v) ∨ ∃ L' μ', Inv d L' μ' ∧ ∀ r : mK, G r L [] μ = r L' [] μ') : ∀ (d n : Nat) (L : List (Option Value)) (μ : mM), d < n → Inv d L μ → Q (mit G n L [] μ) := by
  intro d
  induction d with
  | zero =>
    intro n L μ hn hI
    obtain ⟨v, h1, h2⟩ := h0 L μ hI
    rw [show n = (n - 1) + 1 by omega, mit_succ, h1]
    exact h2
  | succ d ih =>
    intro n L μ hn hI
    rw [show n = (n - 1) + 1 by omega, mit_succ]
    rcases hs d L μ hI with ⟨v, h1, h2⟩ | ⟨L', μ', h1, h2⟩
    · rw [h1]; exact h2
    · rw [h2]; exact ih (n - 1) L' μ' (by omega) h1
theorem lit_nle {k j : Nat} {c : Int32} (hc : c = nI k) (hk : k < 2 ^ 31) (h : j < k) : ¬ c ≤ nI j := by
  rw [hc, nI_leI hk (by omega)]; omega
theorem lit_le {k j : Nat} {c : Int32} (hc : c = nI k) (hj : j < 2 ^ 31) (h : k ≤ j) : c ≤ nI j := by
  rw [hc, nI_leI (by omega) hj]; omega
theorem lit_lt {k j : Nat} {c : Int32} (hc : c = nI k) (hk : k < 2 ^ 31) (h : j < k) : nI j < c := by
  rw [hc, nI_ltI (by omega) hk]; omega
theorem lit_nlt {k j : Nat} {c : Int32} (hc : c = nI k) (hj : j < 2 ^ 31) (h : k ≤ j) : ¬ nI j < c := by
  rw [hc, nI_ltI hj (by omega)]; omega
theorem nI_nn {j : Nat} (h : j < 2 ^ 31) : ¬ nI j < 0 := nI_pos h
theorem nI_n1 {j : Nat} (h : j < 2 ^ 31) : ¬ nI j = -1 := by
  intro e
  have := congrArg Int32.toInt e
  rw [nI_toInt h] at this
  have h2 : (-1 : Int32).toInt = -1 := by decide
  omega
/-- a guarded look into a row of N -/
def rd (f : Nat → Int32) (N : Nat) (i : Int32) : Int32 := if 0 ≤ i ∧ i < nI N then f i.toNatClampNeg else 0
theorem rd_nI {f : Nat → Int32} {N j : Nat} (h : j < N) (hN : N < 2 ^ 31) : rd f N (nI j) = f j := by
  unfold rd
  rw [if_pos ⟨nI_pos' (by omega), (nI_ltI (by omega) hN).mpr h⟩, nI_clamp (by omega)]
theorem ix_lt {i : Int32} {N : Nat} (hN : N < 2 ^ 31) (h0 : ¬ i < 0) (h1 : ¬ nI N ≤ i) : i.toNatClampNeg < N ∧ 0 ≤ i := by
  obtain ⟨j, hj, rfl⟩ := nI_of h0
  rw [nI_clamp hj]
  rw [nI_leI hN hj] at h1
  exact ⟨by omega, nI_pos' hj⟩
theorem i_nlt {i j : Int32} : ¬ i < j ↔ j ≤ i := Int32.not_lt
theorem i_nle {i j : Int32} : ¬ i ≤ j ↔ j < i := Int32.not_le
def b2i (p : Prop) [Decidable p] : Int32 := if p then 1 else 0
theorem b2i_pos {p : Prop} [Decidable p] (h : p) : b2i p = 1 := if_pos h
theorem b2i_neg {p : Prop} [Decidable p] (h : ¬ p) : b2i p = 0 := if_neg h
theorem b2i_eq0 {p : Prop} [Decidable p] : b2i p = 0 ↔ ¬ p := by
  unfold b2i; split <;> simp_all
theorem b2i_01 {p : Prop} [Decidable p] : b2i p = 0 ∨ b2i p = 1 := by
  unfold b2i; split <;> simp
theorem b2i_congr {p q : Prop} [Decidable p] [Decidable q] (h : p ↔ q) : b2i p = b2i q := by
  unfold b2i; simp [h]
def bit1 (x : Int32) : Int32 := 1 <<< (x &&& 31)
/-- the set of those below k -/
def bs (P : Nat → Bool) : Nat → Int32
  | 0 => 0
  | k + 1 => if P k = true then bs P k ||| bit1 (nI k) else bs P k
theorem bs_congr {P Q : Nat → Bool} : ∀ k, (∀ j, j < k → P j = Q j) → bs P k = bs Q k := by
  intro k
  induction k with
  | zero => intro _; rfl
  | succ k ih =>
    intro h
    unfold bs
    rw [ih (fun j hj => h j (by omega)), h k (by omega)]
theorem bs_trim {P : Nat → Bool} {k : Nat} : ∀ d, (∀ j, k ≤ j → j < k + d → P j = false) → bs P (k + d) = bs P k := by
  intro d
  induction d with
  | zero => intro _; rfl
  | succ d ih =>
    intro h
    show (if P (k + d) = true then bs P (k + d) ||| bit1 (nI (k + d)) else bs P (k + d)) = bs P k
    rw [h (k + d) (by omega) (by omega), if_neg (by simp)]
    exact ih (fun j h1 h2 => h j h1 (by omega))
/-- the own memory, changed at one place -/
def u2 (I : Nat → Nat → Int32) (a j : Nat) (x : Int32) : Nat → Nat → Int32 := fun b i => if b = a ∧ i = j then x else I b i
theorem uI_mm (I : Nat → Nat → Int32) (J : Nat → Nat → Int64) (f a j : Nat) (x : Int32) : uI (mm I J f) a j x = mm (u2 I a j x) J f := rfl
theorem u2_s {I : Nat → Nat → Int32} {a j : Nat} {x : Int32} : u2 I a j x a j = x := by simp [u2]
theorem u2_a {I : Nat → Nat → Int32} {a j b i : Nat} {x : Int32} (h : b ≠ a) : u2 I a j x b i = I b i := by simp [u2, h]
theorem u2_j {I : Nat → Nat → Int32} {a j b i : Nat} {x : Int32} (h : i ≠ j) : u2 I a j x b i = I b i := by simp [u2, h]
def mu0 : mM := (fun _ _ => 0, fun _ _ => 0, fun _ _ => none, [])
theorem sw_ne {x v : Int32} {k d : mK} {cs : List (Int32 × mK)} {L : List (Option Value)} {S : List Value} {μ : mM} (h : ¬ x = v) : i_sw ((v, k) :: cs) d L (.int x :: S) μ = i_sw cs d L (.int x :: S) μ := by
  show msel x ((v, k) :: cs) d L S μ = msel x cs d L S μ
  rw [msel, if_neg h]
theorem sw_eq {x v : Int32} {k d : mK} {cs : List (Int32 × mK)} {L : List (Option Value)} {S : List Value} {μ : mM} (h : x = v) : i_sw ((v, k) :: cs) d L (.int x :: S) μ = k L S μ := by
  show msel x ((v, k) :: cs) d L S μ = k L S μ
  rw [msel, if_pos h]
theorem sw_no {x : Int32} {d : mK} {L : List (Option Value)} {S : List Value} {μ : mM} : i_sw [] d L (.int x :: S) μ = d L S μ := rfl
