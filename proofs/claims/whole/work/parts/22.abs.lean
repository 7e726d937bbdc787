/-! PURE: what is told, what the street is, in numbers -/
/-- where each is, heads, hoots, bodies, the year, the draw's seed -/
abbrev SA : Type := (Nat → Option Nat) × (Nat → Nat) × (Nat → Nat) × (Nat → Nat) × Nat × Nat
/-- cars, columns, rows, breaks, units, softens, worth, the street as told -/
abbrev TA : Type := Nat × Nat × Nat × Nat × Nat × List (Nat × Nat) × List (Nat × Nat) × SA
abbrev tk (T : TA) : Nat := T.1
abbrev tC (T : TA) : Nat := T.2.1
abbrev tR (T : TA) : Nat := T.2.2.1
abbrev tB (T : TA) : Nat := T.2.2.2.1
abbrev tU (T : TA) : Nat := T.2.2.2.2.1
abbrev tF (T : TA) : List (Nat × Nat) := T.2.2.2.2.2.1
abbrev tW (T : TA) : List (Nat × Nat) := T.2.2.2.2.2.2.1
abbrev tS (T : TA) : SA := T.2.2.2.2.2.2.2
abbrev scl (S : SA) : Nat → Option Nat := S.1
abbrev shd (S : SA) : Nat → Nat := S.2.1
abbrev sho (S : SA) : Nat → Nat := S.2.2.1
abbrev sbo (S : SA) : Nat → Nat := S.2.2.2.1
abbrev syr (S : SA) : Nat := S.2.2.2.2.1
abbrev ssd (S : SA) : Nat := S.2.2.2.2.2
def oc (x : Option Nat) : Int32 := match x with
  | none => -1
  | some p => nI p
/-- ranges of a street with k cars in m cells -/
def SRg (k m : Nat) (S : SA) : Prop := (∀ j, j < k → (∀ p, scl S j = some p → p < m) ∧ shd S j < 4 ∧ sho S j ≤ 99 ∧ sbo S j ≤ 9) ∧ syr S ≤ 2000 ∧ ssd S ≤ 999
/-- the class's street at a holds S -/
def SC (I : Nat → Nat → Int32) (a k : Nat) (S : SA) : Prop := (∀ j, j < k → I (a + 1) j = oc (scl S j) ∧ I (a + 2) j = nI (shd S j) ∧ I (a + 3) j = nI (sho S j) ∧ I (a + 4) j = nI (sbo S j)) ∧ I a 5 = nI (syr S) ∧ I a 6 = nI (ssd S)
/-- a token of a formula: (0, v) the number v, else its kind: its code in the class -/
def cc1 (t : Nat × Nat) : Int32 := if t.1 = 0 then nI t.2 else -(nI t.1)
/-- the formula at a holds the codes -/
def FC (I : Nat → Nat → Int32) (a : Nat) (c : List (Nat × Nat)) : Prop := I a 2 = nI c.length ∧ c.length ≤ 300 ∧ ∀ i, i < c.length → I (a + 1) i = cc1 (c.getD i (0, 0))
def isB (k : Nat) : Prop := k = 26 ∨ k = 27 ∨ (7 ≤ k ∧ k ≤ 14)
/-- operands are there for all that joins them, from a depth d on: one is left -/
def wfd : List (Nat × Nat) → Nat → Prop
  | [], d => d = 1
  | t :: ts, d => ((t.1 = 0 ∧ t.2 ≤ 9999 ∨ 29 ≤ t.1 ∧ t.1 ≤ 33) ∧ d < 30 ∧ wfd ts (d + 1)) ∨ (t.1 = 28 ∧ 1 ≤ d ∧ wfd ts d) ∨ (isB t.1 ∧ 2 ≤ d ∧ wfd ts (d - 1))
def wff (c : List (Nat × Nat)) : Prop := c = [] ∨ wfd c 0
def TRg (T : TA) : Prop := tk T ≤ 8 ∧ (1 ≤ tC T ∧ tC T ≤ 8) ∧ (1 ≤ tR T ∧ tR T ≤ 8) ∧ tB T ≤ 100 ∧ tU T ≤ 60 ∧ SRg (tk T) (tC T * tR T) (tS T) ∧ syr (tS T) = 0 ∧ wff (tF T) ∧ wff (tW T) ∧ ∀ j, j < tk T → (scl (tS T) j).isSome = true
/-- the class's told holds T -/
def TC (I : Nat → Nat → Int32) (T : TA) : Prop := (I 2 0 = nI (tC T) ∧ I 2 1 = nI (tR T) ∧ I 2 2 = nI (tk T) ∧ I 2 3 = nI (tB T) ∧ I 2 4 = nI (ssd (tS T)) ∧ I 2 5 = nI (tU T)) ∧ (∀ j, j < tk T → I 3 j = oc (scl (tS T) j) ∧ I 4 j = nI (shd (tS T) j) ∧ I 5 j = nI (sho (tS T) j) ∧ I 6 j = nI (sbo (tS T) j)) ∧ FC I 7 (tF T) ∧ FC I 10 (tW T)
theorem oc_n1 {x : Option Nat} {m : Nat} (h : ∀ p, x = some p → p < m) (hm : m ≤ 64) : oc x = -1 ↔ x = none := by
  cases x with
  | none => simp [oc]
  | some p =>
    have := h p rfl
    simp only [oc, reduceCtorEq, iff_false]
    exact nI_n1 (by omega)
theorem cell_max {T : TA} (h : TRg T) : tC T * tR T ≤ 64 := by
  obtain ⟨-, h1, h2, -⟩ := h
  calc tC T * tR T ≤ 8 * 8 := Nat.mul_le_mul h1.2 h2.2
    _ = 64 := rfl
/-- is car j in -/
def inA (T : TA) (S : SA) (j : Nat) : Bool := decide (j < tk T) && (scl S j).isSome
/-- the cell of a car that is in -/
def pos (S : SA) (j : Nat) : Nat := (scl S j).getD 0
/-- is q on the line of one at p who heads h, with C columns -/
def onl (C h p q : Nat) : Bool := match h with
  | 0 => decide (q % C = p % C) && decide (q / C < p / C)
  | 1 => decide (q / C = p / C) && decide (p % C < q % C)
  | 2 => decide (q % C = p % C) && decide (p / C < q / C)
  | _ => decide (q / C = p / C) && decide (q % C < p % C)
def barP (T : TA) (S : SA) (c o : Nat) : Bool := inA T S c && inA T S o && onl (tC T) (shd S c) (pos S c) (pos S o)
def barA (T : TA) (S : SA) (c : Nat) : Int32 := bs (barP T S c) 8
def freeA (T : TA) (S : SA) : Int32 := bs (fun c => inA T S c && decide (barA T S c = 0)) 8
def whoA (T : TA) (S : SA) : Int32 := bs (inA T S) 8
theorem sub0 {a b : Nat} (ha : a < 2 ^ 30) (hb : b < 2 ^ 30) : nI a - nI b = 0 ↔ a = b := by
  rw [← Int32.toInt_inj, pk_sub_toInt ha hb, Int32.toInt_zero]; omega
theorem subn {a b : Nat} (ha : a < 2 ^ 30) (hb : b < 2 ^ 30) : nI a - nI b < 0 ↔ a < b := by
  rw [Int32.lt_iff_toInt_lt, pk_sub_toInt ha hb, Int32.toInt_zero]; omega
theorem subp {a b : Nat} (ha : a < 2 ^ 30) (hb : b < 2 ^ 30) : 0 < nI a - nI b ↔ b < a := by
  rw [Int32.lt_iff_toInt_lt, pk_sub_toInt ha hb, Int32.toInt_zero]; omega
theorem subge {a b : Nat} (ha : a < 2 ^ 30) (hb : b < 2 ^ 30) : 0 ≤ nI a - nI b ↔ b ≤ a := by
  rw [Int32.le_iff_toInt_le, pk_sub_toInt ha hb, Int32.toInt_zero]; omega
theorem suble {a b : Nat} (ha : a < 2 ^ 30) (hb : b < 2 ^ 30) : nI a - nI b ≤ 0 ↔ a ≤ b := by
  rw [Int32.le_iff_toInt_le, pk_sub_toInt ha hb, Int32.toInt_zero]; omega
theorem inC_iff {I : Nat → Nat → Int32} {a : Nat} {T : TA} {S : SA} (ht : TRg T) (hT : TC I T) (hR : SRg (tk T) (tC T * tR T) S) (hS : SC I a (tk T) S) {j : Nat} (hj : j < 2 ^ 31) : inC I a (nI j) ↔ inA T S j = true := by
  unfold inC inA
  rw [hT.1.2.2.1, nI_ltI hj (by have := ht.1; omega)]
  by_cases h : j < tk T
  · have h8 : j < 8 := by have := ht.1; omega
    rw [rd_nI h8 (by decide), (hS.1 j h).1, oc_n1 (hR.1 j h).1 (cell_max ht)]
    simp [h, nI_pos' hj, Option.isSome_iff_ne_none]
  · simp [h]
