/-! THE WORDS THAT EVERY METHOD HAS, AND HOW LINKS ARE SAID -/
def GT : List Cond := lw_tbl.filter goodWord
theorem GT_of {w : Cond} (i : Nat) (h : lw_tbl[i]? = some w) (hg : goodWord w = true) : w ∈ GT := List.mem_filter.mpr ⟨List.mem_of_getElem? h, hg⟩
theorem GT_good {w : Cond} (h : w ∈ GT) : (w.onTables && w.keeps) = true ∨ ∃ ty, w = .arrayClass ty := good_of_word (List.mem_filter.mp h).2
theorem GT_goodIn {c : Cond} (hc : c ∈ GT) : GoodIn GT (c :: GT) := fun w h => by
  have hw : w ∈ GT := (List.mem_cons.mp h).elim (fun e => e ▸ hc) id
  exact ⟨hw, GT_good hw⟩
/-- the links between nest mates -/
def isNest (w : Cond) : Bool := match w with
  | .methodLinkNest _ _ _ _ => true
  | _ => false
def NW : List Cond := lw_tbl.filter isNest
theorem NW_of {w : Cond} (i : Nat) (h : lw_tbl[i]? = some w) (hg : isNest w = true) : w ∈ NW := List.mem_filter.mpr ⟨List.mem_of_getElem? h, hg⟩
def tyOf (ci : Nat) : Nat → FieldType := match ci with
  | 0 => tyX0 | 1 => tyX1 | 2 => tyX2 | 3 => tyX3 | 4 => tyX4 | 5 => tyX5 | 6 => tyX6 | 7 => tyX7 | 8 => tyX8 | 9 => tyX9 | 10 => tyX10 | 11 => tyX11 | _ => tyX12
def mtyp (t : Nat) : FieldType := match t with
  | 0 => .int
  | 1 => .byte
  | 2 => .boolean
  | _ => .long
def mkd (ty : FieldType) : Nat := match ty with
  | .int => 0
  | .byte => 1
  | .boolean => 2
  | .long => 3
  | .object _ => 5
  | .array _ => 5
  | _ => 9
def Fl (own : String) (idx ci j kd : Nat) (fin : Bool) : Prop := ∃ q, vwCl[ci]? = some q ∧ j < q.2.2 ∧ Cond.fieldLink own idx (q.2.1 j).1 (q.2.1 j).2.1 (q.2.1 j).2.2.1 ∈ GT ∧ (q.2.1 j).2.2.2 = fin ∧ mkd (tyOf ci j) = kd ∧ (q.2.1 j).1 = q.1
def clQ (ci : Nat) (q : vw_C) : Prop := (∀ w ∈ u_ws q.1 q.2.1 q.2.2, w ∈ GT) ∧ (∀ k, k < q.2.2 → parseFieldDescriptor (q.2.1 k).2.2.1 = some (tyOf ci k)) ∧ ∀ a, a < q.2.2 → ∀ b, b < q.2.2 → a ≠ b → (q.2.1 a).2.1 ≠ (q.2.1 b).2.1
theorem clX0 : clQ 0 (RX0, TX0, 3) := ⟨by decide +kernel, tyX0_ok, nmX0⟩
theorem clX1 : clQ 1 (RX1, TX1, 3) := ⟨by decide +kernel, tyX1_ok, nmX1⟩
theorem clX2 : clQ 2 (RX2, TX2, 14) := ⟨by decide +kernel, tyX2_ok, nmX2⟩
theorem clX3 : clQ 3 (RX3, TX3, 4) := ⟨by decide +kernel, tyX3_ok, nmX3⟩
theorem clX4 : clQ 4 (RX4, TX4, 12) := ⟨by decide +kernel, tyX4_ok, nmX4⟩
theorem clX5 : clQ 5 (RX5, TX5, 13) := ⟨by decide +kernel, tyX5_ok, nmX5⟩
theorem clX6 : clQ 6 (RX6, TX6, 2) := ⟨by decide +kernel, tyX6_ok, nmX6⟩
theorem clX7 : clQ 7 (RX7, TX7, 2) := ⟨by decide +kernel, tyX7_ok, nmX7⟩
theorem clX8 : clQ 8 (RX8, TX8, 7) := ⟨by decide +kernel, tyX8_ok, nmX8⟩
theorem clX9 : clQ 9 (RX9, TX9, 5) := ⟨by decide +kernel, tyX9_ok, nmX9⟩
theorem clX10 : clQ 10 (RX10, TX10, 4) := ⟨by decide +kernel, tyX10_ok, nmX10⟩
theorem clX11 : clQ 11 (RX11, TX11, 16) := ⟨by decide +kernel, tyX11_ok, nmX11⟩
theorem clX12 : clQ 12 (RX12, TX12, 63) := ⟨by decide +kernel, tyX12_ok, nmX12⟩
theorem clOk {ci : Nat} {q : vw_C} (h : vwCl[ci]? = some q) : clQ ci q := by
  match ci, h with
  | 0, h => cases h; exact clX0
  | 1, h => cases h; exact clX1
  | 2, h => cases h; exact clX2
  | 3, h => cases h; exact clX3
  | 4, h => cases h; exact clX4
  | 5, h => cases h; exact clX5
  | 6, h => cases h; exact clX6
  | 7, h => cases h; exact clX7
  | 8, h => cases h; exact clX8
  | 9, h => cases h; exact clX9
  | 10, h => cases h; exact clX10
  | 11, h => cases h; exact clX11
  | 12, h => cases h; exact clX12
  | n + 13, h => simp [vwCl] at h
def mNm (y : MethodName) (n : Nat) : Prop := y.cls ≠ "java/lang/invoke/MethodHandle" ∧ y.cls ≠ "java/lang/invoke/VarHandle" ∧ (parseMethodDescriptor y.desc).map (fun d => d.parameters.length) = some n
def CbV (y : MethodName) (cc : ByteArray) (nL : Nat) (ret : Option FieldType) (n : Nat) : Prop := Cond.instanceMethod y ∈ GT ∧ Cond.selects y.cls y y ∈ GT ∧ Cond.initialized y.cls ∈ GT ∧ Cond.code y cc nL ret ∈ GT ∧ mNm y n ∧ nL ≤ 21
def CbS (y : MethodName) (cc : ByteArray) (nL : Nat) (ret : Option FieldType) (n : Nat) : Prop := Cond.static y ∈ GT ∧ Cond.initialized y.cls ∈ GT ∧ Cond.code y cc nL ret ∈ GT ∧ mNm y n ∧ nL ≤ 21
def CbI (y : MethodName) (cc : ByteArray) (nL n : Nat) : Prop := Cond.instanceMethod y ∈ GT ∧ Cond.initialized y.cls ∈ GT ∧ Cond.code y cc nL none ∈ GT ∧ mNm y n ∧ nL ≤ 21 ∧ y.name = "<init>"
