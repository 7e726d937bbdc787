/-! PURE: the class's Sale, what lies -/
def gn (a b x y : Int32) : Int32 := if ¬ a - x < 0 ∧ ¬ a - x < b - y then x else 0
def og (a b x y : Int32) : Int32 := if ¬ b - y < 0 ∧ ¬ b - y ≤ a - x then y else 0
/-- one would rather ask p -/
def btP (a b : Int32) (x y p : Nat) : Bool := decide (gn a b (nI x) (nI y) < gn a b (nI p) (nI y) ∨ og a b (nI x) (nI y) < og a b (nI x) (nI p))
def srP (a b : Int32) (v : Nat) : Bool := (ffd (btP a b (v / 10) (v % 10)) 0 10).isNone
theorem ffd_snoc {P : Nat → Bool} : ∀ d j, ffd P j (d + 1) = match ffd P j d with
    | some x => some x
    | none => if P (j + d) = true then some (j + d) else none := by
  intro d
  induction d with
  | zero => intro j; simp [ffd]
  | succ d ih =>
    intro j
    rw [ffd]
    by_cases h : P j = true
    · rw [if_pos h]
      simp [ffd, h]
    · rw [if_neg h, ih (j + 1)]
      simp [ffd, h, show j + 1 + d = j + (d + 1) by omega]
theorem cn_ffd {P : Nat → Bool} : ∀ k, cn P k = 0 ↔ ffd P 0 k = none := by
  intro k
  rw [cn_ex]
  constructor
  · intro h
    cases e : ffd P 0 k with
    | none => rfl
    | some v =>
      obtain ⟨_, h2, h3, _⟩ := ffd_some k 0 v e
      rw [h v (by omega)] at h3; cases h3
  · intro h j hj
    exact ffd_none k 0 h j (by omega) (by omega)
def slM (I : Nat → Nat → Int32) (x : Option Nat) : Nat → Nat → Int32 := match x with
  | none => I
  | some w => u2 (u2 (u2 (u2 I 56 0 (nI (w / 10))) 55 1 (nI 1)) 56 1 (nI (w % 10))) 55 1 (nI 2)
def slR (x : Option Nat) : List Int32 := match x with
  | none => []
  | some w => [nI (w / 10), nI (w % 10)]
section Sale
variable {n : Nat} {I : Nat → Nat → Int32} {T : TA} {S : SA} {a b : Int32}
set_option maxHeartbeats 4000000 in
theorem p_addX (n : Nat) (J : Nat → Nat → Int64) (f : Nat) {l : Nat} (h : I 55 1 = nI l) (hl : l < 16) (x : Int32) : FX6_add n [.ref 55, .int x] (mm I J f) = some (none, mm (u2 (u2 I 56 l x) 55 1 (nI (l + 1))) J f) := by
  have c1 : ¬ nI l < 0 := nI_pos (by omega)
  have c2 : ¬ Int32.ofNat 16 ≤ nI l := lit_nle (k := 16) rfl (by decide) hl
  have c3 : (0 : Int32) ≤ nI l := nI_pos' (by omega)
  have c4 : (nI l).toNatClampNeg = l := nI_clamp (by omega)
  have e1 : ∀ x i, u2 I 56 l x 55 i = I 55 i := fun x i => u2_a (by decide)
  simp only [eX6_add, kX6_add_0, kX6_add_39, i_cst, i_ldI, i_ldJ, i_ldA, i_stI, i_stJ, i_stA, i_inc, i_bin, i_dv, i_un, i_i2l, i_bnJ, i_lshl, i_lcmp, i_dup, i_dp2, i_gI, i_gJ, i_gA, i_pI, i_pZ, i_pJ, i_pA, i_al, i_as, i_alJ, i_asJ, i_len, i_c0, i_c2, i_sw, msel, i_cV, i_cS, i_rV, i_rI, i_rZ, i_rJ, i_mm, i_pop, i_no, mpl, mvr, mnw, List.getElem?_cons_zero, List.getElem?_cons_succ, List.set_cons_zero, List.set_cons_succ, List.length_cons, List.length_nil, List.drop_succ_cons, List.drop_zero, List.take_succ_cons, List.take_zero, List.reverse_cons, List.reverse_nil, List.nil_append, List.cons_append, List.append_nil, List.map_cons, List.map_nil, List.sum_cons, List.sum_nil, Option.toList_some, Option.toList_none, Option.bind_some, Value.category, decide_eq_true_eq, decide_true, decide_false, if_true, if_false, Bool.false_eq_true, and_self, and_true, true_and, true_or, or_true, not_true_eq_false, not_false_eq_true, ↓reduceIte, reduceCtorEq, Nat.reduceEqDiff, Nat.reduceAdd, Nat.reduceSub, Nat.reduceMul, Nat.reduceLT, Nat.reduceLeDiff, Nat.reduceBEq, Nat.le_refl, Nat.zero_le, Nat.lt_irrefl, beq_self_eq_true, Nat.succ_ne_zero, Option.some.injEq, Prod.mk.injEq, Int32.reduceLT, Int32.reduceLE, y_55, rt_55_0, y_56, h, c1, c2, c3, c4, hl, uI_mm, e1, nI_1]
set_option maxHeartbeats 4000000 in
theorem p_gain (n : Nat) (J : Nat → Nat → Int64) (f : Nat) (h0 : I 54 0 = a) (h1 : I 54 1 = b) (x y : Int32) : FX7_gain n [.ref 54, .int x, .int y] (mm I J f) = some (some (.int (gn a b x y)), mm I J f) := by
  simp only [eX7_gain, kX7_gain_0, kX7_gain_25, kX7_gain_26, i_cst, i_ldI, i_ldJ, i_ldA, i_stI, i_stJ, i_stA, i_inc, i_bin, i_dv, i_un, i_i2l, i_bnJ, i_lshl, i_lcmp, i_dup, i_dp2, i_gI, i_gJ, i_gA, i_pI, i_pZ, i_pJ, i_pA, i_al, i_as, i_alJ, i_asJ, i_len, i_c0, i_c2, i_sw, msel, i_cV, i_cS, i_rV, i_rI, i_rZ, i_rJ, i_mm, i_pop, i_no, mpl, mvr, mnw, List.getElem?_cons_zero, List.getElem?_cons_succ, List.set_cons_zero, List.set_cons_succ, List.length_cons, List.length_nil, List.drop_succ_cons, List.drop_zero, List.take_succ_cons, List.take_zero, List.reverse_cons, List.reverse_nil, List.nil_append, List.cons_append, List.append_nil, List.map_cons, List.map_nil, List.sum_cons, List.sum_nil, Option.toList_some, Option.toList_none, Option.bind_some, Value.category, decide_eq_true_eq, decide_true, decide_false, if_true, if_false, Bool.false_eq_true, and_self, and_true, true_and, true_or, or_true, not_true_eq_false, not_false_eq_true, ↓reduceIte, reduceCtorEq, Nat.reduceEqDiff, Nat.reduceAdd, Nat.reduceSub, Nat.reduceMul, Nat.reduceLT, Nat.reduceLeDiff, Nat.reduceBEq, Nat.le_refl, Nat.zero_le, Nat.lt_irrefl, beq_self_eq_true, Nat.succ_ne_zero, Option.some.injEq, Prod.mk.injEq, Int32.reduceLT, Int32.reduceLE, y_54, h0, h1, gn]
  by_cases e1 : a - x < 0 <;> by_cases e2 : a - x < b - y <;> simp [e1, e2]
set_option maxHeartbeats 4000000 in
theorem p_otherGain (n : Nat) (J : Nat → Nat → Int64) (f : Nat) (h0 : I 54 0 = a) (h1 : I 54 1 = b) (x y : Int32) : FX7_otherGain n [.ref 54, .int x, .int y] (mm I J f) = some (some (.int (og a b x y)), mm I J f) := by
  simp only [eX7_otherGain, kX7_otherGain_0, kX7_otherGain_25, kX7_otherGain_26, i_cst, i_ldI, i_ldJ, i_ldA, i_stI, i_stJ, i_stA, i_inc, i_bin, i_dv, i_un, i_i2l, i_bnJ, i_lshl, i_lcmp, i_dup, i_dp2, i_gI, i_gJ, i_gA, i_pI, i_pZ, i_pJ, i_pA, i_al, i_as, i_alJ, i_asJ, i_len, i_c0, i_c2, i_sw, msel, i_cV, i_cS, i_rV, i_rI, i_rZ, i_rJ, i_mm, i_pop, i_no, mpl, mvr, mnw, List.getElem?_cons_zero, List.getElem?_cons_succ, List.set_cons_zero, List.set_cons_succ, List.length_cons, List.length_nil, List.drop_succ_cons, List.drop_zero, List.take_succ_cons, List.take_zero, List.reverse_cons, List.reverse_nil, List.nil_append, List.cons_append, List.append_nil, List.map_cons, List.map_nil, List.sum_cons, List.sum_nil, Option.toList_some, Option.toList_none, Option.bind_some, Value.category, decide_eq_true_eq, decide_true, decide_false, if_true, if_false, Bool.false_eq_true, and_self, and_true, true_and, true_or, or_true, not_true_eq_false, not_false_eq_true, ↓reduceIte, reduceCtorEq, Nat.reduceEqDiff, Nat.reduceAdd, Nat.reduceSub, Nat.reduceMul, Nat.reduceLT, Nat.reduceLeDiff, Nat.reduceBEq, Nat.le_refl, Nat.zero_le, Nat.lt_irrefl, beq_self_eq_true, Nat.succ_ne_zero, Option.some.injEq, Prod.mk.injEq, Int32.reduceLT, Int32.reduceLE, y_54, h0, h1, og]
  by_cases e1 : b - y < 0 <;> by_cases e2 : b - y ≤ a - x <;> simp [e1, e2]
theorem le1010 : (10 : Int32) ≤ nI 10 := by decide
theorem nle10 {j : Nat} (h : j < 10) : ¬ (10 : Int32) ≤ nI j := lit_nle (k := 10) rfl (by decide) h
set_option maxHeartbeats 4000000 in
theorem p_rests (hn : 300 < n) (J : Nat → Nat → Int64) (f : Nat) (h0 : I 54 0 = a) (h1 : I 54 1 = b) (x y : Nat) : FX7_rests n [.ref 54, .int (nI x), .int (nI y)] (mm I J f) = some (some (.int (b2i ((ffd (btP a b x y) 0 10).isNone = true))), mm I J f) := by
  simp only [eX7_rests, kX7_rests_0, i_cst, i_ldI, i_ldJ, i_ldA, i_stI, i_stJ, i_stA, i_inc, i_bin, i_dv, i_un, i_i2l, i_bnJ, i_lshl, i_lcmp, i_dup, i_dp2, i_gI, i_gJ, i_gA, i_pI, i_pZ, i_pJ, i_pA, i_al, i_as, i_alJ, i_asJ, i_len, i_c0, i_c2, i_sw, msel, i_cV, i_cS, i_rV, i_rI, i_rZ, i_rJ, i_mm, i_pop, i_no, mpl, mvr, mnw, List.getElem?_cons_zero, List.getElem?_cons_succ, List.set_cons_zero, List.set_cons_succ, List.length_cons, List.length_nil, List.drop_succ_cons, List.drop_zero, List.take_succ_cons, List.take_zero, List.reverse_cons, List.reverse_nil, List.nil_append, List.cons_append, List.append_nil, List.map_cons, List.map_nil, List.sum_cons, List.sum_nil, Option.toList_some, Option.toList_none, Option.bind_some, Value.category, decide_eq_true_eq, decide_true, decide_false, if_true, if_false, Bool.false_eq_true, and_self, and_true, true_and, true_or, or_true, not_true_eq_false, not_false_eq_true, ↓reduceIte, reduceCtorEq, Nat.reduceEqDiff, Nat.reduceAdd, Nat.reduceSub, Nat.reduceMul, Nat.reduceLT, Nat.reduceLeDiff, Nat.reduceBEq, Nat.le_refl, Nat.zero_le, Nat.lt_irrefl, beq_self_eq_true, Nat.succ_ne_zero, Option.some.injEq, Prod.mk.injEq, Int32.reduceLT, Int32.reduceLE, y_54, p_gain n J f h0 h1, p_otherGain n J f h0 h1]
  rw [show some (some (Value.int (b2i ((ffd (btP a b x y) 0 10).isNone = true))), mm I J f) = match ffd (btP a b x y) 0 10 with
    | some _ => some (some (Value.int 0), mm I J f)
    | none => some (some (Value.int 1), mm I J f) by cases ffd (btP a b x y) 0 10 <;> rfl]
  refine mit_find (fun j => [some (.ref 54), some (.int (nI x)), some (.int (nI y)), some (.int (gn a b (nI x) (nI y))), some (.int (og a b (nI x) (nI y))), some (.int (nI j))]) (fun _ => mm I J f) (B := 10) (btP a b x y) (fun _ => some (some (Value.int 0), mm I J f)) (fun j hj r => ?_) (by omega) (fun r => ?_)
  · simp only [kX7_rests_18, kX7_rests_48, i_cst, i_ldI, i_ldJ, i_ldA, i_stI, i_stJ, i_stA, i_inc, i_bin, i_dv, i_un, i_i2l, i_bnJ, i_lshl, i_lcmp, i_dup, i_dp2, i_gI, i_gJ, i_gA, i_pI, i_pZ, i_pJ, i_pA, i_al, i_as, i_alJ, i_asJ, i_len, i_c0, i_c2, i_sw, msel, i_cV, i_cS, i_rV, i_rI, i_rZ, i_rJ, i_mm, i_pop, i_no, mpl, mvr, mnw, List.getElem?_cons_zero, List.getElem?_cons_succ, List.set_cons_zero, List.set_cons_succ, List.length_cons, List.length_nil, List.drop_succ_cons, List.drop_zero, List.take_succ_cons, List.take_zero, List.reverse_cons, List.reverse_nil, List.nil_append, List.cons_append, List.append_nil, List.map_cons, List.map_nil, List.sum_cons, List.sum_nil, Option.toList_some, Option.toList_none, Option.bind_some, Value.category, decide_eq_true_eq, decide_true, decide_false, if_true, if_false, Bool.false_eq_true, and_self, and_true, true_and, true_or, or_true, not_true_eq_false, not_false_eq_true, ↓reduceIte, reduceCtorEq, Nat.reduceEqDiff, Nat.reduceAdd, Nat.reduceSub, Nat.reduceMul, Nat.reduceLT, Nat.reduceLeDiff, Nat.reduceBEq, Nat.le_refl, Nat.zero_le, Nat.lt_irrefl, beq_self_eq_true, Nat.succ_ne_zero, Option.some.injEq, Prod.mk.injEq, Int32.reduceLT, Int32.reduceLE, nle10 hj, y_54, p_gain n J f h0 h1, p_otherGain n J f h0 h1, nI_1, btP]
    by_cases e1 : gn a b (nI x) (nI y) < gn a b (nI j) (nI y)
    · simp [e1]
    · by_cases e2 : og a b (nI x) (nI y) < og a b (nI x) (nI j)
      · simp [e1, e2, Int32.not_le.mpr e2]
      · simp [e1, e2, Int32.not_lt.mp e2]
  · simp only [kX7_rests_18, i_cst, i_ldI, i_ldJ, i_ldA, i_stI, i_stJ, i_stA, i_inc, i_bin, i_dv, i_un, i_i2l, i_bnJ, i_lshl, i_lcmp, i_dup, i_dp2, i_gI, i_gJ, i_gA, i_pI, i_pZ, i_pJ, i_pA, i_al, i_as, i_alJ, i_asJ, i_len, i_c0, i_c2, i_sw, msel, i_cV, i_cS, i_rV, i_rI, i_rZ, i_rJ, i_mm, i_pop, i_no, mpl, mvr, mnw, List.getElem?_cons_zero, List.getElem?_cons_succ, List.set_cons_zero, List.set_cons_succ, List.length_cons, List.length_nil, List.drop_succ_cons, List.drop_zero, List.take_succ_cons, List.take_zero, List.reverse_cons, List.reverse_nil, List.nil_append, List.cons_append, List.append_nil, List.map_cons, List.map_nil, List.sum_cons, List.sum_nil, Option.toList_some, Option.toList_none, Option.bind_some, Value.category, decide_eq_true_eq, decide_true, decide_false, if_true, if_false, Bool.false_eq_true, and_self, and_true, true_and, true_or, or_true, not_true_eq_false, not_false_eq_true, ↓reduceIte, reduceCtorEq, Nat.reduceEqDiff, Nat.reduceAdd, Nat.reduceSub, Nat.reduceMul, Nat.reduceLT, Nat.reduceLeDiff, Nat.reduceBEq, Nat.le_refl, Nat.zero_le, Nat.lt_irrefl, beq_self_eq_true, Nat.succ_ne_zero, Option.some.injEq, Prod.mk.injEq, Int32.reduceLT, Int32.reduceLE, le1010]
set_option maxHeartbeats 4000000 in
theorem p_layRests (hn : 300 < n) (J : Nat → Nat → Int64) (f : Nat) (h0 : I 54 0 = a) (h1 : I 54 1 = b) (hr : I 55 1 = nI 0) : FX7_layRests n [.ref 54, .ref 55] (mm I J f) = some (some (.int (nI (cn (srP a b) 100))), mm (slM I (ffd (srP a b) 0 100)) J f) := by
  simp only [eX7_layRests, kX7_layRests_0, i_cst, i_ldI, i_ldJ, i_ldA, i_stI, i_stJ, i_stA, i_inc, i_bin, i_dv, i_un, i_i2l, i_bnJ, i_lshl, i_lcmp, i_dup, i_dp2, i_gI, i_gJ, i_gA, i_pI, i_pZ, i_pJ, i_pA, i_al, i_as, i_alJ, i_asJ, i_len, i_c0, i_c2, i_sw, msel, i_cV, i_cS, i_rV, i_rI, i_rZ, i_rJ, i_mm, i_pop, i_no, mpl, mvr, mnw, List.getElem?_cons_zero, List.getElem?_cons_succ, List.set_cons_zero, List.set_cons_succ, List.length_cons, List.length_nil, List.drop_succ_cons, List.drop_zero, List.take_succ_cons, List.take_zero, List.reverse_cons, List.reverse_nil, List.nil_append, List.cons_append, List.append_nil, List.map_cons, List.map_nil, List.sum_cons, List.sum_nil, Option.toList_some, Option.toList_none, Option.bind_some, Value.category, decide_eq_true_eq, decide_true, decide_false, if_true, if_false, Bool.false_eq_true, and_self, and_true, true_and, true_or, or_true, not_true_eq_false, not_false_eq_true, ↓reduceIte, reduceCtorEq, Nat.reduceEqDiff, Nat.reduceAdd, Nat.reduceSub, Nat.reduceMul, Nat.reduceLT, Nat.reduceLeDiff, Nat.reduceBEq, Nat.le_refl, Nat.zero_le, Nat.lt_irrefl, beq_self_eq_true, Nat.succ_ne_zero, Option.some.injEq, Prod.mk.injEq, Int32.reduceLT, Int32.reduceLE]
  have e0 : mm I J f = mm (slM I (ffd (srP a b) 0 (10 * 0))) J f := rfl
  rw [e0]
  have hs0 : ∀ x, slM I x 54 0 = a := fun x => by cases x with
    | none => exact h0
    | some w => simp only [slM]; rw [u2_a (by decide), u2_a (by decide), u2_a (by decide), u2_a (by decide)]; exact h0
  have hs1 : ∀ x, slM I x 54 1 = b := fun x => by cases x with
    | none => exact h1
    | some w => simp only [slM]; rw [u2_a (by decide), u2_a (by decide), u2_a (by decide), u2_a (by decide)]; exact h1
  refine mit_for (fun q => [some (.ref 54), some (.ref 55), some (.int (nI (cn (srP a b) (10 * q)))), some (.int (nI q)), if q = 0 then none else some (.int (nI 10))]) (fun q => mm (slM I (ffd (srP a b) 0 (10 * q))) J f) (B := 10) (fun q hq r => ?_) (by omega) (fun r => ?_)
  · simp only [kX7_layRests_4, i_cst, i_ldI, i_ldJ, i_ldA, i_stI, i_stJ, i_stA, i_inc, i_bin, i_dv, i_un, i_i2l, i_bnJ, i_lshl, i_lcmp, i_dup, i_dp2, i_gI, i_gJ, i_gA, i_pI, i_pZ, i_pJ, i_pA, i_al, i_as, i_alJ, i_asJ, i_len, i_c0, i_c2, i_sw, msel, i_cV, i_cS, i_rV, i_rI, i_rZ, i_rJ, i_mm, i_pop, i_no, mpl, mvr, mnw, List.getElem?_cons_zero, List.getElem?_cons_succ, List.set_cons_zero, List.set_cons_succ, List.length_cons, List.length_nil, List.drop_succ_cons, List.drop_zero, List.take_succ_cons, List.take_zero, List.reverse_cons, List.reverse_nil, List.nil_append, List.cons_append, List.append_nil, List.map_cons, List.map_nil, List.sum_cons, List.sum_nil, Option.toList_some, Option.toList_none, Option.bind_some, Value.category, decide_eq_true_eq, decide_true, decide_false, if_true, if_false, Bool.false_eq_true, and_self, and_true, true_and, true_or, or_true, not_true_eq_false, not_false_eq_true, ↓reduceIte, reduceCtorEq, Nat.reduceEqDiff, Nat.reduceAdd, Nat.reduceSub, Nat.reduceMul, Nat.reduceLT, Nat.reduceLeDiff, Nat.reduceBEq, Nat.le_refl, Nat.zero_le, Nat.lt_irrefl, beq_self_eq_true, Nat.succ_ne_zero, Option.some.injEq, Prod.mk.injEq, Int32.reduceLT, Int32.reduceLE, nle10 hq]
    refine mit_for (fun j => [some (.ref 54), some (.ref 55), some (.int (nI (cn (srP a b) (10 * q + j)))), some (.int (nI q)), some (.int (nI j))]) (fun j => mm (slM I (ffd (srP a b) 0 (10 * q + j))) J f) (B := 10) (fun j hj r' => ?_) (by omega) (fun r' => ?_)
    · have hR := p_rests hn J f (hs0 (ffd (srP a b) 0 (10 * q + j))) (hs1 (ffd (srP a b) 0 (10 * q + j))) q j
      have ev : srP a b (10 * q + j) = (ffd (btP a b q j) 0 10).isNone := by
        unfold srP
        rw [show (10 * q + j) / 10 = q by omega, show (10 * q + j) % 10 = j by omega]
      rw [← ev] at hR
      have hsn := ffd_snoc (P := srP a b) (10 * q + j) 0
      rw [Nat.zero_add] at hsn
      have hc : cn (srP a b) (10 * q + j + 1) = if srP a b (10 * q + j) = true then cn (srP a b) (10 * q + j) + 1 else cn (srP a b) (10 * q + j) := rfl
      have hcl := cn_le (srP a b) (10 * q + j)
      simp only [kX7_layRests_13, kX7_layRests_45, kX7_layRests_48, i_cst, i_ldI, i_ldJ, i_ldA, i_stI, i_stJ, i_stA, i_inc, i_bin, i_dv, i_un, i_i2l, i_bnJ, i_lshl, i_lcmp, i_dup, i_dp2, i_gI, i_gJ, i_gA, i_pI, i_pZ, i_pJ, i_pA, i_al, i_as, i_alJ, i_asJ, i_len, i_c0, i_c2, i_sw, msel, i_cV, i_cS, i_rV, i_rI, i_rZ, i_rJ, i_mm, i_pop, i_no, mpl, mvr, mnw, List.getElem?_cons_zero, List.getElem?_cons_succ, List.set_cons_zero, List.set_cons_succ, List.length_cons, List.length_nil, List.drop_succ_cons, List.drop_zero, List.take_succ_cons, List.take_zero, List.reverse_cons, List.reverse_nil, List.nil_append, List.cons_append, List.append_nil, List.map_cons, List.map_nil, List.sum_cons, List.sum_nil, Option.toList_some, Option.toList_none, Option.bind_some, Value.category, decide_eq_true_eq, decide_true, decide_false, if_true, if_false, Bool.false_eq_true, and_self, and_true, true_and, true_or, or_true, not_true_eq_false, not_false_eq_true, ↓reduceIte, reduceCtorEq, Nat.reduceEqDiff, Nat.reduceAdd, Nat.reduceSub, Nat.reduceMul, Nat.reduceLT, Nat.reduceLeDiff, Nat.reduceBEq, Nat.le_refl, Nat.zero_le, Nat.lt_irrefl, beq_self_eq_true, Nat.succ_ne_zero, Option.some.injEq, Prod.mk.injEq, Int32.reduceLT, Int32.reduceLE, nle10 hj, y_54, y_55, hR, b2i_eq0, nI_1, ← Nat.add_assoc]
      rw [hsn, hc]
      by_cases e : srP a b (10 * q + j) = true
      · cases e2 : ffd (srP a b) 0 (10 * q + j) with
        | none =>
          have c0 : cn (srP a b) (10 * q + j) = 0 := (cn_ffd _).mpr e2
          have a1 := p_addX n J f (I := I) hr (by decide) (nI q)
          have a2 := p_addX n J f (I := u2 (u2 I 56 0 (nI q)) 55 1 (nI (0 + 1))) (l := 1) (by rw [u2_s]) (by decide) (nI j)
          have z0 : ¬ ¬ nI 0 = 0 := by decide
          simp only [e, not_true_eq_false, if_false, if_true, c0, slM, a1, a2, z0, i_cst, i_ldI, i_ldJ, i_ldA, i_stI, i_stJ, i_stA, i_inc, i_bin, i_dv, i_un, i_i2l, i_bnJ, i_lshl, i_lcmp, i_dup, i_dp2, i_gI, i_gJ, i_gA, i_pI, i_pZ, i_pJ, i_pA, i_al, i_as, i_alJ, i_asJ, i_len, i_c0, i_c2, i_sw, msel, i_cV, i_cS, i_rV, i_rI, i_rZ, i_rJ, i_mm, i_pop, i_no, mpl, mvr, mnw, List.getElem?_cons_zero, List.getElem?_cons_succ, List.set_cons_zero, List.set_cons_succ, List.length_cons, List.length_nil, List.drop_succ_cons, List.drop_zero, List.take_succ_cons, List.take_zero, List.reverse_cons, List.reverse_nil, List.nil_append, List.cons_append, List.append_nil, List.map_cons, List.map_nil, List.sum_cons, List.sum_nil, Option.toList_some, Option.toList_none, Option.bind_some, Value.category, decide_eq_true_eq, decide_true, decide_false, if_true, if_false, Bool.false_eq_true, and_self, and_true, true_and, true_or, or_true, not_true_eq_false, not_false_eq_true, ↓reduceIte, reduceCtorEq, Nat.reduceEqDiff, Nat.reduceAdd, Nat.reduceSub, Nat.reduceMul, Nat.reduceLT, Nat.reduceLeDiff, Nat.reduceBEq, Nat.le_refl, Nat.zero_le, Nat.lt_irrefl, beq_self_eq_true, Nat.succ_ne_zero, Option.some.injEq, Prod.mk.injEq, Int32.reduceLT, Int32.reduceLE, nI_1, y_55]
          rw [show (10 * q + j) / 10 = q by omega, show (10 * q + j) % 10 = j by omega]
        | some w =>
          have c0 : ¬ nI (cn (srP a b) (10 * q + j)) = 0 := by
            refine nI_ne0 ?_ (by omega)
            rcases Nat.eq_zero_or_pos (cn (srP a b) (10 * q + j)) with h | h
            · rw [(cn_ffd _).mp h] at e2; cases e2
            · exact h
          simp only [e, not_true_eq_false, if_false, if_true, c0, not_false_eq_true, i_cst, i_ldI, i_ldJ, i_ldA, i_stI, i_stJ, i_stA, i_inc, i_bin, i_dv, i_un, i_i2l, i_bnJ, i_lshl, i_lcmp, i_dup, i_dp2, i_gI, i_gJ, i_gA, i_pI, i_pZ, i_pJ, i_pA, i_al, i_as, i_alJ, i_asJ, i_len, i_c0, i_c2, i_sw, msel, i_cV, i_cS, i_rV, i_rI, i_rZ, i_rJ, i_mm, i_pop, i_no, mpl, mvr, mnw, List.getElem?_cons_zero, List.getElem?_cons_succ, List.set_cons_zero, List.set_cons_succ, List.length_cons, List.length_nil, List.drop_succ_cons, List.drop_zero, List.take_succ_cons, List.take_zero, List.reverse_cons, List.reverse_nil, List.nil_append, List.cons_append, List.append_nil, List.map_cons, List.map_nil, List.sum_cons, List.sum_nil, Option.toList_some, Option.toList_none, Option.bind_some, Value.category, decide_eq_true_eq, decide_true, decide_false, if_true, if_false, Bool.false_eq_true, and_self, and_true, true_and, true_or, or_true, not_true_eq_false, not_false_eq_true, ↓reduceIte, reduceCtorEq, Nat.reduceEqDiff, Nat.reduceAdd, Nat.reduceSub, Nat.reduceMul, Nat.reduceLT, Nat.reduceLeDiff, Nat.reduceBEq, Nat.le_refl, Nat.zero_le, Nat.lt_irrefl, beq_self_eq_true, Nat.succ_ne_zero, Option.some.injEq, Prod.mk.injEq, Int32.reduceLT, Int32.reduceLE, nI_1]
      · cases e2 : ffd (srP a b) 0 (10 * q + j) with
        | none => simp only [e, not_false_eq_true, if_true, if_false, Bool.false_eq_true]
        | some w => simp only [e, not_false_eq_true, if_true, if_false, Bool.false_eq_true]
    · simp only [kX7_layRests_13, i_cst, i_ldI, i_ldJ, i_ldA, i_stI, i_stJ, i_stA, i_inc, i_bin, i_dv, i_un, i_i2l, i_bnJ, i_lshl, i_lcmp, i_dup, i_dp2, i_gI, i_gJ, i_gA, i_pI, i_pZ, i_pJ, i_pA, i_al, i_as, i_alJ, i_asJ, i_len, i_c0, i_c2, i_sw, msel, i_cV, i_cS, i_rV, i_rI, i_rZ, i_rJ, i_mm, i_pop, i_no, mpl, mvr, mnw, List.getElem?_cons_zero, List.getElem?_cons_succ, List.set_cons_zero, List.set_cons_succ, List.length_cons, List.length_nil, List.drop_succ_cons, List.drop_zero, List.take_succ_cons, List.take_zero, List.reverse_cons, List.reverse_nil, List.nil_append, List.cons_append, List.append_nil, List.map_cons, List.map_nil, List.sum_cons, List.sum_nil, Option.toList_some, Option.toList_none, Option.bind_some, Value.category, decide_eq_true_eq, decide_true, decide_false, if_true, if_false, Bool.false_eq_true, and_self, and_true, true_and, true_or, or_true, not_true_eq_false, not_false_eq_true, ↓reduceIte, reduceCtorEq, Nat.reduceEqDiff, Nat.reduceAdd, Nat.reduceSub, Nat.reduceMul, Nat.reduceLT, Nat.reduceLeDiff, Nat.reduceBEq, Nat.le_refl, Nat.zero_le, Nat.lt_irrefl, beq_self_eq_true, Nat.succ_ne_zero, Option.some.injEq, Prod.mk.injEq, Int32.reduceLT, Int32.reduceLE, le1010, nI_1]
      rw [show 10 * q + 10 = 10 * (q + 1) by omega]
  · simp only [kX7_layRests_4, i_cst, i_ldI, i_ldJ, i_ldA, i_stI, i_stJ, i_stA, i_inc, i_bin, i_dv, i_un, i_i2l, i_bnJ, i_lshl, i_lcmp, i_dup, i_dp2, i_gI, i_gJ, i_gA, i_pI, i_pZ, i_pJ, i_pA, i_al, i_as, i_alJ, i_asJ, i_len, i_c0, i_c2, i_sw, msel, i_cV, i_cS, i_rV, i_rI, i_rZ, i_rJ, i_mm, i_pop, i_no, mpl, mvr, mnw, List.getElem?_cons_zero, List.getElem?_cons_succ, List.set_cons_zero, List.set_cons_succ, List.length_cons, List.length_nil, List.drop_succ_cons, List.drop_zero, List.take_succ_cons, List.take_zero, List.reverse_cons, List.reverse_nil, List.nil_append, List.cons_append, List.append_nil, List.map_cons, List.map_nil, List.sum_cons, List.sum_nil, Option.toList_some, Option.toList_none, Option.bind_some, Value.category, decide_eq_true_eq, decide_true, decide_false, if_true, if_false, Bool.false_eq_true, and_self, and_true, true_and, true_or, or_true, not_true_eq_false, not_false_eq_true, ↓reduceIte, reduceCtorEq, Nat.reduceEqDiff, Nat.reduceAdd, Nat.reduceSub, Nat.reduceMul, Nat.reduceLT, Nat.reduceLeDiff, Nat.reduceBEq, Nat.le_refl, Nat.zero_le, Nat.lt_irrefl, beq_self_eq_true, Nat.succ_ne_zero, Option.some.injEq, Prod.mk.injEq, Int32.reduceLT, Int32.reduceLE, le1010, show 10 * 10 = 100 from rfl]
theorem slM_row (I : Nat → Nat → Int32) (hr : I 55 1 = nI 0) (x : Option Nat) : RowC (slM I x) (slR x) := by
  cases x with
  | none => exact ⟨hr, by simp [slR], fun i hi => by simp [slR] at hi⟩
  | some w =>
    refine ⟨by simp only [slM, slR]; rw [u2_s]; rfl, by simp [slR], fun i hi => ?_⟩
    simp only [slR, List.length_cons, List.length_nil] at hi
    simp only [slM, slR]
    rcases (show i = 0 ∨ i = 1 by omega) with rfl | rfl
    · rw [u2_a (by decide), u2_j (by decide), u2_a (by decide), u2_s]; rfl
    · rw [u2_a (by decide), u2_s]; rfl
theorem slM_o {x : Option Nat} {c i : Nat} (h1 : c ≠ 55) (h2 : c ≠ 56) : slM I x c i = I c i := by
  cases x with
  | none => rfl
  | some w => simp only [slM]; rw [u2_a h1, u2_a h2, u2_a h1, u2_a h2]
def salB (T : TA) (S : SA) (c d : Int32) : Bool := !decide (c = d) && inI T S c && inI T S d
def salW (T : TA) (S : SA) (c : Int32) : Int32 := worthC T S c.toNatClampNeg (nI (manyA T S))
def aSale (T : TA) (S : SA) (c d : Int32) : Int32 := if salB T S c d = true then nI (cn (srP (salW T S c) (salW T S d)) 100) else -1
def lSale (T : TA) (S : SA) (c d : Int32) : List Int32 := if salB T S c d = true then slR (ffd (srP (salW T S c) (salW T S d)) 0 100) else []
set_option maxHeartbeats 4000000 in
theorem c_sale (hn : 300 < n) (J : Nat → Nat → Int64) (f : Nat) (o : SO I 29 T S) (c d : Int32) : ∃ I', FX11_sale n [.ref 0, .int c, .int d] (mm I J f) = some (some (.int (aSale T S c d)), mm I' J f) ∧ RowC I' (lSale T S c d) ∧ ∀ b j, b ≠ 9 → b ≠ 12 → b ≠ 54 → b ≠ 55 → b ≠ 56 → I' b j = I b j := by
  have o1 : SO (u2 I 55 1 0) 29 T S := SO_fr o (fun b j hb => u2_a (by omega))
  have i1 := p_isInI n J f o1 c
  have i2 := p_isInI n J f o1 d
  by_cases e0 : c = d
  · have hb : salB T S c d = false := by simp [salB, e0]
    refine ⟨u2 I 55 1 0, ?_, by simpa [lSale, hb] using RowC_nil I, fun b j _ _ _ h _ => u2_a h⟩
    simp only [aSale, hb]
    simp only [eX11_sale, kX11_sale_0, kX11_sale_34, kX11_sale_52, i_cst, i_ldI, i_ldJ, i_ldA, i_stI, i_stJ, i_stA, i_inc, i_bin, i_dv, i_un, i_i2l, i_bnJ, i_lshl, i_lcmp, i_dup, i_dp2, i_gI, i_gJ, i_gA, i_pI, i_pZ, i_pJ, i_pA, i_al, i_as, i_alJ, i_asJ, i_len, i_c0, i_c2, i_sw, msel, i_cV, i_cS, i_rV, i_rI, i_rZ, i_rJ, i_mm, i_pop, i_no, mpl, mvr, mnw, List.getElem?_cons_zero, List.getElem?_cons_succ, List.set_cons_zero, List.set_cons_succ, List.length_cons, List.length_nil, List.drop_succ_cons, List.drop_zero, List.take_succ_cons, List.take_zero, List.reverse_cons, List.reverse_nil, List.nil_append, List.cons_append, List.append_nil, List.map_cons, List.map_nil, List.sum_cons, List.sum_nil, Option.toList_some, Option.toList_none, Option.bind_some, Value.category, decide_eq_true_eq, decide_true, decide_false, if_true, if_false, Bool.false_eq_true, and_self, and_true, true_and, true_or, or_true, not_true_eq_false, not_false_eq_true, ↓reduceIte, reduceCtorEq, Nat.reduceEqDiff, Nat.reduceAdd, Nat.reduceSub, Nat.reduceMul, Nat.reduceLT, Nat.reduceLeDiff, Nat.reduceBEq, Nat.le_refl, Nat.zero_le, Nat.lt_irrefl, beq_self_eq_true, Nat.succ_ne_zero, Option.some.injEq, Prod.mk.injEq, Int32.reduceLT, Int32.reduceLE, y_0, y_55, rt_0_12, p_clear, e0]
  by_cases e1 : inI T S c = true
  · by_cases e2 : inI T S d = true
    · have hb : salB T S c d = true := by simp [salB, e0, e1, e2]
      obtain ⟨j, hj, rfl, hj2⟩ := inI_ex e1
      obtain ⟨k, hk, rfl, hk2⟩ := inI_ex e2
      obtain ⟨I1, g1, g2⟩ := p_worthAmong hn J f o1 hj (nI (manyA T S))
      have o2 := SO_FrO o1 g2
      obtain ⟨I2, g3, g4⟩ := p_worthAmong hn J f o2 hk (nI (manyA T S))
      have wj : worthC T S j (nI (manyA T S)) = salW T S (nI j) := by unfold salW; rw [nI_clamp hj2]
      have wk : worthC T S k (nI (manyA T S)) = salW T S (nI k) := by unfold salW; rw [nI_clamp hk2]
      rw [wj] at g1
      rw [wk] at g3
      have f55 : ∀ i, I2 55 i = u2 I 55 1 0 55 i := fun i => by rw [g4 55 i (by decide) (by decide), g2 55 i (by decide) (by decide)]
      have hl := p_layRests (I := u2 (u2 I2 54 0 (salW T S (nI j))) 54 1 (salW T S (nI k))) (a := salW T S (nI j)) (b := salW T S (nI k)) hn J f (by rw [u2_j (by decide), u2_s]) (by rw [u2_s]) (by rw [u2_a (by decide), u2_a (by decide), f55, u2_s]; rfl)
      refine ⟨_, ?_, by
        simp only [lSale, hb, if_true]
        exact slM_row (u2 (u2 I2 54 0 (salW T S (nI j))) 54 1 (salW T S (nI k))) (by rw [u2_a (by decide), u2_a (by decide), f55, u2_s]; rfl) _, fun b i h1 h2 h3 h4 h5 => by
        rw [slM_o h4 h5, u2_a h3, u2_a h3, g4 b i h1 h2, g2 b i h1 h2, u2_a h4]⟩
      simp only [aSale, hb, if_true]
      simp only [eX11_sale, kX11_sale_0, kX11_sale_34, kX11_sale_52, eX7_open, kX7_open_0, i_cst, i_ldI, i_ldJ, i_ldA, i_stI, i_stJ, i_stA, i_inc, i_bin, i_dv, i_un, i_i2l, i_bnJ, i_lshl, i_lcmp, i_dup, i_dp2, i_gI, i_gJ, i_gA, i_pI, i_pZ, i_pJ, i_pA, i_al, i_as, i_alJ, i_asJ, i_len, i_c0, i_c2, i_sw, msel, i_cV, i_cS, i_rV, i_rI, i_rZ, i_rJ, i_mm, i_pop, i_no, mpl, mvr, mnw, List.getElem?_cons_zero, List.getElem?_cons_succ, List.set_cons_zero, List.set_cons_succ, List.length_cons, List.length_nil, List.drop_succ_cons, List.drop_zero, List.take_succ_cons, List.take_zero, List.reverse_cons, List.reverse_nil, List.nil_append, List.cons_append, List.append_nil, List.map_cons, List.map_nil, List.sum_cons, List.sum_nil, Option.toList_some, Option.toList_none, Option.bind_some, Value.category, decide_eq_true_eq, decide_true, decide_false, if_true, if_false, Bool.false_eq_true, and_self, and_true, true_and, true_or, or_true, not_true_eq_false, not_false_eq_true, ↓reduceIte, reduceCtorEq, Nat.reduceEqDiff, Nat.reduceAdd, Nat.reduceSub, Nat.reduceMul, Nat.reduceLT, Nat.reduceLeDiff, Nat.reduceBEq, Nat.le_refl, Nat.zero_le, Nat.lt_irrefl, beq_self_eq_true, Nat.succ_ne_zero, Option.some.injEq, Prod.mk.injEq, Int32.reduceLT, Int32.reduceLE, y_0, y_29, y_54, y_55, rt_0_5, rt_0_11, rt_0_12, p_clear, e0, i1, i2, b2i_eq0, e1, e2, p_howMany (show 8 < n by omega) J f o1, g1, g3, uI_mm, hl]
    · have hb : salB T S c d = false := by simp [salB, e2]
      refine ⟨u2 I 55 1 0, ?_, by simpa [lSale, hb] using RowC_nil I, fun b j _ _ _ h _ => u2_a h⟩
      simp only [aSale, hb]
      simp only [eX11_sale, kX11_sale_0, kX11_sale_34, kX11_sale_52, i_cst, i_ldI, i_ldJ, i_ldA, i_stI, i_stJ, i_stA, i_inc, i_bin, i_dv, i_un, i_i2l, i_bnJ, i_lshl, i_lcmp, i_dup, i_dp2, i_gI, i_gJ, i_gA, i_pI, i_pZ, i_pJ, i_pA, i_al, i_as, i_alJ, i_asJ, i_len, i_c0, i_c2, i_sw, msel, i_cV, i_cS, i_rV, i_rI, i_rZ, i_rJ, i_mm, i_pop, i_no, mpl, mvr, mnw, List.getElem?_cons_zero, List.getElem?_cons_succ, List.set_cons_zero, List.set_cons_succ, List.length_cons, List.length_nil, List.drop_succ_cons, List.drop_zero, List.take_succ_cons, List.take_zero, List.reverse_cons, List.reverse_nil, List.nil_append, List.cons_append, List.append_nil, List.map_cons, List.map_nil, List.sum_cons, List.sum_nil, Option.toList_some, Option.toList_none, Option.bind_some, Value.category, decide_eq_true_eq, decide_true, decide_false, if_true, if_false, Bool.false_eq_true, and_self, and_true, true_and, true_or, or_true, not_true_eq_false, not_false_eq_true, ↓reduceIte, reduceCtorEq, Nat.reduceEqDiff, Nat.reduceAdd, Nat.reduceSub, Nat.reduceMul, Nat.reduceLT, Nat.reduceLeDiff, Nat.reduceBEq, Nat.le_refl, Nat.zero_le, Nat.lt_irrefl, beq_self_eq_true, Nat.succ_ne_zero, Option.some.injEq, Prod.mk.injEq, Int32.reduceLT, Int32.reduceLE, y_0, y_29, y_55, rt_0_5, rt_0_12, p_clear, e0, i1, i2, b2i_eq0, e1, e2]
  · have hb : salB T S c d = false := by simp [salB, e1]
    refine ⟨u2 I 55 1 0, ?_, by simpa [lSale, hb] using RowC_nil I, fun b j _ _ _ h _ => u2_a h⟩
    simp only [aSale, hb]
    simp only [eX11_sale, kX11_sale_0, kX11_sale_34, kX11_sale_52, i_cst, i_ldI, i_ldJ, i_ldA, i_stI, i_stJ, i_stA, i_inc, i_bin, i_dv, i_un, i_i2l, i_bnJ, i_lshl, i_lcmp, i_dup, i_dp2, i_gI, i_gJ, i_gA, i_pI, i_pZ, i_pJ, i_pA, i_al, i_as, i_alJ, i_asJ, i_len, i_c0, i_c2, i_sw, msel, i_cV, i_cS, i_rV, i_rI, i_rZ, i_rJ, i_mm, i_pop, i_no, mpl, mvr, mnw, List.getElem?_cons_zero, List.getElem?_cons_succ, List.set_cons_zero, List.set_cons_succ, List.length_cons, List.length_nil, List.drop_succ_cons, List.drop_zero, List.take_succ_cons, List.take_zero, List.reverse_cons, List.reverse_nil, List.nil_append, List.cons_append, List.append_nil, List.map_cons, List.map_nil, List.sum_cons, List.sum_nil, Option.toList_some, Option.toList_none, Option.bind_some, Value.category, decide_eq_true_eq, decide_true, decide_false, if_true, if_false, Bool.false_eq_true, and_self, and_true, true_and, true_or, or_true, not_true_eq_false, not_false_eq_true, ↓reduceIte, reduceCtorEq, Nat.reduceEqDiff, Nat.reduceAdd, Nat.reduceSub, Nat.reduceMul, Nat.reduceLT, Nat.reduceLeDiff, Nat.reduceBEq, Nat.le_refl, Nat.zero_le, Nat.lt_irrefl, beq_self_eq_true, Nat.succ_ne_zero, Option.some.injEq, Prod.mk.injEq, Int32.reduceLT, Int32.reduceLE, y_0, y_29, y_55, rt_0_5, rt_0_12, p_clear, e0, i1, b2i_eq0, e1]
def aLies (l : List Int32) (i : Int32) : Int32 := if 0 ≤ i ∧ i.toNatClampNeg < l.length then l.getD i.toNatClampNeg 0 else -1
set_option maxHeartbeats 4000000 in
theorem c_lies (n : Nat) (J : Nat → Nat → Int64) (f : Nat) {l : List Int32} (h : RowC I l) (i : Int32) : FX11_lies n [.ref 0, .int i] (mm I J f) = some (some (.int (aLies l i)), mm I J f) := by
  have hl := h.2.1
  rcases cI i with h0 | ⟨j, hj, rfl⟩
  · simp only [eX11_lies, kX11_lies_0, kX11_lies_29, kX11_lies_30, i_cst, i_ldI, i_ldJ, i_ldA, i_stI, i_stJ, i_stA, i_inc, i_bin, i_dv, i_un, i_i2l, i_bnJ, i_lshl, i_lcmp, i_dup, i_dp2, i_gI, i_gJ, i_gA, i_pI, i_pZ, i_pJ, i_pA, i_al, i_as, i_alJ, i_asJ, i_len, i_c0, i_c2, i_sw, msel, i_cV, i_cS, i_rV, i_rI, i_rZ, i_rJ, i_mm, i_pop, i_no, mpl, mvr, mnw, List.getElem?_cons_zero, List.getElem?_cons_succ, List.set_cons_zero, List.set_cons_succ, List.length_cons, List.length_nil, List.drop_succ_cons, List.drop_zero, List.take_succ_cons, List.take_zero, List.reverse_cons, List.reverse_nil, List.nil_append, List.cons_append, List.append_nil, List.map_cons, List.map_nil, List.sum_cons, List.sum_nil, Option.toList_some, Option.toList_none, Option.bind_some, Value.category, decide_eq_true_eq, decide_true, decide_false, if_true, if_false, Bool.false_eq_true, and_self, and_true, true_and, true_or, or_true, not_true_eq_false, not_false_eq_true, ↓reduceIte, reduceCtorEq, Nat.reduceEqDiff, Nat.reduceAdd, Nat.reduceSub, Nat.reduceMul, Nat.reduceLT, Nat.reduceLeDiff, Nat.reduceBEq, Nat.le_refl, Nat.zero_le, Nat.lt_irrefl, beq_self_eq_true, Nat.succ_ne_zero, Option.some.injEq, Prod.mk.injEq, Int32.reduceLT, Int32.reduceLE, h0, aLies, nn0 h0, false_and]
  · have c1 : ¬ nI j < 0 := nI_pos hj
    by_cases e : j < l.length
    · have c2 : ¬ nI l.length ≤ nI j := by rw [nI_leI (by omega) hj]; omega
      simp only [eX11_lies, kX11_lies_0, kX11_lies_29, kX11_lies_30, i_cst, i_ldI, i_ldJ, i_ldA, i_stI, i_stJ, i_stA, i_inc, i_bin, i_dv, i_un, i_i2l, i_bnJ, i_lshl, i_lcmp, i_dup, i_dp2, i_gI, i_gJ, i_gA, i_pI, i_pZ, i_pJ, i_pA, i_al, i_as, i_alJ, i_asJ, i_len, i_c0, i_c2, i_sw, msel, i_cV, i_cS, i_rV, i_rI, i_rZ, i_rJ, i_mm, i_pop, i_no, mpl, mvr, mnw, List.getElem?_cons_zero, List.getElem?_cons_succ, List.set_cons_zero, List.set_cons_succ, List.length_cons, List.length_nil, List.drop_succ_cons, List.drop_zero, List.take_succ_cons, List.take_zero, List.reverse_cons, List.reverse_nil, List.nil_append, List.cons_append, List.append_nil, List.map_cons, List.map_nil, List.sum_cons, List.sum_nil, Option.toList_some, Option.toList_none, Option.bind_some, Value.category, decide_eq_true_eq, decide_true, decide_false, if_true, if_false, Bool.false_eq_true, and_self, and_true, true_and, true_or, or_true, not_true_eq_false, not_false_eq_true, ↓reduceIte, reduceCtorEq, Nat.reduceEqDiff, Nat.reduceAdd, Nat.reduceSub, Nat.reduceMul, Nat.reduceLT, Nat.reduceLeDiff, Nat.reduceBEq, Nat.le_refl, Nat.zero_le, Nat.lt_irrefl, beq_self_eq_true, Nat.succ_ne_zero, Option.some.injEq, Prod.mk.injEq, Int32.reduceLT, Int32.reduceLE, y_0, y_55, rt_0_12, rt_55_0, c1, h.1, c2, p_atN n 56 j (mm I J f) y_56 (by decide) (show j < 16 by omega), h.2.2 j e, aLies, nI_clamp hj, nI_pos' hj, e]
    · have c2 : nI l.length ≤ nI j := by rw [nI_leI (by omega) hj]; omega
      simp only [eX11_lies, kX11_lies_0, kX11_lies_29, kX11_lies_30, i_cst, i_ldI, i_ldJ, i_ldA, i_stI, i_stJ, i_stA, i_inc, i_bin, i_dv, i_un, i_i2l, i_bnJ, i_lshl, i_lcmp, i_dup, i_dp2, i_gI, i_gJ, i_gA, i_pI, i_pZ, i_pJ, i_pA, i_al, i_as, i_alJ, i_asJ, i_len, i_c0, i_c2, i_sw, msel, i_cV, i_cS, i_rV, i_rI, i_rZ, i_rJ, i_mm, i_pop, i_no, mpl, mvr, mnw, List.getElem?_cons_zero, List.getElem?_cons_succ, List.set_cons_zero, List.set_cons_succ, List.length_cons, List.length_nil, List.drop_succ_cons, List.drop_zero, List.take_succ_cons, List.take_zero, List.reverse_cons, List.reverse_nil, List.nil_append, List.cons_append, List.append_nil, List.map_cons, List.map_nil, List.sum_cons, List.sum_nil, Option.toList_some, Option.toList_none, Option.bind_some, Value.category, decide_eq_true_eq, decide_true, decide_false, if_true, if_false, Bool.false_eq_true, and_self, and_true, true_and, true_or, or_true, not_true_eq_false, not_false_eq_true, ↓reduceIte, reduceCtorEq, Nat.reduceEqDiff, Nat.reduceAdd, Nat.reduceSub, Nat.reduceMul, Nat.reduceLT, Nat.reduceLeDiff, Nat.reduceBEq, Nat.le_refl, Nat.zero_le, Nat.lt_irrefl, beq_self_eq_true, Nat.succ_ne_zero, Option.some.injEq, Prod.mk.injEq, Int32.reduceLT, Int32.reduceLE, y_0, y_55, rt_0_12, c1, h.1, c2, aLies, nI_clamp hj, e, and_false]
end Sale
