/-! PURE: the class's Reader: lines -/
def val (B : Nat) (g : Nat → Nat) : Nat → Nat
  | 0 => 0
  | d + 1 => val B g d * B + g d
theorem val_inj {B : Nat} {g h : Nat → Nat} : ∀ l m, (∀ i, i < l → 1 ≤ g i ∧ g i < B) → (∀ i, i < m → 1 ≤ h i ∧ h i < B) → val B g l = val B h m → l = m ∧ ∀ i, i < l → g i = h i := by
  intro l
  induction l with
  | zero =>
    intro m _ hh e
    cases m with
    | zero => exact ⟨rfl, fun i hi => by omega⟩
    | succ m =>
      have := hh m (by omega)
      simp only [val] at e
      omega
  | succ l ih =>
    intro m hg hh e
    cases m with
    | zero =>
      have := hg l (by omega)
      simp only [val] at e
      omega
    | succ m =>
      have g1 := hg l (by omega)
      have h1 := hh m (by omega)
      simp only [val] at e
      have e1 : g l = h m := by
        have := congrArg (· % B) e
        simp only [Nat.mul_add_mod_self_right] at this
        rw [Nat.mod_eq_of_lt g1.2, Nat.mod_eq_of_lt h1.2] at this
        exact this
      have e2 : val B g l = val B h m := by
        rw [e1] at e
        exact Nat.eq_of_mul_eq_mul_right (by omega) (Nat.add_right_cancel e)
      obtain ⟨k1, k2⟩ := ih m (fun i hi => hg i (by omega)) (fun i hi => hh i (by omega)) e2
      refine ⟨by omega, fun i hi => ?_⟩
      by_cases e3 : i = l
      · subst e3; rw [e1, k1]
      · exact k2 i (by omega)
theorem wvl_val (B off : Nat) (tp : List Nat) (p : Nat) : ∀ d, wvl B off tp p d = val B (fun i => bt tp (p + i) - off) d := by
  intro d
  induction d with
  | zero => rfl
  | succ d ih => simp only [wvl, val, ih]
/-- a NAME or a word -/
theorem let_tok (tp : List Nat) {i : Nat} (h : kn tp i = 3 ∨ 15 ≤ kn tp i) : isLt (bt tp (pl tp i)) = true ∧ en tp i = teL tp (pl tp i) ∧ en tp i - pl tp i ≤ 8 ∧ pl tp i < tp.length ∧ kn tp i = kw tp (pl tp i) (en tp i) := by
  unfold kn kd at h ⊢
  by_cases e0 : tp.length ≤ pl tp i
  · rw [if_pos e0] at h; omega
  rw [if_neg e0] at h ⊢
  by_cases e1 : isLt (bt tp (pl tp i)) = true
  · rw [if_pos e1] at h ⊢
    split at h
    · omega
    · rename_i h8
      refine ⟨e1, ?_, by omega, by omega, by rw [if_neg h8]⟩
      unfold en te
      rw [if_pos e1]
  · rw [if_neg e1] at h
    by_cases e2 : isDg (bt tp (pl tp i)) = true
    · rw [if_pos e2] at h
      split at h <;> omega
    · rw [if_neg e2] at h
      have := sgk_rg (bt tp (pl tp i)); omega
theorem lt_run (tp : List Nat) {p : Nat} (hp : p ≤ tp.length) : (∀ j, p ≤ j → j < teL tp p → isLt (bt tp j) = true) ∧ isLt (bt tp (teL tp p)) = false ∧ p ≤ teL tp p ∧ teL tp p ≤ tp.length := by
  obtain ⟨h1, h2, h3, h4⟩ := wh_rg (fun q => isLt (bt tp q)) (tp.length - p) p
  refine ⟨h3, ?_, h1, by unfold teL; omega⟩
  rcases Nat.lt_or_ge (teL tp p) tp.length with g | g
  · exact h4 (by unfold teL at g; omega)
  · rw [bt_ge g]; rfl
def w32 (tp : List Nat) (i : Nat) : Nat := wvl 32 96 tp (pl tp i) (en tp i - pl tp i)
theorem let_all (tp : List Nat) {i : Nat} (h : kn tp i = 3 ∨ 15 ≤ kn tp i) : ∀ j, j < en tp i - pl tp i → 97 ≤ bt tp (pl tp i + j) ∧ bt tp (pl tp i + j) ≤ 122 := by
  obtain ⟨h1, h2, h3, h4, -⟩ := let_tok tp h
  obtain ⟨g1, g2, g3, g4⟩ := lt_run tp (show pl tp i ≤ tp.length by omega)
  intro j hj
  have := g1 (pl tp i + j) (by omega) (by rw [← h2]; omega)
  simpa only [isLt, Bool.and_eq_true, decide_eq_true_eq] using this
/-- two NAMES are the same by either number -/
theorem nam_eq (tp : List Nat) {i k : Nat} (hi : kn tp i = 3) (hk : kn tp k = 3) : wvt tp i = wvt tp k ↔ w32 tp i = w32 tp k := by
  have a := let_all tp (Or.inl hi)
  have b := let_all tp (Or.inl hk)
  unfold wvt w32
  rw [wvl_val, wvl_val, wvl_val, wvl_val]
  have key : ∀ l m : Nat, (∀ j, j < l → 97 ≤ bt tp (pl tp i + j) ∧ bt tp (pl tp i + j) ≤ 122) → (∀ j, j < m → 97 ≤ bt tp (pl tp k + j) ∧ bt tp (pl tp k + j) ≤ 122) → (val 256 (fun j => bt tp (pl tp i + j) - 0) l = val 256 (fun j => bt tp (pl tp k + j) - 0) m ↔ val 32 (fun j => bt tp (pl tp i + j) - 96) l = val 32 (fun j => bt tp (pl tp k + j) - 96) m) := by
    intro l m a b
    have vc : ∀ (B off : Nat) (p q : Nat) (l : Nat), (∀ j, j < l → bt tp (p + j) = bt tp (q + j)) → val B (fun j => bt tp (p + j) - off) l = val B (fun j => bt tp (q + j) - off) l := by
      intro B off p q l
      induction l with
      | zero => intro _; rfl
      | succ l ih =>
        intro h
        simp only [val]
        rw [ih (fun j hj => h j (by omega)), h l (by omega)]
    constructor
    · intro e
      obtain ⟨e1, e2⟩ := val_inj l m (fun j hj => by have := a j hj; omega) (fun j hj => by have := b j hj; omega) e
      subst e1
      exact vc 32 96 _ _ l (fun j hj => by have := e2 j hj; simpa using this)
    · intro e
      obtain ⟨e1, e2⟩ := val_inj l m (fun j hj => by have := a j hj; omega) (fun j hj => by have := b j hj; omega) e
      subst e1
      exact vc 256 0 _ _ l (fun j hj => by
        have := e2 j hj
        have q1 := a j hj
        have q2 := b j hj
        omega)
  exact key _ _ a b
abbrev jN (x : Nat) : Int64 := Int64.ofNat x
theorem jN_b {b : Nat} (hb : b < 256) : (nI b).toInt64 = jN b := by
  apply Int64.toInt_inj.mp
  rw [Int32.toInt_toInt64, nI_toInt (by omega), Int64.toInt_ofNat_of_lt (by omega)]
theorem jN_inj {x y : Nat} (hx : x < 2 ^ 63) (hy : y < 2 ^ 63) : jN x = jN y ↔ x = y := by
  constructor
  · intro h
    have := congrArg Int64.toInt h
    rw [Int64.toInt_ofNat_of_lt hx, Int64.toInt_ofNat_of_lt hy] at this
    omega
  · intro h; rw [h]
theorem jN_w {v b : Nat} (hb : 97 ≤ b ∧ b < 256) : jN v * 32 + jN b - 97 + 1 = jN (v * 32 + (b - 96)) := by
  have h1 : jN v * 32 = jN (v * 32) := (Int64.ofNat_mul v 32).symm
  have h2 : jN (v * 32) + jN b = jN (v * 32 + b) := (Int64.ofNat_add _ _).symm
  have h3 : jN (v * 32 + b) - 97 = jN (v * 32 + b - 97) := (Int64.ofNat_sub _ 97 (by omega)).symm
  have h4 : jN (v * 32 + b - 97) + 1 = jN (v * 32 + b - 97 + 1) := (Int64.ofNat_add _ 1).symm
  rw [h1, h2, h3, h4]
  congr 1
  omega
theorem wvl_lt (tp : List Nat) (p : Nat) : ∀ d, (∀ j, j < d → 97 ≤ bt tp (p + j) ∧ bt tp (p + j) ≤ 122) → wvl 32 96 tp p d < 32 ^ d := by
  intro d
  induction d with
  | zero => intro _; exact Nat.one_pos
  | succ d ih =>
    intro h
    have h1 := ih (fun j hj => h j (by omega))
    have h2 := h d (by omega)
    show wvl 32 96 tp p d * 32 + (bt tp (p + d) - 96) < 32 ^ (d + 1)
    rw [Nat.pow_succ]; omega
theorem w32_lt (tp : List Nat) {i : Nat} (h : kn tp i = 3) : w32 tp i < 2 ^ 63 := by
  obtain ⟨h1, h2, h3, h4, -⟩ := let_tok tp (Or.inl h)
  have := wvl_lt tp (pl tp i) (en tp i - pl tp i) (let_all tp (Or.inl h))
  have h10 : 32 ^ (en tp i - pl tp i) ≤ 32 ^ 8 := Nat.pow_le_pow_right (by decide) h3
  unfold w32
  omega
section LineC
variable {n : Nat} {I : Nat → Nat → Int32} {tp : List Nat}
set_option maxHeartbeats 4000000 in
theorem p_wordFrom (hn : 300 < n) (J : Nat → Nat → Int64) (f : Nat) (h : TxC I tp) {i : Nat} (hk : kn tp i = 3) : FX9_wordFrom n [.ref 26, .int (nI (pl tp i))] (mm I J f) = some (some (.long (jN (w32 tp i))), mm I J f) := by
  obtain ⟨h1, h2, h3, h4, -⟩ := let_tok tp (Or.inl hk)
  have hl := h.2.1
  have hall := let_all tp (Or.inl hk)
  obtain ⟨g1, g2, g3, g4⟩ := lt_run tp (show pl tp i ≤ tp.length by omega)
  rw [← h2] at g2 g3 g4
  obtain ⟨m, hm⟩ : ∃ m, en tp i = pl tp i + m := ⟨en tp i - pl tp i, by omega⟩
  rw [hm, Nat.add_sub_cancel_left] at hall
  have hm8 : m ≤ 8 := by omega
  have ev : w32 tp i = wvl 32 96 tp (pl tp i) m := by unfold w32; rw [hm, Nat.add_sub_cancel_left]
  rw [ev]
  simp only [eX9_wordFrom, kX9_wordFrom_0, x_no, x_cst, x_ldI, x_ldJ, x_ldA, x_stI, x_stJ, x_stA, x_inc, x_bin, x_un, x_i2l, x_bnJ, x_lshl, x_lcmp, x_dup, x_dp2, x_gI, x_gJ, x_gA, x_pI, x_pZ, x_pJ, x_pA, x_c0, x_c2, x_sw, x_cV, x_cS, x_rV, x_rI, x_rZ, x_rJ, x_mm, x_pop, x_dv, x_al, x_as, x_alJ, x_asJ, x_len, msel, mpl, mvr, mnw, List.getElem?_cons_zero, List.getElem?_cons_succ, List.set_cons_zero, List.set_cons_succ, List.length_cons, List.length_nil, List.drop_succ_cons, List.drop_zero, List.take_succ_cons, List.take_zero, List.reverse_cons, List.reverse_nil, List.nil_append, List.cons_append, List.append_nil, List.map_cons, List.map_nil, List.sum_cons, List.sum_nil, Option.toList_some, Option.toList_none, x_bs, Value.category, decide_eq_true_eq, decide_true, decide_false, if_true, if_false, Bool.false_eq_true, and_self, and_true, true_and, true_or, or_true, not_true_eq_false, not_false_eq_true, ↓reduceIte, reduceCtorEq, Nat.reduceEqDiff, Nat.reduceAdd, Nat.reduceSub, Nat.reduceMul, Nat.reduceLT, Nat.reduceLeDiff, Nat.reduceBEq, Nat.le_refl, Nat.zero_le, Nat.lt_irrefl, beq_self_eq_true, Nat.succ_ne_zero, Option.some.injEq, Prod.mk.injEq, Int32.reduceLT, Int32.reduceLE]
  refine mit_for (G := kX9_wordFrom_5 n) (fun j => [some (.ref 26), some (.int (nI (pl tp i))), some (.long (jN (wvl 32 96 tp (pl tp i) j))), none, some (.int (nI j))]) (fun _ => mm I J f) (B := m) (fun j hj r => ?_) (show m < n by omega) (fun r => ?_)
  · have c1 : ¬ (8 : Int32) ≤ nI j := lit_nle (k := 8) rfl (by decide) (by omega)
    have hd := hall j hj
    have q := p_byteAt n J f h (show pl tp i + j < 2 ^ 31 by omega)
    have q2 := p_isLetterC n J f h (show pl tp i + j < 2 ^ 31 by omega)
    have hl1 : isLt (bt tp (pl tp i + j)) = true := by simp [isLt, hd]
    rw [b2i_pos hl1] at q2
    have z10 : ¬ (1 : Int32) = 0 := by decide
    have a1 : jN (wvl 32 96 tp (pl tp i) j) * 32 + jN (bt tp (pl tp i + j)) - 97 + 1 = jN (wvl 32 96 tp (pl tp i) (j + 1)) := jN_w ⟨hd.1, by omega⟩
    simp only [kX9_wordFrom_5, kX9_wordFrom_45, x_no, x_cst, x_ldI, x_ldJ, x_ldA, x_stI, x_stJ, x_stA, x_inc, x_bin, x_un, x_i2l, x_bnJ, x_lshl, x_lcmp, x_dup, x_dp2, x_gI, x_gJ, x_gA, x_pI, x_pZ, x_pJ, x_pA, x_c0, x_c2, x_sw, x_cV, x_cS, x_rV, x_rI, x_rZ, x_rJ, x_mm, x_pop, x_dv, x_al, x_as, x_alJ, x_asJ, x_len, msel, mpl, mvr, mnw, List.getElem?_cons_zero, List.getElem?_cons_succ, List.set_cons_zero, List.set_cons_succ, List.length_cons, List.length_nil, List.drop_succ_cons, List.drop_zero, List.take_succ_cons, List.take_zero, List.reverse_cons, List.reverse_nil, List.nil_append, List.cons_append, List.append_nil, List.map_cons, List.map_nil, List.sum_cons, List.sum_nil, Option.toList_some, Option.toList_none, x_bs, Value.category, decide_eq_true_eq, decide_true, decide_false, if_true, if_false, Bool.false_eq_true, and_self, and_true, true_and, true_or, or_true, not_true_eq_false, not_false_eq_true, ↓reduceIte, reduceCtorEq, Nat.reduceEqDiff, Nat.reduceAdd, Nat.reduceSub, Nat.reduceMul, Nat.reduceLT, Nat.reduceLeDiff, Nat.reduceBEq, Nat.le_refl, Nat.zero_le, Nat.lt_irrefl, beq_self_eq_true, Nat.succ_ne_zero, Option.some.injEq, Prod.mk.injEq, Int32.reduceLT, Int32.reduceLE, c1, nI_add, y_26, q2, z10, q, jN_b (show bt tp (pl tp i + j) < 256 by omega), a1, nI_1]
  · by_cases e : m = 8
    · have c1 : (8 : Int32) ≤ nI m := by rw [e]; decide
      simp only [kX9_wordFrom_5, kX9_wordFrom_51, x_no, x_cst, x_ldI, x_ldJ, x_ldA, x_stI, x_stJ, x_stA, x_inc, x_bin, x_un, x_i2l, x_bnJ, x_lshl, x_lcmp, x_dup, x_dp2, x_gI, x_gJ, x_gA, x_pI, x_pZ, x_pJ, x_pA, x_c0, x_c2, x_sw, x_cV, x_cS, x_rV, x_rI, x_rZ, x_rJ, x_mm, x_pop, x_dv, x_al, x_as, x_alJ, x_asJ, x_len, msel, mpl, mvr, mnw, List.getElem?_cons_zero, List.getElem?_cons_succ, List.set_cons_zero, List.set_cons_succ, List.length_cons, List.length_nil, List.drop_succ_cons, List.drop_zero, List.take_succ_cons, List.take_zero, List.reverse_cons, List.reverse_nil, List.nil_append, List.cons_append, List.append_nil, List.map_cons, List.map_nil, List.sum_cons, List.sum_nil, Option.toList_some, Option.toList_none, x_bs, Value.category, decide_eq_true_eq, decide_true, decide_false, if_true, if_false, Bool.false_eq_true, and_self, and_true, true_and, true_or, or_true, not_true_eq_false, not_false_eq_true, ↓reduceIte, reduceCtorEq, Nat.reduceEqDiff, Nat.reduceAdd, Nat.reduceSub, Nat.reduceMul, Nat.reduceLT, Nat.reduceLeDiff, Nat.reduceBEq, Nat.le_refl, Nat.zero_le, Nat.lt_irrefl, beq_self_eq_true, Nat.succ_ne_zero, Option.some.injEq, Prod.mk.injEq, Int32.reduceLT, Int32.reduceLE, c1]
    · have c1 : ¬ (8 : Int32) ≤ nI m := lit_nle (k := 8) rfl (by decide) (by omega)
      have q2 := p_isLetterC n J f h (show pl tp i + m < 2 ^ 31 by omega)
      rw [hm] at g2
      rw [g2, b2i_neg (by decide)] at q2
      simp only [kX9_wordFrom_5, kX9_wordFrom_51, x_no, x_cst, x_ldI, x_ldJ, x_ldA, x_stI, x_stJ, x_stA, x_inc, x_bin, x_un, x_i2l, x_bnJ, x_lshl, x_lcmp, x_dup, x_dp2, x_gI, x_gJ, x_gA, x_pI, x_pZ, x_pJ, x_pA, x_c0, x_c2, x_sw, x_cV, x_cS, x_rV, x_rI, x_rZ, x_rJ, x_mm, x_pop, x_dv, x_al, x_as, x_alJ, x_asJ, x_len, msel, mpl, mvr, mnw, List.getElem?_cons_zero, List.getElem?_cons_succ, List.set_cons_zero, List.set_cons_succ, List.length_cons, List.length_nil, List.drop_succ_cons, List.drop_zero, List.take_succ_cons, List.take_zero, List.reverse_cons, List.reverse_nil, List.nil_append, List.cons_append, List.append_nil, List.map_cons, List.map_nil, List.sum_cons, List.sum_nil, Option.toList_some, Option.toList_none, x_bs, Value.category, decide_eq_true_eq, decide_true, decide_false, if_true, if_false, Bool.false_eq_true, and_self, and_true, true_and, true_or, or_true, not_true_eq_false, not_false_eq_true, ↓reduceIte, reduceCtorEq, Nat.reduceEqDiff, Nat.reduceAdd, Nat.reduceSub, Nat.reduceMul, Nat.reduceLT, Nat.reduceLeDiff, Nat.reduceBEq, Nat.le_refl, Nat.zero_le, Nat.lt_irrefl, beq_self_eq_true, Nat.succ_ne_zero, Option.some.injEq, Prod.mk.injEq, Int32.reduceLT, Int32.reduceLE, c1, nI_add, y_26, q2]
end LineC
