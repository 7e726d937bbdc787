/-! PURE: what the class's memory holds -/
def sa0 : SA := (fun _ => none, fun _ => 0, fun _ => 0, fun _ => 0, 0, 0)
/-- a street with its ranges, a year at most 999 -/
def SOk (T : TA) (S : SA) : Prop := SRg (tk T) (tC T * tR T) S ∧ syr S ≤ 999
def HiC (I : Nat → Nat → Int32) (T : TA) (H : List SA) (now : Nat) : Prop := now < H.length ∧ H.length ≤ 41 ∧ I 44 2 = nI now ∧ I 44 3 = nI (H.length - 1) ∧ ∀ i, i < H.length → SvC I 45 (34 * i) (tk T) (H.getD i sa0) ∧ SOk T (H.getD i sa0)
def BxC (I : Nat → Nat → Int32) (T : TA) (Bx : Nat → Option SA) : Prop := ∀ b, b < 3 → match Bx b with
  | none => I 59 b = 0
  | some S => I 59 b = 1 ∧ SvC I 58 (34 * b) (tk T) S ∧ SOk T S
def TpC (I : Nat → Nat → Int32) (tp : List Nat) : Prop := I 0 1 = nI tp.length ∧ tp.length ≤ 1600 ∧ ∀ i, i < tp.length → I 1 i = nI (tp.getD i 0) ∧ tp.getD i 0 < 256
def FtC (I : Nat → Nat → Int32) (fk : Nat) (fp : Option Nat) : Prop := I 24 11 = nI fk ∧ I 24 12 = oc fp
/-- told, street, history and where in it, what lies, what is heard, the time, boxes, tape, fault -/
abbrev AS : Type := TA × SA × List SA × Nat × List Int32 × List HE × Nat × (Nat → Option SA) × List Nat × Nat × Option Nat
abbrev aT (A : AS) : TA := A.1
abbrev aS (A : AS) : SA := A.2.1
abbrev aH (A : AS) : List SA := A.2.2.1
abbrev aN (A : AS) : Nat := A.2.2.2.1
abbrev aL (A : AS) : List Int32 := A.2.2.2.2.1
abbrev aHd (A : AS) : List HE := A.2.2.2.2.2.1
abbrev aTm (A : AS) : Nat := A.2.2.2.2.2.2.1
abbrev aB (A : AS) : Nat → Option SA := A.2.2.2.2.2.2.2.1
abbrev aTp (A : AS) : List Nat := A.2.2.2.2.2.2.2.2.1
abbrev aFk (A : AS) : Nat := A.2.2.2.2.2.2.2.2.2.1
abbrev aFp (A : AS) : Option Nat := A.2.2.2.2.2.2.2.2.2.2
def RC (I : Nat → Nat → Int32) (A : AS) : Prop := SO I 29 (aT A) (aS A) ∧ SOk (aT A) (aS A) ∧ HiC I (aT A) (aH A) (aN A) ∧ RowC I (aL A) ∧ HC I (aT A) (aHd A) (aTm A) ∧ BxC I (aT A) (aB A) ∧ TpC I (aTp A) ∧ FtC I (aFk A) (aFp A)
theorem SvC_of {I I' : Nat → Nat → Int32} {d q k : Nat} {S : SA} (h : SvC I d q k S) (hI : ∀ j, I' d j = I d j) : SvC I' d q k S := by
  obtain ⟨h1, h2, h3⟩ := h
  refine ⟨fun j hj => ?_, ?_, ?_⟩
  · rw [hI, hI, hI, hI]; exact h1 j hj
  · rw [hI]; exact h2
  · rw [hI]; exact h3
theorem HiC_of {I I' : Nat → Nat → Int32} {T : TA} {H : List SA} {now : Nat} (h : HiC I T H now) (hI : ∀ b j, b = 44 ∨ b = 45 → I' b j = I b j) : HiC I' T H now := by
  obtain ⟨h1, h2, h3, h4, h5⟩ := h
  exact ⟨h1, h2, by rw [hI 44 2 (Or.inl rfl)]; exact h3, by rw [hI 44 3 (Or.inl rfl)]; exact h4, fun i hi => ⟨SvC_of (h5 i hi).1 (fun j => hI 45 j (Or.inr rfl)), (h5 i hi).2⟩⟩
theorem BxC_of {I I' : Nat → Nat → Int32} {T : TA} {Bx : Nat → Option SA} (h : BxC I T Bx) (hI : ∀ b j, b = 58 ∨ b = 59 → I' b j = I b j) : BxC I' T Bx := by
  intro b hb
  have h1 := h b hb
  cases e : Bx b with
  | none =>
    rw [e] at h1
    simp only at h1 ⊢
    rw [hI 59 b (Or.inr rfl)]; exact h1
  | some S =>
    rw [e] at h1
    simp only at h1 ⊢
    exact ⟨by rw [hI 59 b (Or.inr rfl)]; exact h1.1, SvC_of h1.2.1 (fun j => hI 58 j (Or.inl rfl)), h1.2.2⟩
theorem TpC_of {I I' : Nat → Nat → Int32} {tp : List Nat} (h : TpC I tp) (hI : ∀ b j, b = 0 ∨ b = 1 → I' b j = I b j) : TpC I' tp := by
  obtain ⟨h1, h2, h3⟩ := h
  exact ⟨by rw [hI 0 1 (Or.inl rfl)]; exact h1, h2, fun i hi => by rw [hI 1 i (Or.inr rfl)]; exact h3 i hi⟩
theorem FtC_of {I I' : Nat → Nat → Int32} {fk : Nat} {fp : Option Nat} (h : FtC I fk fp) (hI : ∀ j, I' 24 j = I 24 j) : FtC I' fk fp := ⟨by rw [hI]; exact h.1, by rw [hI]; exact h.2⟩
theorem HC_of {I I' : Nat → Nat → Int32} {T : TA} {Hd : List HE} {tm : Nat} (h : HC I T Hd tm) (hI : ∀ b j, 46 ≤ b → b ≤ 52 → I' b j = I b j) : HC I' T Hd tm := by
  obtain ⟨h1, h2, ⟨h3, h3b⟩, h4, h5⟩ := h
  refine ⟨h1, by rw [hI 46 6 (by decide) (by decide)]; exact h2, ⟨by rw [hI 46 7 (by decide) (by decide)]; exact h3, h3b⟩, fun i hi => HEC_of (h4 i hi) (fun b j b1 b2 => hI b j (by omega) (by omega)), ?_⟩
  rcases h5 with h | h
  · exact Or.inl (by rw [hI 46 9 (by decide) (by decide)]; exact h)
  · exact Or.inr (fun y z hy hz => by rw [hI 52 _ (by decide) (by decide)]; exact h y z hy hz)
/-- cells that hold nothing from call to call -/
def scr (b : Nat) : Prop := b = 9 ∨ b = 12 ∨ (34 ≤ b ∧ b ≤ 43) ∨ b = 53 ∨ b = 54 ∨ b = 57
theorem RC_of {I I' : Nat → Nat → Int32} {A : AS} (h : RC I A) (hI : ∀ b j, b < 60 → ¬ scr b → I' b j = I b j) : RC I' A := by
  obtain ⟨h1, h2, h3, h4, h5, h6, h7, h8⟩ := h
  exact ⟨SO_fr h1 (fun b j hb => hI b j (by omega) (by unfold scr; omega)), h2, HiC_of h3 (fun b j hb => hI b j (by omega) (by unfold scr; omega)), RowC_of h4 (fun b j hb => hI b j (by omega) (by unfold scr; omega)), HC_of h5 (fun b j b1 b2 => hI b j (by omega) (by unfold scr; omega)), BxC_of h6 (fun b j hb => hI b j (by omega) (by unfold scr; omega)), TpC_of h7 (fun b j hb => hI b j (by omega) (by unfold scr; omega)), FtC_of h8 (fun j => hI 24 j (by omega) (by unfold scr; omega))⟩
def setL (A : AS) (l : List Int32) : AS := (aT A, aS A, aH A, aN A, l, aHd A, aTm A, aB A, aTp A, aFk A, aFp A)
theorem RC_row {I I' : Nat → Nat → Int32} {A : AS} {l : List Int32} (h : RC I A) (hr : RowC I' l) (hI : ∀ b j, b < 60 → ¬ scr b → b ≠ 55 → b ≠ 56 → I' b j = I b j) : RC I' (setL A l) := by
  obtain ⟨h1, h2, h3, h4, h5, h6, h7, h8⟩ := h
  exact ⟨SO_fr h1 (fun b j hb => hI b j (by omega) (by unfold scr; omega) (by omega) (by omega)), h2, HiC_of h3 (fun b j hb => hI b j (by omega) (by unfold scr; omega) (by omega) (by omega)), hr, HC_of h5 (fun b j b1 b2 => hI b j (by omega) (by unfold scr; omega) (by omega) (by omega)), BxC_of h6 (fun b j hb => hI b j (by omega) (by unfold scr; omega) (by omega) (by omega)), TpC_of h7 (fun b j hb => hI b j (by omega) (by unfold scr; omega) (by omega) (by omega)), FtC_of h8 (fun j => hI 24 j (by omega) (by unfold scr; omega) (by omega) (by omega))⟩
def setH (A : AS) (Hd : List HE) (tm : Nat) : AS := (aT A, aS A, aH A, aN A, aL A, Hd, tm, aB A, aTp A, aFk A, aFp A)
theorem RC_hear {I I' : Nat → Nat → Int32} {A : AS} {Hd : List HE} {tm : Nat} (h : RC I A) (hr : HC I' (aT A) Hd tm) (hI : ∀ b j, b < 60 → ¬ scr b → (b < 46 ∨ 52 < b) → I' b j = I b j) : RC I' (setH A Hd tm) := by
  obtain ⟨h1, h2, h3, h4, h5, h6, h7, h8⟩ := h
  exact ⟨SO_fr h1 (fun b j hb => hI b j (by omega) (by unfold scr; omega) (by omega)), h2, HiC_of h3 (fun b j hb => hI b j (by omega) (by unfold scr; omega) (by omega)), RowC_of h4 (fun b j hb => hI b j (by omega) (by unfold scr; omega) (by omega)), hr, BxC_of h6 (fun b j hb => hI b j (by omega) (by unfold scr; omega) (by omega)), TpC_of h7 (fun b j hb => hI b j (by omega) (by unfold scr; omega) (by omega)), FtC_of h8 (fun j => hI 24 j (by omega) (by unfold scr; omega) (by omega))⟩
/-- only the class's cells have changed -/
def lo (I I' : Nat → Nat → Int32) : Prop := ∀ b j, 60 ≤ b → I' b j = I b j
section Tell
variable {n : Nat} {I : Nat → Nat → Int32} {A : AS}
def tellB (A : AS) (y w : Int32) : Bool := decide (0 ≤ y ∧ y < 21) && decide (-9999 ≤ w ∧ w ≤ 9999) && !decide (tk (aT A) = 0) && decide ((aHd A).length < 30)
def aHeard (A : AS) (y w : Int32) : Int32 := if tellB A y w = true then nI (aHd A).length else -1
def sHeard (A : AS) (y w : Int32) (b : Bool) : AS := if tellB A y w = true then setH A (aHd A ++ [(y.toNatClampNeg, w, b, aTm A, none)]) (aTm A) else A
theorem getD_appE {l : List HE} {x : HE} {a : Nat} : (l ++ [x]).getD a he0 = if a = l.length then x else l.getD a he0 := by
  by_cases h : a = l.length
  · subst h; simp
  · rw [if_neg h]
    by_cases h2 : a < l.length
    · simp [List.getElem?_append_left h2]
    · have h3 : l.length ≤ a := by omega
      rw [List.getD_eq_getElem?_getD, List.getD_eq_getElem?_getD, List.getElem?_eq_none (show (l ++ [x]).length ≤ a by simp; omega), List.getElem?_eq_none h3]
set_option maxHeartbeats 8000000 in
theorem c_heard (n : Nat) (J : Nat → Nat → Int64) (f : Nat) (h : RC I A) (y w : Int32) (b : Bool) : ∃ I', FX11_heard n [.ref 0, .int y, .int w, .int (b2i (b = true))] (mm I J f) = some (some (.int (aHeard A y w)), mm I' J f) ∧ RC I' (sHeard A y w b) ∧ lo I I' := by
  have hk8 := h.1.2.1.1
  have e22 : I 2 2 = nI (tk (aT A)) := h.1.2.2.1.1.2.2.1
  obtain ⟨hl, h6, ⟨h7, h7b⟩, hE, hTab⟩ := h.2.2.2.2.1
  by_cases hc : tellB A y w = true
  · simp only [tellB, Bool.and_eq_true, decide_eq_true_eq, Bool.not_eq_true', decide_eq_false_iff_not] at hc
    obtain ⟨⟨⟨⟨y0, y1⟩, w0, w1⟩, hk⟩, hlen⟩ := hc
    have hcB : tellB A y w = true := by simp [tellB, y0, y1, w0, w1, hk, hlen]
    obtain ⟨yn, hyn, rfl⟩ := nI_of (x := y) (Int32.not_lt.mpr y0)
    have hy21 : yn < 21 := by
      rw [show (21 : Int32) = nI 21 from rfl, nI_ltI hyn (by decide)] at y1; exact y1
    refine ⟨u2 (u2 (u2 (u2 (u2 (u2 I 47 (aHd A).length (nI yn)) 48 (aHd A).length w) 49 (aHd A).length (b2i (b = true))) 50 (aHd A).length (nI (aTm A))) 51 (aHd A).length (-1)) 46 6 (nI ((aHd A).length + 1)), ?_, ?_, fun b j hb => by rw [u2_a (by omega), u2_a (by omega), u2_a (by omega), u2_a (by omega), u2_a (by omega), u2_a (by omega)]⟩
    · have c1 : ¬ nI yn < 0 := nI_pos hyn
      have c2 : ¬ (21 : Int32) ≤ nI yn := Int32.not_le.mpr y1
      have c3 : ¬ w < -9999 := Int32.not_lt.mpr w0
      have c4 : ¬ 9999 < w := Int32.not_lt.mpr w1
      have c5 : ¬ nI (tk (aT A)) = 0 := nI_ne0 (by omega) (by omega)
      have c6 : ¬ nI (aHd A).length < 0 := nI_pos (by omega)
      have c7 : nI (aHd A).length < Int32.ofNat 30 := lit_lt (k := 30) rfl (by decide) hlen
      have c8 : (0 : Int32) ≤ nI (aHd A).length := nI_pos' (by omega)
      have c9 : (nI (aHd A).length).toNatClampNeg = (aHd A).length := nI_clamp (by omega)
      have s1 := fun (I' : Nat → Nat → Int32) (v : Int32) => p_setN n 47 (aHd A).length v (mm I' J f) y_47 (by decide) hlen
      have s2 := fun (I' : Nat → Nat → Int32) (v : Int32) => p_setN n 48 (aHd A).length v (mm I' J f) y_48 (by decide) hlen
      have s3 := fun (I' : Nat → Nat → Int32) (v : Int32) => p_setN n 50 (aHd A).length v (mm I' J f) y_50 (by decide) hlen
      have s4 := fun (I' : Nat → Nat → Int32) (v : Int32) => p_setN n 51 (aHd A).length v (mm I' J f) y_51 (by decide) hlen
      have f1 : ∀ (I' : Nat → Nat → Int32) a j x i, a ≠ 46 → u2 I' a j x 46 i = I' 46 i := fun I' a j x i ha => u2_a (Ne.symm ha)
      have t1 : ∀ x y z u v : Int32, u2 (u2 (u2 (u2 (u2 I 47 (aHd A).length x) 48 (aHd A).length y) 49 (aHd A).length z) 50 (aHd A).length u) 51 (aHd A).length v 46 6 = nI (aHd A).length := fun x y z u v => by rw [u2_a (by decide), u2_a (by decide), u2_a (by decide), u2_a (by decide), u2_a (by decide)]; exact h6
      have t2 : ∀ x y z u : Int32, u2 (u2 (u2 (u2 I 47 (aHd A).length x) 48 (aHd A).length y) 49 (aHd A).length z) 50 (aHd A).length u 46 6 = nI (aHd A).length := fun x y z u => by rw [u2_a (by decide), u2_a (by decide), u2_a (by decide), u2_a (by decide)]; exact h6
      have t3 : ∀ x y z : Int32, u2 (u2 (u2 I 47 (aHd A).length x) 48 (aHd A).length y) 49 (aHd A).length z 46 6 = nI (aHd A).length := fun x y z => by rw [u2_a (by decide), u2_a (by decide), u2_a (by decide)]; exact h6
      have t3b : ∀ x y z : Int32, u2 (u2 (u2 I 47 (aHd A).length x) 48 (aHd A).length y) 49 (aHd A).length z 46 7 = nI (aTm A) := fun x y z => by rw [u2_a (by decide), u2_a (by decide), u2_a (by decide)]; exact h7
      have t4 : ∀ x y : Int32, u2 (u2 I 47 (aHd A).length x) 48 (aHd A).length y 46 6 = nI (aHd A).length := fun x y => by rw [u2_a (by decide), u2_a (by decide)]; exact h6
      have t5 : ∀ x : Int32, u2 I 47 (aHd A).length x 46 6 = nI (aHd A).length := fun x => by rw [u2_a (by decide)]; exact h6
      have b1 : b2i (b = true) &&& 1 = b2i (b = true) := by cases b <;> rfl
      have q0 : ¬ (1 : Int32) = 0 := by decide
      have q1 : nI ((aHd A).length + 1) - 1 = nI (aHd A).length := nI_pred _
      have t6 : ∀ (I' : Nat → Nat → Int32) x, u2 I' 46 6 x 46 6 = x := fun I' x => u2_s
      simp only [eX11_heard, kX11_heard_0, eX2_tell, kX2_tell_0, kX2_tell_14, kX2_tell_15, kX2_tell_35, kX2_tell_36, kX2_tell_77, kX2_tell_91, kX2_tell_137, i_cst, i_ldI, i_ldJ, i_ldA, i_stI, i_stJ, i_stA, i_inc, i_bin, i_dv, i_un, i_i2l, i_bnJ, i_lshl, i_lcmp, i_dup, i_dp2, i_gI, i_gJ, i_gA, i_pI, i_pZ, i_pJ, i_pA, i_al, i_as, i_alJ, i_asJ, i_len, i_c0, i_c2, i_sw, msel, i_cV, i_cS, i_rV, i_rI, i_rZ, i_rJ, i_mm, i_pop, i_no, mpl, mvr, mnw, List.getElem?_cons_zero, List.getElem?_cons_succ, List.set_cons_zero, List.set_cons_succ, List.length_cons, List.length_nil, List.drop_succ_cons, List.drop_zero, List.take_succ_cons, List.take_zero, List.reverse_cons, List.reverse_nil, List.nil_append, List.cons_append, List.append_nil, List.map_cons, List.map_nil, List.sum_cons, List.sum_nil, Option.toList_some, Option.toList_none, Option.bind_some, Value.category, decide_eq_true_eq, decide_true, decide_false, if_true, if_false, Bool.false_eq_true, and_self, and_true, true_and, true_or, or_true, not_true_eq_false, not_false_eq_true, ↓reduceIte, reduceCtorEq, Nat.reduceEqDiff, Nat.reduceAdd, Nat.reduceSub, Nat.reduceMul, Nat.reduceLT, Nat.reduceLeDiff, Nat.reduceBEq, Nat.le_refl, Nat.zero_le, Nat.lt_irrefl, beq_self_eq_true, Nat.succ_ne_zero, Option.some.injEq, Prod.mk.injEq, Int32.reduceLT, Int32.reduceLE, y_0, y_46, y_2, y_49, rt_0_10, rt_46_0, rt_46_1, rt_46_2, rt_46_3, rt_46_4, rt_46_5, c1, c2, c3, c4, e22, c5, h6, c6, c7, c8, c9, hlen, s1, s2, s3, s4, uI_mm, t1, t2, t3, t3b, t4, t5, t6, b1, nI_1, q0, q1, aHeard, hcB]
    · have ev : sHeard A (nI yn) w b = setH A (aHd A ++ [(yn, w, b, aTm A, none)]) (aTm A) := by
        unfold sHeard
        rw [if_pos hcB, nI_clamp hyn]
      rw [ev]
      refine RC_hear h ⟨by simp; omega, by rw [u2_s]; simp, ⟨by rw [u2_j (by decide), u2_a (by decide), u2_a (by decide), u2_a (by decide), u2_a (by decide), u2_a (by decide)]; exact h7, h7b⟩, fun i hi => ?_, ?_⟩ (fun c j _ _ hc => by rw [u2_a (by omega), u2_a (by omega), u2_a (by omega), u2_a (by omega), u2_a (by omega), u2_a (by omega)])
      · rw [getD_appE]
        simp only [List.length_append, List.length_cons, List.length_nil] at hi
        by_cases e : i = (aHd A).length
        · subst e
          rw [if_pos rfl]
          refine ⟨⟨?_, hy21⟩, ?_, ?_, ⟨?_, h7b⟩, ?_, fun t ht => by cases ht⟩
          · rw [u2_a (by decide), u2_a (by decide), u2_a (by decide), u2_a (by decide), u2_a (by decide), u2_s]
          · rw [u2_a (by decide), u2_a (by decide), u2_a (by decide), u2_a (by decide), u2_s]
          · rw [u2_a (by decide), u2_a (by decide), u2_a (by decide), u2_s]
          · rw [u2_a (by decide), u2_a (by decide), u2_s]
          · rw [u2_a (by decide), u2_s]; rfl
        · rw [if_neg e]
          obtain ⟨g1, g2, g3, g4, g5⟩ := hE i (by omega)
          have z : ∀ c, 47 ≤ c → c ≤ 51 → ∀ x y z u v w' : Int32, u2 (u2 (u2 (u2 (u2 (u2 I 47 (aHd A).length x) 48 (aHd A).length y) 49 (aHd A).length z) 50 (aHd A).length u) 51 (aHd A).length v) 46 6 w' c i = I c i := fun c hc1 hc2 x y z u v w' => by
            rw [u2_a (by omega), u2_j e, u2_j e, u2_j e, u2_j e, u2_j e]
          refine ⟨?_, ?_, ?_, ?_, ?_⟩ <;> rw [z _ (by decide) (by decide)] <;> assumption
      · rcases hTab with hq | hq
        · exact Or.inl (by rw [u2_j (by decide), u2_a (by decide), u2_a (by decide), u2_a (by decide), u2_a (by decide), u2_a (by decide)]; exact hq)
        · exact Or.inr (fun y z hy hz => by rw [u2_a (by decide), u2_a (by decide), u2_a (by decide), u2_a (by decide), u2_a (by decide), u2_a (by decide)]; exact hq y z hy hz)
  · refine ⟨I, ?_, by unfold sHeard; rw [if_neg hc]; exact h, fun _ _ _ => rfl⟩
    have hv : aHeard A y w = -1 := by unfold aHeard; rw [if_neg hc]
    rw [hv]
    by_cases d1 : y < 0
    · simp only [eX11_heard, kX11_heard_0, eX2_tell, kX2_tell_0, kX2_tell_14, kX2_tell_15, kX2_tell_35, kX2_tell_36, kX2_tell_77, kX2_tell_91, kX2_tell_137, i_cst, i_ldI, i_ldJ, i_ldA, i_stI, i_stJ, i_stA, i_inc, i_bin, i_dv, i_un, i_i2l, i_bnJ, i_lshl, i_lcmp, i_dup, i_dp2, i_gI, i_gJ, i_gA, i_pI, i_pZ, i_pJ, i_pA, i_al, i_as, i_alJ, i_asJ, i_len, i_c0, i_c2, i_sw, msel, i_cV, i_cS, i_rV, i_rI, i_rZ, i_rJ, i_mm, i_pop, i_no, mpl, mvr, mnw, List.getElem?_cons_zero, List.getElem?_cons_succ, List.set_cons_zero, List.set_cons_succ, List.length_cons, List.length_nil, List.drop_succ_cons, List.drop_zero, List.take_succ_cons, List.take_zero, List.reverse_cons, List.reverse_nil, List.nil_append, List.cons_append, List.append_nil, List.map_cons, List.map_nil, List.sum_cons, List.sum_nil, Option.toList_some, Option.toList_none, Option.bind_some, Value.category, decide_eq_true_eq, decide_true, decide_false, if_true, if_false, Bool.false_eq_true, and_self, and_true, true_and, true_or, or_true, not_true_eq_false, not_false_eq_true, ↓reduceIte, reduceCtorEq, Nat.reduceEqDiff, Nat.reduceAdd, Nat.reduceSub, Nat.reduceMul, Nat.reduceLT, Nat.reduceLeDiff, Nat.reduceBEq, Nat.le_refl, Nat.zero_le, Nat.lt_irrefl, beq_self_eq_true, Nat.succ_ne_zero, Option.some.injEq, Prod.mk.injEq, Int32.reduceLT, Int32.reduceLE, y_0, y_46, y_2, rt_0_10, d1]
      by_cases d2 : w < -9999
      · simp only [d2, i_cst, i_ldI, i_ldJ, i_ldA, i_stI, i_stJ, i_stA, i_inc, i_bin, i_dv, i_un, i_i2l, i_bnJ, i_lshl, i_lcmp, i_dup, i_dp2, i_gI, i_gJ, i_gA, i_pI, i_pZ, i_pJ, i_pA, i_al, i_as, i_alJ, i_asJ, i_len, i_c0, i_c2, i_sw, msel, i_cV, i_cS, i_rV, i_rI, i_rZ, i_rJ, i_mm, i_pop, i_no, mpl, mvr, mnw, List.getElem?_cons_zero, List.getElem?_cons_succ, List.set_cons_zero, List.set_cons_succ, List.length_cons, List.length_nil, List.drop_succ_cons, List.drop_zero, List.take_succ_cons, List.take_zero, List.reverse_cons, List.reverse_nil, List.nil_append, List.cons_append, List.append_nil, List.map_cons, List.map_nil, List.sum_cons, List.sum_nil, Option.toList_some, Option.toList_none, Option.bind_some, Value.category, decide_eq_true_eq, decide_true, decide_false, if_true, if_false, Bool.false_eq_true, and_self, and_true, true_and, true_or, or_true, not_true_eq_false, not_false_eq_true, ↓reduceIte, reduceCtorEq, Nat.reduceEqDiff, Nat.reduceAdd, Nat.reduceSub, Nat.reduceMul, Nat.reduceLT, Nat.reduceLeDiff, Nat.reduceBEq, Nat.le_refl, Nat.zero_le, Nat.lt_irrefl, beq_self_eq_true, Nat.succ_ne_zero, Option.some.injEq, Prod.mk.injEq, Int32.reduceLT, Int32.reduceLE]
      · by_cases d3 : 9999 < w
        · simp only [d2, d3, i_cst, i_ldI, i_ldJ, i_ldA, i_stI, i_stJ, i_stA, i_inc, i_bin, i_dv, i_un, i_i2l, i_bnJ, i_lshl, i_lcmp, i_dup, i_dp2, i_gI, i_gJ, i_gA, i_pI, i_pZ, i_pJ, i_pA, i_al, i_as, i_alJ, i_asJ, i_len, i_c0, i_c2, i_sw, msel, i_cV, i_cS, i_rV, i_rI, i_rZ, i_rJ, i_mm, i_pop, i_no, mpl, mvr, mnw, List.getElem?_cons_zero, List.getElem?_cons_succ, List.set_cons_zero, List.set_cons_succ, List.length_cons, List.length_nil, List.drop_succ_cons, List.drop_zero, List.take_succ_cons, List.take_zero, List.reverse_cons, List.reverse_nil, List.nil_append, List.cons_append, List.append_nil, List.map_cons, List.map_nil, List.sum_cons, List.sum_nil, Option.toList_some, Option.toList_none, Option.bind_some, Value.category, decide_eq_true_eq, decide_true, decide_false, if_true, if_false, Bool.false_eq_true, and_self, and_true, true_and, true_or, or_true, not_true_eq_false, not_false_eq_true, ↓reduceIte, reduceCtorEq, Nat.reduceEqDiff, Nat.reduceAdd, Nat.reduceSub, Nat.reduceMul, Nat.reduceLT, Nat.reduceLeDiff, Nat.reduceBEq, Nat.le_refl, Nat.zero_le, Nat.lt_irrefl, beq_self_eq_true, Nat.succ_ne_zero, Option.some.injEq, Prod.mk.injEq, Int32.reduceLT, Int32.reduceLE]
        · simp only [d2, d3, i_cst, i_ldI, i_ldJ, i_ldA, i_stI, i_stJ, i_stA, i_inc, i_bin, i_dv, i_un, i_i2l, i_bnJ, i_lshl, i_lcmp, i_dup, i_dp2, i_gI, i_gJ, i_gA, i_pI, i_pZ, i_pJ, i_pA, i_al, i_as, i_alJ, i_asJ, i_len, i_c0, i_c2, i_sw, msel, i_cV, i_cS, i_rV, i_rI, i_rZ, i_rJ, i_mm, i_pop, i_no, mpl, mvr, mnw, List.getElem?_cons_zero, List.getElem?_cons_succ, List.set_cons_zero, List.set_cons_succ, List.length_cons, List.length_nil, List.drop_succ_cons, List.drop_zero, List.take_succ_cons, List.take_zero, List.reverse_cons, List.reverse_nil, List.nil_append, List.cons_append, List.append_nil, List.map_cons, List.map_nil, List.sum_cons, List.sum_nil, Option.toList_some, Option.toList_none, Option.bind_some, Value.category, decide_eq_true_eq, decide_true, decide_false, if_true, if_false, Bool.false_eq_true, and_self, and_true, true_and, true_or, or_true, not_true_eq_false, not_false_eq_true, ↓reduceIte, reduceCtorEq, Nat.reduceEqDiff, Nat.reduceAdd, Nat.reduceSub, Nat.reduceMul, Nat.reduceLT, Nat.reduceLeDiff, Nat.reduceBEq, Nat.le_refl, Nat.zero_le, Nat.lt_irrefl, beq_self_eq_true, Nat.succ_ne_zero, Option.some.injEq, Prod.mk.injEq, Int32.reduceLT, Int32.reduceLE]
    by_cases d1' : 21 ≤ y
    · simp only [eX11_heard, kX11_heard_0, eX2_tell, kX2_tell_0, kX2_tell_14, kX2_tell_15, kX2_tell_35, kX2_tell_36, kX2_tell_77, kX2_tell_91, kX2_tell_137, i_cst, i_ldI, i_ldJ, i_ldA, i_stI, i_stJ, i_stA, i_inc, i_bin, i_dv, i_un, i_i2l, i_bnJ, i_lshl, i_lcmp, i_dup, i_dp2, i_gI, i_gJ, i_gA, i_pI, i_pZ, i_pJ, i_pA, i_al, i_as, i_alJ, i_asJ, i_len, i_c0, i_c2, i_sw, msel, i_cV, i_cS, i_rV, i_rI, i_rZ, i_rJ, i_mm, i_pop, i_no, mpl, mvr, mnw, List.getElem?_cons_zero, List.getElem?_cons_succ, List.set_cons_zero, List.set_cons_succ, List.length_cons, List.length_nil, List.drop_succ_cons, List.drop_zero, List.take_succ_cons, List.take_zero, List.reverse_cons, List.reverse_nil, List.nil_append, List.cons_append, List.append_nil, List.map_cons, List.map_nil, List.sum_cons, List.sum_nil, Option.toList_some, Option.toList_none, Option.bind_some, Value.category, decide_eq_true_eq, decide_true, decide_false, if_true, if_false, Bool.false_eq_true, and_self, and_true, true_and, true_or, or_true, not_true_eq_false, not_false_eq_true, ↓reduceIte, reduceCtorEq, Nat.reduceEqDiff, Nat.reduceAdd, Nat.reduceSub, Nat.reduceMul, Nat.reduceLT, Nat.reduceLeDiff, Nat.reduceBEq, Nat.le_refl, Nat.zero_le, Nat.lt_irrefl, beq_self_eq_true, Nat.succ_ne_zero, Option.some.injEq, Prod.mk.injEq, Int32.reduceLT, Int32.reduceLE, y_0, y_46, y_2, rt_0_10, d1, d1']
      by_cases d2 : w < -9999
      · simp only [d2, i_cst, i_ldI, i_ldJ, i_ldA, i_stI, i_stJ, i_stA, i_inc, i_bin, i_dv, i_un, i_i2l, i_bnJ, i_lshl, i_lcmp, i_dup, i_dp2, i_gI, i_gJ, i_gA, i_pI, i_pZ, i_pJ, i_pA, i_al, i_as, i_alJ, i_asJ, i_len, i_c0, i_c2, i_sw, msel, i_cV, i_cS, i_rV, i_rI, i_rZ, i_rJ, i_mm, i_pop, i_no, mpl, mvr, mnw, List.getElem?_cons_zero, List.getElem?_cons_succ, List.set_cons_zero, List.set_cons_succ, List.length_cons, List.length_nil, List.drop_succ_cons, List.drop_zero, List.take_succ_cons, List.take_zero, List.reverse_cons, List.reverse_nil, List.nil_append, List.cons_append, List.append_nil, List.map_cons, List.map_nil, List.sum_cons, List.sum_nil, Option.toList_some, Option.toList_none, Option.bind_some, Value.category, decide_eq_true_eq, decide_true, decide_false, if_true, if_false, Bool.false_eq_true, and_self, and_true, true_and, true_or, or_true, not_true_eq_false, not_false_eq_true, ↓reduceIte, reduceCtorEq, Nat.reduceEqDiff, Nat.reduceAdd, Nat.reduceSub, Nat.reduceMul, Nat.reduceLT, Nat.reduceLeDiff, Nat.reduceBEq, Nat.le_refl, Nat.zero_le, Nat.lt_irrefl, beq_self_eq_true, Nat.succ_ne_zero, Option.some.injEq, Prod.mk.injEq, Int32.reduceLT, Int32.reduceLE]
      · by_cases d3 : 9999 < w
        · simp only [d2, d3, i_cst, i_ldI, i_ldJ, i_ldA, i_stI, i_stJ, i_stA, i_inc, i_bin, i_dv, i_un, i_i2l, i_bnJ, i_lshl, i_lcmp, i_dup, i_dp2, i_gI, i_gJ, i_gA, i_pI, i_pZ, i_pJ, i_pA, i_al, i_as, i_alJ, i_asJ, i_len, i_c0, i_c2, i_sw, msel, i_cV, i_cS, i_rV, i_rI, i_rZ, i_rJ, i_mm, i_pop, i_no, mpl, mvr, mnw, List.getElem?_cons_zero, List.getElem?_cons_succ, List.set_cons_zero, List.set_cons_succ, List.length_cons, List.length_nil, List.drop_succ_cons, List.drop_zero, List.take_succ_cons, List.take_zero, List.reverse_cons, List.reverse_nil, List.nil_append, List.cons_append, List.append_nil, List.map_cons, List.map_nil, List.sum_cons, List.sum_nil, Option.toList_some, Option.toList_none, Option.bind_some, Value.category, decide_eq_true_eq, decide_true, decide_false, if_true, if_false, Bool.false_eq_true, and_self, and_true, true_and, true_or, or_true, not_true_eq_false, not_false_eq_true, ↓reduceIte, reduceCtorEq, Nat.reduceEqDiff, Nat.reduceAdd, Nat.reduceSub, Nat.reduceMul, Nat.reduceLT, Nat.reduceLeDiff, Nat.reduceBEq, Nat.le_refl, Nat.zero_le, Nat.lt_irrefl, beq_self_eq_true, Nat.succ_ne_zero, Option.some.injEq, Prod.mk.injEq, Int32.reduceLT, Int32.reduceLE]
        · simp only [d2, d3, i_cst, i_ldI, i_ldJ, i_ldA, i_stI, i_stJ, i_stA, i_inc, i_bin, i_dv, i_un, i_i2l, i_bnJ, i_lshl, i_lcmp, i_dup, i_dp2, i_gI, i_gJ, i_gA, i_pI, i_pZ, i_pJ, i_pA, i_al, i_as, i_alJ, i_asJ, i_len, i_c0, i_c2, i_sw, msel, i_cV, i_cS, i_rV, i_rI, i_rZ, i_rJ, i_mm, i_pop, i_no, mpl, mvr, mnw, List.getElem?_cons_zero, List.getElem?_cons_succ, List.set_cons_zero, List.set_cons_succ, List.length_cons, List.length_nil, List.drop_succ_cons, List.drop_zero, List.take_succ_cons, List.take_zero, List.reverse_cons, List.reverse_nil, List.nil_append, List.cons_append, List.append_nil, List.map_cons, List.map_nil, List.sum_cons, List.sum_nil, Option.toList_some, Option.toList_none, Option.bind_some, Value.category, decide_eq_true_eq, decide_true, decide_false, if_true, if_false, Bool.false_eq_true, and_self, and_true, true_and, true_or, or_true, not_true_eq_false, not_false_eq_true, ↓reduceIte, reduceCtorEq, Nat.reduceEqDiff, Nat.reduceAdd, Nat.reduceSub, Nat.reduceMul, Nat.reduceLT, Nat.reduceLeDiff, Nat.reduceBEq, Nat.le_refl, Nat.zero_le, Nat.lt_irrefl, beq_self_eq_true, Nat.succ_ne_zero, Option.some.injEq, Prod.mk.injEq, Int32.reduceLT, Int32.reduceLE]
    have q0 : ¬ (1 : Int32) = 0 := by decide
    by_cases d2 : w < -9999
    · simp only [eX11_heard, kX11_heard_0, eX2_tell, kX2_tell_0, kX2_tell_14, kX2_tell_15, kX2_tell_35, kX2_tell_36, kX2_tell_77, kX2_tell_91, kX2_tell_137, i_cst, i_ldI, i_ldJ, i_ldA, i_stI, i_stJ, i_stA, i_inc, i_bin, i_dv, i_un, i_i2l, i_bnJ, i_lshl, i_lcmp, i_dup, i_dp2, i_gI, i_gJ, i_gA, i_pI, i_pZ, i_pJ, i_pA, i_al, i_as, i_alJ, i_asJ, i_len, i_c0, i_c2, i_sw, msel, i_cV, i_cS, i_rV, i_rI, i_rZ, i_rJ, i_mm, i_pop, i_no, mpl, mvr, mnw, List.getElem?_cons_zero, List.getElem?_cons_succ, List.set_cons_zero, List.set_cons_succ, List.length_cons, List.length_nil, List.drop_succ_cons, List.drop_zero, List.take_succ_cons, List.take_zero, List.reverse_cons, List.reverse_nil, List.nil_append, List.cons_append, List.append_nil, List.map_cons, List.map_nil, List.sum_cons, List.sum_nil, Option.toList_some, Option.toList_none, Option.bind_some, Value.category, decide_eq_true_eq, decide_true, decide_false, if_true, if_false, Bool.false_eq_true, and_self, and_true, true_and, true_or, or_true, not_true_eq_false, not_false_eq_true, ↓reduceIte, reduceCtorEq, Nat.reduceEqDiff, Nat.reduceAdd, Nat.reduceSub, Nat.reduceMul, Nat.reduceLT, Nat.reduceLeDiff, Nat.reduceBEq, Nat.le_refl, Nat.zero_le, Nat.lt_irrefl, beq_self_eq_true, Nat.succ_ne_zero, Option.some.injEq, Prod.mk.injEq, Int32.reduceLT, Int32.reduceLE, y_0, y_46, y_2, rt_0_10, d1, d1', d2, q0]
    by_cases d3 : 9999 < w
    · simp only [eX11_heard, kX11_heard_0, eX2_tell, kX2_tell_0, kX2_tell_14, kX2_tell_15, kX2_tell_35, kX2_tell_36, kX2_tell_77, kX2_tell_91, kX2_tell_137, i_cst, i_ldI, i_ldJ, i_ldA, i_stI, i_stJ, i_stA, i_inc, i_bin, i_dv, i_un, i_i2l, i_bnJ, i_lshl, i_lcmp, i_dup, i_dp2, i_gI, i_gJ, i_gA, i_pI, i_pZ, i_pJ, i_pA, i_al, i_as, i_alJ, i_asJ, i_len, i_c0, i_c2, i_sw, msel, i_cV, i_cS, i_rV, i_rI, i_rZ, i_rJ, i_mm, i_pop, i_no, mpl, mvr, mnw, List.getElem?_cons_zero, List.getElem?_cons_succ, List.set_cons_zero, List.set_cons_succ, List.length_cons, List.length_nil, List.drop_succ_cons, List.drop_zero, List.take_succ_cons, List.take_zero, List.reverse_cons, List.reverse_nil, List.nil_append, List.cons_append, List.append_nil, List.map_cons, List.map_nil, List.sum_cons, List.sum_nil, Option.toList_some, Option.toList_none, Option.bind_some, Value.category, decide_eq_true_eq, decide_true, decide_false, if_true, if_false, Bool.false_eq_true, and_self, and_true, true_and, true_or, or_true, not_true_eq_false, not_false_eq_true, ↓reduceIte, reduceCtorEq, Nat.reduceEqDiff, Nat.reduceAdd, Nat.reduceSub, Nat.reduceMul, Nat.reduceLT, Nat.reduceLeDiff, Nat.reduceBEq, Nat.le_refl, Nat.zero_le, Nat.lt_irrefl, beq_self_eq_true, Nat.succ_ne_zero, Option.some.injEq, Prod.mk.injEq, Int32.reduceLT, Int32.reduceLE, y_0, y_46, y_2, rt_0_10, d1, d1', d2, d3, q0]
    by_cases d4 : tk (aT A) = 0
    · have e22' : I 2 2 = 0 := by rw [e22, d4]; rfl
      simp only [eX11_heard, kX11_heard_0, eX2_tell, kX2_tell_0, kX2_tell_14, kX2_tell_15, kX2_tell_35, kX2_tell_36, kX2_tell_77, kX2_tell_91, kX2_tell_137, i_cst, i_ldI, i_ldJ, i_ldA, i_stI, i_stJ, i_stA, i_inc, i_bin, i_dv, i_un, i_i2l, i_bnJ, i_lshl, i_lcmp, i_dup, i_dp2, i_gI, i_gJ, i_gA, i_pI, i_pZ, i_pJ, i_pA, i_al, i_as, i_alJ, i_asJ, i_len, i_c0, i_c2, i_sw, msel, i_cV, i_cS, i_rV, i_rI, i_rZ, i_rJ, i_mm, i_pop, i_no, mpl, mvr, mnw, List.getElem?_cons_zero, List.getElem?_cons_succ, List.set_cons_zero, List.set_cons_succ, List.length_cons, List.length_nil, List.drop_succ_cons, List.drop_zero, List.take_succ_cons, List.take_zero, List.reverse_cons, List.reverse_nil, List.nil_append, List.cons_append, List.append_nil, List.map_cons, List.map_nil, List.sum_cons, List.sum_nil, Option.toList_some, Option.toList_none, Option.bind_some, Value.category, decide_eq_true_eq, decide_true, decide_false, if_true, if_false, Bool.false_eq_true, and_self, and_true, true_and, true_or, or_true, not_true_eq_false, not_false_eq_true, ↓reduceIte, reduceCtorEq, Nat.reduceEqDiff, Nat.reduceAdd, Nat.reduceSub, Nat.reduceMul, Nat.reduceLT, Nat.reduceLeDiff, Nat.reduceBEq, Nat.le_refl, Nat.zero_le, Nat.lt_irrefl, beq_self_eq_true, Nat.succ_ne_zero, Option.some.injEq, Prod.mk.injEq, Int32.reduceLT, Int32.reduceLE, y_0, y_46, y_2, rt_0_10, rt_46_0, d1, d1', d2, d3, e22', q0]
    · have d5 : ¬ (aHd A).length < 30 := fun q => hc (by simp [tellB, Int32.not_lt.mp d1, Int32.not_le.mp d1', Int32.not_lt.mp d2, Int32.not_lt.mp d3, d4, q])
      have c5 : ¬ nI (tk (aT A)) = 0 := nI_ne0 (by omega) (by omega)
      have c6 : ¬ nI (aHd A).length < 0 := nI_pos (by omega)
      have c7 : ¬ nI (aHd A).length < Int32.ofNat 30 := lit_nlt (k := 30) rfl (by omega) (by omega)
      simp only [eX11_heard, kX11_heard_0, eX2_tell, kX2_tell_0, kX2_tell_14, kX2_tell_15, kX2_tell_35, kX2_tell_36, kX2_tell_77, kX2_tell_91, kX2_tell_137, i_cst, i_ldI, i_ldJ, i_ldA, i_stI, i_stJ, i_stA, i_inc, i_bin, i_dv, i_un, i_i2l, i_bnJ, i_lshl, i_lcmp, i_dup, i_dp2, i_gI, i_gJ, i_gA, i_pI, i_pZ, i_pJ, i_pA, i_al, i_as, i_alJ, i_asJ, i_len, i_c0, i_c2, i_sw, msel, i_cV, i_cS, i_rV, i_rI, i_rZ, i_rJ, i_mm, i_pop, i_no, mpl, mvr, mnw, List.getElem?_cons_zero, List.getElem?_cons_succ, List.set_cons_zero, List.set_cons_succ, List.length_cons, List.length_nil, List.drop_succ_cons, List.drop_zero, List.take_succ_cons, List.take_zero, List.reverse_cons, List.reverse_nil, List.nil_append, List.cons_append, List.append_nil, List.map_cons, List.map_nil, List.sum_cons, List.sum_nil, Option.toList_some, Option.toList_none, Option.bind_some, Value.category, decide_eq_true_eq, decide_true, decide_false, if_true, if_false, Bool.false_eq_true, and_self, and_true, true_and, true_or, or_true, not_true_eq_false, not_false_eq_true, ↓reduceIte, reduceCtorEq, Nat.reduceEqDiff, Nat.reduceAdd, Nat.reduceSub, Nat.reduceMul, Nat.reduceLT, Nat.reduceLeDiff, Nat.reduceBEq, Nat.le_refl, Nat.zero_le, Nat.lt_irrefl, beq_self_eq_true, Nat.succ_ne_zero, Option.some.injEq, Prod.mk.injEq, Int32.reduceLT, Int32.reduceLE, y_0, y_46, y_2, y_49, rt_0_10, rt_46_0, rt_46_3, d1, d1', d2, d3, e22, c5, h6, c6, c7, q0]
end Tell
