/-! PURE: lines, and the whole text -/
/-- a car: where its NAME stands, cell, heading, hoot, body -/
abbrev CE : Type := Nat × Nat × Nat × Nat × Nat
/-- sorts of lines told, columns, rows, cars, units, breaks, draw, softens, worth -/
abbrev DR : Type := Nat × Nat × Nat × List CE × Nat × Nat × Nat × List (Nat × Nat) × List (Nat × Nat)
abbrev dt (D : DR) : Nat := D.1
abbrev dC (D : DR) : Nat := D.2.1
abbrev dR (D : DR) : Nat := D.2.2.1
abbrev dc (D : DR) : List CE := D.2.2.2.1
abbrev dU (D : DR) : Nat := D.2.2.2.2.1
abbrev dB (D : DR) : Nat := D.2.2.2.2.2.1
abbrev dd (D : DR) : Nat := D.2.2.2.2.2.2.1
abbrev dF (D : DR) : List (Nat × Nat) := D.2.2.2.2.2.2.2.1
abbrev dW (D : DR) : List (Nat × Nat) := D.2.2.2.2.2.2.2.2
def dr0 : DR := (0, 6, 6, [], 0, 0, 0, [], [])
abbrev EX2 (α : Type) : Type := Except (Nat × Nat) α
def tkK (tp : List Nat) (k i : Nat) : EX2 Nat := if kn tp i = k then .ok (i + 1) else .error (rf tp i)
def tkN (tp : List Nat) (lo hi i : Nat) : EX2 (Nat × Nat) := if kn tp i = 2 then (if lo ≤ nvt tp i ∧ nvt tp i ≤ hi then .ok (nvt tp i, i + 1) else .error (4, pl tp i)) else .error (rf tp i)
def bnd {α β : Type} (x : EX2 α) (g : α → EX2 β) : EX2 β := match x with
  | .error e => .error e
  | .ok a => g a
def strP (tp : List Nat) (i : Nat) (D : DR) : EX2 (Nat × DR) := bnd (tkN tp 1 8 i) fun c => bnd (tkK tp 16 c.2) fun i1 => bnd (tkN tp 1 8 i1) fun r => bnd (tkK tp 4 r.2) fun i2 => .ok (i2, (dt D ||| 1, c.1, r.1, dc D, dU D, dB D, dd D, dF D, dW D))
def bodP (tp : List Nat) (i : Nat) : EX2 (Nat × Nat) := if kn tp i = 21 then tkN tp 0 9 (i + 1) else .ok (1, i)
def celP (tp : List Nat) (i : Nat) (D : DR) : EX2 (Nat × Nat) := bnd (tkN tp 0 (dC D - 1) i) fun x => bnd (tkN tp 0 (dR D - 1) x.2) fun y => if (dc D).any (fun e => decide (e.2.1 = y.1 * dC D + x.1)) = true then .error (3, pl tp x.2) else .ok (y.1 * dC D + x.1, y.2)
def namP (tp : List Nat) (i : Nat) (D : DR) : EX2 Nat := if kn tp i = 3 then (if (dc D).any (fun e => decide (wvt tp e.1 = wvt tp i)) = true then .error (3, pl tp i) else .ok (i + 1)) else .error (rf tp i)
def carP (tp : List Nat) (i : Nat) (D : DR) : EX2 (Nat × DR) := bnd (namP tp i D) fun i1 => bnd (tkK tp 18 i1) fun i2 => bnd (celP tp i2 D) fun p => bnd (tkK tp 19 p.2) fun i3 => bnd (tkN tp 0 3 i3) fun h => bnd (tkK tp 20 h.2) fun i4 => bnd (tkN tp 0 99 i4) fun o => bnd (bodP tp o.2) fun b => bnd (tkK tp 4 b.2) fun i5 => .ok (i5, (dt D ||| 4, dC D, dR D, dc D ++ [(i, p.1, h.1, o.1, b.1)], dU D, dB D, dd D, dF D, dW D))
def fomP (tp : List Nat) (i : Nat) (U : Nat) : EX2 (Nat × Nat × List (Nat × Nat)) := match pP tp U 80 0 0 (i, 0, []) with
  | .error j => .error (rf tp j)
  | .ok s => bnd (tkK tp 4 s.1) fun i1 => .ok (i1, s.2.1, s.2.2)
def lineP (tp : List Nat) (i : Nat) (D : DR) : EX2 (Nat × DR) :=
  if kn tp i = 15 then (if dt D = 0 then strP tp (i + 1) D else .error (rf tp i))
  else if kn tp i = 17 then (if (dc D).length < 8 then carP tp (i + 1) D else .error (rf tp i))
  else if kn tp i = 22 then (if (dt D).testBit 7 = true then .error (rf tp i) else bnd (fomP tp (i + 1) (dU D)) fun s => .ok (s.1, (dt D ||| 128, dC D, dR D, dc D, dU D + s.2.1, dB D, dd D, s.2.2, dW D)))
  else if kn tp i = 23 then (if (dt D).testBit 8 = true then .error (rf tp i) else bnd (fomP tp (i + 1) (dU D)) fun s => .ok (s.1, (dt D ||| 256, dC D, dR D, dc D, dU D + s.2.1, dB D, dd D, dF D, s.2.2)))
  else if kn tp i = 24 then (if (dt D).testBit 9 = true then .error (rf tp i) else bnd (tkN tp 0 100 (i + 1)) fun v => bnd (tkK tp 4 v.2) fun i1 => .ok (i1, (dt D ||| 512, dC D, dR D, dc D, dU D, v.1, dd D, dF D, dW D)))
  else if kn tp i = 25 then (if (dt D).testBit 10 = true then .error (rf tp i) else bnd (tkN tp 0 999 (i + 1)) fun v => bnd (tkK tp 4 v.2) fun i1 => .ok (i1, (dt D ||| 1024, dC D, dR D, dc D, dU D, dB D, v.1, dF D, dW D)))
  else .error (rf tp i)
def readP (tp : List Nat) : Nat → Nat → DR → EX2 DR
  | 0, _, _ => .error (0, 0)
  | f + 1, i, D => if kn tp i = 0 then .ok D else bnd (lineP tp i D) fun q => readP tp f q.1 q.2
/-- what a draft holds -/
def DOK (D : DR) : Prop := dt D < 2048 ∧ (1 ≤ dC D ∧ dC D ≤ 8) ∧ (1 ≤ dR D ∧ dR D ≤ 8) ∧ (dc D).length ≤ 8 ∧ (∀ e ∈ dc D, e.2.1 < dC D * dR D ∧ e.2.2.1 < 4 ∧ e.2.2.2.1 ≤ 99 ∧ e.2.2.2.2 ≤ 9) ∧ dU D ≤ 60 ∧ dB D ≤ 100 ∧ dd D ≤ 999 ∧ (wff (dF D) ∧ wff (dW D)) ∧ (dF D).length + (dW D).length ≤ 9 * dU D ∧ ((dt D).testBit 7 = decide (¬ dF D = []) ∧ (dt D).testBit 8 = decide (¬ dW D = [])) ∧ (dF D).length ≤ 270 ∧ (dW D).length ≤ 270 ∧ (dt D = 0 → dc D = [])
theorem or_bits : ∀ t, t < 2048 → (t ||| 1 < 2048 ∧ t ||| 4 < 2048 ∧ t ||| 128 < 2048 ∧ t ||| 256 < 2048 ∧ t ||| 512 < 2048 ∧ t ||| 1024 < 2048) ∧ ((t ||| 1).testBit 7 = t.testBit 7 ∧ (t ||| 1).testBit 8 = t.testBit 8 ∧ (t ||| 4).testBit 7 = t.testBit 7 ∧ (t ||| 4).testBit 8 = t.testBit 8) ∧ ((t ||| 128).testBit 7 = true ∧ (t ||| 128).testBit 8 = t.testBit 8 ∧ (t ||| 256).testBit 7 = t.testBit 7 ∧ (t ||| 256).testBit 8 = true) ∧ ((t ||| 512).testBit 7 = t.testBit 7 ∧ (t ||| 512).testBit 8 = t.testBit 8 ∧ (t ||| 1024).testBit 7 = t.testBit 7 ∧ (t ||| 1024).testBit 8 = t.testBit 8) ∧ (¬ t ||| 1 = 0 ∧ ¬ t ||| 4 = 0 ∧ ¬ t ||| 128 = 0 ∧ ¬ t ||| 256 = 0 ∧ ¬ t ||| 512 = 0 ∧ ¬ t ||| 1024 = 0) := by decide +kernel
theorem bnd_ok {α β : Type} {x : EX2 α} {g : α → EX2 β} {b : β} (h : bnd x g = .ok b) : ∃ a, x = .ok a ∧ g a = .ok b := by
  cases x with
  | error e => cases h
  | ok a => exact ⟨a, rfl, h⟩
theorem tkK_ok {tp : List Nat} {k i i' : Nat} (hk : 2 ≤ k) (hz : i ≤ zl tp) (h : tkK tp k i = .ok i') : i' = i + 1 ∧ i' ≤ zl tp ∧ kn tp i = k := by
  unfold tkK at h
  split at h
  · rename_i e
    cases h
    exact ⟨rfl, zl_next tp hz (by omega), e⟩
  · cases h
theorem tkN_ok {tp : List Nat} {lo hi i : Nat} {p : Nat × Nat} (hz : i ≤ zl tp) (h : tkN tp lo hi i = .ok p) : p.2 = i + 1 ∧ p.2 ≤ zl tp ∧ lo ≤ p.1 ∧ p.1 ≤ hi ∧ kn tp i = 2 ∧ p.1 = nvt tp i := by
  unfold tkN at h
  split at h
  · rename_i e
    split at h
    · rename_i e2
      cases h
      exact ⟨rfl, zl_next tp hz (by omega), e2.1, e2.2, e, rfl⟩
    · cases h
  · cases h
theorem fomP_ok {tp : List Nat} {i U : Nat} {s : Nat × Nat × List (Nat × Nat)} (hz : i ≤ zl tp) (hU : U ≤ 60) (h : fomP tp i U = .ok s) : i < s.1 ∧ s.1 ≤ zl tp ∧ U + s.2.1 ≤ 60 ∧ s.2.1 ≤ 30 ∧ s.2.2.length + 1 ≤ 9 * s.2.1 ∧ wfd s.2.2 0 ∧ ¬ s.2.2 = [] := by
  unfold fomP at h
  cases hq : pP tp U 80 0 0 (i, 0, []) with
  | error j => rw [hq] at h; cases h
  | ok s1 =>
    rw [hq] at h
    obtain ⟨i1, h1, h2⟩ := bnd_ok h
    obtain ⟨b1, b2, b3, b4, b5, b6, x, b7, b8⟩ := pP_ok tp U 80 0 0 _ _ (by decide) hz (Nat.zero_le _) hq
    simp only [List.nil_append, List.length_nil, Nat.zero_add, Nat.sub_zero] at b1 b3 b6 b7 b8
    obtain ⟨k1, k2, -⟩ := tkK_ok (by decide) b2 h1
    cases h2
    have hw := b8 [] 0 (by omega) rfl
    rw [List.append_nil, ← b7] at hw
    refine ⟨by simp only; omega, k2, b5, b4, b6, hw, fun e => ?_⟩
    simp only at e
    rw [e] at hw
    cases hw
theorem cell_lt {C R x y : Nat} (hx : x ≤ C - 1) (hy : y ≤ R - 1) (hC : 1 ≤ C) (hR : 1 ≤ R) : y * C + x < C * R := by
  have h1 : y * C ≤ (R - 1) * C := Nat.mul_le_mul_right _ hy
  have h2 : (R - 1) * C + C = C * R := by rw [← Nat.succ_mul, Nat.mul_comm]; congr 1; omega
  omega
theorem lineP_ok {tp : List Nat} {i : Nat} {D : DR} {q : Nat × DR} (hD : DOK D) (hz : i ≤ zl tp) (h : lineP tp i D = .ok q) : i < q.1 ∧ q.1 ≤ zl tp ∧ DOK q.2 := by
  obtain ⟨d1, d2, d3, d4, d5, d6, d7, d8, d9, d10, d11, d12, d13, d14⟩ := hD
  obtain ⟨o1, o2, o3, o4, o5⟩ := or_bits (dt D) d1
  unfold lineP at h
  split at h
  · rename_i e
    have hz1 := zl_next tp hz (by omega)
    split at h
    · rename_i e0
      unfold strP at h
      obtain ⟨c, h1, h⟩ := bnd_ok h
      obtain ⟨i1, h2, h⟩ := bnd_ok h
      obtain ⟨r, h3, h⟩ := bnd_ok h
      obtain ⟨i2, h4, h⟩ := bnd_ok h
      obtain ⟨a1, a2, a3, a4, -⟩ := tkN_ok hz1 h1
      obtain ⟨b1, b2, -⟩ := tkK_ok (by decide) a2 h2
      obtain ⟨c1, c2, c3, c4, -⟩ := tkN_ok b2 h3
      obtain ⟨e1, e2, -⟩ := tkK_ok (by decide) c2 h4
      cases h
      refine ⟨by simp only; omega, e2, o1.1, ⟨a3, a4⟩, ⟨c3, c4⟩, d4, fun z hz => ?_, d6, d7, d8, d9, d10, ⟨o2.1.trans d11.1, o2.2.1.trans d11.2⟩, d12, d13, fun z => absurd z o5.1⟩
      have hz : z ∈ dc D := hz
      rw [d14 e0] at hz; simp at hz
    · cases h
  split at h
  · rename_i e
    have hz1 := zl_next tp hz (by omega)
    split at h
    · rename_i e0
      unfold carP at h
      obtain ⟨i1, h1, h⟩ := bnd_ok h
      obtain ⟨i2, h2, h⟩ := bnd_ok h
      obtain ⟨p, h3, h⟩ := bnd_ok h
      obtain ⟨i3, h4, h⟩ := bnd_ok h
      obtain ⟨hh, h5, h⟩ := bnd_ok h
      obtain ⟨i4, h6, h⟩ := bnd_ok h
      obtain ⟨oo, h7, h⟩ := bnd_ok h
      obtain ⟨bb, h8, h⟩ := bnd_ok h
      obtain ⟨i5, h9, h⟩ := bnd_ok h
      have a1 : i1 = i + 1 + 1 ∧ i1 ≤ zl tp := by
        unfold namP at h1
        split at h1
        · rename_i e3
          split at h1
          · cases h1
          · cases h1
            exact ⟨rfl, zl_next tp hz1 (by omega)⟩
        · cases h1
      obtain ⟨b1, b2, -⟩ := tkK_ok (by decide) a1.2 h2
      have c1 : i2 < p.2 ∧ p.2 ≤ zl tp ∧ p.1 < dC D * dR D := by
        unfold celP at h3
        obtain ⟨x, g1, h3⟩ := bnd_ok h3
        obtain ⟨y, g2, h3⟩ := bnd_ok h3
        obtain ⟨x1, x2, x3, x4, -⟩ := tkN_ok b2 g1
        obtain ⟨y1, y2, y3, y4, -⟩ := tkN_ok x2 g2
        split at h3
        · cases h3
        · cases h3
          exact ⟨by simp only; omega, y2, cell_lt x4 y4 d2.1 d3.1⟩
      obtain ⟨e1, e2, -⟩ := tkK_ok (by decide) c1.2.1 h4
      obtain ⟨f1, f2, f3, f4, -⟩ := tkN_ok e2 h5
      obtain ⟨g1, g2, -⟩ := tkK_ok (by decide) f2 h6
      obtain ⟨k1, k2, k3, k4, -⟩ := tkN_ok g2 h7
      have m1 : oo.2 ≤ bb.2 ∧ bb.2 ≤ zl tp ∧ bb.1 ≤ 9 := by
        unfold bodP at h8
        split at h8
        · rename_i e3
          obtain ⟨w1, w2, w3, w4, -⟩ := tkN_ok (zl_next tp k2 (by omega)) h8
          omega
        · cases h8
          exact ⟨Nat.le_refl _, k2, (show 1 ≤ 9 by decide)⟩
      obtain ⟨n1, n2, -⟩ := tkK_ok (by decide) m1.2.1 h9
      cases h
      refine ⟨by simp only; omega, n2, o1.2.1, d2, d3, (by show (dc D ++ [(i + 1, p.1, hh.1, oo.1, bb.1)]).length ≤ 8; rw [List.length_append]; simp only [List.length_cons, List.length_nil]; omega), fun z hz => ?_, d6, d7, d8, d9, d10, ⟨o2.2.2.1.trans d11.1, o2.2.2.2.trans d11.2⟩, d12, d13, fun z => absurd z o5.2.1⟩
      rcases List.mem_append.mp hz with hz | hz
      · exact d5 z hz
      · simp only [List.mem_singleton] at hz
        subst hz
        exact ⟨c1.2.2, by simp only; omega, k4, m1.2.2⟩
    · cases h
  split at h
  · rename_i e
    have hz1 := zl_next tp hz (by omega)
    split at h
    · cases h
    · rename_i e0
      obtain ⟨s, h1, h⟩ := bnd_ok h
      obtain ⟨f1, f2, f3, f4, f5, f6, f7⟩ := fomP_ok hz1 d6 h1
      have hF : dF D = [] := by
        have := d11.1
        cases ht : (dt D).testBit 7
        · rw [ht] at this
          exact Classical.byContradiction (fun z => by simp [z] at this)
        · exact absurd ht e0
      rw [hF] at d10
      cases h
      refine ⟨by simp only; omega, f2, o1.2.2.1, d2, d3, d4, d5, f3, d7, d8, ⟨Or.inr f6, d9.2⟩, ?_, ⟨by rw [o3.1]; simp only; rw [decide_eq_true f7], o3.2.1.trans d11.2⟩, ?_, d13, fun z => absurd z o5.2.2.1⟩
      · show s.2.2.length + (dW D).length ≤ 9 * (dU D + s.2.1)
        simp only [List.length_nil] at d10
        omega
      · show s.2.2.length ≤ 270
        omega
  split at h
  · rename_i e
    have hz1 := zl_next tp hz (by omega)
    split at h
    · cases h
    · rename_i e0
      obtain ⟨s, h1, h⟩ := bnd_ok h
      obtain ⟨f1, f2, f3, f4, f5, f6, f7⟩ := fomP_ok hz1 d6 h1
      have hW : dW D = [] := by
        have := d11.2
        cases ht : (dt D).testBit 8
        · rw [ht] at this
          exact Classical.byContradiction (fun z => by simp [z] at this)
        · exact absurd ht e0
      rw [hW] at d10
      cases h
      refine ⟨by simp only; omega, f2, o1.2.2.2.1, d2, d3, d4, d5, f3, d7, d8, ⟨d9.1, Or.inr f6⟩, ?_, ⟨o3.2.2.1.trans d11.1, by rw [o3.2.2.2]; simp only; rw [decide_eq_true f7]⟩, d12, ?_, fun z => absurd z o5.2.2.2.1⟩
      · show (dF D).length + s.2.2.length ≤ 9 * (dU D + s.2.1)
        simp only [List.length_nil] at d10
        omega
      · show s.2.2.length ≤ 270
        omega
  split at h
  · rename_i e
    have hz1 := zl_next tp hz (by omega)
    split at h
    · cases h
    · obtain ⟨v, h1, h⟩ := bnd_ok h
      obtain ⟨i1, h2, h⟩ := bnd_ok h
      obtain ⟨a1, a2, a3, a4, -⟩ := tkN_ok hz1 h1
      obtain ⟨b1, b2, -⟩ := tkK_ok (by decide) a2 h2
      cases h
      exact ⟨by simp only; omega, b2, o1.2.2.2.2.1, d2, d3, d4, d5, d6, a4, d8, d9, d10, ⟨o4.1.trans d11.1, o4.2.1.trans d11.2⟩, d12, d13, fun z => absurd z o5.2.2.2.2.1⟩
  split at h
  · rename_i e
    have hz1 := zl_next tp hz (by omega)
    split at h
    · cases h
    · obtain ⟨v, h1, h⟩ := bnd_ok h
      obtain ⟨i1, h2, h⟩ := bnd_ok h
      obtain ⟨a1, a2, a3, a4, -⟩ := tkN_ok hz1 h1
      obtain ⟨b1, b2, -⟩ := tkK_ok (by decide) a2 h2
      cases h
      exact ⟨by simp only; omega, b2, o1.2.2.2.2.2, d2, d3, d4, d5, d6, d7, a4, d9, d10, ⟨o4.2.2.1.trans d11.1, o4.2.2.2.trans d11.2⟩, d12, d13, fun z => absurd z o5.2.2.2.2.2⟩
  · cases h
theorem DOK0 : DOK dr0 := ⟨by decide, by decide, by decide, by decide, fun e he => absurd (show e ∈ ([] : List CE) from he) (by simp), by decide, by decide, by decide, ⟨Or.inl rfl, Or.inl rfl⟩, by decide, ⟨rfl, rfl⟩, by decide, by decide, fun _ => rfl⟩
/-- the told of a draft -/
def mkS (D : DR) : SA := (fun j => ((dc D)[j]?).map (fun e => e.2.1), fun j => ((dc D)[j]?.map (fun e => e.2.2.1)).getD 0, fun j => ((dc D)[j]?.map (fun e => e.2.2.2.1)).getD 0, fun j => ((dc D)[j]?.map (fun e => e.2.2.2.2)).getD 0, 0, dd D)
def mkT (D : DR) : TA := ((dc D).length, dC D, dR D, dB D, dU D, dF D, dW D, mkS D)
theorem mkT_rg {D : DR} (h : DOK D) : TRg (mkT D) ∧ SOk (mkT D) (mkS D) := by
  obtain ⟨d1, d2, d3, d4, d5, d6, d7, d8, d9, d10, d11, d12, d13, d14⟩ := h
  have hs : SRg (dc D).length (dC D * dR D) (mkS D) := by
    refine ⟨fun j hj => ?_, (by decide : 0 ≤ 2000), d8⟩
    have hm : (dc D)[j]? = some (dc D)[j] := List.getElem?_eq_getElem hj
    obtain ⟨g1, g2, g3, g4⟩ := d5 _ (List.getElem_mem hj)
    refine ⟨fun p hp => ?_, ?_, ?_, ?_⟩
    · simp only [mkS, scl, hm, Option.map_some, Option.some.injEq] at hp
      omega
    · simp only [mkS, shd, hm, Option.map_some, Option.getD_some]; exact g2
    · simp only [mkS, sho, hm, Option.map_some, Option.getD_some]; exact g3
    · simp only [mkS, sbo, hm, Option.map_some, Option.getD_some]; exact g4
  refine ⟨⟨d4, d2, d3, d7, d6, hs, rfl, d9.1, d9.2, fun j hj => ?_⟩, hs, (by decide : 0 ≤ 999)⟩
  have hj : j < (dc D).length := hj
  have hm : (dc D)[j]? = some (dc D)[j] := List.getElem?_eq_getElem hj
  show ((dc D)[j]?.map (fun e => e.2.1)).isSome = true
  rw [hm]; rfl
