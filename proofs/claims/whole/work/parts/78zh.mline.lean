/-! PURE: the model's lines: what a written cell makes of the draft -/
section MLine
variable {n : Nat} {I I' : Nat → Nat → Int32} {J J' : Nat → Nat → Int64} {tp : List Nat} {i rb lt : Nat} {D : DR}
theorem DrM_dt (h : DrM I J tp rb lt D) {t : Nat} (ht : t / 128 = dt D / 128) : DrM I J tp rb lt (t, D.2) := by
  obtain ⟨h0, h1, h3, h4, h5⟩ := h
  exact ⟨h0, h1, h3, by rw [h4]; show nI (dt D / 128) = nI (t / 128); rw [ht], h5⟩
theorem DrM_63 (h : DrM I J tp rb lt D) (c : Nat) : DrM (u2 I 63 rb (nI c)) J tp rb lt (dt D, c, dR D, dc D, dU D, dB D, dd D, dF D, dW D) := by
  obtain ⟨⟨h1, h2⟩, ⟨a1, a2, a3, a4, a5, a6⟩, ⟨h3, h3'⟩, h4, h5, cq, h6, h7, h8, h9⟩ := h
  refine ⟨⟨h1, by rw [u2_a (by decide)]; exact h2⟩, ⟨u2_s, by rw [u2_a (by decide)]; exact a2, by rw [u2_a (by decide)]; exact a3, by rw [u2_a (by decide)]; exact a4, by rw [u2_a (by decide)]; exact a5, by rw [u2_a (by decide)]; exact a6⟩, ⟨by rw [u2_a (by decide)]; exact h3, by rw [u2_a (by decide)]; exact h3'⟩, by rw [u2_a (by decide)]; exact h4, fun j e he => ?_, cq, by rw [u2_a (by decide)]; exact h6, h7, MFD_of h8 (Nat.le_refl _) (u2_a (by decide)) (u2_a (by decide)) (fun j _ => ⟨u2_a (by decide), u2_a (by decide)⟩), MFD_of h9 (Nat.le_refl _) (u2_a (by decide)) (u2_a (by decide)) (fun j _ => ⟨u2_a (by decide), u2_a (by decide)⟩)⟩
  obtain ⟨c1, c2, c3, c4, c5, c6⟩ := h5 j e he
  exact ⟨c1, c2, by rw [u2_a (by decide)]; exact c3, by rw [u2_a (by decide)]; exact c4, by rw [u2_a (by decide)]; exact c5, by rw [u2_a (by decide)]; exact c6⟩
theorem DrM_64 (h : DrM I J tp rb lt D) (c : Nat) : DrM (u2 I 64 rb (nI c)) J tp rb lt (dt D, dC D, c, dc D, dU D, dB D, dd D, dF D, dW D) := by
  obtain ⟨⟨h1, h2⟩, ⟨a1, a2, a3, a4, a5, a6⟩, ⟨h3, h3'⟩, h4, h5, cq, h6, h7, h8, h9⟩ := h
  refine ⟨⟨h1, by rw [u2_a (by decide)]; exact h2⟩, ⟨by rw [u2_a (by decide)]; exact a1, u2_s, by rw [u2_a (by decide)]; exact a3, by rw [u2_a (by decide)]; exact a4, by rw [u2_a (by decide)]; exact a5, by rw [u2_a (by decide)]; exact a6⟩, ⟨by rw [u2_a (by decide)]; exact h3, by rw [u2_a (by decide)]; exact h3'⟩, by rw [u2_a (by decide)]; exact h4, fun j e he => ?_, cq, by rw [u2_a (by decide)]; exact h6, h7, MFD_of h8 (Nat.le_refl _) (u2_a (by decide)) (u2_a (by decide)) (fun j _ => ⟨u2_a (by decide), u2_a (by decide)⟩), MFD_of h9 (Nat.le_refl _) (u2_a (by decide)) (u2_a (by decide)) (fun j _ => ⟨u2_a (by decide), u2_a (by decide)⟩)⟩
  obtain ⟨c1, c2, c3, c4, c5, c6⟩ := h5 j e he
  exact ⟨c1, c2, by rw [u2_a (by decide)]; exact c3, by rw [u2_a (by decide)]; exact c4, by rw [u2_a (by decide)]; exact c5, by rw [u2_a (by decide)]; exact c6⟩
theorem DrM_68 (h : DrM I J tp rb lt D) (c : Nat) : DrM (u2 I 68 rb (nI c)) J tp rb lt (dt D, dC D, dR D, dc D, dU D, c, dd D, dF D, dW D) := by
  obtain ⟨⟨h1, h2⟩, ⟨a1, a2, a3, a4, a5, a6⟩, ⟨h3, h3'⟩, h4, h5, cq, h6, h7, h8, h9⟩ := h
  refine ⟨⟨h1, by rw [u2_a (by decide)]; exact h2⟩, ⟨by rw [u2_a (by decide)]; exact a1, by rw [u2_a (by decide)]; exact a2, by rw [u2_a (by decide)]; exact a3, by rw [u2_a (by decide)]; exact a4, u2_s, by rw [u2_a (by decide)]; exact a6⟩, ⟨by rw [u2_a (by decide)]; exact h3, by rw [u2_a (by decide)]; exact h3'⟩, by rw [u2_a (by decide)]; exact h4, fun j e he => ?_, cq, by rw [u2_a (by decide)]; exact h6, h7, MFD_of h8 (Nat.le_refl _) (u2_a (by decide)) (u2_a (by decide)) (fun j _ => ⟨u2_a (by decide), u2_a (by decide)⟩), MFD_of h9 (Nat.le_refl _) (u2_a (by decide)) (u2_a (by decide)) (fun j _ => ⟨u2_a (by decide), u2_a (by decide)⟩)⟩
  obtain ⟨c1, c2, c3, c4, c5, c6⟩ := h5 j e he
  exact ⟨c1, c2, by rw [u2_a (by decide)]; exact c3, by rw [u2_a (by decide)]; exact c4, by rw [u2_a (by decide)]; exact c5, by rw [u2_a (by decide)]; exact c6⟩
theorem DrM_69 (h : DrM I J tp rb lt D) (c : Nat) : DrM (u2 I 69 rb (nI c)) J tp rb lt (dt D, dC D, dR D, dc D, dU D, dB D, c, dF D, dW D) := by
  obtain ⟨⟨h1, h2⟩, ⟨a1, a2, a3, a4, a5, a6⟩, ⟨h3, h3'⟩, h4, h5, cq, h6, h7, h8, h9⟩ := h
  refine ⟨⟨h1, by rw [u2_a (by decide)]; exact h2⟩, ⟨by rw [u2_a (by decide)]; exact a1, by rw [u2_a (by decide)]; exact a2, by rw [u2_a (by decide)]; exact a3, by rw [u2_a (by decide)]; exact a4, by rw [u2_a (by decide)]; exact a5, u2_s⟩, ⟨by rw [u2_a (by decide)]; exact h3, by rw [u2_a (by decide)]; exact h3'⟩, by rw [u2_a (by decide)]; exact h4, fun j e he => ?_, cq, by rw [u2_a (by decide)]; exact h6, h7, MFD_of h8 (Nat.le_refl _) (u2_a (by decide)) (u2_a (by decide)) (fun j _ => ⟨u2_a (by decide), u2_a (by decide)⟩), MFD_of h9 (Nat.le_refl _) (u2_a (by decide)) (u2_a (by decide)) (fun j _ => ⟨u2_a (by decide), u2_a (by decide)⟩)⟩
  obtain ⟨c1, c2, c3, c4, c5, c6⟩ := h5 j e he
  exact ⟨c1, c2, by rw [u2_a (by decide)]; exact c3, by rw [u2_a (by decide)]; exact c4, by rw [u2_a (by decide)]; exact c5, by rw [u2_a (by decide)]; exact c6⟩
theorem DrM_65 (h : DrM I J tp rb lt D) (c : Nat) : DrM (u2 I 65 rb (nI c)) J tp rb c D := by
  obtain ⟨⟨h1, h2⟩, ⟨a1, a2, a3, a4, a5, a6⟩, ⟨h3, h3'⟩, h4, h5, cq, h6, h7, h8, h9⟩ := h
  refine ⟨⟨h1, by rw [u2_a (by decide)]; exact h2⟩, ⟨by rw [u2_a (by decide)]; exact a1, by rw [u2_a (by decide)]; exact a2, by rw [u2_a (by decide)]; exact a3, by rw [u2_a (by decide)]; exact a4, by rw [u2_a (by decide)]; exact a5, by rw [u2_a (by decide)]; exact a6⟩, ⟨u2_s, by rw [u2_a (by decide)]; exact h3'⟩, by rw [u2_a (by decide)]; exact h4, fun j e he => ?_, cq, by rw [u2_a (by decide)]; exact h6, h7, MFD_of h8 (Nat.le_refl _) (u2_a (by decide)) (u2_a (by decide)) (fun j _ => ⟨u2_a (by decide), u2_a (by decide)⟩), MFD_of h9 (Nat.le_refl _) (u2_a (by decide)) (u2_a (by decide)) (fun j _ => ⟨u2_a (by decide), u2_a (by decide)⟩)⟩
  obtain ⟨c1, c2, c3, c4, c5, c6⟩ := h5 j e he
  exact ⟨c1, c2, by rw [u2_a (by decide)]; exact c3, by rw [u2_a (by decide)]; exact c4, by rw [u2_a (by decide)]; exact c5, by rw [u2_a (by decide)]; exact c6⟩
theorem DrM_70 (h : DrM I J tp rb lt D) (c : Nat) : DrM (u2 I 70 rb (nI (c / 128))) J tp rb lt (c, dC D, dR D, dc D, dU D, dB D, dd D, dF D, dW D) := by
  obtain ⟨⟨h1, h2⟩, ⟨a1, a2, a3, a4, a5, a6⟩, ⟨h3, h3'⟩, h4, h5, cq, h6, h7, h8, h9⟩ := h
  refine ⟨⟨h1, by rw [u2_a (by decide)]; exact h2⟩, ⟨by rw [u2_a (by decide)]; exact a1, by rw [u2_a (by decide)]; exact a2, by rw [u2_a (by decide)]; exact a3, by rw [u2_a (by decide)]; exact a4, by rw [u2_a (by decide)]; exact a5, by rw [u2_a (by decide)]; exact a6⟩, ⟨by rw [u2_a (by decide)]; exact h3, by rw [u2_a (by decide)]; exact h3'⟩, u2_s, fun j e he => ?_, cq, by rw [u2_a (by decide)]; exact h6, h7, MFD_of h8 (Nat.le_refl _) (u2_a (by decide)) (u2_a (by decide)) (fun j _ => ⟨u2_a (by decide), u2_a (by decide)⟩), MFD_of h9 (Nat.le_refl _) (u2_a (by decide)) (u2_a (by decide)) (fun j _ => ⟨u2_a (by decide), u2_a (by decide)⟩)⟩
  obtain ⟨c1, c2, c3, c4, c5, c6⟩ := h5 j e he
  exact ⟨c1, c2, by rw [u2_a (by decide)]; exact c3, by rw [u2_a (by decide)]; exact c4, by rw [u2_a (by decide)]; exact c5, by rw [u2_a (by decide)]; exact c6⟩
theorem getE_lt {l : List CE} {j : Nat} {e : CE} (h : l[j]? = some e) : j < l.length := by
  rcases Nat.lt_or_ge j l.length with g | g
  · exact g
  · rw [List.getElem?_eq_none g] at h; cases h
theorem DrM_71 (h : DrM I J tp rb lt D) (x : Int32) : DrM (u2 I 71 (8 * rb + (dc D).length) x) J tp rb lt D := by
  obtain ⟨⟨h1, h2⟩, ⟨a1, a2, a3, a4, a5, a6⟩, ⟨h3, h3'⟩, h4, h5, cq, h6, h7, h8, h9⟩ := h
  refine ⟨⟨h1, by rw [u2_a (by decide)]; exact h2⟩, ⟨by rw [u2_a (by decide)]; exact a1, by rw [u2_a (by decide)]; exact a2, by rw [u2_a (by decide)]; exact a3, by rw [u2_a (by decide)]; exact a4, by rw [u2_a (by decide)]; exact a5, by rw [u2_a (by decide)]; exact a6⟩, ⟨by rw [u2_a (by decide)]; exact h3, by rw [u2_a (by decide)]; exact h3'⟩, by rw [u2_a (by decide)]; exact h4, fun j e he => ?_, cq, by rw [u2_a (by decide)]; exact h6, h7, MFD_of h8 (Nat.le_refl _) (u2_a (by decide)) (u2_a (by decide)) (fun j _ => ⟨u2_a (by decide), u2_a (by decide)⟩), MFD_of h9 (Nat.le_refl _) (u2_a (by decide)) (u2_a (by decide)) (fun j _ => ⟨u2_a (by decide), u2_a (by decide)⟩)⟩
  obtain ⟨c1, c2, c3, c4, c5, c6⟩ := h5 j e he
  exact ⟨c1, c2, by rw [u2_j (by have := getE_lt he; omega)]; exact c3, by rw [u2_a (by decide)]; exact c4, by rw [u2_a (by decide)]; exact c5, by rw [u2_a (by decide)]; exact c6⟩
theorem DrM_72 (h : DrM I J tp rb lt D) (x : Int32) : DrM (u2 I 72 (8 * rb + (dc D).length) x) J tp rb lt D := by
  obtain ⟨⟨h1, h2⟩, ⟨a1, a2, a3, a4, a5, a6⟩, ⟨h3, h3'⟩, h4, h5, cq, h6, h7, h8, h9⟩ := h
  refine ⟨⟨h1, by rw [u2_a (by decide)]; exact h2⟩, ⟨by rw [u2_a (by decide)]; exact a1, by rw [u2_a (by decide)]; exact a2, by rw [u2_a (by decide)]; exact a3, by rw [u2_a (by decide)]; exact a4, by rw [u2_a (by decide)]; exact a5, by rw [u2_a (by decide)]; exact a6⟩, ⟨by rw [u2_a (by decide)]; exact h3, by rw [u2_a (by decide)]; exact h3'⟩, by rw [u2_a (by decide)]; exact h4, fun j e he => ?_, cq, by rw [u2_a (by decide)]; exact h6, h7, MFD_of h8 (Nat.le_refl _) (u2_a (by decide)) (u2_a (by decide)) (fun j _ => ⟨u2_a (by decide), u2_a (by decide)⟩), MFD_of h9 (Nat.le_refl _) (u2_a (by decide)) (u2_a (by decide)) (fun j _ => ⟨u2_a (by decide), u2_a (by decide)⟩)⟩
  obtain ⟨c1, c2, c3, c4, c5, c6⟩ := h5 j e he
  exact ⟨c1, c2, by rw [u2_a (by decide)]; exact c3, by rw [u2_j (by have := getE_lt he; omega)]; exact c4, by rw [u2_a (by decide)]; exact c5, by rw [u2_a (by decide)]; exact c6⟩
theorem DrM_73 (h : DrM I J tp rb lt D) (x : Int32) : DrM (u2 I 73 (8 * rb + (dc D).length) x) J tp rb lt D := by
  obtain ⟨⟨h1, h2⟩, ⟨a1, a2, a3, a4, a5, a6⟩, ⟨h3, h3'⟩, h4, h5, cq, h6, h7, h8, h9⟩ := h
  refine ⟨⟨h1, by rw [u2_a (by decide)]; exact h2⟩, ⟨by rw [u2_a (by decide)]; exact a1, by rw [u2_a (by decide)]; exact a2, by rw [u2_a (by decide)]; exact a3, by rw [u2_a (by decide)]; exact a4, by rw [u2_a (by decide)]; exact a5, by rw [u2_a (by decide)]; exact a6⟩, ⟨by rw [u2_a (by decide)]; exact h3, by rw [u2_a (by decide)]; exact h3'⟩, by rw [u2_a (by decide)]; exact h4, fun j e he => ?_, cq, by rw [u2_a (by decide)]; exact h6, h7, MFD_of h8 (Nat.le_refl _) (u2_a (by decide)) (u2_a (by decide)) (fun j _ => ⟨u2_a (by decide), u2_a (by decide)⟩), MFD_of h9 (Nat.le_refl _) (u2_a (by decide)) (u2_a (by decide)) (fun j _ => ⟨u2_a (by decide), u2_a (by decide)⟩)⟩
  obtain ⟨c1, c2, c3, c4, c5, c6⟩ := h5 j e he
  exact ⟨c1, c2, by rw [u2_a (by decide)]; exact c3, by rw [u2_a (by decide)]; exact c4, by rw [u2_j (by have := getE_lt he; omega)]; exact c5, by rw [u2_a (by decide)]; exact c6⟩
theorem DrM_74 (h : DrM I J tp rb lt D) (x : Int32) : DrM (u2 I 74 (8 * rb + (dc D).length) x) J tp rb lt D := by
  obtain ⟨⟨h1, h2⟩, ⟨a1, a2, a3, a4, a5, a6⟩, ⟨h3, h3'⟩, h4, h5, cq, h6, h7, h8, h9⟩ := h
  refine ⟨⟨h1, by rw [u2_a (by decide)]; exact h2⟩, ⟨by rw [u2_a (by decide)]; exact a1, by rw [u2_a (by decide)]; exact a2, by rw [u2_a (by decide)]; exact a3, by rw [u2_a (by decide)]; exact a4, by rw [u2_a (by decide)]; exact a5, by rw [u2_a (by decide)]; exact a6⟩, ⟨by rw [u2_a (by decide)]; exact h3, by rw [u2_a (by decide)]; exact h3'⟩, by rw [u2_a (by decide)]; exact h4, fun j e he => ?_, cq, by rw [u2_a (by decide)]; exact h6, h7, MFD_of h8 (Nat.le_refl _) (u2_a (by decide)) (u2_a (by decide)) (fun j _ => ⟨u2_a (by decide), u2_a (by decide)⟩), MFD_of h9 (Nat.le_refl _) (u2_a (by decide)) (u2_a (by decide)) (fun j _ => ⟨u2_a (by decide), u2_a (by decide)⟩)⟩
  obtain ⟨c1, c2, c3, c4, c5, c6⟩ := h5 j e he
  exact ⟨c1, c2, by rw [u2_a (by decide)]; exact c3, by rw [u2_a (by decide)]; exact c4, by rw [u2_a (by decide)]; exact c5, by rw [u2_j (by have := getE_lt he; omega)]; exact c6⟩
theorem uJ2_ss {J : Nat → Nat → Int64} {a j : Nat} {x : Int64} : uJ2 J a j x a j = x := by simp [uJ2]
theorem uJ2_j {J : Nat → Nat → Int64} {a j b k : Nat} {x : Int64} (h : k ≠ j) : uJ2 J a j x b k = J b k := by simp [uJ2, h]
theorem uJ2_a {J : Nat → Nat → Int64} {a j b k : Nat} {x : Int64} (h : b ≠ a) : uJ2 J a j x b k = J b k := by simp [uJ2, h]
theorem DrM_77 (h : DrM I J tp rb lt D) (x : Int64) : DrM I (uJ2 J 77 (8 * rb + (dc D).length) x) tp rb lt D := by
  obtain ⟨h0, h1, h3, h4, h5, h6⟩ := h
  refine ⟨h0, h1, h3, h4, fun j e he => ?_, h6⟩
  obtain ⟨c1, c2, c3⟩ := h5 j e he
  exact ⟨c1, by rw [uJ2_j (by have := getE_lt he; omega)]; exact c2, c3⟩
theorem DrM_66 (h : DrM I J tp rb lt D) {e : CE} (he : CrM I J tp (8 * rb + (dc D).length) e) : DrM (u2 I 66 rb (nI ((dc D).length + 1))) J tp rb lt (dt D, dC D, dR D, dc D ++ [e], dU D, dB D, dd D, dF D, dW D) := by
  obtain ⟨⟨h1, h2⟩, ⟨a1, a2, a3, a4, a5, a6⟩, ⟨h3, h3'⟩, h4, h5, cq, h6, h7, h8, h9⟩ := h
  refine ⟨⟨h1, by rw [u2_a (by decide)]; exact h2⟩, ⟨by rw [u2_a (by decide)]; exact a1, by rw [u2_a (by decide)]; exact a2, ?_, by rw [u2_a (by decide)]; exact a4, by rw [u2_a (by decide)]; exact a5, by rw [u2_a (by decide)]; exact a6⟩, ⟨by rw [u2_a (by decide)]; exact h3, by rw [u2_a (by decide)]; exact h3'⟩, by rw [u2_a (by decide)]; exact h4, fun j e' he' => ?_, cq, by rw [u2_a (by decide)]; exact h6, h7, MFD_of h8 (Nat.le_refl _) (u2_a (by decide)) (u2_a (by decide)) (fun j _ => ⟨u2_a (by decide), u2_a (by decide)⟩), MFD_of h9 (Nat.le_refl _) (u2_a (by decide)) (u2_a (by decide)) (fun j _ => ⟨u2_a (by decide), u2_a (by decide)⟩)⟩
  · rw [u2_s]; show _ = nI (dc D ++ [e]).length; rw [List.length_append]; rfl
  · have he' : (dc D ++ [e])[j]? = some e' := he'
    have key : CrM I J tp (8 * rb + j) e' := by
      have hlt := getE_lt he'
      rw [List.length_append] at hlt
      simp only [List.length_cons, List.length_nil] at hlt
      by_cases e1 : j < (dc D).length
      · rw [List.getElem?_append_left e1] at he'
        exact h5 j e' he'
      · have e2 : j = (dc D).length := by omega
        subst e2
        rw [List.getElem?_append_right (Nat.le_refl _), Nat.sub_self] at he'
        simp only [List.getElem?_cons_zero, Option.some.injEq] at he'
        rw [← he']; exact he
    obtain ⟨c1, c2, c3, c4, c5, c6⟩ := key
    exact ⟨c1, c2, by rw [u2_a (by decide)]; exact c3, by rw [u2_a (by decide)]; exact c4, by rw [u2_a (by decide)]; exact c5, by rw [u2_a (by decide)]; exact c6⟩
/-- a rule has been read -/
theorem DrM_rule {lo r s u : Nat} {cs : List (Nat × Nat)} (h : DrM I J tp rb lt D) (h33 : I 60 33 = nI lo) (hlo : 560 * rb ≤ lo ∧ lo ≤ 560 * rb + 9 * dU D) (hf : MFD I rb 0 lo (dF D) ∧ MFD I rb 1 lo (dW D)) (hr : r < 2) (h67 : I' 67 rb = nI (dU D + u)) (hc : MCd I' lo cs) (h70 : I' 70 rb = nI s) (h75 : I' 75 (2 * rb + r) = nI lo) (h76 : I' 76 (2 * rb + r) = nI (lo + cs.length)) (h65 : I' 60 5 = -1) (hg : RG rb lo r I I') (hJ : ∀ b j, b ≠ 60 → J' b j = J b j) (hu : cs.length ≤ 9 * u) {t : Nat} (ht : t / 128 = s) {F W : List (Nat × Nat)} (hF : (r = 0 ∧ F = cs ∧ W = dW D) ∨ (r = 1 ∧ W = cs ∧ F = dF D)) : DrM I' J' tp rb lt (t, dC D, dR D, dc D, dU D + u, dB D, dd D, F, W) := by
  obtain ⟨⟨h1, h2⟩, ⟨a1, a2, a3, a4, a5, a6⟩, ⟨h3, h3'⟩, h4, h5, -⟩ := h
  have o : ∀ b j, b ≠ 60 → b ≠ 67 → b ≠ 70 → b ≠ 75 → b ≠ 76 → b ≠ 78 → b ≠ 79 → b ≠ 80 → b ≠ 81 → I' b j = I b j := fun b j b1 b2 b3 b4 b5 b6 b7 b8 b9 => hg b j (fun z => absurd z b1) (fun z => b2 z.1) (fun z => b3 z.1) (fun z => by omega) (fun z => by omega) b8 b9
  have o78 : ∀ j, j < lo → I' 78 j = I 78 j ∧ I' 79 j = I 79 j := fun j hj => ⟨hg 78 j (fun z => absurd z (by decide)) (by omega) (by omega) (by omega) (by omega) (by decide) (by decide), hg 79 j (fun z => absurd z (by decide)) (by omega) (by omega) (by omega) (by omega) (by decide) (by decide)⟩
  have o75 : ∀ b j, b = 75 ∨ b = 76 → j ≠ 2 * rb + r → I' b j = I b j := fun b j hb hj => hg b j (fun z => by omega) (by omega) (by omega) (by omega) (by omega) (by omega) (by omega)
  have new : MFD I' rb r (lo + cs.length) cs := Or.inr ⟨lo, ⟨hlo.1, Nat.le_refl _⟩, h75, h76, hc.2⟩
  refine ⟨⟨h1, by rw [hg 60 32 (fun _ => by omega) (by omega) (by omega) (by omega) (by omega) (by decide) (by decide)]; exact h2⟩, ⟨by rw [o 63 rb (by decide) (by decide) (by decide) (by decide) (by decide) (by decide) (by decide) (by decide) (by decide)]; exact a1, by rw [o 64 rb (by decide) (by decide) (by decide) (by decide) (by decide) (by decide) (by decide) (by decide) (by decide)]; exact a2, by rw [o 66 rb (by decide) (by decide) (by decide) (by decide) (by decide) (by decide) (by decide) (by decide) (by decide)]; exact a3, h67, by rw [o 68 rb (by decide) (by decide) (by decide) (by decide) (by decide) (by decide) (by decide) (by decide) (by decide)]; exact a5, by rw [o 69 rb (by decide) (by decide) (by decide) (by decide) (by decide) (by decide) (by decide) (by decide) (by decide)]; exact a6⟩, ⟨by rw [o 65 rb (by decide) (by decide) (by decide) (by decide) (by decide) (by decide) (by decide) (by decide) (by decide)]; exact h3, h65⟩, by rw [h70]; show nI s = nI (t / 128); rw [ht], fun j e he => ?_, lo + cs.length, hc.1, ⟨by omega, by show lo + cs.length ≤ 560 * rb + 9 * (dU D + u); omega⟩, ?_⟩
  · obtain ⟨c1, c2, c3, c4, c5, c6⟩ := h5 j e he
    exact ⟨c1, by rw [hJ 77 _ (by decide)]; exact c2, by rw [o 71 _ (by decide) (by decide) (by decide) (by decide) (by decide) (by decide) (by decide) (by decide) (by decide)]; exact c3, by rw [o 72 _ (by decide) (by decide) (by decide) (by decide) (by decide) (by decide) (by decide) (by decide) (by decide)]; exact c4, by rw [o 73 _ (by decide) (by decide) (by decide) (by decide) (by decide) (by decide) (by decide) (by decide) (by decide)]; exact c5, by rw [o 74 _ (by decide) (by decide) (by decide) (by decide) (by decide) (by decide) (by decide) (by decide) (by decide)]; exact c6⟩
  · rcases hF with ⟨rfl, rfl, rfl⟩ | ⟨rfl, rfl, rfl⟩
    · exact ⟨new, MFD_of hf.2 (Nat.le_add_right _ _) (o75 75 _ (Or.inl rfl) (by omega)) (o75 76 _ (Or.inr rfl) (by omega)) o78⟩
    · exact ⟨MFD_of hf.1 (Nat.le_add_right _ _) (o75 75 _ (Or.inl rfl) (by omega)) (o75 76 _ (Or.inr rfl) (by omega)) o78, new⟩
end MLine
