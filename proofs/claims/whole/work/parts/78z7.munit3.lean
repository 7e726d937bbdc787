/-! PURE: the model's unit: what it leaves -/
section MUnit3
variable {n : Nat} {I : Nat → Nat → Int32} {J : Nat → Nat → Int64} {tp : List Nat} {i u rb lo U : Nat} {cs : List (Nat × Nat)} {P : List Nat} {w : Bool}
theorem RdM_of {I' : Nat → Nat → Int32} (h : RdM I J tp i) (h60 : ∀ j, j = 3 ∨ j = 4 ∨ (6 ≤ j ∧ j ≤ 9) → I' 60 j = I 60 j) (h62 : ∀ j, I' 62 j = I 62 j) : RdM I' J tp i := by
  obtain ⟨h1, ⟨h2, h3, h4, h5, h6⟩, h7, h8⟩ := h
  refine ⟨TxM_of h1 (h60 3 (by decide)) h62, ⟨?_, fun z => ?_, ?_, fun z => ?_, h6⟩, h7, ?_⟩
  · rw [h60 6 (by decide)]; exact h2
  · rw [h60 7 (by decide)]; exact h3 z
  · rw [h60 8 (by decide)]; exact h4
  · rw [h60 9 (by decide)]; exact h5 z
  · rw [h60 4 (by decide)]; exact h8
theorem MCd_of {I' : Nat → Nat → Int32} (h : MCd I lo cs) (h33 : I' 60 33 = I 60 33) (h7 : ∀ b j, b = 78 ∨ b = 79 → j < lo + cs.length → I' b j = I b j) : MCd I' lo cs := by
  refine ⟨h33.trans h.1, fun k hk => ?_⟩
  rw [h7 78 _ (Or.inl rfl) (by omega), h7 79 _ (Or.inr rfl) (by omega)]
  exact h.2 k hk
/-- units are counted -/
theorem XM_cnt (h : XM I J tp rb lo U (i, u, cs, P, w)) (v : Nat) : XM (u2 (u2 I 67 rb (nI (U + v))) 60 36 (nI v)) J tp rb lo U (i, v, cs, P, w) ∧ XG rb lo I (u2 (u2 I 67 rb (nI (U + v))) 60 36 (nI v)) := by
  obtain ⟨h1, ⟨⟨h2, h25⟩, h2'⟩, h3, h4, h5, h6, h7, h8⟩ := h
  have f60 : ∀ j, j ≠ 36 → u2 (u2 I 67 rb (nI (U + v))) 60 36 (nI v) 60 j = I 60 j := fun j hj => by rw [u2_j hj, u2_a (by decide)]
  have fo : ∀ b j, b ≠ 60 → b ≠ 67 → u2 (u2 I 67 rb (nI (U + v))) 60 36 (nI v) b j = I b j := fun b j b1 b2 => by rw [u2_a b1, u2_a b2]
  refine ⟨⟨RdM_of h1 (fun j hj => f60 j (by omega)) (fun j => fo 62 j (by decide) (by decide)), ⟨⟨h2, by rw [f60 5 (by decide)]; exact h25⟩, by rw [f60 32 (by decide)]; exact h2'⟩, u2_s, by rw [u2_a (by decide), u2_s], MCd_of h5 (f60 33 (by decide)) (fun b j hb _ => fo b j (by omega) (by omega)), PiM_of _ h6 (fun j _ => ⟨fo 80 j (by decide) (by decide), fo 81 j (by decide) (by decide)⟩), by rw [f60 35 (by decide)]; exact h7, by rw [f60 34 (by decide)]; exact h8⟩, fun b j a1 a2 a3 a4 a5 => ?_⟩
  by_cases e : b = 60
  · subst e
    exact f60 j (by have := a1 rfl; omega)
  · rw [u2_a e]
    by_cases e2 : b = 67
    · subst e2
      exact u2_j (fun z => a2 ⟨rfl, z⟩)
    · exact u2_a e2
/-- the text goes on -/
theorem XM_goOn {I' : Nat → Nat → Int32} {J' : Nat → Nat → Int64} {i' : Nat} (h : XM I J tp rb lo U (i, u, cs, P, w)) (hr : RdM I' J' tp i') (hg : GFr I I' J J') : XM I' J' tp rb lo U (i', u, cs, P, w) ∧ XG rb lo I I' := by
  obtain ⟨h1, ⟨⟨h2, h25⟩, h2'⟩, h3, h4, h5, h6, h7, h8⟩ := h
  have g := hg.1
  exact ⟨⟨hr, ⟨⟨h2, by rw [g 60 5 (by omega)]; exact h25⟩, by rw [g 60 32 (by omega)]; exact h2'⟩, by rw [g 60 36 (by omega)]; exact h3, by rw [g 67 rb (by omega)]; exact h4, MCd_of h5 (g 60 33 (by omega)) (fun b j hb _ => g b j (by omega)), PiM_of _ h6 (fun j _ => ⟨g 80 j (by omega), g 81 j (by omega)⟩), by rw [g 60 35 (by omega)]; exact h7, by rw [g 60 34 (by omega)]; exact h8⟩, XG.g5 hg.g5⟩
/-- one is put on the pile -/
theorem XM_push (h : XM I J tp rb lo U (i, u, cs, P, w)) {k v : Nat} {x : Int32} (hx : rk k ≤ 6 → x = mch k) (hv : wi (k :: P) = v) (w' : Bool) : XM (u2 (u2 (u2 (u2 I 80 P.length (nI (rk k))) 81 P.length x) 60 35 (nI (P.length + 1))) 60 34 (nI v)) J tp rb lo U (i, u, cs, k :: P, w') ∧ XG rb lo I (u2 (u2 (u2 (u2 I 80 P.length (nI (rk k))) 81 P.length x) 60 35 (nI (P.length + 1))) 60 34 (nI v)) := by
  obtain ⟨h1, ⟨⟨h2, h25⟩, h2'⟩, h3, h4, h5, h6, h7, h8⟩ := h
  generalize hI' : u2 (u2 (u2 (u2 I 80 P.length (nI (rk k))) 81 P.length x) 60 35 (nI (P.length + 1))) 60 34 (nI v) = I'
  have f60 : ∀ j, j ≠ 34 → j ≠ 35 → I' 60 j = I 60 j := fun j j1 j2 => by rw [← hI', u2_j j1, u2_j j2, u2_a (by decide), u2_a (by decide)]
  have fo : ∀ b j, b ≠ 60 → b ≠ 80 → b ≠ 81 → I' b j = I b j := fun b j b1 b2 b3 => by rw [← hI', u2_a b1, u2_a b1, u2_a b3, u2_a b2]
  have f80 : ∀ j, j ≠ P.length → I' 80 j = I 80 j ∧ I' 81 j = I 81 j := fun j hj => ⟨by rw [← hI', u2_a (by decide), u2_a (by decide), u2_a (by decide), u2_j hj], by rw [← hI', u2_a (by decide), u2_a (by decide), u2_j hj, u2_a (by decide)]⟩
  refine ⟨⟨RdM_of h1 (fun j hj => f60 j (by omega) (by omega)) (fun j => fo 62 j (by decide) (by decide) (by decide)), ⟨⟨h2, by rw [f60 5 (by decide) (by decide)]; exact h25⟩, by rw [f60 32 (by decide) (by decide)]; exact h2'⟩, by rw [f60 36 (by decide) (by decide)]; exact h3, by rw [fo 67 rb (by decide) (by decide) (by decide)]; exact h4, MCd_of h5 (f60 33 (by decide) (by decide)) (fun b j hb _ => fo b j (by omega) (by omega) (by omega)), ⟨⟨?_, fun hk => ?_⟩, PiM_of _ h6 (fun j hj => f80 j (by omega))⟩, ?_, ?_⟩, fun b j a1 a2 a3 a4 a5 => ?_⟩
  · rw [← hI', u2_a (by decide), u2_a (by decide), u2_a (by decide), u2_s]
  · rw [← hI', u2_a (by decide), u2_a (by decide), u2_s]; exact hx hk
  · rw [← hI', u2_j (by decide), u2_s]; rfl
  · rw [← hI', u2_s]; show nI v = nI (wi (k :: P)); rw [hv]
  · by_cases e : b = 60
    · subst e
      have := a1 rfl
      exact f60 j (by omega) (by omega)
    · exact fo b j e a4 a5
theorem getD_appT {l : List (Nat × Nat)} {t : Nat × Nat} {k : Nat} : (l ++ [t]).getD k (0, 0) = if k = l.length then t else l.getD k (0, 0) := by
  by_cases h : k = l.length
  · subst h; simp
  · rw [if_neg h]
    by_cases h2 : k < l.length
    · simp [List.getElem?_append_left h2]
    · rw [List.getD_eq_getElem?_getD, List.getD_eq_getElem?_getD, List.getElem?_eq_none (show (l ++ [t]).length ≤ k by simp; omega), List.getElem?_eq_none (by omega)]
/-- a code is put down -/
theorem XM_emit (h : XM I J tp rb lo U (i, u, cs, P, w)) {t : Nat × Nat} {a c : Int32} (ha : a = mch t.1) (hc : t.1 = 0 → c = nI t.2) (hlo : 560 * rb ≤ lo ∧ lo + cs.length < 560 * rb + 560) (w' : Bool) : XM (u2 (u2 (u2 I 78 (lo + cs.length) a) 79 (lo + cs.length) c) 60 33 (nI (lo + cs.length + 1))) J tp rb lo U (i, u, cs ++ [t], P, w') ∧ XG rb lo I (u2 (u2 (u2 I 78 (lo + cs.length) a) 79 (lo + cs.length) c) 60 33 (nI (lo + cs.length + 1))) := by
  obtain ⟨h1, ⟨⟨h2, h25⟩, h2'⟩, h3, h4, h5, h6, h7, h8⟩ := h
  generalize hI' : u2 (u2 (u2 I 78 (lo + cs.length) a) 79 (lo + cs.length) c) 60 33 (nI (lo + cs.length + 1)) = I'
  have f60 : ∀ j, j ≠ 33 → I' 60 j = I 60 j := fun j j1 => by rw [← hI', u2_j j1, u2_a (by decide), u2_a (by decide)]
  have fo : ∀ b j, b ≠ 60 → b ≠ 78 → b ≠ 79 → I' b j = I b j := fun b j b1 b2 b3 => by rw [← hI', u2_a b1, u2_a b3, u2_a b2]
  have f78 : ∀ j, j ≠ lo + cs.length → I' 78 j = I 78 j ∧ I' 79 j = I 79 j := fun j hj => ⟨by rw [← hI', u2_a (by decide), u2_a (by decide), u2_j hj], by rw [← hI', u2_a (by decide), u2_j hj, u2_a (by decide)]⟩
  refine ⟨⟨RdM_of h1 (fun j hj => f60 j (by omega)) (fun j => fo 62 j (by decide) (by decide) (by decide)), ⟨⟨h2, by rw [f60 5 (by decide)]; exact h25⟩, by rw [f60 32 (by decide)]; exact h2'⟩, by rw [f60 36 (by decide)]; exact h3, by rw [fo 67 rb (by decide) (by decide) (by decide)]; exact h4, ⟨?_, fun k hk => ?_⟩, PiM_of _ h6 (fun j _ => ⟨fo 80 j (by decide) (by decide) (by decide), fo 81 j (by decide) (by decide) (by decide)⟩), by rw [f60 35 (by decide)]; exact h7, by rw [f60 34 (by decide)]; exact h8⟩, fun b j a1 a2 a3 a4 a5 => ?_⟩
  · rw [← hI', u2_s]; show _ = nI (lo + (cs ++ [t]).length); rw [List.length_append]; rfl
  · have hk : k < (cs ++ [t]).length := hk
    rw [List.length_append] at hk
    simp only [List.length_cons, List.length_nil] at hk
    show I' 78 (lo + k) = mch ((cs ++ [t]).getD k (0, 0)).1 ∧ (((cs ++ [t]).getD k (0, 0)).1 = 0 → I' 79 (lo + k) = nI ((cs ++ [t]).getD k (0, 0)).2)
    rw [getD_appT]
    by_cases e : k = cs.length
    · rw [if_pos e, e]
      exact ⟨by rw [← hI', u2_a (by decide), u2_a (by decide), u2_s]; exact ha, fun z => by rw [← hI', u2_a (by decide), u2_s]; exact hc z⟩
    · rw [if_neg e, (f78 (lo + k) (by omega)).1, (f78 (lo + k) (by omega)).2]
      exact h5.2 k (show k < cs.length by omega)
  · by_cases e : b = 60
    · subst e
      exact f60 j (by have := a1 rfl; omega)
    · by_cases e1 : b = 78
      · subst e1; exact (f78 j (by omega)).1
      · by_cases e2 : b = 79
        · subst e2; exact (f78 j (by omega)).2
        · exact fo b j e e1 e2
end MUnit3
