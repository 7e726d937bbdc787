/-! FROM THE LAW'S PURE FUNCTION TO THE CLAIM'S START -/
theorem insOk {ci : Nat} {q : vw_C} (h : vwCl[ci]? = some q) : Cond.instantiable q.1 q.2.2 ∈ GT := by
  match ci, h with
  | 0, h => cases h; exact lIX0
  | 1, h => cases h; exact lIX1
  | 2, h => cases h; exact lIX2
  | 3, h => cases h; exact lIX3
  | 4, h => cases h; exact lIX4
  | 5, h => cases h; exact lIX5
  | 6, h => cases h; exact lIX6
  | 7, h => cases h; exact lIX7
  | 8, h => cases h; exact lIX8
  | 9, h => cases h; exact lIX9
  | 10, h => cases h; exact lIX10
  | 11, h => cases h; exact lIX11
  | 12, h => cases h; exact lIX12
  | n + 13, h => simp [vwCl] at h
theorem st_l1 : Cond.laysStatic "java/lang/String" "COMPACT_STRINGS" "Z" ∈ lw_tbl := List.mem_of_getElem? (i := 624) (by decide +kernel)
theorem st_l2 : Cond.laysStatic "jdk/internal/util/Preconditions" "SIOOBE_FORMATTER" "Ljava/util/function/BiFunction;" ∈ lw_tbl := List.mem_of_getElem? (i := 644) (by decide +kernel)
theorem st_i1 : Cond.initialized "java/lang/String" ∈ lw_tbl := List.mem_of_getElem? (i := 131) (by decide +kernel)
theorem st_i2 : Cond.initialized "jdk/internal/util/Preconditions" ∈ lw_tbl := List.mem_of_getElem? (i := 133) (by decide +kernel)
theorem st_r1 : Cond.stringRef "VintageJams$Tokens" 56 ";()<>=+-*/%" ∈ lw_tbl := List.mem_of_getElem? (i := 667) (by decide +kernel)
theorem st_r2 : Cond.stringRef "VintageJams$Tokens" 63 "street  by      car     at      heads   hoots   body    softens worth   breaks  draw    or      and     not     hoot    bodied  many    lane    year    " ∈ lw_tbl := List.mem_of_getElem? (i := 614) (by decide +kernel)
theorem nest_on : ∀ w : Cond, isNest w = true → w.onTables = true := by
  intro w h
  cases w <;> first | rfl | cases h
theorem nest_warm {s U : State} (hW : s.WarmedH U.vm) {w : Cond} (hw : isNest w = true) (h : va_Nw w s) : va_Nw w U := by
  cases w <;> first | exact va_Nw.warmM hW h | cases hw
/-- what the own part takes as given of the rest -/
def mXX (E : mE) (b N : Nat) (xs : Nat → Int32) (U : State) (H : Heap) : Prop := mXf E U H ∧ E.2.1 0 = some b ∧ va_X b N xs U H ∧ ¬ mA E b ∧ b < H.size
theorem mXX_ok (E : mE) (b N : Nat) (xs : Nat → Int32) : mXok E (mXX E b N xs) := by
  refine ⟨fun s U H hW h => ?_, fun U H H1 hq h => ?_, fun U H h => h.1⟩
  · obtain ⟨⟨h1, h2, h3, h4, h5, h6, h7⟩, e0, hX, hA, hb⟩ := h
    exact ⟨⟨fun w hw => nest_warm hW (List.mem_filter.mp hw).2 (h1 w hw), h2, h3.moved hW.alike, h4.warm hW, h5.warm hW, h6.moved hW.alike, h7.moved hW.alike⟩, e0, hX.moved hW.alike, hA, hb⟩
  · obtain ⟨⟨h1, h2, h3, h4, h5, h6, h7⟩, e0, hX, hA, hb⟩ := h
    have e1 := hq b hb hA
    refine ⟨⟨h1, h2, h3.kept hq, h4, h5, h6.kept hq, h7.kept hq⟩, e0, hX.kept e1, hA, ?_⟩
    obtain ⟨scr, q1, -⟩ := hX.kept e1
    exact (Array.getElem?_eq_some_iff.mp q1).1
set_option maxHeartbeats 4000000 in
set_option maxRecDepth 100000 in
theorem whole_start {p : Program} {e : Env} {s : State} {m : MethodId} {below : List Frame} {meth : Method} {c : Code} (l : Launch) (hflags : l.flags = flags0) {b L : Nat} {xs : Nat → Int32} (hL : L ≤ 3072) (C0 : lw_At p s m meth c b L xs) : W p l e room_1 s m #[Value.ref b] below meth c s.heap [] 0 0 (lw_Z below #[Value.ref b] s) (entryFrame m ([Value.ref b] : List Value).toArray 4) := by
  obtain ⟨hx, hb, hr, hml, hown, hts, hX, hbl, hlocks, hgv⟩ := id C0
  have htG : ∀ w ∈ GT, w.before #[Value.ref b] s = true := fun w h => hts w (List.mem_filter.mp h).1
  have hs : ∀ c ∈ mfl, c.before #[Value.ref b] s = true := flat_of_before _ hgv
  have hA : ∀ a : Nat, a < s.heap.size → ¬ (fun q : Nat => s.heap.size ≤ q) a := fun a h => Nat.not_le.mpr h
  -- classes
  have hcl : ∀ k : Nat, ∃ x : ClassId × (Nat → Nat), ∀ q, vwCl[k]? = some q → u_Kn s q.1 q.2.1 q.2.2 x.1 x.2 := by
    intro k
    cases hq : vwCl[k]? with
    | none => exact ⟨(0, fun _ => 0), fun q h => by cases h⟩
    | some q =>
      obtain ⟨cC, iS, h⟩ := u_known (n := q.2.2) htG (clOk hq).1 (htG _ (insOk hq))
      exact ⟨(cC, iS), fun q' h' => by cases h'; exact h⟩
  obtain ⟨fc, hfc⟩ := Classical.axiomOfChoice hcl
  -- arrays
  have har : ∀ t : Nat, ∃ cA : ClassId, t ≤ 3 → ArrOfT s cA (mtyp t) ∧ s.vm.findClass ("[" ++ (mtyp t).toString) = some cA := by
    intro t
    by_cases ht : t ≤ 3
    · have hw : Cond.arrayClass (mtyp t) ∈ GT := by
        match t, ht with
        | 0, _ => exact lA_0
        | 1, _ => exact lA_1
        | 2, _ => exact lA_2
        | 3, _ => exact lA_3
      obtain ⟨cA, kA, comp, h1, h2, h3⟩ := Cond.arrayClass_spec (htG _ hw)
      exact ⟨cA, fun _ => ⟨fun n z => ⟨fun k h => (by cases h), kA, h2, comp, h3⟩, h1⟩⟩
    · exact ⟨0, fun h => absurd h ht⟩
  obtain ⟨ca, hca⟩ := Classical.axiomOfChoice har
  -- texts
  obtain ⟨aK, aV, hS, hev⟩ := vk_Sof (args := #[Value.ref b]) (s := s) (N := 2) (tm := mtm) (len := lenJ) (byt := bytJ) (A := fun q : Nat => s.heap.size ≤ q) (by decide) (fun i hi => hs _ (st_ex i hi)) (fun i hi => hs _ (st_co i hi)) (fun i hi => hs _ (st_ar i hi)) (fun i hi => hs _ (st_le i hi)) (fun i hi j hj => hs _ (st_el i hi j hj))
    (fun i j hi hj hij => by
      rcases (show (i = 0 ∧ j = 1) ∨ (i = 1 ∧ j = 0) by omega) with ⟨rfl, rfl⟩ | ⟨rfl, rfl⟩
      · exact Or.inr (hs _ st_ne)
      · exact Or.inl (hs _ st_ne)) hA
  have hZ1 := va_Zof (v := .int 1) (hts _ st_l1) (hts _ st_i1) (va_eqt (hs _ st_cs)) hA
  have hZ2 : ∃ r : Option Nat, va_Z "jdk/internal/util/Preconditions" "SIOOBE_FORMATTER" "Ljava/util/function/BiFunction;" (va_rf r) (fun q : Nat => s.heap.size ≤ q) s s.heap := by
    rcases va_Zqof (hts _ st_l2) (hts _ st_i2) (hs _ st_fm) hA with h | ⟨t, h⟩
    · exact ⟨none, h⟩
    · exact ⟨some t, h⟩
  obtain ⟨fm, hZ2⟩ := hZ2
  obtain ⟨E, hE⟩ : ∃ E : mE, E = (s.heap.size, fun w => if w = 0 then some b else if w = 1 then some (aK 0) else if w = 2 then some (aK 1) else if w = 3 then some (aV 0) else if w = 4 then some (aV 1) else fm, (fun k => (fc k).1, fun k => (fc k).2), ca) := ⟨_, rfl⟩
  have hE1 : E.1 = s.heap.size := by rw [hE]
  have hmA : mA E = fun q : Nat => s.heap.size ≤ q := by unfold mA; rw [hE1]
  have hK : mKn E s := by
    refine ⟨fun k q hq => ?_, fun k q hk => ?_⟩
    · rw [hE]; exact hfc k q hq
    · have hl : k < 4 := by
        have := (List.getElem?_eq_some_iff.mp hk).1
        simpa [mtys] using this
      rw [hE] at hk
      match k, hl, hk with
      | 0, _, hk => cases hk; exact ⟨(hca 0 (by decide)).1, (hca 0 (by decide)).2⟩
      | 1, _, hk => cases hk; exact ⟨(hca 1 (by decide)).1, (hca 1 (by decide)).2⟩
      | 2, _, hk => cases hk; exact ⟨(hca 2 (by decide)).1, (hca 2 (by decide)).2⟩
      | 3, _, hk => cases hk; exact ⟨(hca 3 (by decide)).1, (hca 3 (by decide)).2⟩
  have hK0 : adK E 0 = aK 0 := by rw [hE]; rfl
  have hK1 : adK E 1 = aK 1 := by rw [hE]; rfl
  have hV0 : adV E 0 = aV 0 := by rw [hE]; rfl
  have hV1 : adV E 1 = aV 1 := by rw [hE]; rfl
  have hKi : ∀ i, i < 2 → adK E i = aK i := fun i hi => by
    rcases (show i = 0 ∨ i = 1 by omega) with rfl | rfl
    · exact hK0
    · exact hK1
  have hVi : ∀ i, i < 2 → adV E i = aV i := fun i hi => by
    rcases (show i = 0 ∨ i = 1 by omega) with rfl | rfl
    · exact hV0
    · exact hV1
  have hXX : mXX E b L xs s s.heap := by
    refine ⟨⟨fun w hw => va_Nw.of (nest_on w (List.mem_filter.mp hw).2) (hts w (List.mem_filter.mp hw).1), ⟨?_, ?_, ?_, ?_⟩, ?_, vk_R.of (hts _ st_r1) ?_, vk_R.of (hts _ st_r2) ?_, ?_, ?_⟩, ?_, hX, ?_, hbl⟩
    · rw [hK0, hE]; rfl
    · rw [hK1, hE]; rfl
    · rw [hV0, hE]; rfl
    · rw [hV1, hE]; rfl
    · rw [hmA]
      exact ⟨fun i hi => by rw [hKi i hi, hVi i hi]; exact hS.1 i hi, fun i j hi hj he => hS.2 i j hi hj (by rw [← hKi i hi, ← hKi j hj]; exact he)⟩
    · rw [hK0]; exact hev 0 (by decide)
    · rw [hK1]; exact hev 1 (by decide)
    · rw [hmA]; exact hZ1
    · rw [hmA]
      have : E.2.1 5 = fm := by rw [hE]; rfl
      rw [this]; exact hZ2
    · rw [hE]; rfl
    · rw [hmA]; exact Nat.not_le.mpr hbl
  have hlr : R_law = yL_law.cls := rfl
  have F : mFx E (mXX E b L xs) yL_law cL_law 4 (some .boolean) 2048 600000 7302250 p room_1 s m #[Value.ref b] meth c :=
    ⟨⟨hx, hb, hml, hown, htG⟩, hlocks, hr, fun h => absurd h (by decide), hK, hXX, by rw [hE1]; exact Nat.le_refl _, by decide, by decide, rfl, rfl, mXX_ok E b L xs⟩
  obtain ⟨μ, hμ⟩ := law_pure xs L hL
  have hO : mOwn E mu0 s.heap := ⟨fun k q h => by simp [mws, mu0] at h, by rw [hE1]; rfl⟩
  have hsd := okL_law_0 (E := E) (X := mXX E b L xs) (l := l) (mXX_ok E b L xs) FU (xs := xs) (N := L) (fun U H h => ⟨b, h.2.1, h.2.2.1, h.2.2.2.1⟩) p e room_1 s m #[Value.ref b] below meth c F _ _ _ _ hμ s.heap []
  have hent := lv_entry ([.ref b]) (n := 4) (Nat.le_of_ble_eq_true rfl)
  rw [lg_entry_eq]
  generalize (lg_sl ([.ref b]) ++ List.replicate (4 - (lg_sl ([.ref b])).length) Slot.unset).toArray = ls at hent ⊢
  have hLR : mLR E [some (.float 0), none, none, none] ls := by
    refine mLR_of hent rfl fun i v hv => ?_
    have hE0 : E.2.1 0 = some b := by rw [hE]; rfl
    match i, hv with
    | 0, hv =>
      cases hv
      show (0, va_rf (E.2.1 0)) ∈ _
      rw [hE0]
      exact List.mem_cons_self
    | 1, hv => simp at hv
    | 2, hv => simp at hv
    | 3, hv => simp at hv
    | i + 4, hv => simp at hv
  have hW := hsd ls ⟨rfl, by rw [hE1]; rfl, hO, va_S.rf, hLR⟩
  intro T hT XX
  obtain ⟨t, a1, o, b1, b2, ⟨hq, -⟩, Lc, hF, hLc⟩ := hW T hT XX
  refine ⟨t, a1, o, b1, b2, hq, hF.1, hF.2.1, hF.2.2.weaken (fun y hy hlt => ?_) (Nat.le_refl _) (Nat.le_refl _)⟩
  have := hLc y hy
  rw [hmA] at this
  exact absurd hlt (Nat.not_lt.mpr this)
