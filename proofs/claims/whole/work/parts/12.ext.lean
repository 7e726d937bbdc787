/-! WHAT LIES OUTSIDE THE OWN PART: the two texts, the script -/
def i_pop (k : mK) : mK := fun L S μ => match S with
  | v :: S => if v.category = 1 then k L S μ else none
  | _ => none
def xlen (w : UInt32) : Nat := if w = 3 then 11 else 152
def xbyt (w : UInt32) (j : Nat) : Int32 := (bytJ.getD (if w = 3 then 0 else 1) []).getD j 0
/-- coder -/
def i_xC (k : mK) : mK := fun L S μ => match S with
  | .float w :: S => if w = 1 ∨ w = 2 then k L (.int 0 :: S) μ else none
  | _ => none
/-- value -/
def i_xV (k : mK) : mK := fun L S μ => match S with
  | .float w :: S => if w = 1 then k L (.float 3 :: S) μ else if w = 2 then k L (.float 4 :: S) μ else none
  | _ => none
def i_xln (k : mK) : mK := fun L S μ => match S with
  | .float w :: S => if w = 3 ∨ w = 4 then k L (.int (Int32.ofNat (xlen w)) :: S) μ else none
  | _ => none
def i_xal (k : mK) : mK := fun L S μ => match S with
  | .int i :: .float w :: S => if (w = 3 ∨ w = 4) ∧ 0 ≤ i ∧ i.toNatClampNeg < xlen w then k L (.int (xbyt w i.toNatClampNeg) :: S) μ else none
  | _ => none
def i_cX (n : Nat) (f : List Value → mM → Option mR) (k : mK) : mK := fun L S μ => match S.drop n with
  | .float w :: T => if (w = 1 ∨ w = 2) ∧ (T.map fun v => v.category).sum ≤ 8 then (f (.float w :: (S.take n).reverse) μ).bind (fun q => k L (q.1.toList ++ T) q.2) else none
  | _ => none
/-- the script -/
def i_sal (xs : Nat → Int32) (N : Nat) (k : mK) : mK := fun L S μ => match S with
  | .int i :: .float w :: S => if w = 0 ∧ 0 ≤ i ∧ i.toNatClampNeg < N then k L (.int (xs i.toNatClampNeg) :: S) μ else none
  | _ => none
def i_sln (N : Nat) (k : mK) : mK := fun L S μ => match S with
  | .float w :: S => if w = 0 then k L (.int (Int32.ofNat N) :: S) μ else none
  | _ => none
theorem xs_T {E : mE} {U : State} {H : Heap} (h : mStr E U H) {w : UInt32} (hw : w = 3 ∨ w = 4) : ∃ a, E.2.1 w = some a ∧ va_T .byte a (xlen w) (fun j => .int (xbyt w j)) (mA E) U H := by
  obtain ⟨⟨-, -, h3, h4⟩, hS, -⟩ := h
  rcases hw with rfl | rfl
  · exact ⟨_, h3, (hS.1 0 (by decide)).2.2.2⟩
  · exact ⟨_, h4, (hS.1 1 (by decide)).2.2.2⟩
section SdRows7
variable {E : mE} {X : State → Heap → Prop} {l : Launch} {y y' : MethodName} {cc cc' : ByteArray} {nL nL' n' h' : Nat} {ret ret' : Option FieldType} {h mc ms nc zc pc : Nat} {k kt kf : mK} {f : List Value → mM → Option mR}
theorem mFx.str {p : Program} {R : Room} {s : State} {m : MethodId} {args : Array Value} {meth : Method} {c : Code} (F : mFx E X y cc nL ret h mc ms p R s m args meth c) : mStr E s s.heap := (F.2.2.2.2.2.2.2.2.2.2.2.2.2 s s.heap F.2.2.2.2.2.1).2
theorem s_pop (d : decode cc pc = .ok (.pop, 1)) (hk : Sd E X l y cc nL ret h mc ms nc zc (pc + 1) k) : Sd E X l y cc nL ret h mc ms nc zc pc (i_pop k) := by
  intro p e R s m args below meth c F L S μ r hr H locs ls I
  unfold i_pop at hr
  split at hr
  · split at hr
    · rename_i hc
      exact lv_pop F.1.1 F.1.2.1 d ((tr_cat E _).trans hc) (hk p e R s m args below meth c F L _ μ r hr H locs ls I)
    · cases hr
  · cases hr
theorem s_ldS1 (d : decode cc pc = .ok (.ldc 56, 2)) (hy : y.cls = "VintageJams$Tokens") (hk : Sd E X l y cc nL ret h mc ms nc zc (pc + 2) k) : Sd E X l y cc nL ret h mc ms nc zc pc (i_cst (.float 1) k) := by
  intro p e R s m args below meth c F L S μ r hr H locs ls I
  have hs := F.str
  have hk := hk p e R s m args below meth c F L _ μ r hr H locs ls I
  simp only [List.map_cons, tr, hs.1.1, va_rf] at hk
  exact va_ldcS F.1.1 F.1.2.1 (hy ▸ F.1.2.2.2.1) hs.2.2.1 d hk
theorem s_ldS2 (d : decode cc pc = .ok (.ldc 63, 2)) (hy : y.cls = "VintageJams$Tokens") (hk : Sd E X l y cc nL ret h mc ms nc zc (pc + 2) k) : Sd E X l y cc nL ret h mc ms nc zc pc (i_cst (.float 2) k) := by
  intro p e R s m args below meth c F L S μ r hr H locs ls I
  have hs := F.str
  have hk := hk p e R s m args below meth c F L _ μ r hr H locs ls I
  simp only [List.map_cons, tr, hs.1.2.1, va_rf] at hk
  exact va_ldcS F.1.1 F.1.2.1 (hy ▸ F.1.2.2.2.1) hs.2.2.2.1 d hk
theorem s_gsC {idx : Nat} (d : decode cc pc = .ok (.getstatic idx, 3)) (hl : Cond.fieldLink y.cls idx "java/lang/String" "COMPACT_STRINGS" "Z" ∈ GT) (hk : Sd E X l y cc nL ret h mc ms nc zc (pc + 3) k) : Sd E X l y cc nL ret h mc ms nc zc pc (i_cst (.int 1) k) := by
  intro p e R s m args below meth c F L S μ r hr H locs ls I
  exact va_gets F.1.1 F.1.2.1 F.str.2.2.2.2.1 I.2.2.2.1 F.1.2.2.2.1 (F.1.2.2.2.2 _ hl) (fun _ h => h) d (hk p e R s m args below meth c F L _ μ r hr H locs ls I)
theorem s_gsF {idx : Nat} (d : decode cc pc = .ok (.getstatic idx, 3)) (hl : Cond.fieldLink y.cls idx "jdk/internal/util/Preconditions" "SIOOBE_FORMATTER" "Ljava/util/function/BiFunction;" ∈ GT) (hk : Sd E X l y cc nL ret h mc ms nc zc (pc + 3) k) : Sd E X l y cc nL ret h mc ms nc zc pc (i_cst (.float 5) k) := by
  intro p e R s m args below meth c F L S μ r hr H locs ls I
  exact va_gets F.1.1 F.1.2.1 F.str.2.2.2.2.2 I.2.2.2.1 F.1.2.2.2.1 (F.1.2.2.2.2 _ hl) (fun _ h => h) d (hk p e R s m args below meth c F L _ μ r hr H locs ls I)
theorem s_xC {idx : Nat} (d : decode cc pc = .ok (.getfield idx, 3)) (hl : Cond.fieldLink y.cls idx "java/lang/String" "coder" "B" ∈ GT) (hk : Sd E X l y cc nL ret h mc ms nc zc (pc + 3) k) : Sd E X l y cc nL ret h mc ms nc zc pc (i_xC k) := by
  intro p e R s m args below meth c F L S μ r hr H locs ls I
  unfold i_xC at hr
  split at hr
  · split at hr
    · rename_i w S' hw
      have hs := F.str
      have hk := hk p e R s m args below meth c F L _ μ r hr H locs ls I
      rcases hw with rfl | rfl
      · simp only [List.map_cons, tr, hs.1.1, va_rf] at hk ⊢
        exact vk_getf F.1.1 F.1.2.1 (hs.2.1.1 0 (by decide)).2.1 I.2.2.2.1 F.1.2.2.2.1 (F.1.2.2.2.2 _ hl) (fun _ h => h) d hk
      · simp only [List.map_cons, tr, hs.1.2.1, va_rf] at hk ⊢
        exact vk_getf F.1.1 F.1.2.1 (hs.2.1.1 1 (by decide)).2.1 I.2.2.2.1 F.1.2.2.2.1 (F.1.2.2.2.2 _ hl) (fun _ h => h) d hk
    · cases hr
  · cases hr
theorem s_xV {idx : Nat} (d : decode cc pc = .ok (.getfield idx, 3)) (hl : Cond.fieldLink y.cls idx "java/lang/String" "value" "[B" ∈ GT) (hk : Sd E X l y cc nL ret h mc ms nc zc (pc + 3) k) : Sd E X l y cc nL ret h mc ms nc zc pc (i_xV k) := by
  intro p e R s m args below meth c F L S μ r hr H locs ls I
  have hs := F.str
  unfold i_xV at hr
  split at hr
  · split at hr
    · rename_i w S' hw
      have hk := hk p e R s m args below meth c F L _ μ r hr H locs ls I
      subst hw
      simp only [List.map_cons, tr, hs.1.1, hs.1.2.2.1, va_rf] at hk ⊢
      exact vk_getf F.1.1 F.1.2.1 (hs.2.1.1 0 (by decide)).2.2.1 I.2.2.2.1 F.1.2.2.2.1 (F.1.2.2.2.2 _ hl) (fun _ h => h) d hk
    · split at hr
      · rename_i w S' _ hw
        have hk := hk p e R s m args below meth c F L _ μ r hr H locs ls I
        subst hw
        simp only [List.map_cons, tr, hs.1.2.1, hs.1.2.2.2, va_rf] at hk ⊢
        exact vk_getf F.1.1 F.1.2.1 (hs.2.1.1 1 (by decide)).2.2.1 I.2.2.2.1 F.1.2.2.2.1 (F.1.2.2.2.2 _ hl) (fun _ h => h) d hk
      · cases hr
  · cases hr
theorem s_xln (d : decode cc pc = .ok (.arraylength, 1)) (hk : Sd E X l y cc nL ret h mc ms nc zc (pc + 1) k) : Sd E X l y cc nL ret h mc ms nc zc pc (i_xln k) := by
  intro p e R s m args below meth c F L S μ r hr H locs ls I
  unfold i_xln at hr
  split at hr
  · split at hr
    · rename_i w S' hw
      have hk := hk p e R s m args below meth c F L _ μ r hr H locs ls I
      obtain ⟨a, ha, hT⟩ := xs_T F.str hw
      obtain ⟨cell, h1, h2, h3, h4, h5, h6, h7⟩ := hT.kept I.2.2.2.1.2.1
      simp only [List.map_cons, tr, ha, va_rf] at hk ⊢
      exact W.alen F.1.1 F.1.2.1 h1 h2 h5 rfl rfl d hk
    · cases hr
  · cases hr
theorem s_xal (d : decode cc pc = .ok (.baload, 1)) (hk : Sd E X l y cc nL ret h mc ms nc zc (pc + 1) k) : Sd E X l y cc nL ret h mc ms nc zc pc (i_xal k) := by
  intro p e R s m args below meth c F L S μ r hr H locs ls I
  unfold i_xal at hr
  split at hr
  · split at hr
    · rename_i i w S' hw
      obtain ⟨hw, i0, i1⟩ := hw
      have hk := hk p e R s m args below meth c F L _ μ r hr H locs ls I
      obtain ⟨a, ha, hT⟩ := xs_T F.str hw
      obtain ⟨cell, h1, h2, h3, h4, h5, h6, h7⟩ := hT.kept I.2.2.2.1.2.1
      simp only [List.map_cons, tr, ha, va_rf] at hk ⊢
      exact W.bald F.1.1 F.1.2.1 h1 h2 h3 (m_in i0 (Nat.lt_of_lt_of_le i1 h4)) (h6 _ i1) rfl rfl d hk
    · cases hr
  · cases hr
theorem s_sal {xs : Nat → Int32} {N : Nat} (hS : ∀ U H, X U H → ∃ b, E.2.1 0 = some b ∧ va_X b N xs U H ∧ ¬ mA E b) (d : decode cc pc = .ok (.iaload, 1)) (hk : Sd E X l y cc nL ret h mc ms nc zc (pc + 1) k) : Sd E X l y cc nL ret h mc ms nc zc pc (i_sal xs N k) := by
  intro p e R s m args below meth c F L S μ r hr H locs ls I
  unfold i_sal at hr
  split at hr
  · split at hr
    · rename_i i w S' hw
      obtain ⟨rfl, i0, i1⟩ := hw
      have hk := hk p e R s m args below meth c F L _ μ r hr H locs ls I
      obtain ⟨b, hb, hXX, hA⟩ := hS s s.heap F.2.2.2.2.2.1
      have hbl : b < s.heap.size := by
        obtain ⟨scr, q1, -⟩ := hXX
        exact (Array.getElem?_eq_some_iff.mp q1).1
      simp only [List.map_cons, tr, hb, va_rf] at hk ⊢
      exact va_sld F.1.1 F.1.2.1 hXX hbl hA I.2.2.2.1 (m_in i0 i1) d hk
    · cases hr
  · cases hr
theorem s_sln {xs : Nat → Int32} {N : Nat} (hS : ∀ U H, X U H → ∃ b, E.2.1 0 = some b ∧ va_X b N xs U H ∧ ¬ mA E b) (d : decode cc pc = .ok (.arraylength, 1)) (hk : Sd E X l y cc nL ret h mc ms nc zc (pc + 1) k) : Sd E X l y cc nL ret h mc ms nc zc pc (i_sln N k) := by
  intro p e R s m args below meth c F L S μ r hr H locs ls I
  unfold i_sln at hr
  split at hr
  · split at hr
    · rename_i w S' hw
      subst hw
      have hk := hk p e R s m args below meth c F L _ μ r hr H locs ls I
      obtain ⟨b, hb, hXX, hA⟩ := hS s s.heap F.2.2.2.2.2.1
      have hbl : b < s.heap.size := by
        obtain ⟨scr, q1, -⟩ := hXX
        exact (Array.getElem?_eq_some_iff.mp q1).1
      simp only [List.map_cons, tr, hb, va_rf] at hk ⊢
      exact va_slen F.1.1 F.1.2.1 hXX hbl hA I.2.2.2.1 d hk
    · cases hr
  · cases hr
theorem s_cX {idx : Nat} (d : decode cc pc = .ok (.invokevirtual idx, 3)) (hl : Cond.methodLink y.cls idx y' ∈ GT) (hb : CbV y' cc' nL' ret' n') (hcl : y'.cls = "java/lang/String") (hC : Ct E X l y' cc' nL' ret' h' 0 0 f) (hh : h' + 1 ≤ h) (hk : Sd E X l y cc nL ret h mc ms nc zc (pc + 3) k) (hnc : nc ≤ mc) (hzc : zc ≤ ms) : Sd E X l y cc nL ret h mc ms nc zc pc (i_cX n' f k) := by
  intro p e R s m args below meth c F L S μ r hr H locs ls I
  unfold i_cX at hr
  split at hr
  · rename_i w T hT
    split at hr
    · rename_i hc
      obtain ⟨hww, hw⟩ := hc
      obtain ⟨q, hq1, hq2⟩ := Option.bind_eq_some_iff.mp hr
      obtain ⟨b1, b2, b3, b4, b5, b6⟩ := hb
      have hts := F.1.2.2.2.2
      have hfr : h ≤ R.frames := F.2.2.2.2.2.2.2.1
      have hlo : 40 * h ≤ R.locals := F.2.2.2.2.2.2.2.2.1
      have hrc : R.cells = mc := F.2.2.2.2.2.2.2.2.2.1
      have hrs : R.slots = ms := F.2.2.2.2.2.2.2.2.2.2.1
      have hX := F.2.2.2.2.2.2.2.2.2.2.2
      have hlen : (S.take n').length = n' := by
        have : (S.drop n').length = T.length + 1 := by rw [hT]; rfl
        rw [List.length_drop] at this
        rw [List.length_take]
        omega
      have hS : S = S.take n' ++ .float w :: T := by rw [← hT, List.take_append_drop]
      have hrecv : ∃ a, E.2.1 w = some a ∧ ∃ cell : Cell, H[a]? = some cell ∧ cell.vm.isStatics = false ∧ s.vm.findClass y'.cls = some cell.cls := by
        have hs := F.str
        rw [hcl]
        rcases hww with rfl | rfl
        · exact ⟨_, hs.1.1, vk_recv hs.2.1 (i := 0) (by decide) I.2.2.2.1⟩
        · exact ⟨_, hs.1.2.1, vk_recv hs.2.1 (i := 1) (by decide) I.2.2.2.1⟩
      obtain ⟨a, ha, hrv⟩ := hrecv
      have htr : tr E (.float w) = .ref a := by simp only [tr, ha, va_rf]
      have hG : GoodIn GT (wsV y.cls idx y'.cls y' (Cond.code y' cc' nL' ret' :: GT)) := fun w hw' => by
        have : w ∈ GT := by
          simp only [wsV, List.cons_append, List.nil_append, List.mem_cons] at hw'
          rcases hw' with rfl | rfl | rfl | rfl | rfl | h
          · exact hl
          · exact b1
          · exact b2
          · exact b3
          · exact b4
          · exact h
        exact ⟨this, GT_good this⟩
      refine m_go F I (mc' := 0) (ms' := 0) (T := T) (q := q) (va_runV (As := ((S.take n').reverse).map (tr E)) (rest := T.map (tr E)) (b := a) F.1 (hC _ _ _ hq1) (cwV n' hts hG rfl rfl rfl ⟨rfl, b5⟩ ⟨Nat.le_trans hh hfr, by show 8 + (nL' + 11) + 40 * h' ≤ R.locals; omega⟩) ⟨m_blind hX μ _, hrv, fun U hU hW => m_pc F I (by rw [List.map_cons, htr]) U hU hW⟩ rfl (by rw [List.length_map, List.length_reverse]; exact hlen) (by rw [I.2.2.2.2.1]; exact I.1) ?_ ?_ d ⟨by rw [hrc]; exact hnc, by rw [hrs]; exact hzc⟩) (fun h => absurd rfl h) hq2 hk
      · show S.map (tr E) = _
        conv => lhs; rw [hS]
        simp [htr]
      · rw [tr_sum]
        simpa [JFrame.monitorRoom] using hw
    · cases hr
  · cases hr
end SdRows7
