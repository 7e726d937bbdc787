/-! CALLS AND A METHOD'S ENTRY -/
def mfn (nL : Nat) (k : mK) : List Value → mM → Option mR := fun vs μ => if (mLs vs).length ≤ nL then k (mL0 nL vs) [] μ else none
theorem tsw_c {P : Nat → mK → Prop} {pc : Nat} {v o : Int} {os : List Int} {w : Int32} {k : mK} {cs : List (Int32 × mK)} {t : Nat} (h1 : w.toInt = v) (h2 : (pc : Int) + o = (t : Int)) (h3 : P t k) (h4 : tsw P pc (v + 1) os cs) : tsw P pc v (o :: os) ((w, k) :: cs) := ⟨h1, ⟨t, h2, h3⟩, h4⟩
theorem tsw_n {P : Nat → mK → Prop} {pc : Nat} {v : Int} : tsw P pc v [] [] := trivial
theorem lsw_c {P : Nat → mK → Prop} {pc : Nat} {o : Int × Int} {os : List (Int × Int)} {w : Int32} {k : mK} {cs : List (Int32 × mK)} {t : Nat} (h1 : w.toInt = o.1) (h2 : (pc : Int) + o.2 = (t : Int)) (h3 : P t k) (h4 : lsw P pc os cs) : lsw P pc (o :: os) ((w, k) :: cs) := ⟨h1, ⟨t, h2, h3⟩, h4⟩
theorem lsw_n {P : Nat → mK → Prop} {pc : Nat} : lsw P pc [] [] := trivial
section SdRows6
variable {E : mE} {X : State → Heap → Prop} {l : Launch} {y y' : MethodName} {cc cc' : ByteArray} {nL nL' n' h' mc' ms' : Nat} {ret ret' : Option FieldType} {h mc ms nc zc pc : Nat} {k kt kf : mK} {f : List Value → mM → Option mR}
theorem m_go {p : Program} {e : Env} {R : Room} {s : State} {m : MethodId} {args : Array Value} {below : List Frame} {meth : Method} {c : Code} (F : mFx E X y cc nL ret h mc ms p R s m args meth c) {L : List (Option Value)} {μ : mM} {r : mR} {H : Heap} {locs : List Loc} {ls : Array Slot} (I : mIn E nL nc s.heap L μ H locs ls) {st0 T : List Value} {q : mR} {a : Array Value}
    (hr : va_Run p l e R s m args below meth c H locs nc zc mc' ms' (F0 m pc ls st0) (T.map (tr E)) (mQ E X q a) (mA E)) (hm : mc' ≠ 0 → mn q.2 = mn μ + mc') (hkq : k L (q.1.toList ++ T) q.2 = some r) (hk : Sd E X l y cc nL ret h mc ms (nc + mc') (zc + ms') (pc + 3) k) :
    W p l e R s m args below meth c H locs nc zc (MQ below (mQ E X r) args s mc ms (mA E)) (F0 m pc ls st0) := by
  intro T0 hT X0
  obtain ⟨v, st₀, t, T', Lc, h0, X', hL, e1, e2, ⟨hv, hO, hK, hF⟩, st⟩ := hr T0 hT X0
  have hv' : v = q.1.map (tr E) := by injection hv
  subst hv'
  obtain ⟨I1, I0, I2, I3, I4⟩ := I
  have hsz := X'.heapSize
  rw [e1] at hsz
  have hF1 := hF.1
  rw [h0] at hF1
  have hI2 := I2.2
  have hO2 := hO.2
  have hmn : mn q.2 = mn μ + mc' := by
    by_cases hz : mc' = 0
    · subst hz; omega
    · exact hm hz
  have hst : (q.1.map (tr E)).toList ++ T.map (tr E) = (q.1.toList ++ T).map (tr E) := by
    cases q.1 <;> simp
  have hS1 : va_S (mA E) s.heap T'.heap (locs ++ Lc) := by
    refine ⟨by rw [e1]; exact Nat.le_trans I3.1 hF1, fun x h1 h2 => ?_, fun x hx => ?_⟩
    · have h3 := hF.2 x (by rw [h0]; exact Nat.lt_of_lt_of_le h1 I3.1) h2
      rw [e1, h3, h0]
      exact I3.2.1 x h1 h2
    · rcases List.mem_append.mp hx with h | h
      · exact I3.2.2 x h
      · exact hL x h
  obtain ⟨t2, a1, b1⟩ := hk p e R s m args below meth c F L (q.1.toList ++ T) q.2 r hkq T'.heap (locs ++ Lc) ls ⟨I1, by omega, by rw [e1]; exact hO, hS1, I4⟩ T' rfl X'
  refine ⟨t2, st t2 ?_, b1⟩
  rw [hst]
  exact a1
theorem m_blind (hX : mXok E X) (μ : mM) (vs : List Value) : FrameBlind (va_Pc vs (fun U => mOwn E μ U.heap ∧ mKn E U ∧ X U U.heap)) := by
  intro a U g mk q
  obtain ⟨q0, qO, qK, qX⟩ := q
  exact ⟨q0, qO, va_K.moved (u := U) (U := U.calling g mk a) (Vm.Alike.refl U.vm) qK, hX.1 U (U.calling g mk a) U.heap (State.WarmedH.refl U) qX⟩
theorem m_pc {p : Program} {R : Room} {s : State} {m : MethodId} {args : Array Value} {meth : Method} {c : Code} (F : mFx E X y cc nL ret h mc ms p R s m args meth c) {L : List (Option Value)} {μ : mM} {H : Heap} {locs : List Loc} {ls : Array Slot} (I : mIn E nL nc s.heap L μ H locs ls) {vs ws : List Value} (hv : vs = ws) (U : State) (hU : U.heap = H) (hW : s.WarmedH U.vm) : va_Pc ws (fun U => mOwn E μ U.heap ∧ mKn E U ∧ X U U.heap) vs.toArray U := by
  obtain ⟨I1, I0, I2, I3, I4⟩ := I
  have hX := F.2.2.2.2.2.2.2.2.2.2.2
  refine ⟨by rw [hv], by rw [hU]; exact I2, va_K.moved hW.alike F.2.2.2.2.1, ?_⟩
  rw [hU]
  exact hX.1 s U H hW (hX.2.1 s s.heap H (fun a h1 h2 => I3.2.1 a h1 h2) F.2.2.2.2.2.1)
theorem tr_sum (E : mE) (T : List Value) : ((T.map (tr E)).map fun v => v.category).sum = (T.map fun v => v.category).sum := by
  rw [List.map_map]
  congr 1
  refine List.map_congr_left fun v _ => ?_
  exact tr_cat E v
theorem s_cV {idx ci : Nat} (d : decode cc pc = .ok (.invokevirtual idx, 3)) (hl : Cond.methodLink y.cls idx y' ∈ GT) (hb : CbV y' cc' nL' ret' n') (hci : (vwCl[ci]?.map (fun q => q.1)) = some y'.cls) (hC : Ct E X l y' cc' nL' ret' h' 0 0 f) (hh : h' + 1 ≤ h) (hk : Sd E X l y cc nL ret h mc ms nc zc (pc + 3) k) (hnc : nc ≤ mc) (hzc : zc ≤ ms) : Sd E X l y cc nL ret h mc ms nc zc pc (i_cV ci n' f k) := by
  intro p e R s m args below meth c F L S μ r hr H locs ls I
  unfold i_cV at hr
  split at hr
  · rename_i a T hT
    split at hr
    · rename_i hc
      obtain ⟨hs, hw⟩ := hc
      obtain ⟨q, hq1, hq2⟩ := Option.bind_eq_some_iff.mp hr
      obtain ⟨b1, b2, b3, b4, b5, b6⟩ := hb
      obtain ⟨⟨C, Tt, N⟩, hv1, hv2⟩ := Option.map_eq_some_iff.mp hci
      simp only at hv2
      subst hv2
      have hts := F.1.2.2.2.2
      have hfr : h ≤ R.frames := F.2.2.2.2.2.2.2.1
      have hlo : 40 * h ≤ R.locals := F.2.2.2.2.2.2.2.2.1
      have hrc : R.cells = mc := F.2.2.2.2.2.2.2.2.2.1
      have hrs : R.slots = ms := F.2.2.2.2.2.2.2.2.2.2.1
      have hX := F.2.2.2.2.2.2.2.2.2.2.2
      have hlen : (S.take n').length = n' := by
        have : (S.drop n').length = T.length + 1 := by rw [hT]; rfl
        rw [List.length_drop] at this
        rw [List.length_take]
        omega
      have hS : S = S.take n' ++ .ref a :: T := by rw [← hT, List.take_append_drop]
      have hG : GoodIn GT (wsV y.cls idx y'.cls y' (Cond.code y' cc' nL' ret' :: GT)) := fun w hw' => by
        have : w ∈ GT := by
          simp only [wsV, List.cons_append, List.nil_append, List.mem_cons] at hw'
          rcases hw' with rfl | rfl | rfl | rfl | rfl | h
          · exact hl
          · exact b1
          · exact b2
          · exact b3
          · exact b4
          · exact h
        exact ⟨this, GT_good this⟩
      refine m_go F I (mc' := 0) (ms' := 0) (T := T) (q := q) (va_runV (As := ((S.take n').reverse).map (tr E)) (rest := T.map (tr E)) (b := E.1 + a) F.1 (hC _ _ _ hq1) (cwV n' hts hG rfl rfl rfl ⟨rfl, b5⟩ ⟨Nat.le_trans hh hfr, by show 8 + (nL' + 11) + 40 * h' ≤ R.locals; omega⟩) ⟨m_blind hX μ _, ?_, fun U hU hW => m_pc F I rfl U hU hW⟩ rfl (by rw [List.length_map, List.length_reverse]; exact hlen) (by rw [I.2.2.2.2.1]; exact I.1) ?_ ?_ d ⟨by rw [hrc]; exact hnc, by rw [hrs]; exact hzc⟩) (fun h => absurd rfl h) hq2 hk
      · exact va_recv F.2.2.2.2.1 I.2.2.1.1 hv1 (mws_get hs)
      · show S.map (tr E) = _
        conv => lhs; rw [hS]
        simp [tr]
      · rw [tr_sum]
        simpa [JFrame.monitorRoom] using hw
    · cases hr
  · cases hr
theorem m_goodC (b : Cond.code y' cc' nL' ret' ∈ GT) : GoodIn GT (Cond.code y' cc' nL' ret' :: GT) := GT_goodIn b
theorem s_cS {idx : Nat} (d : decode cc pc = .ok (.invokestatic idx, 3)) (hl : Cond.methodLink y.cls idx y' ∈ GT) (hb : CbS y' cc' nL' ret' n') (hC : Ct E X l y' cc' nL' ret' h' 0 0 f) (hh : h' + 1 ≤ h) (hk : Sd E X l y cc nL ret h mc ms nc zc (pc + 3) k) (hnc : nc ≤ mc) (hzc : zc ≤ ms) : Sd E X l y cc nL ret h mc ms nc zc pc (i_cS n' f k) := by
  intro p e R s m args below meth c F L S μ r hr H locs ls I
  unfold i_cS at hr
  split at hr
  · rename_i hc
    obtain ⟨hle, hw⟩ := hc
    obtain ⟨q, hq1, hq2⟩ := Option.bind_eq_some_iff.mp hr
    obtain ⟨b1, b3, b4, b5, b6⟩ := hb
    have hts := F.1.2.2.2.2
    have hfr : h ≤ R.frames := F.2.2.2.2.2.2.2.1
    have hlo : 40 * h ≤ R.locals := F.2.2.2.2.2.2.2.2.1
    have hrc : R.cells = mc := F.2.2.2.2.2.2.2.2.2.1
    have hrs : R.slots = ms := F.2.2.2.2.2.2.2.2.2.2.1
    have hX := F.2.2.2.2.2.2.2.2.2.2.2
    have hlen : (S.take n').length = n' := by rw [List.length_take]; omega
    refine m_go F I (mc' := 0) (ms' := 0) (T := S.drop n') (q := q) (va_runS (As := ((S.take n').reverse).map (tr E)) (rest := (S.drop n').map (tr E)) F.1 (hC _ _ _ hq1) ⟨callB_of n' hts (m_goodC b4) rfl rfl rfl (hts _ b3) (hts _ hl) b5 ⟨Nat.le_trans hh hfr, by show 8 + (nL' + 11) + 40 * h' ≤ R.locals; omega⟩, hts _ b1⟩ ⟨m_blind hX μ _, fun U hU hW => m_pc F I rfl U hU hW⟩ rfl (by rw [List.length_map, List.length_reverse]; exact hlen) (by rw [I.2.2.2.2.1]; exact I.1) ?_ ?_ d ⟨by rw [hrc]; exact hnc, by rw [hrs]; exact hzc⟩) (fun h => absurd rfl h) hq2 hk
    · show S.map (tr E) = _
      conv => lhs; rw [← List.take_append_drop n' S]
      simp
    · rw [tr_sum]
      simpa [JFrame.monitorRoom] using hw
  · cases hr
/-- a nest mate's private static method -/
theorem s_cN {idx : Nat} {host : String} (d : decode cc pc = .ok (.invokestatic idx, 3)) (hl : Cond.methodLinkNest y.cls idx y' host ∈ NW) (hb : CbS y' cc' nL' ret' n') (hC : Ct E X l y' cc' nL' ret' h' 0 0 f) (hh : h' + 1 ≤ h) (hk : Sd E X l y cc nL ret h mc ms nc zc (pc + 3) k) (hnc : nc ≤ mc) (hzc : zc ≤ ms) : Sd E X l y cc nL ret h mc ms nc zc pc (i_cS n' f k) := by
  intro p e R s m args below meth c F L S μ r hr H locs ls I
  unfold i_cS at hr
  split at hr
  · rename_i hc
    obtain ⟨hle, hw⟩ := hc
    obtain ⟨q, hq1, hq2⟩ := Option.bind_eq_some_iff.mp hr
    obtain ⟨b1, b3, b4, b5, b6⟩ := hb
    have hts := F.1.2.2.2.2
    have hfr : h ≤ R.frames := F.2.2.2.2.2.2.2.1
    have hlo : 40 * h ≤ R.locals := F.2.2.2.2.2.2.2.2.1
    have hrc : R.cells = mc := F.2.2.2.2.2.2.2.2.2.1
    have hrs : R.slots = ms := F.2.2.2.2.2.2.2.2.2.2.1
    have hX := F.2.2.2.2.2.2.2.2.2.2.2
    have hlen : (S.take n').length = n' := by rw [List.length_take]; omega
    have hN : va_Nw (.methodLinkNest y.cls idx y' host) s := (hX.2.2 s s.heap F.2.2.2.2.2.1).1 _ hl
    refine m_go F I (mc' := 0) (ms' := 0) (T := S.drop n') (q := q) (va_runSN (As := ((S.take n').reverse).map (tr E)) (rest := (S.drop n').map (tr E)) F.1 (hC _ _ _ hq1) ⟨va_cnB n' hts (m_goodC b4) rfl rfl rfl hN (hts _ b3) b5 ⟨Nat.le_trans hh hfr, by show 8 + (nL' + 11) + 40 * h' ≤ R.locals; omega⟩, hts _ b1, trivial⟩ ⟨m_blind hX μ _, fun U hU hW => m_pc F I rfl U hU hW⟩ rfl (by rw [List.length_map, List.length_reverse]; exact hlen) (by rw [I.2.2.2.2.1]; exact I.1) ?_ ?_ d ⟨by rw [hrc]; exact hnc, by rw [hrs]; exact hzc⟩) (fun h => absurd rfl h) hq2 hk
    · show S.map (tr E) = _
      conv => lhs; rw [← List.take_append_drop n' S]
      simp
    · rw [tr_sum]
      simpa [JFrame.monitorRoom] using hw
  · cases hr
theorem s_cI {idx : Nat} (d : decode cc pc = .ok (.invokespecial idx, 3)) (hl : Cond.methodLink y.cls idx y' ∈ GT) (hb : CbI y' cc' nL' n') (hC : Ct E X l y' cc' nL' none h' mc' ms' f) (hh : h' + 1 ≤ h) (hn : nc + mc' ≤ mc) (hz : zc + ms' ≤ ms) (hk : Sd E X l y cc nL ret h mc ms (nc + mc') (zc + ms') (pc + 3) k) : Sd E X l y cc nL ret h mc ms nc zc pc (i_cI n' mc' f k) := by
  intro p e R s m args below meth c F L S μ r hr H locs ls I
  unfold i_cI at hr
  split at hr
  · rename_i a T hT
    split at hr
    · rename_i hw
      obtain ⟨q, hq1, hq2⟩ := Option.bind_eq_some_iff.mp hr
      split at hq2
      · rename_i hmn
        obtain ⟨b1, b3, b4, b5, b6, b7⟩ := hb
        have hts := F.1.2.2.2.2
        have hfr : h ≤ R.frames := F.2.2.2.2.2.2.2.1
        have hlo : 40 * h ≤ R.locals := F.2.2.2.2.2.2.2.2.1
        have hrc : R.cells = mc := F.2.2.2.2.2.2.2.2.2.1
        have hrs : R.slots = ms := F.2.2.2.2.2.2.2.2.2.2.1
        have hX := F.2.2.2.2.2.2.2.2.2.2.2
        have hlen : (S.take n').length = n' := by
          have : (S.drop n').length = T.length + 1 := by rw [hT]; rfl
          rw [List.length_drop] at this
          rw [List.length_take]
          omega
        have hS : S = S.take n' ++ .ref a :: T := by rw [← hT, List.take_append_drop]
        refine m_go F I (mc' := mc') (ms' := ms') (T := T) (q := q) (va_runI (As := ((S.take n').reverse).map (tr E)) (rest := T.map (tr E)) (b := E.1 + a) F.1 (hC _ _ _ hq1) (cwI n' hts (m_goodC b4) rfl rfl rfl (hts _ b3) (hts _ hl) (hts _ b1) b7 b5 ⟨Nat.le_trans hh hfr, by show 8 + (nL' + 11) + 40 * h' ≤ R.locals; omega⟩) ⟨m_blind hX μ _, fun U hU hW => m_pc F I rfl U hU hW⟩ rfl (by rw [List.length_map, List.length_reverse]; exact hlen) (by rw [I.2.2.2.2.1]; exact I.1) ?_ ?_ d ⟨by rw [hrc]; exact hn, by rw [hrs]; exact hz⟩) (fun _ => hmn) hq2 hk
        · show S.map (tr E) = _
          conv => lhs; rw [hS]
          simp [tr]
        · rw [tr_sum]
          simpa [JFrame.monitorRoom] using hw
      · cases hq2
    · cases hr
  · cases hr
/-- a nest mate's private constructor -/
theorem s_cJ {idx : Nat} {host : String} (d : decode cc pc = .ok (.invokespecial idx, 3)) (hl : Cond.methodLinkNest y.cls idx y' host ∈ NW) (hb : CbI y' cc' nL' n') (hC : Ct E X l y' cc' nL' none h' mc' ms' f) (hh : h' + 1 ≤ h) (hn : nc + mc' ≤ mc) (hz : zc + ms' ≤ ms) (hk : Sd E X l y cc nL ret h mc ms (nc + mc') (zc + ms') (pc + 3) k) : Sd E X l y cc nL ret h mc ms nc zc pc (i_cI n' mc' f k) := by
  intro p e R s m args below meth c F L S μ r hr H locs ls I
  unfold i_cI at hr
  split at hr
  · rename_i a T hT
    split at hr
    · rename_i hw
      obtain ⟨q, hq1, hq2⟩ := Option.bind_eq_some_iff.mp hr
      split at hq2
      · rename_i hmn
        obtain ⟨b1, b3, b4, b5, b6, b7⟩ := hb
        have hts := F.1.2.2.2.2
        have hfr : h ≤ R.frames := F.2.2.2.2.2.2.2.1
        have hlo : 40 * h ≤ R.locals := F.2.2.2.2.2.2.2.2.1
        have hrc : R.cells = mc := F.2.2.2.2.2.2.2.2.2.1
        have hrs : R.slots = ms := F.2.2.2.2.2.2.2.2.2.2.1
        have hX := F.2.2.2.2.2.2.2.2.2.2.2
        have hlen : (S.take n').length = n' := by
          have : (S.drop n').length = T.length + 1 := by rw [hT]; rfl
          rw [List.length_drop] at this
          rw [List.length_take]
          omega
        have hS : S = S.take n' ++ .ref a :: T := by rw [← hT, List.take_append_drop]
        refine m_go F I (mc' := mc') (ms' := ms') (T := T) (q := q) (va_runIN (As := ((S.take n').reverse).map (tr E)) (rest := T.map (tr E)) (b := E.1 + a) F.1 (hC _ _ _ hq1) ⟨va_cnB n' hts (m_goodC b4) rfl rfl rfl ((hX.2.2 s s.heap F.2.2.2.2.2.1).1 _ hl) (hts _ b3) b5 ⟨Nat.le_trans hh hfr, by show 8 + (nL' + 11) + 40 * h' ≤ R.locals; omega⟩, b7, hts _ b1⟩ ⟨m_blind hX μ _, fun U hU hW => m_pc F I rfl U hU hW⟩ rfl (by rw [List.length_map, List.length_reverse]; exact hlen) (by rw [I.2.2.2.2.1]; exact I.1) ?_ ?_ d ⟨by rw [hrc]; exact hn, by rw [hrs]; exact hz⟩) (fun _ => hmn) hq2 hk
        · show S.map (tr E) = _
          conv => lhs; rw [hS]
          simp [tr]
        · rw [tr_sum]
          simpa [JFrame.monitorRoom] using hw
      · cases hq2
    · cases hr
  · cases hr
theorem s_obj {idx : Nat} (d : decode cc pc = .ok (.invokespecial idx, 3)) (hl : Cond.methodLink y.cls idx objectInit ∈ GT) (h1 : Cond.instanceMethod objectInit ∈ GT) (h2 : Cond.code objectInit ⟨#[0xb1]⟩ 1 none ∈ GT) (hh : 1 ≤ h) (hk : Sd E X l y cc nL ret h mc ms nc zc (pc + 3) k) : Sd E X l y cc nL ret h mc ms nc zc pc (i_obj k) := by
  intro p e R s m args below meth c F L S μ r hr H locs ls I
  unfold i_obj at hr
  split at hr
  · split at hr
    · rename_i a T hw
      have hts := F.1.2.2.2.2
      have hfr : h ≤ R.frames := F.2.2.2.2.2.2.2.1
      have hlo : 40 * h ≤ R.locals := F.2.2.2.2.2.2.2.2.1
      refine W.objInit F.1.1 F.1.2.1 F.1.2.2.2.1 (hts _ hl) (hts _ h1) (hts _ h2) rfl (by rw [I.2.2.2.2.1, F.1.2.2.1]; exact I.1) rfl d (Nat.le_trans hh hfr) ?_ (hk p e R s m args below meth c F L _ μ r hr H locs ls I)
      rw [tr_sum]
      have : 2 * (F0 m pc ls (List.map (tr E) (Value.ref a :: T))).monitorRoom = 0 := by simp [JFrame.monitorRoom]
      omega
    · cases hr
  · cases hr
theorem Ct_of (hy : plainName y.cls = true) (hX : mXok E X) (hk : Sd E X l y cc nL ret h mc ms 0 0 0 k) : Ct E X l y cc nL ret h mc ms (mfn nL k) := by
  intro vs μ r hr
  unfold mfn at hr
  split at hr
  · rename_i hlen
    refine Met.ofW (cc := cc) (maxL := nL) (ret := ret) hy rfl ?_
    intro p e s m args below meth c s₁ B hml hv
    obtain ⟨rfl, hO, hK, hXs⟩ := hv
    have hts := atoms_spec (ws := Cond.code y cc nL ret :: GT) B.pre
    have F : mFx E X y cc nL ret h mc ms p (headSpec (Cond.code y cc nL ret :: GT) { frames := h, cells := mc, slots := ms, locals := 40 * h }).room s m (vs.map (tr E)).toArray meth c :=
      ⟨⟨B.exec, B.bytes, hml, findClass_of_methodNamed B.named, fun w hw => hts w (List.mem_cons_of_mem _ hw)⟩, B.notSynchronized, B.returns, fun _ => (name_of_methodNamed B.named B.method).1, hK, hXs, by rw [hO.2]; exact Nat.le_add_right _ _, Nat.le_refl _, Nat.le_refl _, rfl, rfl, hX⟩
    rw [lg_entry_eq]
    have hle : (lg_sl (vs.map (tr E))).length ≤ nL := by rw [mLs_len]; exact hlen
    refine hk p e _ s m _ below meth c F (mL0 nL vs) [] μ r hr s.heap [] _ ⟨?_, by rw [hO.2]; rfl, hO, va_S.rf, mLR_of (lv_entry _ hle) ?_ ?_⟩
    · simp [mL0]; omega
    · simp [mL0]; omega
    · intro i v hv
      unfold mL0 at hv
      by_cases hi : i < (mLs vs).length
      · rw [List.getElem?_append_left hi] at hv
        have := mLs_args E vs 0 i v hv
        simpa using this
      · rw [List.getElem?_append_right (by omega)] at hv
        rw [List.getElem?_replicate] at hv
        split at hv <;> cases hv
  · cases hr
theorem s_max {idx : Nat} (d : decode cc pc = .ok (.invokestatic idx, 3)) (hl : Cond.methodLink y.cls idx Lib.Math.max.name ∈ GT) (h1 : Cond.static Lib.Math.max.name ∈ GT) (h2 : Cond.initialized "java/lang/Math" ∈ GT) (h3 : Cond.code Lib.Math.max.name Lib.Math.max.code 2 (some .int) ∈ GT) (hh : 1 ≤ h) (hk : Sd E X l y cc nL ret h mc ms nc zc (pc + 3) k) (hnc : nc ≤ mc) (hzc : zc ≤ ms) : Sd E X l y cc nL ret h mc ms nc zc pc (i_mm (fun x y => if x < y then y else x) k) := by
  intro p e R s m args below meth c F L S μ r hr H locs ls I
  unfold i_mm at hr
  split at hr
  · split at hr
    · rename_i y' x' T hw
      have hts := F.1.2.2.2.2
      have hfr : h ≤ R.frames := F.2.2.2.2.2.2.2.1
      have hlo : 40 * h ≤ R.locals := F.2.2.2.2.2.2.2.2.1
      have hrc : R.cells = mc := F.2.2.2.2.2.2.2.2.2.1
      have hrs : R.slots = ms := F.2.2.2.2.2.2.2.2.2.2.1
      refine va_mmax F.1.1 F.1.2.1 (by rw [I.2.2.2.2.1, F.1.2.2.1]; exact I.1.symm) F.1.2.2.2.1 (hts _ hl) (hts _ h1) (hts _ h2) (hts _ h3) (Nat.le_trans hh hfr) ?_ (by rw [hrc]; exact hnc) (by rw [hrs]; exact hzc) d (hk p e R s m args below meth c F L _ μ r hr H locs ls I)
      rw [tr_sum]; omega
    · cases hr
  · cases hr
theorem s_min {idx : Nat} (d : decode cc pc = .ok (.invokestatic idx, 3)) (hl : Cond.methodLink y.cls idx Lib.Math.min.name ∈ GT) (h1 : Cond.static Lib.Math.min.name ∈ GT) (h2 : Cond.initialized "java/lang/Math" ∈ GT) (h3 : Cond.code Lib.Math.min.name Lib.Math.min.code 2 (some .int) ∈ GT) (hh : 1 ≤ h) (hk : Sd E X l y cc nL ret h mc ms nc zc (pc + 3) k) (hnc : nc ≤ mc) (hzc : zc ≤ ms) : Sd E X l y cc nL ret h mc ms nc zc pc (i_mm (fun x y => if y < x then y else x) k) := by
  intro p e R s m args below meth c F L S μ r hr H locs ls I
  unfold i_mm at hr
  split at hr
  · split at hr
    · rename_i y' x' T hw
      have hts := F.1.2.2.2.2
      have hfr : h ≤ R.frames := F.2.2.2.2.2.2.2.1
      have hlo : 40 * h ≤ R.locals := F.2.2.2.2.2.2.2.2.1
      have hrc : R.cells = mc := F.2.2.2.2.2.2.2.2.2.1
      have hrs : R.slots = ms := F.2.2.2.2.2.2.2.2.2.2.1
      refine va_mmin F.1.1 F.1.2.1 (by rw [I.2.2.2.2.1, F.1.2.2.1]; exact I.1.symm) F.1.2.2.2.1 (hts _ hl) (hts _ h1) (hts _ h2) (hts _ h3) (Nat.le_trans hh hfr) ?_ (by rw [hrc]; exact hnc) (by rw [hrs]; exact hzc) d (hk p e R s m args below meth c F L _ μ r hr H locs ls I)
      rw [tr_sum]; omega
    · cases hr
  · cases hr
end SdRows6
