/-! ARRAYS, NEW CELLS, CALLS -/
section SdRows4
variable {E : mE} {X : State → Heap → Prop} {l : Launch} {y : MethodName} {cc : ByteArray} {nL : Nat} {ret : Option FieldType} {h mc ms nc zc pc : Nat} {k kt kf : mK}
theorem s_iald (d : decode cc pc = .ok (.iaload, 1)) (hk : Sd E X l y cc nL ret h mc ms nc zc (pc + 1) k) : Sd E X l y cc nL ret h mc ms nc zc pc (i_al 0 k) := by
  intro p e R s m args below meth c F L S μ r hr H locs ls I
  unfold i_al at hr
  split at hr
  · split at hr
    · split at hr
      · rename_i i a S' _ t' n hs hc
        obtain ⟨rfl, h1, h2⟩ := hc
        exact va_iald F.1.1 F.1.2.1 F.2.2.2.2.1 I.2.2.1.1 a 0 (mws_get hs) rfl (m_in h1 h2) d (hk p e R s m args below meth c F L _ μ r hr H locs ls I)
      · cases hr
    · cases hr
  · cases hr
theorem s_bald (d : decode cc pc = .ok (.baload, 1)) (hk : Sd E X l y cc nL ret h mc ms nc zc (pc + 1) k) : Sd E X l y cc nL ret h mc ms nc zc pc (i_al 1 k) := by
  intro p e R s m args below meth c F L S μ r hr H locs ls I
  unfold i_al at hr
  split at hr
  · split at hr
    · split at hr
      · rename_i i a S' _ t' n hs hc
        obtain ⟨rfl, h1, h2⟩ := hc
        exact va_bald F.1.1 F.1.2.1 F.2.2.2.2.1 I.2.2.1.1 a 1 (mws_get hs) rfl (m_in h1 h2) d (hk p e R s m args below meth c F L _ μ r hr H locs ls I)
      · cases hr
    · cases hr
  · cases hr
theorem s_zald (d : decode cc pc = .ok (.baload, 1)) (hk : Sd E X l y cc nL ret h mc ms nc zc (pc + 1) k) : Sd E X l y cc nL ret h mc ms nc zc pc (i_al 2 k) := by
  intro p e R s m args below meth c F L S μ r hr H locs ls I
  unfold i_al at hr
  split at hr
  · split at hr
    · split at hr
      · rename_i i a S' _ t' n hs hc
        obtain ⟨rfl, h1, h2⟩ := hc
        exact va_zald F.1.1 F.1.2.1 F.2.2.2.2.1 I.2.2.1.1 a 2 (mws_get hs) rfl (m_in h1 h2) d (hk p e R s m args below meth c F L _ μ r hr H locs ls I)
      · cases hr
    · cases hr
  · cases hr
theorem s_lald (d : decode cc pc = .ok (.laload, 1)) (hk : Sd E X l y cc nL ret h mc ms nc zc (pc + 1) k) : Sd E X l y cc nL ret h mc ms nc zc pc (i_alJ k) := by
  intro p e R s m args below meth c F L S μ r hr H locs ls I
  unfold i_alJ at hr
  split at hr
  · split at hr
    · split at hr
      · rename_i i a S' _ t' n hs hc
        obtain ⟨rfl, h1, h2⟩ := hc
        exact va_lald F.1.1 F.1.2.1 F.2.2.2.2.1 I.2.2.1.1 a 3 (mws_get hs) rfl (m_in h1 h2) d (hk p e R s m args below meth c F L _ μ r hr H locs ls I)
      · cases hr
    · cases hr
  · cases hr
theorem upd_uI (μ : mM) (a j : Nat) (x : Int32) : upd (μ.1 a) j x = (uI μ a j x).1 a := by
  funext i
  simp [upd, uI]
theorem updL_uJ (μ : mM) (a j : Nat) (x : Int64) : vp_updL (μ.2.1 a) j x = (uJ μ a j x).2.1 a := by
  funext i
  simp [vp_updL, uJ]
theorem s_iast (d : decode cc pc = .ok (.iastore, 1)) (hk : Sd E X l y cc nL ret h mc ms nc zc (pc + 1) k) : Sd E X l y cc nL ret h mc ms nc zc pc (i_as 0 k) := by
  intro p e R s m args below meth c F L S μ r hr H locs ls I
  unfold i_as at hr
  split at hr
  · split at hr
    · split at hr
      · rename_i x i a S' _ t' n hs hc
        obtain ⟨rfl, h1, h2⟩ := hc
        refine va_iast F.1.1 F.1.2.1 F.2.2.2.2.1 I.2.2.1.1 (mws_D E μ) I.2.2.2.1 a 0 (mws_get hs) rfl (m_in h1 h2) d (fun H1 locs1 hP1 _ hS1 => W_size fun hsz => ?_)
        refine hk p e R s m args below meth c F L _ _ r hr H1 locs1 ls (mIn_put I hs rfl ?_ ?_ hP1 hS1 hsz)
        · show Sum.inl (E.2.2.2 0, n, Sum.inl _) = Sum.inl (E.2.2.2 0, n, Sum.inl _)
          rw [upd_uI]; rfl
        · intro b hb
          refine ⟨?_, rfl, rfl⟩
          funext i
          simp [uI, hb]
      · cases hr
    · cases hr
  · cases hr
theorem s_bast (d : decode cc pc = .ok (.bastore, 1)) (hk : Sd E X l y cc nL ret h mc ms nc zc (pc + 1) k) : Sd E X l y cc nL ret h mc ms nc zc pc (i_as 1 k) := by
  intro p e R s m args below meth c F L S μ r hr H locs ls I
  unfold i_as at hr
  split at hr
  · split at hr
    · split at hr
      · rename_i x i a S' _ t' n hs hc
        obtain ⟨rfl, h1, h2⟩ := hc
        refine va_bast F.1.1 F.1.2.1 F.2.2.2.2.1 I.2.2.1.1 (mws_D E μ) I.2.2.2.1 a 1 (mws_get hs) rfl (m_in h1 h2) d (fun H1 locs1 hP1 _ hS1 => W_size fun hsz => ?_)
        refine hk p e R s m args below meth c F L _ _ r hr H1 locs1 ls (mIn_put I hs rfl ?_ ?_ hP1 hS1 hsz)
        · show Sum.inl (E.2.2.2 1, n, Sum.inl _) = Sum.inl (E.2.2.2 1, n, Sum.inl _)
          rw [upd_uI]; rfl
        · intro b hb
          refine ⟨?_, rfl, rfl⟩
          funext i
          simp [uI, hb]
      · cases hr
    · cases hr
  · cases hr
theorem s_zast (d : decode cc pc = .ok (.bastore, 1)) (hk : Sd E X l y cc nL ret h mc ms nc zc (pc + 1) k) : Sd E X l y cc nL ret h mc ms nc zc pc (i_as 2 k) := by
  intro p e R s m args below meth c F L S μ r hr H locs ls I
  unfold i_as at hr
  split at hr
  · split at hr
    · split at hr
      · rename_i x i a S' _ t' n hs hc
        obtain ⟨rfl, h1, h2⟩ := hc
        refine va_zast F.1.1 F.1.2.1 F.2.2.2.2.1 I.2.2.1.1 (mws_D E μ) I.2.2.2.1 a 2 (mws_get hs) rfl (m_in h1 h2) d (fun H1 locs1 hP1 _ hS1 => W_size fun hsz => ?_)
        refine hk p e R s m args below meth c F L _ _ r hr H1 locs1 ls (mIn_put I hs rfl ?_ ?_ hP1 hS1 hsz)
        · show Sum.inl (E.2.2.2 2, n, Sum.inl _) = Sum.inl (E.2.2.2 2, n, Sum.inl _)
          rw [upd_uI]; rfl
        · intro b hb
          refine ⟨?_, rfl, rfl⟩
          funext i
          simp [uI, hb]
      · cases hr
    · cases hr
  · cases hr
theorem s_last (d : decode cc pc = .ok (.lastore, 1)) (hk : Sd E X l y cc nL ret h mc ms nc zc (pc + 1) k) : Sd E X l y cc nL ret h mc ms nc zc pc (i_asJ k) := by
  intro p e R s m args below meth c F L S μ r hr H locs ls I
  unfold i_asJ at hr
  split at hr
  · split at hr
    · split at hr
      · rename_i x i a S' _ t' n hs hc
        obtain ⟨rfl, h1, h2⟩ := hc
        refine va_last F.1.1 F.1.2.1 F.2.2.2.2.1 I.2.2.1.1 (mws_D E μ) I.2.2.2.1 a 3 (mws_get hs) rfl (m_in h1 h2) d (fun H1 locs1 hP1 _ hS1 => W_size fun hsz => ?_)
        refine hk p e R s m args below meth c F L _ _ r hr H1 locs1 ls (mIn_put I hs rfl ?_ ?_ hP1 hS1 hsz)
        · show Sum.inl (E.2.2.2 3, n, Sum.inr (Sum.inl _)) = Sum.inl (E.2.2.2 3, n, Sum.inr (Sum.inl _))
          rw [updL_uJ]
        · intro b hb
          refine ⟨rfl, ?_, rfl⟩
          funext i
          simp [uJ, hb]
      · cases hr
    · cases hr
  · cases hr
theorem s_len (d : decode cc pc = .ok (.arraylength, 1)) (hk : Sd E X l y cc nL ret h mc ms nc zc (pc + 1) k) : Sd E X l y cc nL ret h mc ms nc zc pc (i_len k) := by
  intro p e R s m args below meth c F L S μ r hr H locs ls I
  unfold i_len at hr
  split at hr
  · split at hr
    · split at hr
      · rename_i a S' _ t n hs hc
        have hk := hk p e R s m args below meth c F L _ μ r hr H locs ls I
        match t, hs, hc with
        | 0, hs, _ => exact va_alen F.1.1 F.1.2.1 F.2.2.2.2.1 I.2.2.1.1 a 0 (mws_get hs) (ty := .int) rfl rfl d hk
        | 1, hs, _ => exact va_alen F.1.1 F.1.2.1 F.2.2.2.2.1 I.2.2.1.1 a 1 (mws_get hs) (ty := .byte) rfl rfl d hk
        | 2, hs, _ => exact va_alen F.1.1 F.1.2.1 F.2.2.2.2.1 I.2.2.1.1 a 2 (mws_get hs) (ty := .boolean) rfl rfl d hk
        | 3, hs, _ => exact va_alen F.1.1 F.1.2.1 F.2.2.2.2.1 I.2.2.1.1 a 3 (mws_get hs) (ty := .long) rfl rfl d hk
        | t + 4, hs, hc => omega
      · cases hr
    · cases hr
  · cases hr
end SdRows4
