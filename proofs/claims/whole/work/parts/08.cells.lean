/-! FIELDS AND ARRAYS -/
theorem W_size {p : Program} {l : Launch} {e : Env} {R : Room} {s : State} {m : MethodId} {args : Array Value} {below : List Frame} {meth : Method} {c : Code} {H : Heap} {locs : List Loc} {cells slots : Nat} {Q : State → Prop} {g : JFrame} (f : H.size ≤ s.heap.size + cells → W p l e R s m args below meth c H locs cells slots Q g) : W p l e R s m args below meth c H locs cells slots Q g :=
  fun T hT X => f (by rw [← hT]; exact X.heapSize) T hT X
theorem mOwn_of {E : mE} {μ : mM} {H : Heap} (hP : va_P E.2.2.1 vwCl (mws E μ) H) (hn : 0 < mn μ) (hle : H.size ≤ E.1 + mn μ) : mOwn E μ H := by
  refine ⟨hP, Nat.le_antisymm hle ?_⟩
  have hl : mn μ - 1 < μ.2.2.2.length := by unfold mn at hn ⊢; omega
  have h1 := (hP (mn μ - 1) _ (mws_get (q := μ.2.2.2[mn μ - 1]) (List.getElem?_eq_getElem hl))).lt
  simp only at h1
  omega
theorem m_in {i : Int32} {n : Nat} (h0 : 0 ≤ i) (h1 : i.toNatClampNeg < n) : vp_in i n := by
  rintro (h | h)
  · exact absurd h (Int32.not_lt.mpr h0)
  · omega
theorem nf_of {ci : Nat} {q : vw_C} (h : vwCl[ci]? = some q) : nfOf ci = q.2.2 := by simp [nfOf, h]
theorem mfs_get {E : mE} {μ : mM} {a ci j : Nat} (h : j < nfOf ci) : (mfs E μ a ci)[j]? = some (mfv E μ a j (tyOf ci j)) := by
  simp [mfs, h]
theorem mfs_len {E : mE} {μ : mM} {a ci : Nat} : (mfs E μ a ci).length = nfOf ci := by simp [mfs]
theorem mfs_set {E : mE} {μ ν : mM} {a ci j : Nat} {v : Value} (hj : j < nfOf ci) (hv : mfv E ν a j (tyOf ci j) = v) (ho : ∀ i, i ≠ j → ν.1 a i = μ.1 a i ∧ ν.2.1 a i = μ.2.1 a i ∧ ν.2.2.1 a i = μ.2.2.1 a i) : (mfs E μ a ci).set j v = mfs E ν a ci := by
  refine List.ext_getElem? fun i => ?_
  by_cases hi : i = j
  · subst hi
    rw [List.getElem?_set_self (by rw [mfs_len]; exact hj), mfs_get hj, hv]
  · rw [List.getElem?_set_ne (fun e => hi e.symm)]
    obtain ⟨h1, h2, h3⟩ := ho i hi
    simp only [mfs, List.getElem?_map, List.getElem?_range', List.getElem?_range]
    have : mfv E μ a i (tyOf ci i) = mfv E ν a i (tyOf ci i) := by
      unfold mfv
      rw [h1, h2, h3]
    by_cases hl : i < nfOf ci
    · simp [hl, this]
    · simp [hl]
theorem mfv_i {E : mE} {μ : mM} {a j : Nat} {ty : FieldType} (h : mkd ty ≤ 2) : mfv E μ a j ty = .int (μ.1 a j) := by
  cases ty <;> first | rfl | (simp [mkd] at h)
theorem mfv_j {E : mE} {μ : mM} {a j : Nat} {ty : FieldType} (h : mkd ty = 3) : mfv E μ a j ty = .long (μ.2.1 a j) := by
  cases ty <;> first | rfl | (simp [mkd] at h)
theorem mfv_a {E : mE} {μ : mM} {a j : Nat} {ty : FieldType} (h : mkd ty = 5) : mfv E μ a j ty = mrf E (μ.2.2.1 a j) := by
  cases ty <;> first | rfl | (simp [mkd] at h)
theorem tr_mvr (E : mE) (r : Option Nat) : tr E (mvr r) = mrf E r := by cases r <;> rfl
theorem mn_uI (μ : mM) (a j : Nat) (x : Int32) : mn (uI μ a j x) = mn μ := rfl
theorem mz_uI (μ : mM) (a j : Nat) (x : Int32) : mz (uI μ a j x) = mz μ := rfl
section SdRows3
variable {E : mE} {X : State → Heap → Prop} {l : Launch} {y : MethodName} {cc : ByteArray} {nL : Nat} {ret : Option FieldType} {h mc ms nc zc pc : Nat} {k kt kf : mK}
theorem s_gI {idx ci j kd : Nat} {fin : Bool} (d : decode cc pc = .ok (.getfield idx, 3)) (f : Fl y.cls idx ci j kd fin) (hkd : kd ≤ 2) (hk : Sd E X l y cc nL ret h mc ms nc zc (pc + 3) k) : Sd E X l y cc nL ret h mc ms nc zc pc (i_gI ci j k) := by
  intro p e R s m args below meth c F L S μ r hr H locs ls I
  unfold i_gI at hr
  split at hr
  · split at hr
    · rename_i a S' hs
      obtain ⟨q, f1, f2, f3, -, f5, -⟩ := f
      exact va_get F.1.1 F.1.2.1 F.1.2.2.2.2 (clOk f1).1 F.1.2.2.2.1 F.2.2.2.2.1 I.2.2.1.1 a (mws_get hs) f1 j f2 (F.1.2.2.2.2 _ f3) (fun _ h => h) ((mfs_get (by rw [nf_of f1]; exact f2)).trans (by rw [mfv_i (by show mkd (tyOf ci j) ≤ 2; omega)]; rfl)) d (hk p e R s m args below meth c F L _ μ r hr H locs ls I)
    · cases hr
  · cases hr
theorem s_gJ {idx ci j : Nat} {fin : Bool} (d : decode cc pc = .ok (.getfield idx, 3)) (f : Fl y.cls idx ci j 3 fin) (hk : Sd E X l y cc nL ret h mc ms nc zc (pc + 3) k) : Sd E X l y cc nL ret h mc ms nc zc pc (i_gJ ci j k) := by
  intro p e R s m args below meth c F L S μ r hr H locs ls I
  unfold i_gJ at hr
  split at hr
  · split at hr
    · rename_i a S' hs
      obtain ⟨q, f1, f2, f3, -, f5, -⟩ := f
      exact va_get F.1.1 F.1.2.1 F.1.2.2.2.2 (clOk f1).1 F.1.2.2.2.1 F.2.2.2.2.1 I.2.2.1.1 a (mws_get hs) f1 j f2 (F.1.2.2.2.2 _ f3) (fun _ h => h) ((mfs_get (by rw [nf_of f1]; exact f2)).trans (by rw [mfv_j f5]; rfl)) d (hk p e R s m args below meth c F L _ μ r hr H locs ls I)
    · cases hr
  · cases hr
theorem s_gA {idx ci j : Nat} {fin : Bool} (d : decode cc pc = .ok (.getfield idx, 3)) (f : Fl y.cls idx ci j 5 fin) (hk : Sd E X l y cc nL ret h mc ms nc zc (pc + 3) k) : Sd E X l y cc nL ret h mc ms nc zc pc (i_gA ci j k) := by
  intro p e R s m args below meth c F L S μ r hr H locs ls I
  unfold i_gA at hr
  split at hr
  · split at hr
    · rename_i a S' hs
      obtain ⟨q, f1, f2, f3, -, f5, -⟩ := f
      exact va_get (v := tr E (mvr (μ.2.2.1 a j))) F.1.1 F.1.2.1 F.1.2.2.2.2 (clOk f1).1 F.1.2.2.2.1 F.2.2.2.2.1 I.2.2.1.1 a (mws_get hs) f1 j f2 (F.1.2.2.2.2 _ f3) (fun _ h => h) ((mfs_get (by rw [nf_of f1]; exact f2)).trans (by rw [mfv_a f5, tr_mvr])) d (hk p e R s m args below meth c F L _ μ r hr H locs ls I)
    · cases hr
  · cases hr
/-- one cell has changed -/
theorem mIn_put {a : Nat} {s : State} {L : List (Option Value)} {μ ν : mM} {H H1 : Heap} {locs locs1 : List Loc} {ls : Array Slot} {q : Nat × Nat} {x : va_E} (I : mIn E nL nc s.heap L μ H locs ls) (hs : μ.2.2.2[a]? = some q) (hY : ν.2.2.2 = μ.2.2.2) (hx : x = mcell E ν a q) (ho : ∀ b, b ≠ a → ν.1 b = μ.1 b ∧ ν.2.1 b = μ.2.1 b ∧ ν.2.2.1 b = μ.2.2.1 b) (hP : va_P E.2.2.1 vwCl ((mws E μ).set a (E.1 + a, x)) H1) (hS : va_S (mA E) s.heap H1 locs1) (hsz : H1.size ≤ s.heap.size + nc) : mIn E nL nc s.heap L ν H1 locs1 ls := by
  obtain ⟨I1, I0, I2, I3, I4⟩ := I
  have hm : mn ν = mn μ := by unfold mn; rw [hY]
  have hpos : a < μ.2.2.2.length := (List.getElem?_eq_some_iff.mp hs).1
  subst hx
  rw [mws_set hs hY ho] at hP
  refine ⟨I1, by rw [hm]; exact I0, mOwn_of hP (by rw [hm]; exact Nat.lt_of_le_of_lt (Nat.zero_le _) hpos) (by omega), hS, I4⟩
theorem s_pI {idx ci j : Nat} (d : decode cc pc = .ok (.putfield idx, 3)) (f : Fl y.cls idx ci j 0 false) (hk : Sd E X l y cc nL ret h mc ms nc zc (pc + 3) k) : Sd E X l y cc nL ret h mc ms nc zc pc (i_pI ci j k) := by
  intro p e R s m args below meth c F L S μ r hr H locs ls I
  unfold i_pI at hr
  split at hr
  · split at hr
    · rename_i x a S' hs
      obtain ⟨q, f1, f2, f3, f4, f5, -⟩ := f
      obtain ⟨g1, g2, g3⟩ := clOk f1
      have hj : j < nfOf ci := by rw [nf_of f1]; exact f2
      have hty : tyOf ci j = .int := by revert f5; generalize tyOf ci j = ty; intro f5; cases ty <;> first | rfl | (simp [mkd] at f5)
      refine va_put F.1.1 F.1.2.1 F.1.2.2.2.2 g1 (tyOf ci) g2 g3 F.1.2.2.2.1 F.2.2.2.2.1 I.2.2.1.1 (mws_D E μ) I.2.2.2.1 a (mws_get hs) f1 j f2 (F.1.2.2.2.2 _ f3) (fun _ h => h) f4 (v := .int x) ((g2 j f2).trans (by rw [hty])) rfl rfl (by rw [mfs_len]; exact hj) d (fun H1 locs1 hP1 _ hS1 => W_size fun hsz => ?_)
      refine hk p e R s m args below meth c F L _ (uI μ a j x) r hr H1 locs1 ls (mIn_put I hs rfl ?_ ?_ hP1 hS1 hsz)
      · show _ = Sum.inr (ci, mfs E (uI μ a j x) a ci)
        rw [mfs_set (ν := uI μ a j x) hj (by rw [mfv_i (by omega)]; simp [uI]) (fun i hi => by simp [uI, hi])]
      · intro b hb
        refine ⟨?_, rfl, rfl⟩
        funext i
        simp [uI, hb]
    · cases hr
  · cases hr
theorem s_pZ {idx ci j : Nat} (d : decode cc pc = .ok (.putfield idx, 3)) (f : Fl y.cls idx ci j 2 false) (hk : Sd E X l y cc nL ret h mc ms nc zc (pc + 3) k) : Sd E X l y cc nL ret h mc ms nc zc pc (i_pZ ci j k) := by
  intro p e R s m args below meth c F L S μ r hr H locs ls I
  unfold i_pZ at hr
  split at hr
  · split at hr
    · rename_i x a S' hs
      obtain ⟨hs, hx⟩ := hs
      obtain ⟨q, f1, f2, f3, f4, f5, -⟩ := f
      obtain ⟨g1, g2, g3⟩ := clOk f1
      have hj : j < nfOf ci := by rw [nf_of f1]; exact f2
      have hty : tyOf ci j = .boolean := by revert f5; generalize tyOf ci j = ty; intro f5; cases ty <;> first | rfl | (simp [mkd] at f5)
      refine va_put F.1.1 F.1.2.1 F.1.2.2.2.2 g1 (tyOf ci) g2 g3 F.1.2.2.2.1 F.2.2.2.2.1 I.2.2.1.1 (mws_D E μ) I.2.2.2.1 a (mws_get hs) f1 j f2 (F.1.2.2.2.2 _ f3) (fun _ h => h) f4 (v := .int x) ((g2 j f2).trans (by rw [hty])) (by rcases hx with rfl | rfl <;> rfl) (by rcases hx with rfl | rfl <;> rfl) (by rw [mfs_len]; exact hj) d (fun H1 locs1 hP1 _ hS1 => W_size fun hsz => ?_)
      refine hk p e R s m args below meth c F L _ (uI μ a j x) r hr H1 locs1 ls (mIn_put I hs rfl ?_ ?_ hP1 hS1 hsz)
      · show _ = Sum.inr (ci, mfs E (uI μ a j x) a ci)
        rw [mfs_set (ν := uI μ a j x) hj (by rw [mfv_i (by omega)]; simp [uI]) (fun i hi => by simp [uI, hi])]
      · intro b hb
        refine ⟨?_, rfl, rfl⟩
        funext i
        simp [uI, hb]
    · cases hr
  · cases hr
theorem s_pJ {idx ci j : Nat} (d : decode cc pc = .ok (.putfield idx, 3)) (f : Fl y.cls idx ci j 3 false) (hk : Sd E X l y cc nL ret h mc ms nc zc (pc + 3) k) : Sd E X l y cc nL ret h mc ms nc zc pc (i_pJ ci j k) := by
  intro p e R s m args below meth c F L S μ r hr H locs ls I
  unfold i_pJ at hr
  split at hr
  · split at hr
    · rename_i x a S' hs
      obtain ⟨q, f1, f2, f3, f4, f5, -⟩ := f
      obtain ⟨g1, g2, g3⟩ := clOk f1
      have hj : j < nfOf ci := by rw [nf_of f1]; exact f2
      have hty : tyOf ci j = .long := by revert f5; generalize tyOf ci j = ty; intro f5; cases ty <;> first | rfl | (simp [mkd] at f5)
      refine va_put F.1.1 F.1.2.1 F.1.2.2.2.2 g1 (tyOf ci) g2 g3 F.1.2.2.2.1 F.2.2.2.2.1 I.2.2.1.1 (mws_D E μ) I.2.2.2.1 a (mws_get hs) f1 j f2 (F.1.2.2.2.2 _ f3) (fun _ h => h) f4 (v := .long x) ((g2 j f2).trans (by rw [hty])) rfl rfl (by rw [mfs_len]; exact hj) d (fun H1 locs1 hP1 _ hS1 => W_size fun hsz => ?_)
      refine hk p e R s m args below meth c F L _ (uJ μ a j x) r hr H1 locs1 ls (mIn_put I hs rfl ?_ ?_ hP1 hS1 hsz)
      · show _ = Sum.inr (ci, mfs E (uJ μ a j x) a ci)
        rw [mfs_set (ν := uJ μ a j x) hj (by rw [mfv_j f5]; simp [uJ]) (fun i hi => by simp [uJ, hi])]
      · intro b hb
        refine ⟨rfl, ?_, rfl⟩
        funext i
        simp [uJ, hb]
    · cases hr
  · cases hr
theorem m_fits {ty : FieldType} {v : Value} (h : mkd ty = 5) (hv : ∃ a, v = .ref a) : narrow ty v = v ∧ fits ty v = true := by
  obtain ⟨a, rfl⟩ := hv
  cases ty <;> first | exact ⟨rfl, rfl⟩ | (simp [mkd] at h)
theorem s_pA {idx ci j : Nat} (d : decode cc pc = .ok (.putfield idx, 3)) (f : Fl y.cls idx ci j 5 false) (hk : Sd E X l y cc nL ret h mc ms nc zc (pc + 3) k) : Sd E X l y cc nL ret h mc ms nc zc pc (i_pA ci j k) := by
  intro p e R s m args below meth c F L S μ r hr H locs ls I
  unfold i_pA at hr
  split at hr
  · split at hr
    · rename_i x a S' hs
      obtain ⟨q, f1, f2, f3, f4, f5, -⟩ := f
      obtain ⟨g1, g2, g3⟩ := clOk f1
      have hj : j < nfOf ci := by rw [nf_of f1]; exact f2
      obtain ⟨hn, hf⟩ := m_fits (v := .ref (E.1 + x)) f5 ⟨_, rfl⟩
      refine va_put F.1.1 F.1.2.1 F.1.2.2.2.2 g1 (tyOf ci) g2 g3 F.1.2.2.2.1 F.2.2.2.2.1 I.2.2.1.1 (mws_D E μ) I.2.2.2.1 a (mws_get hs) f1 j f2 (F.1.2.2.2.2 _ f3) (fun _ h => h) f4 (v := .ref (E.1 + x)) (g2 j f2) hn hf (by rw [mfs_len]; exact hj) d (fun H1 locs1 hP1 _ hS1 => W_size fun hsz => ?_)
      refine hk p e R s m args below meth c F L _ (uR μ a j (some x)) r hr H1 locs1 ls (mIn_put I hs rfl ?_ ?_ hP1 hS1 hsz)
      · show _ = Sum.inr (ci, mfs E (uR μ a j (some x)) a ci)
        rw [mfs_set (ν := uR μ a j (some x)) hj (by rw [mfv_a f5]; simp [uR, mrf]) (fun i hi => by simp [uR, hi])]
      · intro b hb
        refine ⟨rfl, rfl, ?_⟩
        funext i
        simp [uR, hb]
    · cases hr
  · cases hr
/-- a final field, in a constructor of its own class -/
theorem s_pF {idx ci j : Nat} (d : decode cc pc = .ok (.putfield idx, 3)) (f : Fl y.cls idx ci j 5 true) (hi : y.name = "<init>") (hc : (vwCl[ci]?.map (fun q => q.1)) = some y.cls) (hk : Sd E X l y cc nL ret h mc ms nc zc (pc + 3) k) : Sd E X l y cc nL ret h mc ms nc zc pc (i_pA ci j k) := by
  intro p e R s m args below meth c F L S μ r hr H locs ls I
  unfold i_pA at hr
  split at hr
  · split at hr
    · rename_i x a S' hs
      obtain ⟨q, f1, f2, f3, f4, f5, f6⟩ := f
      obtain ⟨g1, g2, g3⟩ := clOk f1
      have hj : j < nfOf ci := by rw [nf_of f1]; exact f2
      have hdecl : (q.2.1 j).1 = y.cls := by
        rw [f1] at hc
        exact f6.trans (Option.some.inj hc)
      obtain ⟨hn, hf⟩ := m_fits (v := .ref (E.1 + x)) f5 ⟨_, rfl⟩
      refine va_putF F.1.1 F.1.2.1 F.1.2.2.2.2 g1 (tyOf ci) g2 g3 F.1.2.2.2.1 F.2.2.2.2.1 I.2.2.1.1 (mws_D E μ) I.2.2.2.1 a (mws_get hs) f1 j f2 (F.1.2.2.2.2 _ f3) (fun _ h => h) f4 ((F.2.2.2.1 hi).trans hi) hdecl (v := .ref (E.1 + x)) (g2 j f2) hn hf (by rw [mfs_len]; exact hj) d (fun H1 locs1 hP1 _ hS1 => W_size fun hsz => ?_)
      refine hk p e R s m args below meth c F L _ (uR μ a j (some x)) r hr H1 locs1 ls (mIn_put I hs rfl ?_ ?_ hP1 hS1 hsz)
      · show _ = Sum.inr (ci, mfs E (uR μ a j (some x)) a ci)
        rw [mfs_set (ν := uR μ a j (some x)) hj (by rw [mfv_a f5]; simp [uR, mrf]) (fun i hi => by simp [uR, hi])]
      · intro b hb
        refine ⟨rfl, rfl, ?_⟩
        funext i
        simp [uR, hb]
    · cases hr
  · cases hr
end SdRows3
