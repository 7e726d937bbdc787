/-! NEW CELLS, SWITCHES, CALLS, A METHOD'S ENTRY -/
theorem mn_new (μ : mM) (q : Nat × Nat) : mn (mnew μ q) = mn μ + 1 := by simp [mn, mnew]
theorem mws_new (E : mE) (μ : mM) (q : Nat × Nat) : mws E (mnew μ q) = mws E μ ++ [(E.1 + mn μ, mcell E (mnew μ q) (mn μ) q)] := by
  refine List.ext_getElem? fun i => ?_
  have hlen : (mws E μ).length = mn μ := by simp [mws, mn]
  by_cases hi : i < mn μ
  · rw [List.getElem?_append_left (by rw [hlen]; exact hi)]
    have hne : i ≠ mn μ := Nat.ne_of_lt hi
    have hy : (μ.2.2.2 ++ [q])[i]? = μ.2.2.2[i]? := List.getElem?_append_left hi
    simp only [mws, mnew, List.getElem?_mapIdx, hy]
    have : ∀ x, mcell E μ i x = mcell E (mnew μ q) i x := by
      intro x
      unfold mcell mfs mfv mnew
      simp [hne]
    simp only [this, mnew]
  · rw [List.getElem?_append_right (by rw [hlen]; omega), hlen]
    simp only [mws, List.getElem?_mapIdx]
    by_cases he : i = mn μ
    · subst he
      have hy : (mnew μ q).2.2.2[mn μ]? = some q := by
        show (μ.2.2.2 ++ [q])[μ.2.2.2.length]? = some q
        simp
      rw [hy]
      simp
    · have hy : (mnew μ q).2.2.2[i]? = none := by
        show (μ.2.2.2 ++ [q])[i]? = none
        have : μ.2.2.2.length = mn μ := rfl
        simp; omega
      rw [hy]
      have : i - mn μ ≠ 0 := by omega
      obtain ⟨z, hz⟩ := Nat.exists_eq_succ_of_ne_zero this
      rw [hz]
      simp
/-- one case behind the other -/
def tsw (P : Nat → mK → Prop) (pc : Nat) : Int → List Int → List (Int32 × mK) → Prop
  | v, o :: os, (w, k) :: cs => w.toInt = v ∧ (∃ t : Nat, (pc : Int) + o = (t : Int) ∧ P t k) ∧ tsw P pc (v + 1) os cs
  | _, [], [] => True
  | _, _, _ => False
theorem tsw_sel {P : Nat → mK → Prop} {pc : Nat} {d : mK} (x : Int32) : ∀ (os : List Int) (v : Int) (cs : List (Int32 × mK)), tsw P pc v os cs →
    (∃ (i : Nat) (o : Int) (t : Nat), x.toInt = v + i ∧ os[i]? = some o ∧ (pc : Int) + o = (t : Int) ∧ P t (msel x cs d)) ∨ ((x.toInt < v ∨ v + os.length ≤ x.toInt) ∧ msel x cs d = d) := by
  intro os
  induction os with
  | nil =>
    intro v cs h
    match cs, h with
    | [], _ => exact Or.inr ⟨by simp; omega, rfl⟩
  | cons o os ih =>
    intro v cs h
    match cs, h with
    | (w, k) :: cs, ⟨h1, ⟨t, h2, h3⟩, h4⟩ =>
      by_cases hx : x = w
      · refine Or.inl ⟨0, o, t, by rw [hx, h1]; simp, rfl, h2, ?_⟩
        simp only [msel, if_pos hx]
        exact h3
      · have hxv : ¬ x.toInt = v := fun q => hx (Int32.toInt_inj.mp (by rw [h1]; exact q))
        simp only [msel, if_neg hx]
        rcases ih (v + 1) cs h4 with ⟨i, o', t', q1, q2, q3, q4⟩ | ⟨q1, q2⟩
        · exact Or.inl ⟨i + 1, o', t', by rw [q1]; push_cast; omega, by simpa using q2, q3, q4⟩
        · refine Or.inr ⟨?_, q2⟩
          simp only [List.length_cons]
          push_cast
          omega
def lsw (P : Nat → mK → Prop) (pc : Nat) : List (Int × Int) → List (Int32 × mK) → Prop
  | o :: os, (w, k) :: cs => w.toInt = o.1 ∧ (∃ t : Nat, (pc : Int) + o.2 = (t : Int) ∧ P t k) ∧ lsw P pc os cs
  | [], [] => True
  | _, _ => False
theorem lsw_sel {P : Nat → mK → Prop} {pc : Nat} {d : mK} {dflt : Int} {td : Nat} (hd : (pc : Int) + dflt = (td : Int)) (hp : P td d) (x : Int32) : ∀ (os : List (Int × Int)) (cs : List (Int32 × mK)), lsw P pc os cs →
    ∃ t : Nat, (pc : Int) + Op.lookupswitch.offset os dflt x.toInt = (t : Int) ∧ P t (msel x cs d) := by
  intro os
  induction os with
  | nil =>
    intro cs h
    match cs, h with
    | [], _ => exact ⟨td, by rw [Op.lookupswitch.offset_nil]; exact hd, hp⟩
  | cons o os ih =>
    intro cs h
    match cs, h with
    | (w, k) :: cs, ⟨h1, ⟨t, h2, h3⟩, h4⟩ =>
      obtain ⟨o1, o2⟩ := o
      rw [Op.lookupswitch.offset_cons]
      by_cases hx : x = w
      · simp only [msel, if_pos hx]
        rw [if_pos (by rw [hx, h1])]
        exact ⟨t, h2, h3⟩
      · have hxv : ¬ x.toInt = o1 := fun q => hx (Int32.toInt_inj.mp (by rw [h1]; exact q))
        simp only [msel, if_neg hx]
        rw [if_neg (fun q => hxv (by first | exact q.symm | exact q))]
        exact ih cs h4
section SdRows5
variable {E : mE} {X : State → Heap → Prop} {l : Launch} {y : MethodName} {cc : ByteArray} {nL : Nat} {ret : Option FieldType} {h mc ms nc zc pc : Nat} {k kt kf : mK}
theorem s_tsw {dflt lo hi : Int} {offs : Array Int} {len td : Nat} {cs : List (Int32 × mK)} {d : mK} (dd : decode cc pc = .ok (.tableswitch dflt lo hi offs, len)) (hd : (pc : Int) + dflt = (td : Int)) (hdk : Sd E X l y cc nL ret h mc ms nc zc td d) (hhi : lo + offs.toList.length = hi + 1) (hcs : tsw (Sd E X l y cc nL ret h mc ms nc zc) pc lo offs.toList cs) : Sd E X l y cc nL ret h mc ms nc zc pc (i_sw cs d) := by
  intro p e R s m args below meth c F L S μ r hr H locs ls I
  unfold i_sw at hr
  split at hr
  · rename_i x S'
    rcases tsw_sel (d := d) x _ _ _ hcs with ⟨i, o, t, q1, q2, q3, q4⟩ | ⟨q1, q2⟩
    · have hl : i < offs.toList.length := (List.getElem?_eq_some_iff.mp q2).1
      refine lv_tableIn F.1.1 F.1.2.1 dd (by omega) (by omega) (off := o) ?_ q3 (q4 p e R s m args below meth c F L _ μ r hr H locs ls I)
      rw [show (x.toInt - lo).toNat = i by omega, ← Array.getElem?_toList]
      exact q2
    · rw [q2] at hr
      exact lv_tableOut F.1.1 F.1.2.1 dd (by omega) hd (hdk p e R s m args below meth c F L _ μ r hr H locs ls I)
  · cases hr
theorem s_lsw {dflt : Int} {ps : Array (Int × Int)} {len td : Nat} {cs : List (Int32 × mK)} {d : mK} (dd : decode cc pc = .ok (.lookupswitch dflt ps, len)) (hp : (ps.toList.zip (ps.toList.drop 1)).all (fun (a, next) => a.1 < next.1) = true) (hd : (pc : Int) + dflt = (td : Int)) (hdk : Sd E X l y cc nL ret h mc ms nc zc td d) (hcs : lsw (Sd E X l y cc nL ret h mc ms nc zc) pc ps.toList cs) : Sd E X l y cc nL ret h mc ms nc zc pc (i_sw cs d) := by
  intro p e R s m args below meth c F L S μ r hr H locs ls I
  unfold i_sw at hr
  split at hr
  · rename_i x S'
    obtain ⟨t, q1, q2⟩ := lsw_sel hd hdk x _ _ hcs
    exact lv_lookup F.1.1 F.1.2.1 dd hp rfl q1 (q2 p e R s m args below meth c F L _ μ r hr H locs ls I)
  · cases hr
theorem s_new {idx ci N : Nat} {C : String} {T : u_T} (d : decode cc pc = .ok (.new idx, 3)) (hq : vwCl[ci]? = some (C, T, N)) (h1 : Cond.classLink y.cls idx C ∈ GT) (h2 : Cond.instantiable C N ∈ GT) (h3 : Cond.initialized C ∈ GT) (ht : ∀ j, j < N → mkd (tyOf ci j) ≤ 5) (hn : nc + 1 ≤ mc) (hz : zc + N ≤ ms) (hk : Sd E X l y cc nL ret h mc ms (nc + 1) (zc + N) (pc + 3) k) : Sd E X l y cc nL ret h mc ms nc zc pc (i_new ci k) := by
  intro p e R s m args below meth c F L S μ r hr H locs ls I
  obtain ⟨I1, I0, I2, I3, I4⟩ := I
  have hts := F.1.2.2.2.2
  obtain ⟨g1, g2, g3⟩ := clOk hq
  have hKn := F.2.2.2.2.1.1 ci _ hq
  have hrc : R.cells = mc := F.2.2.2.2.2.2.2.2.2.1
  have hrs : R.slots = ms := F.2.2.2.2.2.2.2.2.2.2.1
  refine W.newcK F.1.1 F.1.2.1 F.1.2.2.2.1 (hts _ h1) (hts _ h2) (hts _ h3) rfl d (by rw [hrc]; exact hn) (by rw [hrs]; exact hz) hKn.2.1 I2.2 fun H1 kC hkC b1 z1 o1 => ?_
  have hnew : va_at E.2.2.1 vwCl (E.1 + mn μ, mcell E (mnew μ (4, ci)) (mn μ) (4, ci)) H1 := by
    refine ⟨(C, T, N), hq, (u_born (tyOf ci) hts g1 hKn hkC b1 g2).to (fun j hj => ?_)⟩
    show _ = vp_V (mfs E (mnew μ (4, ci)) (mn μ) ci) j
    have hj' : j < nfOf ci := by rw [nf_of hq]; exact hj
    unfold vp_V
    rw [List.getD_eq_getElem?_getD, mfs_get hj']
    have h5 := ht j hj
    revert h5
    generalize tyOf ci j = ty
    intro h5
    cases ty <;> first | (simp [mfv, mnew, mrf, defaultValue]; done) | (simp [mkd] at h5)
  have hk1 : ∀ (i : Nat) (x : Nat × va_E), (mws E μ)[i]? = some x → H1[x.1]? = H[x.1]? := fun i x hx => o1 x.1 (by rw [← I2.2]; exact (I2.1 i x hx).lt)
  refine hk p e R s m args below meth c F L _ _ r hr H1 locs ls ⟨I1, by rw [mn_new]; omega, ⟨?_, by rw [mn_new, z1]; omega⟩, ⟨by have := I3.1; rw [I2.2] at this; omega, fun x a1 a2 => ?_, I3.2.2⟩, I4⟩
  · rw [mws_new]
    refine (I2.1.kept hk1).app fun i x hx => ?_
    have hz : i < 1 := (List.getElem?_eq_some_iff.mp hx).1
    rw [show i = 0 by omega] at hx
    cases hx
    exact hnew
  · have := I3.1
    rw [I2.2] at this
    rw [o1 x (by omega)]
    exact I3.2.1 x a1 a2
theorem s_na {t N : Nat} {at' : ArrayType} (d : decode cc pc = .ok (.newarray at', 2)) (hty : newarray.typeOf at' = mtyp t) (ht : t ≤ 3) (h1 : Cond.arrayClass (mtyp t) ∈ GT) (hN : N ≤ 10000) (hn : nc + 1 ≤ mc) (hz : zc + N ≤ ms) (hk : Sd E X l y cc nL ret h mc ms (nc + 1) (zc + N) (pc + 2) k) : Sd E X l y cc nL ret h mc ms nc zc pc (i_na t N k) := by
  intro p e R s m args below meth c F L S μ r hr H locs ls I
  obtain ⟨I1, I0, I2, I3, I4⟩ := I
  unfold i_na at hr
  split at hr
  · split at hr
    · rename_i n S' hnN
      have hts := F.1.2.2.2.2
      have hrc : R.cells = mc := F.2.2.2.2.2.2.2.2.2.1
      have hrs : R.slots = ms := F.2.2.2.2.2.2.2.2.2.2.1
      have hnn : n = nI N := hnN
      have hKt : (mtys E)[t]? = some (E.2.2.2 t, mtyp t) := by
        match t, ht with
        | 0, _ => rfl
        | 1, _ => rfl
        | 2, _ => rfl
        | 3, _ => rfl
      have hRA := (F.2.2.2.2.1.2 t _ hKt).2
      refine va_newaK (N := N) F.1.1 F.1.2.1 (atype := at') (by rw [hty]; exact hts _ h1) rfl d rfl (by rw [hnn]; exact nI_pos (by omega)) (by rw [hnn]; exact nI_clamp (by omega)) ?_ (by rw [hrc]; exact hn) (by rw [hrs]; exact hz) I2.2 fun H1 cA b1 z1 o1 hAr hNm => ?_
      · rw [hty]
        have : componentBytes (mtyp t) ≤ 8 := by
          match t, ht with
          | 0, _ => decide
          | 1, _ => decide
          | 2, _ => decide
          | 3, _ => decide
        calc N * componentBytes (mtyp t) ≤ 10000 * 8 := Nat.mul_le_mul hN this
          _ ≤ 536870912 := by decide
      rw [hty] at hNm b1
      have hcA : cA = E.2.2.2 t := by
        have h9 : s.vm.findClass ("[" ++ (mtyp t).toString) = some (E.2.2.2 t) := by
          match t, ht, hRA with
          | 0, _, q => exact q
          | 1, _, q => exact q
          | 2, _, q => exact q
          | 3, _, q => exact q
        exact Option.some.inj (hNm.symm.trans h9)
      subst hcA
      have hnew : va_at E.2.2.1 vwCl (E.1 + mn μ, mcell E (mnew μ (t, N)) (mn μ) (t, N)) H1 := by
        match t, ht, b1 with
        | 0, _, q => exact q.trans (by simp [mcell, mnew, vp_cell, mtyp, defaultValue])
        | 1, _, q => exact q.trans (by simp [mcell, mnew, vp_cell, mtyp, defaultValue])
        | 2, _, q => exact q.trans (by simp [mcell, mnew, vp_cell, mtyp, defaultValue])
        | 3, _, q => exact q.trans (by simp [mcell, mnew, vp_cell, mtyp, defaultValue])
      have hk1 : ∀ (i : Nat) (x : Nat × va_E), (mws E μ)[i]? = some x → H1[x.1]? = H[x.1]? := fun i x hx => o1 x.1 (by rw [← I2.2]; exact (I2.1 i x hx).lt)
      refine hk p e R s m args below meth c F L _ _ r hr H1 locs ls ⟨I1, by rw [mn_new]; omega, ⟨?_, by rw [mn_new, z1]; omega⟩, ⟨by have := I3.1; rw [I2.2] at this; omega, fun x a1 a2 => ?_, I3.2.2⟩, I4⟩
      · rw [mws_new]
        refine (I2.1.kept hk1).app fun i x hx => ?_
        have hz : i < 1 := (List.getElem?_eq_some_iff.mp hx).1
        rw [show i = 0 by omega] at hx
        cases hx
        exact hnew
      · have := I3.1
        rw [I2.2] at this
        rw [o1 x (by omega)]
        exact I3.2.1 x a1 a2
    · cases hr
  · cases hr
end SdRows5
