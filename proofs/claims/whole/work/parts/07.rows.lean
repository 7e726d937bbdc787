section SdRows2
variable {E : mE} {X : State → Heap → Prop} {l : Launch} {y : MethodName} {cc : ByteArray} {nL : Nat} {ret : Option FieldType} {h mc ms nc zc pc : Nat} {k kt kf : mK}
theorem mIn.set {H0 : Heap} {L L' : List (Option Value)} {μ : mM} {H : Heap} {locs : List Loc} {ls ls' : Array Slot} (I : mIn E nL nc H0 L μ H locs ls) (hl : L'.length = L.length) (h' : mLR E L' ls') : mIn E nL nc H0 L' μ H locs ls' := ⟨hl.trans I.1, I.2.1, I.2.2.1, I.2.2.2.1, h'⟩
theorem s_istore_n {j : Fin 4} {n : Nat} (d : decode cc pc = .ok (.istore_n j, 1)) (hj : (j : Nat) = n) (hk : Sd E X l y cc nL ret h mc ms nc zc (pc + 1) k) : Sd E X l y cc nL ret h mc ms nc zc pc (i_stI n k) := by
  intro p e R s m args below meth c F L S μ r hr H locs ls I
  unfold i_stI at hr
  split at hr
  · rename_i x S'
    split at hr
    · rename_i hc
      exact lv_istore_n F.1.1 F.1.2.1 d hj (mLR_has I.2.2.2.2) hc.1 rfl (fun ls' hl' => hk p e R s m args below meth c F _ _ μ r hr H locs ls' (I.set (by simp) (mLR_st1 (x := .int x) hc.1 hc.2 hl')))
    · cases hr
  · cases hr
theorem s_istore {n : Nat} (d : decode cc pc = .ok (.istore n, 2)) (hk : Sd E X l y cc nL ret h mc ms nc zc (pc + 2) k) : Sd E X l y cc nL ret h mc ms nc zc pc (i_stI n k) := by
  intro p e R s m args below meth c F L S μ r hr H locs ls I
  unfold i_stI at hr
  split at hr
  · rename_i x S'
    split at hr
    · rename_i hc
      exact lv_istore F.1.1 F.1.2.1 d (mLR_has I.2.2.2.2) hc.1 rfl (fun ls' hl' => hk p e R s m args below meth c F _ _ μ r hr H locs ls' (I.set (by simp) (mLR_st1 (x := .int x) hc.1 hc.2 hl')))
    · cases hr
  · cases hr
theorem s_astore_n {j : Fin 4} {n : Nat} (d : decode cc pc = .ok (.astore_n j, 1)) (hj : (j : Nat) = n) (hk : Sd E X l y cc nL ret h mc ms nc zc (pc + 1) k) : Sd E X l y cc nL ret h mc ms nc zc pc (i_stA n k) := by
  intro p e R s m args below meth c F L S μ r hr H locs ls I
  unfold i_stA at hr
  split at hr
  · rename_i x S'
    split at hr
    · rename_i hc
      exact lv_astore_n F.1.1 F.1.2.1 d hj (mLR_has I.2.2.2.2) hc.1 rfl (fun ls' hl' => hk p e R s m args below meth c F _ _ μ r hr H locs ls' (I.set (by simp) (mLR_st1 (x := .ref x) hc.1 hc.2 hl')))
    · cases hr
  · cases hr
theorem s_lstore_n {j : Fin 4} {n : Nat} (d : decode cc pc = .ok (.lstore_n j, 1)) (hj : (j : Nat) = n) (hk : Sd E X l y cc nL ret h mc ms nc zc (pc + 1) k) : Sd E X l y cc nL ret h mc ms nc zc pc (i_stJ n k) := by
  intro p e R s m args below meth c F L S μ r hr H locs ls I
  unfold i_stJ at hr
  split at hr
  · rename_i x S'
    split at hr
    · rename_i hc
      exact lv_lstore_n F.1.1 F.1.2.1 d hj (mLR_has I.2.2.2.2) hc.1 rfl (fun ls' hl' => hk p e R s m args below meth c F _ _ μ r hr H locs ls' (I.set (by simp) (mLR_st2 (x := .long x) hc.1 hc.2 hl')))
    · cases hr
  · cases hr
theorem s_iinc {n : Nat} {i : Int} {v : Int32} (d : decode cc pc = .ok (.iinc n i, 3)) (hv : Int32.ofInt i = v) (hk : Sd E X l y cc nL ret h mc ms nc zc (pc + 3) k) : Sd E X l y cc nL ret h mc ms nc zc pc (i_inc n v k) := by
  intro p e R s m args below meth c F L S μ r hr H locs ls I
  unfold i_inc at hr
  split at hr
  · rename_i x hx
    split at hr
    · rename_i hc
      have hlt : n < L.length := (List.getElem?_eq_some_iff.mp hx).1
      obtain ⟨q, hq⟩ := List.getElem?_of_mem (masc_mem (E := E).mpr ⟨_, hx, rfl⟩)
      exact lv_iinc F.1.1 F.1.2.1 d (mLR_has I.2.2.2.2) hq (by rw [hv]) hlt rfl (fun ls' hl' => hk p e R s m args below meth c F _ _ μ r hr H locs ls' (I.set (by simp) (mLR_st1 (x := .int (x + v)) hlt hc hl')))
    · cases hr
  · cases hr
theorem s_iadd (d : decode cc pc = .ok (.iadd, 1)) (hk : Sd E X l y cc nL ret h mc ms nc zc (pc + 1) k) : Sd E X l y cc nL ret h mc ms nc zc pc (i_bin (fun x y => x + y) k) := by
  intro p e R s m args below meth c F L S μ r hr H locs ls I
  unfold i_bin at hr
  split at hr
  · exact lv_iadd F.1.1 F.1.2.1 d (hk p e R s m args below meth c F L _ μ r hr H locs ls I)
  · cases hr
theorem s_isub (d : decode cc pc = .ok (.isub, 1)) (hk : Sd E X l y cc nL ret h mc ms nc zc (pc + 1) k) : Sd E X l y cc nL ret h mc ms nc zc pc (i_bin (fun x y => x - y) k) := by
  intro p e R s m args below meth c F L S μ r hr H locs ls I
  unfold i_bin at hr
  split at hr
  · exact lv_isub F.1.1 F.1.2.1 d (hk p e R s m args below meth c F L _ μ r hr H locs ls I)
  · cases hr
theorem s_imul (d : decode cc pc = .ok (.imul, 1)) (hk : Sd E X l y cc nL ret h mc ms nc zc (pc + 1) k) : Sd E X l y cc nL ret h mc ms nc zc pc (i_bin (fun x y => x * y) k) := by
  intro p e R s m args below meth c F L S μ r hr H locs ls I
  unfold i_bin at hr
  split at hr
  · exact lv_imul F.1.1 F.1.2.1 d (hk p e R s m args below meth c F L _ μ r hr H locs ls I)
  · cases hr
theorem s_iand (d : decode cc pc = .ok (.iand, 1)) (hk : Sd E X l y cc nL ret h mc ms nc zc (pc + 1) k) : Sd E X l y cc nL ret h mc ms nc zc pc (i_bin (fun x y => x &&& y) k) := by
  intro p e R s m args below meth c F L S μ r hr H locs ls I
  unfold i_bin at hr
  split at hr
  · exact lv_iand F.1.1 F.1.2.1 d (hk p e R s m args below meth c F L _ μ r hr H locs ls I)
  · cases hr
theorem s_ior (d : decode cc pc = .ok (.ior, 1)) (hk : Sd E X l y cc nL ret h mc ms nc zc (pc + 1) k) : Sd E X l y cc nL ret h mc ms nc zc pc (i_bin (fun x y => x ||| y) k) := by
  intro p e R s m args below meth c F L S μ r hr H locs ls I
  unfold i_bin at hr
  split at hr
  · exact lv_ior F.1.1 F.1.2.1 d (hk p e R s m args below meth c F L _ μ r hr H locs ls I)
  · cases hr
theorem s_ixor (d : decode cc pc = .ok (.ixor, 1)) (hk : Sd E X l y cc nL ret h mc ms nc zc (pc + 1) k) : Sd E X l y cc nL ret h mc ms nc zc pc (i_bin (fun x y => x ^^^ y) k) := by
  intro p e R s m args below meth c F L S μ r hr H locs ls I
  unfold i_bin at hr
  split at hr
  · exact lv_ixor F.1.1 F.1.2.1 d (hk p e R s m args below meth c F L _ μ r hr H locs ls I)
  · cases hr
theorem s_ishl (d : decode cc pc = .ok (.ishl, 1)) (hk : Sd E X l y cc nL ret h mc ms nc zc (pc + 1) k) : Sd E X l y cc nL ret h mc ms nc zc pc (i_bin (fun x y => x <<< (y &&& 31)) k) := by
  intro p e R s m args below meth c F L S μ r hr H locs ls I
  unfold i_bin at hr
  split at hr
  · exact lv_ishl F.1.1 F.1.2.1 d (hk p e R s m args below meth c F L _ μ r hr H locs ls I)
  · cases hr
theorem s_ishr (d : decode cc pc = .ok (.ishr, 1)) (hk : Sd E X l y cc nL ret h mc ms nc zc (pc + 1) k) : Sd E X l y cc nL ret h mc ms nc zc pc (i_bin (fun x y => x >>> (y &&& 31)) k) := by
  intro p e R s m args below meth c F L S μ r hr H locs ls I
  unfold i_bin at hr
  split at hr
  · exact lv_ishr F.1.1 F.1.2.1 d (hk p e R s m args below meth c F L _ μ r hr H locs ls I)
  · cases hr
theorem s_idiv (d : decode cc pc = .ok (.idiv, 1)) (hk : Sd E X l y cc nL ret h mc ms nc zc (pc + 1) k) : Sd E X l y cc nL ret h mc ms nc zc pc (i_dv (fun x y => x / y) k) := by
  intro p e R s m args below meth c F L S μ r hr H locs ls I
  unfold i_dv at hr
  split at hr
  · split at hr
    · cases hr
    · rename_i hy
      exact lv_idiv F.1.1 F.1.2.1 d hy (hk p e R s m args below meth c F L _ μ r hr H locs ls I)
  · cases hr
theorem s_irem (d : decode cc pc = .ok (.irem, 1)) (hk : Sd E X l y cc nL ret h mc ms nc zc (pc + 1) k) : Sd E X l y cc nL ret h mc ms nc zc pc (i_dv (fun x y => x - x / y * y) k) := by
  intro p e R s m args below meth c F L S μ r hr H locs ls I
  unfold i_dv at hr
  split at hr
  · split at hr
    · cases hr
    · rename_i hy
      exact lv_irem F.1.1 F.1.2.1 d hy (hk p e R s m args below meth c F L _ μ r hr H locs ls I)
  · cases hr
theorem s_ineg (d : decode cc pc = .ok (.ineg, 1)) (hk : Sd E X l y cc nL ret h mc ms nc zc (pc + 1) k) : Sd E X l y cc nL ret h mc ms nc zc pc (i_un (fun x => -x) k) := by
  intro p e R s m args below meth c F L S μ r hr H locs ls I
  unfold i_un at hr
  split at hr
  · exact lv_ineg F.1.1 F.1.2.1 d (hk p e R s m args below meth c F L _ μ r hr H locs ls I)
  · cases hr
theorem s_i2b (d : decode cc pc = .ok (.i2b, 1)) (hk : Sd E X l y cc nL ret h mc ms nc zc (pc + 1) k) : Sd E X l y cc nL ret h mc ms nc zc pc (i_un (fun x => x.toInt8.toInt32) k) := by
  intro p e R s m args below meth c F L S μ r hr H locs ls I
  unfold i_un at hr
  split at hr
  · exact lv_i2b F.1.1 F.1.2.1 d rfl (hk p e R s m args below meth c F L _ μ r hr H locs ls I)
  · cases hr
theorem s_i2c (d : decode cc pc = .ok (.i2c, 1)) (hk : Sd E X l y cc nL ret h mc ms nc zc (pc + 1) k) : Sd E X l y cc nL ret h mc ms nc zc pc (i_un (fun x => (x.toUInt32 % 65536).toInt32) k) := by
  intro p e R s m args below meth c F L S μ r hr H locs ls I
  unfold i_un at hr
  split at hr
  · exact lv_i2c F.1.1 F.1.2.1 d rfl (hk p e R s m args below meth c F L _ μ r hr H locs ls I)
  · cases hr
theorem s_i2l (d : decode cc pc = .ok (.i2l, 1)) (hk : Sd E X l y cc nL ret h mc ms nc zc (pc + 1) k) : Sd E X l y cc nL ret h mc ms nc zc pc (i_i2l k) := by
  intro p e R s m args below meth c F L S μ r hr H locs ls I
  unfold i_i2l at hr
  split at hr
  · exact lv_i2l F.1.1 F.1.2.1 d rfl (hk p e R s m args below meth c F L _ μ r hr H locs ls I)
  · cases hr
theorem s_ladd (d : decode cc pc = .ok (.ladd, 1)) (hk : Sd E X l y cc nL ret h mc ms nc zc (pc + 1) k) : Sd E X l y cc nL ret h mc ms nc zc pc (i_bnJ (fun x y => x + y) k) := by
  intro p e R s m args below meth c F L S μ r hr H locs ls I
  unfold i_bnJ at hr
  split at hr
  · exact lv_ladd F.1.1 F.1.2.1 d (hk p e R s m args below meth c F L _ μ r hr H locs ls I)
  · cases hr
theorem s_lsub (d : decode cc pc = .ok (.lsub, 1)) (hk : Sd E X l y cc nL ret h mc ms nc zc (pc + 1) k) : Sd E X l y cc nL ret h mc ms nc zc pc (i_bnJ (fun x y => x - y) k) := by
  intro p e R s m args below meth c F L S μ r hr H locs ls I
  unfold i_bnJ at hr
  split at hr
  · exact lv_lsub F.1.1 F.1.2.1 d (hk p e R s m args below meth c F L _ μ r hr H locs ls I)
  · cases hr
theorem s_lmul (d : decode cc pc = .ok (.lmul, 1)) (hk : Sd E X l y cc nL ret h mc ms nc zc (pc + 1) k) : Sd E X l y cc nL ret h mc ms nc zc pc (i_bnJ (fun x y => x * y) k) := by
  intro p e R s m args below meth c F L S μ r hr H locs ls I
  unfold i_bnJ at hr
  split at hr
  · exact lv_lmul F.1.1 F.1.2.1 d (hk p e R s m args below meth c F L _ μ r hr H locs ls I)
  · cases hr
theorem s_lor (d : decode cc pc = .ok (.lor, 1)) (hk : Sd E X l y cc nL ret h mc ms nc zc (pc + 1) k) : Sd E X l y cc nL ret h mc ms nc zc pc (i_bnJ (fun x y => x ||| y) k) := by
  intro p e R s m args below meth c F L S μ r hr H locs ls I
  unfold i_bnJ at hr
  split at hr
  · exact lv_lor F.1.1 F.1.2.1 d (hk p e R s m args below meth c F L _ μ r hr H locs ls I)
  · cases hr
theorem s_lshl (d : decode cc pc = .ok (.lshl, 1)) (hk : Sd E X l y cc nL ret h mc ms nc zc (pc + 1) k) : Sd E X l y cc nL ret h mc ms nc zc pc (i_lshl k) := by
  intro p e R s m args below meth c F L S μ r hr H locs ls I
  unfold i_lshl at hr
  split at hr
  · exact lv_lshl F.1.1 F.1.2.1 d rfl (hk p e R s m args below meth c F L _ μ r hr H locs ls I)
  · cases hr
theorem s_lcmp (d : decode cc pc = .ok (.lcmp, 1)) (hk : Sd E X l y cc nL ret h mc ms nc zc (pc + 1) k) : Sd E X l y cc nL ret h mc ms nc zc pc (i_lcmp k) := by
  intro p e R s m args below meth c F L S μ r hr H locs ls I
  unfold i_lcmp at hr
  split at hr
  · exact W.lcmp F.1.1 F.1.2.1 d (hk p e R s m args below meth c F L _ μ r hr H locs ls I)
  · cases hr
theorem s_dup (d : decode cc pc = .ok (.dup, 1)) (hk : Sd E X l y cc nL ret h mc ms nc zc (pc + 1) k) : Sd E X l y cc nL ret h mc ms nc zc pc (i_dup k) := by
  intro p e R s m args below meth c F L S μ r hr H locs ls I
  unfold i_dup at hr
  split at hr
  · split at hr
    · rename_i hc
      exact lv_dup F.1.1 F.1.2.1 d ((tr_cat E _).trans hc) (hk p e R s m args below meth c F L _ μ r hr H locs ls I)
    · cases hr
  · cases hr
theorem s_dup2 (d : decode cc pc = .ok (.dup2, 1)) (hk : Sd E X l y cc nL ret h mc ms nc zc (pc + 1) k) : Sd E X l y cc nL ret h mc ms nc zc pc (i_dp2 k) := by
  intro p e R s m args below meth c F L S μ r hr H locs ls I
  unfold i_dp2 at hr
  split at hr
  · split at hr
    · rename_i hc
      exact lv_dup2_11 F.1.1 F.1.2.1 d ((tr_cat E _).trans hc.1) ((tr_cat E _).trans hc.2) (hk p e R s m args below meth c F L _ μ r hr H locs ls I)
    · cases hr
  · cases hr
theorem s_ifeq {off : Int} {tgt : Nat} (d : decode cc pc = .ok (.ifCond .eq off, 3)) (ht : (pc : Int) + off = (tgt : Int)) (h1 : Sd E X l y cc nL ret h mc ms nc zc tgt kt) (h2 : Sd E X l y cc nL ret h mc ms nc zc (pc + 3) kf) : Sd E X l y cc nL ret h mc ms nc zc pc (i_c0 (fun x => decide (x = 0)) kt kf) := by
  intro p e R s m args below meth c F L S μ r hr H locs ls I
  unfold i_c0 at hr
  split at hr
  · rename_i x S'
    refine lv_if_eq F.1.1 F.1.2.1 d ht (fun hc => ?_) (fun hc => ?_)
    · rw [if_pos (decide_eq_true hc)] at hr
      exact h1 p e R s m args below meth c F L _ μ r hr H locs ls I
    · rw [if_neg (by simpa using hc)] at hr
      exact h2 p e R s m args below meth c F L _ μ r hr H locs ls I
  · cases hr
theorem s_ifne {off : Int} {tgt : Nat} (d : decode cc pc = .ok (.ifCond .ne off, 3)) (ht : (pc : Int) + off = (tgt : Int)) (h1 : Sd E X l y cc nL ret h mc ms nc zc tgt kt) (h2 : Sd E X l y cc nL ret h mc ms nc zc (pc + 3) kf) : Sd E X l y cc nL ret h mc ms nc zc pc (i_c0 (fun x => decide (¬ x = 0)) kt kf) := by
  intro p e R s m args below meth c F L S μ r hr H locs ls I
  unfold i_c0 at hr
  split at hr
  · rename_i x S'
    refine lv_if_ne F.1.1 F.1.2.1 d ht (fun hc => ?_) (fun hc => ?_)
    · rw [if_pos (decide_eq_true hc)] at hr
      exact h1 p e R s m args below meth c F L _ μ r hr H locs ls I
    · rw [if_neg (by simpa using hc)] at hr
      exact h2 p e R s m args below meth c F L _ μ r hr H locs ls I
  · cases hr
theorem s_iflt {off : Int} {tgt : Nat} (d : decode cc pc = .ok (.ifCond .lt off, 3)) (ht : (pc : Int) + off = (tgt : Int)) (h1 : Sd E X l y cc nL ret h mc ms nc zc tgt kt) (h2 : Sd E X l y cc nL ret h mc ms nc zc (pc + 3) kf) : Sd E X l y cc nL ret h mc ms nc zc pc (i_c0 (fun x => decide (x < 0)) kt kf) := by
  intro p e R s m args below meth c F L S μ r hr H locs ls I
  unfold i_c0 at hr
  split at hr
  · rename_i x S'
    refine lv_if_lt F.1.1 F.1.2.1 d ht (fun hc => ?_) (fun hc => ?_)
    · rw [if_pos (decide_eq_true hc)] at hr
      exact h1 p e R s m args below meth c F L _ μ r hr H locs ls I
    · rw [if_neg (by simpa using hc)] at hr
      exact h2 p e R s m args below meth c F L _ μ r hr H locs ls I
  · cases hr
theorem s_ifge {off : Int} {tgt : Nat} (d : decode cc pc = .ok (.ifCond .ge off, 3)) (ht : (pc : Int) + off = (tgt : Int)) (h1 : Sd E X l y cc nL ret h mc ms nc zc tgt kt) (h2 : Sd E X l y cc nL ret h mc ms nc zc (pc + 3) kf) : Sd E X l y cc nL ret h mc ms nc zc pc (i_c0 (fun x => decide (0 ≤ x)) kt kf) := by
  intro p e R s m args below meth c F L S μ r hr H locs ls I
  unfold i_c0 at hr
  split at hr
  · rename_i x S'
    refine lv_if_ge F.1.1 F.1.2.1 d ht (fun hc => ?_) (fun hc => ?_)
    · rw [if_pos (decide_eq_true hc)] at hr
      exact h1 p e R s m args below meth c F L _ μ r hr H locs ls I
    · rw [if_neg (by simpa using hc)] at hr
      exact h2 p e R s m args below meth c F L _ μ r hr H locs ls I
  · cases hr
theorem s_ifgt {off : Int} {tgt : Nat} (d : decode cc pc = .ok (.ifCond .gt off, 3)) (ht : (pc : Int) + off = (tgt : Int)) (h1 : Sd E X l y cc nL ret h mc ms nc zc tgt kt) (h2 : Sd E X l y cc nL ret h mc ms nc zc (pc + 3) kf) : Sd E X l y cc nL ret h mc ms nc zc pc (i_c0 (fun x => decide (0 < x)) kt kf) := by
  intro p e R s m args below meth c F L S μ r hr H locs ls I
  unfold i_c0 at hr
  split at hr
  · rename_i x S'
    refine lv_if_gt F.1.1 F.1.2.1 d ht (fun hc => ?_) (fun hc => ?_)
    · rw [if_pos (decide_eq_true hc)] at hr
      exact h1 p e R s m args below meth c F L _ μ r hr H locs ls I
    · rw [if_neg (by simpa using hc)] at hr
      exact h2 p e R s m args below meth c F L _ μ r hr H locs ls I
  · cases hr
theorem s_ifle {off : Int} {tgt : Nat} (d : decode cc pc = .ok (.ifCond .le off, 3)) (ht : (pc : Int) + off = (tgt : Int)) (h1 : Sd E X l y cc nL ret h mc ms nc zc tgt kt) (h2 : Sd E X l y cc nL ret h mc ms nc zc (pc + 3) kf) : Sd E X l y cc nL ret h mc ms nc zc pc (i_c0 (fun x => decide (x ≤ 0)) kt kf) := by
  intro p e R s m args below meth c F L S μ r hr H locs ls I
  unfold i_c0 at hr
  split at hr
  · rename_i x S'
    refine lv_if_le F.1.1 F.1.2.1 d ht (fun hc => ?_) (fun hc => ?_)
    · rw [if_pos (decide_eq_true hc)] at hr
      exact h1 p e R s m args below meth c F L _ μ r hr H locs ls I
    · rw [if_neg (by simpa using hc)] at hr
      exact h2 p e R s m args below meth c F L _ μ r hr H locs ls I
  · cases hr
theorem s_iceq {off : Int} {tgt : Nat} (d : decode cc pc = .ok (.if_icmp .eq off, 3)) (ht : (pc : Int) + off = (tgt : Int)) (h1 : Sd E X l y cc nL ret h mc ms nc zc tgt kt) (h2 : Sd E X l y cc nL ret h mc ms nc zc (pc + 3) kf) : Sd E X l y cc nL ret h mc ms nc zc pc (i_c2 (fun x y => decide (x = y)) kt kf) := by
  intro p e R s m args below meth c F L S μ r hr H locs ls I
  unfold i_c2 at hr
  split at hr
  · rename_i y x S'
    refine lv_icmp_eq F.1.1 F.1.2.1 d ht (fun hc => ?_) (fun hc => ?_)
    · rw [if_pos (decide_eq_true hc)] at hr
      exact h1 p e R s m args below meth c F L _ μ r hr H locs ls I
    · rw [if_neg (by simpa using hc)] at hr
      exact h2 p e R s m args below meth c F L _ μ r hr H locs ls I
  · cases hr
theorem s_icne {off : Int} {tgt : Nat} (d : decode cc pc = .ok (.if_icmp .ne off, 3)) (ht : (pc : Int) + off = (tgt : Int)) (h1 : Sd E X l y cc nL ret h mc ms nc zc tgt kt) (h2 : Sd E X l y cc nL ret h mc ms nc zc (pc + 3) kf) : Sd E X l y cc nL ret h mc ms nc zc pc (i_c2 (fun x y => decide (¬ x = y)) kt kf) := by
  intro p e R s m args below meth c F L S μ r hr H locs ls I
  unfold i_c2 at hr
  split at hr
  · rename_i y x S'
    refine lv_icmp_ne F.1.1 F.1.2.1 d ht (fun hc => ?_) (fun hc => ?_)
    · rw [if_pos (decide_eq_true hc)] at hr
      exact h1 p e R s m args below meth c F L _ μ r hr H locs ls I
    · rw [if_neg (by simpa using hc)] at hr
      exact h2 p e R s m args below meth c F L _ μ r hr H locs ls I
  · cases hr
theorem s_iclt {off : Int} {tgt : Nat} (d : decode cc pc = .ok (.if_icmp .lt off, 3)) (ht : (pc : Int) + off = (tgt : Int)) (h1 : Sd E X l y cc nL ret h mc ms nc zc tgt kt) (h2 : Sd E X l y cc nL ret h mc ms nc zc (pc + 3) kf) : Sd E X l y cc nL ret h mc ms nc zc pc (i_c2 (fun x y => decide (x < y)) kt kf) := by
  intro p e R s m args below meth c F L S μ r hr H locs ls I
  unfold i_c2 at hr
  split at hr
  · rename_i y x S'
    refine lv_icmp_lt F.1.1 F.1.2.1 d ht (fun hc => ?_) (fun hc => ?_)
    · rw [if_pos (decide_eq_true hc)] at hr
      exact h1 p e R s m args below meth c F L _ μ r hr H locs ls I
    · rw [if_neg (by simpa using hc)] at hr
      exact h2 p e R s m args below meth c F L _ μ r hr H locs ls I
  · cases hr
theorem s_icge {off : Int} {tgt : Nat} (d : decode cc pc = .ok (.if_icmp .ge off, 3)) (ht : (pc : Int) + off = (tgt : Int)) (h1 : Sd E X l y cc nL ret h mc ms nc zc tgt kt) (h2 : Sd E X l y cc nL ret h mc ms nc zc (pc + 3) kf) : Sd E X l y cc nL ret h mc ms nc zc pc (i_c2 (fun x y => decide (y ≤ x)) kt kf) := by
  intro p e R s m args below meth c F L S μ r hr H locs ls I
  unfold i_c2 at hr
  split at hr
  · rename_i y x S'
    refine lv_icmp_ge F.1.1 F.1.2.1 d ht (fun hc => ?_) (fun hc => ?_)
    · rw [if_pos (decide_eq_true hc)] at hr
      exact h1 p e R s m args below meth c F L _ μ r hr H locs ls I
    · rw [if_neg (by simpa using hc)] at hr
      exact h2 p e R s m args below meth c F L _ μ r hr H locs ls I
  · cases hr
theorem s_icgt {off : Int} {tgt : Nat} (d : decode cc pc = .ok (.if_icmp .gt off, 3)) (ht : (pc : Int) + off = (tgt : Int)) (h1 : Sd E X l y cc nL ret h mc ms nc zc tgt kt) (h2 : Sd E X l y cc nL ret h mc ms nc zc (pc + 3) kf) : Sd E X l y cc nL ret h mc ms nc zc pc (i_c2 (fun x y => decide (y < x)) kt kf) := by
  intro p e R s m args below meth c F L S μ r hr H locs ls I
  unfold i_c2 at hr
  split at hr
  · rename_i y x S'
    refine lv_icmp_gt F.1.1 F.1.2.1 d ht (fun hc => ?_) (fun hc => ?_)
    · rw [if_pos (decide_eq_true hc)] at hr
      exact h1 p e R s m args below meth c F L _ μ r hr H locs ls I
    · rw [if_neg (by simpa using hc)] at hr
      exact h2 p e R s m args below meth c F L _ μ r hr H locs ls I
  · cases hr
theorem s_icle {off : Int} {tgt : Nat} (d : decode cc pc = .ok (.if_icmp .le off, 3)) (ht : (pc : Int) + off = (tgt : Int)) (h1 : Sd E X l y cc nL ret h mc ms nc zc tgt kt) (h2 : Sd E X l y cc nL ret h mc ms nc zc (pc + 3) kf) : Sd E X l y cc nL ret h mc ms nc zc pc (i_c2 (fun x y => decide (x ≤ y)) kt kf) := by
  intro p e R s m args below meth c F L S μ r hr H locs ls I
  unfold i_c2 at hr
  split at hr
  · rename_i y x S'
    refine lv_icmp_le F.1.1 F.1.2.1 d ht (fun hc => ?_) (fun hc => ?_)
    · rw [if_pos (decide_eq_true hc)] at hr
      exact h1 p e R s m args below meth c F L _ μ r hr H locs ls I
    · rw [if_neg (by simpa using hc)] at hr
      exact h2 p e R s m args below meth c F L _ μ r hr H locs ls I
  · cases hr
theorem s_rV (d : decode cc pc = .ok (.return_, 1)) (hn : nc ≤ mc) (hz : zc ≤ ms) : Sd E X l y cc nL none h mc ms nc zc pc i_rV := by
  intro p e R s m args below meth c F L S μ r hr H locs ls I
  unfold i_rV at hr
  split at hr
  · cases hr
    obtain ⟨I1, -, I2, I3, I4⟩ := I
    have hlocks := F.2.1
    refine W.widen (k := mc) (n := ms) hn hz ?_
    exact W.vret F.1.1 F.1.2.1 F.2.2.1 (fun t ht hW => ⟨rfl, by rw [ht]; exact I2, va_K.moved hW.alike F.2.2.2.2.1, I3.F ht⟩) I3.2.2 d
  · cases hr
theorem s_rI (d : decode cc pc = .ok (.ireturn, 1)) (hn : nc ≤ mc) (hz : zc ≤ ms) : Sd E X l y cc nL (some .int) h mc ms nc zc pc i_rI := by
  intro p e R s m args below meth c F L S μ r hr H locs ls I
  unfold i_rI at hr
  split at hr
  · cases hr
    obtain ⟨I1, -, I2, I3, I4⟩ := I
    have hlocks := F.2.1
    refine W.widen (k := mc) (n := ms) hn hz ?_
    exact W.iret F.1.1 F.1.2.1 F.2.2.1 (fun t ht hW => ⟨rfl, by rw [ht]; exact I2, va_K.moved hW.alike F.2.2.2.2.1, I3.F ht⟩) I3.2.2 d
  · cases hr
theorem s_rJ (d : decode cc pc = .ok (.lreturn, 1)) (hn : nc ≤ mc) (hz : zc ≤ ms) : Sd E X l y cc nL (some .long) h mc ms nc zc pc i_rJ := by
  intro p e R s m args below meth c F L S μ r hr H locs ls I
  unfold i_rJ at hr
  split at hr
  · cases hr
    obtain ⟨I1, -, I2, I3, I4⟩ := I
    have hlocks := F.2.1
    refine W.widen (k := mc) (n := ms) hn hz ?_
    exact W.lret F.1.1 F.1.2.1 F.2.2.1 (fun t ht hW => ⟨rfl, by rw [ht]; exact I2, va_K.moved hW.alike F.2.2.2.2.1, I3.F ht⟩) I3.2.2 d
  · cases hr
theorem s_rZ (d : decode cc pc = .ok (.ireturn, 1)) (hn : nc ≤ mc) (hz : zc ≤ ms) : Sd E X l y cc nL (some .boolean) h mc ms nc zc pc i_rZ := by
  intro p e R s m args below meth c F L S μ r hr H locs ls I
  unfold i_rZ at hr
  split at hr
  · split at hr
    · rename_i hc
      cases hr
      obtain ⟨I1, -, I2, I3, I4⟩ := I
      have hlocks := F.2.1
      refine W.widen (k := mc) (n := ms) hn hz ?_
      exact W.zret F.1.1 F.1.2.1 F.2.2.1 (by rcases hc with rfl | rfl <;> rfl) (fun t ht hW => ⟨rfl, by rw [ht]; exact I2, va_K.moved hW.alike F.2.2.2.2.1, I3.F ht⟩) I3.2.2 d
    · cases hr
  · cases hr
theorem s_rC (d : decode cc pc = .ok (.ireturn, 1)) (hn : nc ≤ mc) (hz : zc ≤ ms) : Sd E X l y cc nL (some .char) h mc ms nc zc pc i_rC := by
  intro p e R s m args below meth c F L S μ r hr H locs ls I
  unfold i_rC at hr
  split at hr
  · split at hr
    · rename_i hc
      cases hr
      obtain ⟨I1, -, I2, I3, I4⟩ := I
      have hlocks := F.2.1
      refine W.widen (k := mc) (n := ms) hn hz ?_
      exact W.zret F.1.1 F.1.2.1 F.2.2.1 (by show Value.int _ = Value.int _; rw [hc]) (fun t ht hW => ⟨rfl, by rw [ht]; exact I2, va_K.moved hW.alike F.2.2.2.2.1, I3.F ht⟩) I3.2.2 d
    · cases hr
  · cases hr
theorem s_rB (d : decode cc pc = .ok (.ireturn, 1)) (hn : nc ≤ mc) (hz : zc ≤ ms) : Sd E X l y cc nL (some .byte) h mc ms nc zc pc i_rB := by
  intro p e R s m args below meth c F L S μ r hr H locs ls I
  unfold i_rB at hr
  split at hr
  · split at hr
    · rename_i hc
      cases hr
      obtain ⟨I1, -, I2, I3, I4⟩ := I
      have hlocks := F.2.1
      refine W.widen (k := mc) (n := ms) hn hz ?_
      exact W.zret F.1.1 F.1.2.1 F.2.2.1 (by show Value.int _ = Value.int _; rw [hc]) (fun t ht hW => ⟨rfl, by rw [ht]; exact I2, va_K.moved hW.alike F.2.2.2.2.1, I3.F ht⟩) I3.2.2 d
    · cases hr
  · cases hr
theorem s_iushr (d : decode cc pc = .ok (.iushr, 1)) (hk : Sd E X l y cc nL ret h mc ms nc zc (pc + 1) k) : Sd E X l y cc nL ret h mc ms nc zc pc (i_bin (fun x y => (x.toUInt32 >>> (y.toUInt32 &&& Int32.toUInt32 31)).toInt32) k) := by
  intro p e R s m args below meth c F L S μ r hr H locs ls I
  unfold i_bin at hr
  split at hr
  · exact lv_iushr F.1.1 F.1.2.1 d rfl (hk p e R s m args below meth c F L _ μ r hr H locs ls I)
  · cases hr
end SdRows2
