/-! THE MINI MACHINE'S INSTRUCTIONS, each with what comes behind it -/
def mvr (r : Option Nat) : Value := match r with
  | none => .null
  | some a => .ref a
def uI (μ : mM) (a j : Nat) (x : Int32) : mM := (fun b i => if b = a ∧ i = j then x else μ.1 b i, μ.2)
def uJ (μ : mM) (a j : Nat) (x : Int64) : mM := (μ.1, fun b i => if b = a ∧ i = j then x else μ.2.1 b i, μ.2.2)
def uR (μ : mM) (a j : Nat) (x : Option Nat) : mM := (μ.1, μ.2.1, fun b i => if b = a ∧ i = j then x else μ.2.2.1 b i, μ.2.2.2)
def mnw (t : Nat) (x : Int32) : Int32 := match t with
  | 1 => x.toInt8.toInt32
  | 2 => x &&& 1
  | _ => x
def i_no : mK := fun _ _ _ => none
def i_cst (v : Value) (k : mK) : mK := fun L S μ => k L (v :: S) μ
def i_ldI (n : Nat) (k : mK) : mK := fun L S μ => match L[n]? with
  | some (some (.int x)) => k L (.int x :: S) μ
  | _ => none
def i_ldJ (n : Nat) (k : mK) : mK := fun L S μ => match L[n]? with
  | some (some (.long x)) => k L (.long x :: S) μ
  | _ => none
def i_ldA (n : Nat) (k : mK) : mK := fun L S μ => match L[n]? with
  | some (some (.ref x)) => k L (.ref x :: S) μ
  | some (some (.float x)) => k L (.float x :: S) μ
  | _ => none
def i_stI (n : Nat) (k : mK) : mK := fun L S μ => match S with
  | .int x :: S => if n < L.length ∧ mpl L n = false then k (L.set n (some (.int x))) S μ else none
  | _ => none
def i_stJ (n : Nat) (k : mK) : mK := fun L S μ => match S with
  | .long x :: S => if n + 1 < L.length ∧ mpl L n = false then k ((L.set n (some (.long x))).set (n + 1) none) S μ else none
  | _ => none
def i_stA (n : Nat) (k : mK) : mK := fun L S μ => match S with
  | .ref x :: S => if n < L.length ∧ mpl L n = false then k (L.set n (some (.ref x))) S μ else none
  | _ => none
def i_inc (n : Nat) (c : Int32) (k : mK) : mK := fun L S μ => match L[n]? with
  | some (some (.int x)) => if mpl L n = false then k (L.set n (some (.int (x + c)))) S μ else none
  | _ => none
def i_bin (f : Int32 → Int32 → Int32) (k : mK) : mK := fun L S μ => match S with
  | .int y :: .int x :: S => k L (.int (f x y) :: S) μ
  | _ => none
def i_dv (f : Int32 → Int32 → Int32) (k : mK) : mK := fun L S μ => match S with
  | .int y :: .int x :: S => if y = 0 then none else k L (.int (f x y) :: S) μ
  | _ => none
def i_un (f : Int32 → Int32) (k : mK) : mK := fun L S μ => match S with
  | .int x :: S => k L (.int (f x) :: S) μ
  | _ => none
def i_i2l (k : mK) : mK := fun L S μ => match S with
  | .int x :: S => k L (.long x.toInt64 :: S) μ
  | _ => none
def i_bnJ (f : Int64 → Int64 → Int64) (k : mK) : mK := fun L S μ => match S with
  | .long y :: .long x :: S => k L (.long (f x y) :: S) μ
  | _ => none
def i_lshl (k : mK) : mK := fun L S μ => match S with
  | .int y :: .long x :: S => k L (.long (x <<< (y.toInt64 &&& 63)) :: S) μ
  | _ => none
def i_lcmp (k : mK) : mK := fun L S μ => match S with
  | .long y :: .long x :: S => k L (.int (lg_cmp x y) :: S) μ
  | _ => none
def i_dup (k : mK) : mK := fun L S μ => match S with
  | v :: S => if v.category = 1 then k L (v :: v :: S) μ else none
  | _ => none
def i_dp2 (k : mK) : mK := fun L S μ => match S with
  | v :: w :: S => if v.category = 1 ∧ w.category = 1 then k L (v :: w :: v :: w :: S) μ else none
  | _ => none
def i_gI (ci j : Nat) (k : mK) : mK := fun L S μ => match S with
  | .ref a :: S => if μ.2.2.2[a]? = some (4, ci) then k L (.int (μ.1 a j) :: S) μ else none
  | _ => none
def i_gJ (ci j : Nat) (k : mK) : mK := fun L S μ => match S with
  | .ref a :: S => if μ.2.2.2[a]? = some (4, ci) then k L (.long (μ.2.1 a j) :: S) μ else none
  | _ => none
def i_gA (ci j : Nat) (k : mK) : mK := fun L S μ => match S with
  | .ref a :: S => if μ.2.2.2[a]? = some (4, ci) then k L (mvr (μ.2.2.1 a j) :: S) μ else none
  | _ => none
def i_pI (ci j : Nat) (k : mK) : mK := fun L S μ => match S with
  | .int x :: .ref a :: S => if μ.2.2.2[a]? = some (4, ci) then k L S (uI μ a j x) else none
  | _ => none
def i_pZ (ci j : Nat) (k : mK) : mK := fun L S μ => match S with
  | .int x :: .ref a :: S => if μ.2.2.2[a]? = some (4, ci) ∧ (x = 0 ∨ x = 1) then k L S (uI μ a j x) else none
  | _ => none
def i_pJ (ci j : Nat) (k : mK) : mK := fun L S μ => match S with
  | .long x :: .ref a :: S => if μ.2.2.2[a]? = some (4, ci) then k L S (uJ μ a j x) else none
  | _ => none
def i_pA (ci j : Nat) (k : mK) : mK := fun L S μ => match S with
  | .ref x :: .ref a :: S => if μ.2.2.2[a]? = some (4, ci) then k L S (uR μ a j (some x)) else none
  | _ => none
def i_al (t : Nat) (k : mK) : mK := fun L S μ => match S with
  | .int i :: .ref a :: S => match μ.2.2.2[a]? with
    | some (t', n) => if t' = t ∧ 0 ≤ i ∧ i.toNatClampNeg < n then k L (.int (μ.1 a i.toNatClampNeg) :: S) μ else none
    | none => none
  | _ => none
def i_as (t : Nat) (k : mK) : mK := fun L S μ => match S with
  | .int x :: .int i :: .ref a :: S => match μ.2.2.2[a]? with
    | some (t', n) => if t' = t ∧ 0 ≤ i ∧ i.toNatClampNeg < n then k L S (uI μ a i.toNatClampNeg (mnw t x)) else none
    | none => none
  | _ => none
def i_alJ (k : mK) : mK := fun L S μ => match S with
  | .int i :: .ref a :: S => match μ.2.2.2[a]? with
    | some (t', n) => if t' = 3 ∧ 0 ≤ i ∧ i.toNatClampNeg < n then k L (.long (μ.2.1 a i.toNatClampNeg) :: S) μ else none
    | none => none
  | _ => none
def i_asJ (k : mK) : mK := fun L S μ => match S with
  | .long x :: .int i :: .ref a :: S => match μ.2.2.2[a]? with
    | some (t', n) => if t' = 3 ∧ 0 ≤ i ∧ i.toNatClampNeg < n then k L S (uJ μ a i.toNatClampNeg x) else none
    | none => none
  | _ => none
def i_len (k : mK) : mK := fun L S μ => match S with
  | .ref a :: S => match μ.2.2.2[a]? with
    | some (t, n) => if t ≤ 3 then k L (.int (Int32.ofNat n) :: S) μ else none
    | none => none
  | _ => none
def i_c0 (c : Int32 → Bool) (kt kf : mK) : mK := fun L S μ => match S with
  | .int x :: S => if c x = true then kt L S μ else kf L S μ
  | _ => none
def i_c2 (c : Int32 → Int32 → Bool) (kt kf : mK) : mK := fun L S μ => match S with
  | .int y :: .int x :: S => if c x y = true then kt L S μ else kf L S μ
  | _ => none
def msel (x : Int32) : List (Int32 × mK) → mK → mK
  | [], d => d
  | (v, k) :: cs, d => if x = v then k else msel x cs d
def i_sw (cs : List (Int32 × mK)) (d : mK) : mK := fun L S μ => match S with
  | .int x :: S => msel x cs d L S μ
  | _ => none
def i_cV (ci n : Nat) (f : List Value → mM → Option mR) (k : mK) : mK := fun L S μ => match S.drop n with
  | .ref a :: T => if μ.2.2.2[a]? = some (4, ci) ∧ (T.map fun v => v.category).sum ≤ 8 then (f (.ref a :: (S.take n).reverse) μ).bind (fun q => k L (q.1.toList ++ T) q.2) else none
  | _ => none
def i_cS (n : Nat) (f : List Value → mM → Option mR) (k : mK) : mK := fun L S μ => if n ≤ S.length ∧ ((S.drop n).map fun v => v.category).sum ≤ 8 then (f (S.take n).reverse μ).bind (fun q => k L (q.1.toList ++ S.drop n) q.2) else none
def i_cI (n mc : Nat) (f : List Value → mM → Option mR) (k : mK) : mK := fun L S μ => match S.drop n with
  | .ref a :: T => if (T.map fun v => v.category).sum ≤ 8 then (f (.ref a :: (S.take n).reverse) μ).bind (fun q => if mn q.2 = mn μ + mc then k L (q.1.toList ++ T) q.2 else none) else none
  | _ => none
def i_obj (k : mK) : mK := fun L S μ => match S with
  | .ref _ :: S => if (S.map fun v => v.category).sum ≤ 8 then k L S μ else none
  | _ => none
/-- a new cell, of zeros -/
def mnew (μ : mM) (q : Nat × Nat) : mM := (fun b i => if b = mn μ then 0 else μ.1 b i, fun b i => if b = mn μ then 0 else μ.2.1 b i, fun b i => if b = mn μ then none else μ.2.2.1 b i, μ.2.2.2 ++ [q])
def i_new (ci : Nat) (k : mK) : mK := fun L S μ => k L (.ref (mn μ) :: S) (mnew μ (4, ci))
def i_na (t N : Nat) (k : mK) : mK := fun L S μ => match S with
  | .int n :: S => if n = Int32.ofNat N then k L (.ref (mn μ) :: S) (mnew μ (t, N)) else none
  | _ => none
def i_rV : mK := fun _ S μ => match S with
  | [] => some (none, μ)
  | _ => none
def i_rI : mK := fun _ S μ => match S with
  | [.int x] => some (some (.int x), μ)
  | _ => none
def i_rZ : mK := fun _ S μ => match S with
  | [.int x] => if x = 0 ∨ x = 1 then some (some (.int x), μ) else none
  | _ => none
def i_rC : mK := fun _ S μ => match S with
  | [.int x] => if x.toUInt32.toUInt16.toUInt32.toInt32 = x then some (some (.int x), μ) else none
  | _ => none
def i_rB : mK := fun _ S μ => match S with
  | [.int x] => if x.toInt8.toInt32 = x then some (some (.int x), μ) else none
  | _ => none
def i_rJ : mK := fun _ S μ => match S with
  | [.long x] => some (some (.long x), μ)
  | _ => none
def i_mm (f : Int32 → Int32 → Int32) (k : mK) : mK := fun L S μ => match S with
  | .int y :: .int x :: S => if (S.map fun v => v.category).sum ≤ 8 then k L (.int (f x y) :: S) μ else none
  | _ => none
/-- a loop: at most n rounds -/
def mit (F : mK → mK) : Nat → mK
  | 0 => i_no
  | n + 1 => F (mit F n)
/-! WHAT THE MACHINE DOES -/
/-- the two texts: 1 and 2 are their objects, 3 and 4 their bytes -/
def lenJ : List Nat := [11, 152]
def bytJ : List (List Int32) := [[59, 40, 41, 60, 62, 61, 43, 45, 42, 47, 37], [115, 116, 114, 101, 101, 116, 32, 32, 98, 121, 32, 32, 32, 32, 32, 32, 99, 97, 114, 32, 32, 32, 32, 32, 97, 116, 32, 32, 32, 32, 32, 32, 104, 101, 97, 100, 115, 32, 32, 32, 104, 111, 111, 116, 115, 32, 32, 32, 98, 111, 100, 121, 32, 32, 32, 32, 115, 111, 102, 116, 101, 110, 115, 32, 119, 111, 114, 116, 104, 32, 32, 32, 98, 114, 101, 97, 107, 115, 32, 32, 100, 114, 97, 119, 32, 32, 32, 32, 111, 114, 32, 32, 32, 32, 32, 32, 97, 110, 100, 32, 32, 32, 32, 32, 110, 111, 116, 32, 32, 32, 32, 32, 104, 111, 111, 116, 32, 32, 32, 32, 98, 111, 100, 105, 101, 100, 32, 32, 109, 97, 110, 121, 32, 32, 32, 32, 108, 97, 110, 101, 32, 32, 32, 32, 121, 101, 97, 114, 32, 32, 32, 32]]
def adK (E : mE) (i : Nat) : Nat := (E.2.1 (if i = 0 then 1 else 2)).getD 0
def adV (E : mE) (i : Nat) : Nat := (E.2.1 (if i = 0 then 3 else 4)).getD 0
def mStr (E : mE) (U : State) (H : Heap) : Prop := (E.2.1 1 = some (adK E 0) ∧ E.2.1 2 = some (adK E 1) ∧ E.2.1 3 = some (adV E 0) ∧ E.2.1 4 = some (adV E 1)) ∧ vk_S 2 lenJ bytJ (adK E) (adV E) (mA E) U H ∧ vk_R "VintageJams$Tokens" 56 ";()<>=+-*/%" (adK E 0) U ∧ vk_R "VintageJams$Tokens" 63 "street  by      car     at      heads   hoots   body    softens worth   breaks  draw    or      and     not     hoot    bodied  many    lane    year    " (adK E 1) U ∧ va_Z "java/lang/String" "COMPACT_STRINGS" "Z" (.int 1) (mA E) U H ∧ va_Z "jdk/internal/util/Preconditions" "SIOOBE_FORMATTER" "Ljava/util/function/BiFunction;" (va_rf (E.2.1 5)) (mA E) U H
def mXf (E : mE) (U : State) (H : Heap) : Prop := (∀ w ∈ NW, va_Nw w U) ∧ mStr E U H
def mXok (E : mE) (X : State → Heap → Prop) : Prop := (∀ (s U : State) (H : Heap), s.WarmedH U.vm → X s H → X U H) ∧ (∀ (U : State) (H H1 : Heap), (∀ a : Nat, a < H.size → ¬ mA E a → H1[a]? = H[a]?) → X U H → X U H1) ∧ ∀ (U : State) (H : Heap), X U H → mXf E U H
def mFx (E : mE) (X : State → Heap → Prop) (y : MethodName) (cc : ByteArray) (nL : Nat) (ret : Option FieldType) (h mc ms : Nat) (p : Program) (R : Room) (s : State) (m : MethodId) (args : Array Value) (meth : Method) (c : Code) : Prop :=
  CallFix p m c cc nL s args GT y.cls ∧ meth.locks = false ∧ meth.sig.returnType = ret ∧ (y.name = "<init>" → meth.name = y.name) ∧ mKn E s ∧ X s s.heap ∧ E.1 ≤ s.heap.size ∧ h ≤ R.frames ∧ 40 * h ≤ R.locals ∧ R.cells = mc ∧ R.slots = ms ∧ mXok E X
def mIn (E : mE) (nL nc : Nat) (H0 : Heap) (L : List (Option Value)) (μ : mM) (H : Heap) (locs : List Loc) (ls : Array Slot) : Prop :=
  L.length = nL ∧ H0.size + nc = E.1 + mn μ ∧ mOwn E μ H ∧ va_S (mA E) H0 H locs ∧ mLR E L ls
/-- at pc, with nc cells of zc slots made, the machine does what k says -/
def Sd (E : mE) (X : State → Heap → Prop) (l : Launch) (y : MethodName) (cc : ByteArray) (nL : Nat) (ret : Option FieldType) (h mc ms nc zc pc : Nat) (k : mK) : Prop :=
  ∀ (p : Program) (e : Env) (R : Room) (s : State) (m : MethodId) (args : Array Value) (below : List Frame) (meth : Method) (c : Code), mFx E X y cc nL ret h mc ms p R s m args meth c →
  ∀ (L : List (Option Value)) (S : List Value) (μ : mM) (r : mR), k L S μ = some r → ∀ (H : Heap) (locs : List Loc) (ls : Array Slot), mIn E nL nc s.heap L μ H locs ls →
  W p l e R s m args below meth c H locs nc zc (MQ below (mQ E X r) args s mc ms (mA E)) (F0 m pc ls (S.map (tr E)))
/-- a method does what f says -/
def Ct (E : mE) (X : State → Heap → Prop) (l : Launch) (y : MethodName) (cc : ByteArray) (nL : Nat) (ret : Option FieldType) (h mc ms : Nat) (f : List Value → mM → Option mR) : Prop :=
  ∀ (vs : List Value) (μ : mM) (r : mR), f vs μ = some r →
  Met l y (Cond.code y cc nL ret :: GT) { frames := h, cells := mc, slots := ms, locals := 40 * h } (va_Pc (vs.map (tr E)) (fun U => mOwn E μ U.heap ∧ mKn E U ∧ X U U.heap)) (mQ E X r) mc ms (mA E)
section SdRows
variable {E : mE} {X : State → Heap → Prop} {l : Launch} {y : MethodName} {cc : ByteArray} {nL : Nat} {ret : Option FieldType} {h mc ms nc zc pc : Nat} {k kt kf : mK}
theorem s_no : Sd E X l y cc nL ret h mc ms nc zc pc i_no := by
  intro p e R s m args below meth c F L S μ r hr
  cases hr
theorem s_mit {G : mK → mK} (hG : ∀ k, Sd E X l y cc nL ret h mc ms nc zc pc k → Sd E X l y cc nL ret h mc ms nc zc pc (G k)) : ∀ n, Sd E X l y cc nL ret h mc ms nc zc pc (mit G n) := by
  intro n
  induction n with
  | zero => exact s_no
  | succ n ih => exact hG _ ih
theorem s_goto {off : Int} {tgt : Nat} (d : decode cc pc = .ok (.goto off, 3)) (ht : (pc : Int) + off = (tgt : Int)) (hk : Sd E X l y cc nL ret h mc ms nc zc tgt k) : Sd E X l y cc nL ret h mc ms nc zc pc k := by
  intro p e R s m args below meth c F L S μ r hr H locs ls I
  exact lv_goto F.1.1 F.1.2.1 d ht (hk p e R s m args below meth c F L S μ r hr H locs ls I)
theorem s_iconst {n : Int} {v : Int32} (d : decode cc pc = .ok (.iconst n, 1)) (hv : Int32.ofInt n = v) (hk : Sd E X l y cc nL ret h mc ms nc zc (pc + 1) k) : Sd E X l y cc nL ret h mc ms nc zc pc (i_cst (.int v) k) := by
  intro p e R s m args below meth c F L S μ r hr H locs ls I
  exact lv_iconst F.1.1 F.1.2.1 d hv (hk p e R s m args below meth c F L _ μ r hr H locs ls I)
theorem s_bipush {n : Int} {v : Int32} (d : decode cc pc = .ok (.bipush n, 2)) (hv : (Int8.ofInt n).toInt32 = v) (hk : Sd E X l y cc nL ret h mc ms nc zc (pc + 2) k) : Sd E X l y cc nL ret h mc ms nc zc pc (i_cst (.int v) k) := by
  intro p e R s m args below meth c F L S μ r hr H locs ls I
  exact lv_bipush F.1.1 F.1.2.1 d hv (hk p e R s m args below meth c F L _ μ r hr H locs ls I)
theorem s_sipush {n : Int} {v : Int32} (d : decode cc pc = .ok (.sipush n, 3)) (hv : (Int16.ofInt n).toInt32 = v) (hk : Sd E X l y cc nL ret h mc ms nc zc (pc + 3) k) : Sd E X l y cc nL ret h mc ms nc zc pc (i_cst (.int v) k) := by
  intro p e R s m args below meth c F L S μ r hr H locs ls I
  exact lv_sipush F.1.1 F.1.2.1 d hv (hk p e R s m args below meth c F L _ μ r hr H locs ls I)
theorem s_lconst {n : Fin 2} {v : Int64} (d : decode cc pc = .ok (.lconst n, 1)) (hv : Int64.ofNat (n : Nat) = v) (hk : Sd E X l y cc nL ret h mc ms nc zc (pc + 1) k) : Sd E X l y cc nL ret h mc ms nc zc pc (i_cst (.long v) k) := by
  intro p e R s m args below meth c F L S μ r hr H locs ls I
  exact lv_lconst F.1.1 F.1.2.1 d hv (hk p e R s m args below meth c F L _ μ r hr H locs ls I)
theorem s_ldc {idx : Nat} {v : Int32} (d : decode cc pc = .ok (.ldc idx, 2)) (hl : Cond.constant y.cls idx v ∈ GT) (hk : Sd E X l y cc nL ret h mc ms nc zc (pc + 2) k) : Sd E X l y cc nL ret h mc ms nc zc pc (i_cst (.int v) k) := by
  intro p e R s m args below meth c F L S μ r hr H locs ls I
  exact lv_ldc F.1.1 F.1.2.1 F.1.2.2.2.1 (F.1.2.2.2.2 _ hl) d (hk p e R s m args below meth c F L _ μ r hr H locs ls I)
theorem s_ldcw {idx : Nat} {v : Int32} (d : decode cc pc = .ok (.ldc_w idx, 3)) (hl : Cond.constant y.cls idx v ∈ GT) (hk : Sd E X l y cc nL ret h mc ms nc zc (pc + 3) k) : Sd E X l y cc nL ret h mc ms nc zc pc (i_cst (.int v) k) := by
  intro p e R s m args below meth c F L S μ r hr H locs ls I
  exact lv_ldcw F.1.1 F.1.2.1 F.1.2.2.2.1 (F.1.2.2.2.2 _ hl) d (hk p e R s m args below meth c F L _ μ r hr H locs ls I)
theorem s_ldc2 {idx : Nat} {v : Int64} (d : decode cc pc = .ok (.ldc2_w idx, 3)) (hl : Cond.constantLong y.cls idx v ∈ GT) (hk : Sd E X l y cc nL ret h mc ms nc zc (pc + 3) k) : Sd E X l y cc nL ret h mc ms nc zc pc (i_cst (.long v) k) := by
  intro p e R s m args below meth c F L S μ r hr H locs ls I
  exact lv_ldc2 F.1.1 F.1.2.1 F.1.2.2.2.1 (F.1.2.2.2.2 _ hl) d (hk p e R s m args below meth c F L _ μ r hr H locs ls I)
theorem s_iload_n {j : Fin 4} {n : Nat} (d : decode cc pc = .ok (.iload_n j, 1)) (hj : (j : Nat) = n) (hk : Sd E X l y cc nL ret h mc ms nc zc (pc + 1) k) : Sd E X l y cc nL ret h mc ms nc zc pc (i_ldI n k) := by
  intro p e R s m args below meth c F L S μ r hr H locs ls I
  unfold i_ldI at hr
  split at hr
  · rename_i x hx
    exact lv_iload_n F.1.1 F.1.2.1 d hj (I.2.2.2.2.2.2 n _ hx) (hk p e R s m args below meth c F L _ μ r hr H locs ls I)
  · cases hr
theorem s_iload {n : Nat} (d : decode cc pc = .ok (.iload n, 2)) (hk : Sd E X l y cc nL ret h mc ms nc zc (pc + 2) k) : Sd E X l y cc nL ret h mc ms nc zc pc (i_ldI n k) := by
  intro p e R s m args below meth c F L S μ r hr H locs ls I
  unfold i_ldI at hr
  split at hr
  · rename_i x hx
    exact lv_iload F.1.1 F.1.2.1 d (I.2.2.2.2.2.2 n _ hx) (hk p e R s m args below meth c F L _ μ r hr H locs ls I)
  · cases hr
theorem s_lload_n {j : Fin 4} {n : Nat} (d : decode cc pc = .ok (.lload_n j, 1)) (hj : (j : Nat) = n) (hk : Sd E X l y cc nL ret h mc ms nc zc (pc + 1) k) : Sd E X l y cc nL ret h mc ms nc zc pc (i_ldJ n k) := by
  intro p e R s m args below meth c F L S μ r hr H locs ls I
  unfold i_ldJ at hr
  split at hr
  · rename_i x hx
    exact lv_lload_n F.1.1 F.1.2.1 d hj (I.2.2.2.2.2.2 n _ hx) (hk p e R s m args below meth c F L _ μ r hr H locs ls I)
  · cases hr
theorem s_aload_n {j : Fin 4} {n : Nat} (d : decode cc pc = .ok (.aload_n j, 1)) (hj : (j : Nat) = n) (hk : Sd E X l y cc nL ret h mc ms nc zc (pc + 1) k) : Sd E X l y cc nL ret h mc ms nc zc pc (i_ldA n k) := by
  intro p e R s m args below meth c F L S μ r hr H locs ls I
  unfold i_ldA at hr
  split at hr
  · rename_i x hx
    exact lv_aload_n F.1.1 F.1.2.1 d hj (I.2.2.2.2.2.2 n _ hx) (hk p e R s m args below meth c F L _ μ r hr H locs ls I)
  · rename_i x hx
    have hx := I.2.2.2.2.2.2 n _ hx
    have hk := hk p e R s m args below meth c F L _ μ r hr H locs ls I
    simp only [List.map_cons, tr] at hx hk
    cases hE : E.2.1 x with
    | none => rw [hE] at hx hk; exact lv_aload_nN F.1.1 F.1.2.1 d hj hx hk
    | some a => rw [hE] at hx hk; exact lv_aload_n F.1.1 F.1.2.1 d hj hx hk
  · cases hr
end SdRows
