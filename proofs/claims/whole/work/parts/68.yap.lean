/-! PURE: instructions, wholly applied -/
theorem x_no (L : List (Option Value)) (S : List Value) (μ : mM) : i_no L S μ = none := id rfl
theorem x_cst (v : Value) (k : mK) (L : List (Option Value)) (S : List Value) (μ : mM) : i_cst v k L S μ = (k L (v :: S) μ) := id rfl
theorem x_ldI (n : Nat) (k : mK) (L : List (Option Value)) (S : List Value) (μ : mM) : i_ldI n k L S μ = (match L[n]? with
  | some (some (.int x)) => k L (.int x :: S) μ
  | _ => none) := id rfl
theorem x_ldJ (n : Nat) (k : mK) (L : List (Option Value)) (S : List Value) (μ : mM) : i_ldJ n k L S μ = (match L[n]? with
  | some (some (.long x)) => k L (.long x :: S) μ
  | _ => none) := id rfl
theorem x_ldA (n : Nat) (k : mK) (L : List (Option Value)) (S : List Value) (μ : mM) : i_ldA n k L S μ = (match L[n]? with
  | some (some (.ref x)) => k L (.ref x :: S) μ
  | some (some (.float x)) => k L (.float x :: S) μ
  | _ => none) := id rfl
theorem x_stI (n : Nat) (k : mK) (L : List (Option Value)) (x : Int32) (S : List Value) (μ : mM) : i_stI n k L (.int x :: S) μ = (if n < L.length ∧ mpl L n = false then k (L.set n (some (.int x))) S μ else none) := id rfl
theorem x_stJ (n : Nat) (k : mK) (L : List (Option Value)) (x : Int64) (S : List Value) (μ : mM) : i_stJ n k L (.long x :: S) μ = (if n + 1 < L.length ∧ mpl L n = false then k ((L.set n (some (.long x))).set (n + 1) none) S μ else none) := id rfl
theorem x_stA (n : Nat) (k : mK) (L : List (Option Value)) (x : Nat) (S : List Value) (μ : mM) : i_stA n k L (.ref x :: S) μ = (if n < L.length ∧ mpl L n = false then k (L.set n (some (.ref x))) S μ else none) := id rfl
theorem x_inc (n : Nat) (c : Int32) (k : mK) (L : List (Option Value)) (S : List Value) (μ : mM) : i_inc n c k L S μ = (match L[n]? with
  | some (some (.int x)) => if mpl L n = false then k (L.set n (some (.int (x + c)))) S μ else none
  | _ => none) := id rfl
theorem x_bin (f : Int32 → Int32 → Int32) (k : mK) (L : List (Option Value)) (y : Int32) (x : Int32) (S : List Value) (μ : mM) : i_bin f k L (.int y :: .int x :: S) μ = (k L (.int (f x y) :: S) μ) := id rfl
theorem x_dv (f : Int32 → Int32 → Int32) (k : mK) (L : List (Option Value)) (y : Int32) (x : Int32) (S : List Value) (μ : mM) : i_dv f k L (.int y :: .int x :: S) μ = (if y = 0 then none else k L (.int (f x y) :: S) μ) := id rfl
theorem x_un (f : Int32 → Int32) (k : mK) (L : List (Option Value)) (x : Int32) (S : List Value) (μ : mM) : i_un f k L (.int x :: S) μ = (k L (.int (f x) :: S) μ) := id rfl
theorem x_i2l (k : mK) (L : List (Option Value)) (x : Int32) (S : List Value) (μ : mM) : i_i2l k L (.int x :: S) μ = (k L (.long x.toInt64 :: S) μ) := id rfl
theorem x_bnJ (f : Int64 → Int64 → Int64) (k : mK) (L : List (Option Value)) (y : Int64) (x : Int64) (S : List Value) (μ : mM) : i_bnJ f k L (.long y :: .long x :: S) μ = (k L (.long (f x y) :: S) μ) := id rfl
theorem x_lshl (k : mK) (L : List (Option Value)) (y : Int32) (x : Int64) (S : List Value) (μ : mM) : i_lshl k L (.int y :: .long x :: S) μ = (k L (.long (x <<< (y.toInt64 &&& 63)) :: S) μ) := id rfl
theorem x_lcmp (k : mK) (L : List (Option Value)) (y : Int64) (x : Int64) (S : List Value) (μ : mM) : i_lcmp k L (.long y :: .long x :: S) μ = (k L (.int (lg_cmp x y) :: S) μ) := id rfl
theorem x_dup (k : mK) (L : List (Option Value)) (v : Value) (S : List Value) (μ : mM) : i_dup k L (v :: S) μ = (if v.category = 1 then k L (v :: v :: S) μ else none) := id rfl
theorem x_dp2 (k : mK) (L : List (Option Value)) (v : Value) (w : Value) (S : List Value) (μ : mM) : i_dp2 k L (v :: w :: S) μ = (if v.category = 1 ∧ w.category = 1 then k L (v :: w :: v :: w :: S) μ else none) := id rfl
theorem x_gI (ci j : Nat) (k : mK) (L : List (Option Value)) (a : Nat) (S : List Value) (μ : mM) : i_gI ci j k L (.ref a :: S) μ = (if μ.2.2.2[a]? = some (4, ci) then k L (.int (μ.1 a j) :: S) μ else none) := id rfl
theorem x_gJ (ci j : Nat) (k : mK) (L : List (Option Value)) (a : Nat) (S : List Value) (μ : mM) : i_gJ ci j k L (.ref a :: S) μ = (if μ.2.2.2[a]? = some (4, ci) then k L (.long (μ.2.1 a j) :: S) μ else none) := id rfl
theorem x_gA (ci j : Nat) (k : mK) (L : List (Option Value)) (a : Nat) (S : List Value) (μ : mM) : i_gA ci j k L (.ref a :: S) μ = (if μ.2.2.2[a]? = some (4, ci) then k L (mvr (μ.2.2.1 a j) :: S) μ else none) := id rfl
theorem x_pI (ci j : Nat) (k : mK) (L : List (Option Value)) (x : Int32) (a : Nat) (S : List Value) (μ : mM) : i_pI ci j k L (.int x :: .ref a :: S) μ = (if μ.2.2.2[a]? = some (4, ci) then k L S (uI μ a j x) else none) := id rfl
theorem x_pZ (ci j : Nat) (k : mK) (L : List (Option Value)) (x : Int32) (a : Nat) (S : List Value) (μ : mM) : i_pZ ci j k L (.int x :: .ref a :: S) μ = (if μ.2.2.2[a]? = some (4, ci) ∧ (x = 0 ∨ x = 1) then k L S (uI μ a j x) else none) := id rfl
theorem x_pJ (ci j : Nat) (k : mK) (L : List (Option Value)) (x : Int64) (a : Nat) (S : List Value) (μ : mM) : i_pJ ci j k L (.long x :: .ref a :: S) μ = (if μ.2.2.2[a]? = some (4, ci) then k L S (uJ μ a j x) else none) := id rfl
theorem x_pA (ci j : Nat) (k : mK) (L : List (Option Value)) (x : Nat) (a : Nat) (S : List Value) (μ : mM) : i_pA ci j k L (.ref x :: .ref a :: S) μ = (if μ.2.2.2[a]? = some (4, ci) then k L S (uR μ a j (some x)) else none) := id rfl
theorem x_c0 (c : Int32 → Bool) (kt kf : mK) (L : List (Option Value)) (x : Int32) (S : List Value) (μ : mM) : i_c0 c kt kf L (.int x :: S) μ = (if c x = true then kt L S μ else kf L S μ) := id rfl
theorem x_c2 (c : Int32 → Int32 → Bool) (kt kf : mK) (L : List (Option Value)) (y : Int32) (x : Int32) (S : List Value) (μ : mM) : i_c2 c kt kf L (.int y :: .int x :: S) μ = (if c x y = true then kt L S μ else kf L S μ) := id rfl
theorem x_cV (ci n : Nat) (f : List Value → mM → Option mR) (k : mK) (L : List (Option Value)) (S : List Value) (μ : mM) : i_cV ci n f k L S μ = (match S.drop n with
  | .ref a :: T => if μ.2.2.2[a]? = some (4, ci) ∧ (T.map fun v => v.category).sum ≤ 8 then (f (.ref a :: (S.take n).reverse) μ).bind (fun q => k L (q.1.toList ++ T) q.2) else none
  | _ => none) := id rfl
theorem x_cS (n : Nat) (f : List Value → mM → Option mR) (k : mK) (L : List (Option Value)) (S : List Value) (μ : mM) : i_cS n f k L S μ = (if n ≤ S.length ∧ ((S.drop n).map fun v => v.category).sum ≤ 8 then (f (S.take n).reverse μ).bind (fun q => k L (q.1.toList ++ S.drop n) q.2) else none) := id rfl
theorem x_cI (n mc : Nat) (f : List Value → mM → Option mR) (k : mK) (L : List (Option Value)) (S : List Value) (μ : mM) : i_cI n mc f k L S μ = (match S.drop n with
  | .ref a :: T => if (T.map fun v => v.category).sum ≤ 8 then (f (.ref a :: (S.take n).reverse) μ).bind (fun q => if mn q.2 = mn μ + mc then k L (q.1.toList ++ T) q.2 else none) else none
  | _ => none) := id rfl
theorem x_obj (k : mK) (L : List (Option Value)) (z : Nat) (S : List Value) (μ : mM) : i_obj k L (.ref z :: S) μ = (if (S.map fun v => v.category).sum ≤ 8 then k L S μ else none) := id rfl
theorem x_new (ci : Nat) (k : mK) (L : List (Option Value)) (S : List Value) (μ : mM) : i_new ci k L S μ = (k L (.ref (mn μ) :: S) (mnew μ (4, ci))) := id rfl
theorem x_na (t N : Nat) (k : mK) (L : List (Option Value)) (n : Int32) (S : List Value) (μ : mM) : i_na t N k L (.int n :: S) μ = (if n = Int32.ofNat N then k L (.ref (mn μ) :: S) (mnew μ (t, N)) else none) := id rfl
theorem x_rV (L : List (Option Value))  (μ : mM) : i_rV  L ([]) μ = some (none, μ) := id rfl
theorem x_rI (L : List (Option Value)) (x : Int32) (μ : mM) : i_rI  L ([.int x]) μ = some (some (.int x), μ) := id rfl
theorem x_rZ (L : List (Option Value)) (x : Int32) (μ : mM) : i_rZ  L ([.int x]) μ = if x = 0 ∨ x = 1 then some (some (.int x), μ) else none := id rfl
theorem x_rC (L : List (Option Value)) (x : Int32) (μ : mM) : i_rC  L ([.int x]) μ = if x.toUInt32.toUInt16.toUInt32.toInt32 = x then some (some (.int x), μ) else none := id rfl
theorem x_rB (L : List (Option Value)) (x : Int32) (μ : mM) : i_rB  L ([.int x]) μ = if x.toInt8.toInt32 = x then some (some (.int x), μ) else none := id rfl
theorem x_rJ (L : List (Option Value)) (x : Int64) (μ : mM) : i_rJ  L ([.long x]) μ = some (some (.long x), μ) := id rfl
theorem x_mm (f : Int32 → Int32 → Int32) (k : mK) (L : List (Option Value)) (y : Int32) (x : Int32) (S : List Value) (μ : mM) : i_mm f k L (.int y :: .int x :: S) μ = (if (S.map fun v => v.category).sum ≤ 8 then k L (.int (f x y) :: S) μ else none) := id rfl
theorem x_pop (k : mK) (L : List (Option Value)) (v : Value) (S : List Value) (μ : mM) : i_pop k L (v :: S) μ = (if v.category = 1 then k L S μ else none) := id rfl
theorem x_xC (k : mK) (L : List (Option Value)) (w : UInt32) (S : List Value) (μ : mM) : i_xC k L (.float w :: S) μ = (if w = 1 ∨ w = 2 then k L (.int 0 :: S) μ else none) := id rfl
theorem x_xV (k : mK) (L : List (Option Value)) (w : UInt32) (S : List Value) (μ : mM) : i_xV k L (.float w :: S) μ = (if w = 1 then k L (.float 3 :: S) μ else if w = 2 then k L (.float 4 :: S) μ else none) := id rfl
theorem x_xln (k : mK) (L : List (Option Value)) (w : UInt32) (S : List Value) (μ : mM) : i_xln k L (.float w :: S) μ = (if w = 3 ∨ w = 4 then k L (.int (Int32.ofNat (xlen w)) :: S) μ else none) := id rfl
theorem x_xal (k : mK) (L : List (Option Value)) (i : Int32) (w : UInt32) (S : List Value) (μ : mM) : i_xal k L (.int i :: .float w :: S) μ = (if (w = 3 ∨ w = 4) ∧ 0 ≤ i ∧ i.toNatClampNeg < xlen w then k L (.int (xbyt w i.toNatClampNeg) :: S) μ else none) := id rfl
theorem x_cX (n : Nat) (f : List Value → mM → Option mR) (k : mK) (L : List (Option Value)) (S : List Value) (μ : mM) : i_cX n f k L S μ = (match S.drop n with
  | .float w :: T => if (w = 1 ∨ w = 2) ∧ (T.map fun v => v.category).sum ≤ 8 then (f (.float w :: (S.take n).reverse) μ).bind (fun q => k L (q.1.toList ++ T) q.2) else none
  | _ => none) := id rfl
theorem x_sal (xs : Nat → Int32) (N : Nat) (k : mK) (L : List (Option Value)) (i : Int32) (w : UInt32) (S : List Value) (μ : mM) : i_sal xs N k L (.int i :: .float w :: S) μ = (if w = 0 ∧ 0 ≤ i ∧ i.toNatClampNeg < N then k L (.int (xs i.toNatClampNeg) :: S) μ else none) := id rfl
theorem x_sln (N : Nat) (k : mK) (L : List (Option Value)) (w : UInt32) (S : List Value) (μ : mM) : i_sln N k L (.float w :: S) μ = (if w = 0 then k L (.int (Int32.ofNat N) :: S) μ else none) := id rfl
theorem x_sw (cs : List (Int32 × mK)) (d : mK) (L : List (Option Value)) (x : Int32) (S : List Value) (μ : mM) : i_sw cs d L (.int x :: S) μ = msel x cs d L S μ := id rfl
