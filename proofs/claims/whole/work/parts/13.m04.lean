theorem dX12_those_0 : decode cX12_those 0 = .ok (.iconst 0, 1) := by decide +kernel
theorem dX12_those_1 : decode cX12_those 1 = .ok (.istore_n 1, 1) := by decide +kernel
theorem dX12_those_2 : decode cX12_those 2 = .ok (.iconst 0, 1) := by decide +kernel
theorem dX12_those_3 : decode cX12_those 3 = .ok (.istore_n 2, 1) := by decide +kernel
theorem dX12_those_4 : decode cX12_those 4 = .ok (.iload_n 2, 1) := by decide +kernel
theorem dX12_those_5 : decode cX12_those 5 = .ok (.aload_n 0, 1) := by decide +kernel
theorem dX12_those_6 : decode cX12_those 6 = .ok (.invokevirtual 341, 3) := by decide +kernel
theorem dX12_those_9 : decode cX12_those 9 = .ok (.if_icmp .ge 26, 3) := by decide +kernel
theorem dX12_those_12 : decode cX12_those 12 = .ok (.aload_n 0, 1) := by decide +kernel
theorem dX12_those_13 : decode cX12_those 13 = .ok (.getfield 82, 3) := by decide +kernel
theorem dX12_those_16 : decode cX12_those 16 = .ok (.iconst 0, 1) := by decide +kernel
theorem dX12_those_17 : decode cX12_those 17 = .ok (.iload_n 2, 1) := by decide +kernel
theorem dX12_those_18 : decode cX12_those 18 = .ok (.iadd, 1) := by decide +kernel
theorem dX12_those_19 : decode cX12_those 19 = .ok (.iaload, 1) := by decide +kernel
theorem dX12_those_20 : decode cX12_those 20 = .ok (.ifCond .lt 9, 3) := by decide +kernel
theorem dX12_those_23 : decode cX12_those 23 = .ok (.iload_n 1, 1) := by decide +kernel
theorem dX12_those_24 : decode cX12_those 24 = .ok (.iconst 1, 1) := by decide +kernel
theorem dX12_those_25 : decode cX12_those 25 = .ok (.iload_n 2, 1) := by decide +kernel
theorem dX12_those_26 : decode cX12_those 26 = .ok (.ishl, 1) := by decide +kernel
theorem dX12_those_27 : decode cX12_those 27 = .ok (.ior, 1) := by decide +kernel
theorem dX12_those_28 : decode cX12_those 28 = .ok (.istore_n 1, 1) := by decide +kernel
theorem dX12_those_29 : decode cX12_those 29 = .ok (.iinc 2 1, 3) := by decide +kernel
theorem dX12_those_32 : decode cX12_those 32 = .ok (.goto (-28), 3) := by decide +kernel
theorem dX12_those_35 : decode cX12_those 35 = .ok (.iload_n 1, 1) := by decide +kernel
theorem dX12_those_36 : decode cX12_those 36 = .ok (.ireturn, 1) := by decide +kernel
def kX12_those_29 (n : Nat) (r4 : mK) : mK := i_inc 2 (1) (r4)
set_option maxRecDepth 20000 in
theorem okX12_those_29 {E : mE} {X : State → Heap → Prop} {l : Launch} (hX : mXok E X) (n : Nat) {r4 : mK} (h4 : Sd E X l yX12_those cX12_those 3 (some .int) 2 0 0 0 0 4 r4) : Sd E X l yX12_those cX12_those 3 (some .int) 2 0 0 0 0 29 (kX12_those_29 n r4) := s_iinc dX12_those_29 (by decide) (s_goto dX12_those_32 (by decide) h4)
def kX12_those_4 (n : Nat) (r4 : mK) : mK := i_ldI 2 (i_ldA 0 (i_cV 12 0 (FX12_many n) (i_c2 (fun x y => decide (y ≤ x)) (i_ldI 1 (i_rI)) (i_ldA 0 (i_gA 12 39 (i_cst (.int (0)) (i_ldI 2 (i_bin (fun x y => x + y) (i_al 0 (i_c0 (fun x => decide (x < 0)) (kX12_those_29 n r4) (i_ldI 1 (i_cst (.int (1)) (i_ldI 2 (i_bin (fun x y => x <<< (y &&& 31)) (i_bin (fun x y => x ||| y) (i_stI 1 (kX12_those_29 n r4)))))))))))))))))
set_option maxRecDepth 20000 in
theorem okX12_those_4 {E : mE} {X : State → Heap → Prop} {l : Launch} (hX : mXok E X) (n : Nat) {r4 : mK} (h4 : Sd E X l yX12_those cX12_those 3 (some .int) 2 0 0 0 0 4 r4) : Sd E X l yX12_those cX12_those 3 (some .int) 2 0 0 0 0 4 (kX12_those_4 n r4) := s_iload_n dX12_those_4 rfl (s_aload_n dX12_those_5 rfl (s_cV dX12_those_6 lMX12_341 bVX12_many rfl (CtX12_many hX n) (Nat.le_of_ble_eq_true rfl) (s_icge dX12_those_9 (by decide) (s_iload_n dX12_those_35 rfl (s_rI dX12_those_36 (Nat.le_of_ble_eq_true rfl) (Nat.le_of_ble_eq_true rfl))) (s_aload_n dX12_those_12 rfl (s_gA dX12_those_13 lFX12_82 (s_iconst dX12_those_16 (by decide) (s_iload_n dX12_those_17 rfl (s_iadd dX12_those_18 (s_iald dX12_those_19 (s_iflt dX12_those_20 (by decide) (okX12_those_29 hX n h4) (s_iload_n dX12_those_23 rfl (s_iconst dX12_those_24 (by decide) (s_iload_n dX12_those_25 rfl (s_ishl dX12_those_26 (s_ior dX12_those_27 (s_istore_n dX12_those_28 rfl (okX12_those_29 hX n h4))))))))))))))) (Nat.le_of_ble_eq_true rfl) (Nat.le_of_ble_eq_true rfl)))
def kX12_those_0 (n : Nat) : mK := i_cst (.int (0)) (i_stI 1 (i_cst (.int (0)) (i_stI 2 (mit (kX12_those_4 n ) n))))
set_option maxRecDepth 20000 in
theorem okX12_those_0 {E : mE} {X : State → Heap → Prop} {l : Launch} (hX : mXok E X) (n : Nat) : Sd E X l yX12_those cX12_those 3 (some .int) 2 0 0 0 0 0 (kX12_those_0 n) := s_iconst dX12_those_0 (by decide) (s_istore_n dX12_those_1 rfl (s_iconst dX12_those_2 (by decide) (s_istore_n dX12_those_3 rfl (s_mit (fun _ hk => okX12_those_4 hX n hk) n))))
def FX12_those (n : Nat) : List Value → mM → Option mR := mfn 3 (kX12_those_0 n)
theorem CtX12_those {E : mE} {X : State → Heap → Prop} {l : Launch} (hX : mXok E X) (n : Nat) : Ct E X l yX12_those cX12_those 3 (some .int) 2 0 0 (FX12_those n) := Ct_of (by decide) hX (okX12_those_0 hX n)
theorem dX12_undo_0 : decode cX12_undo 0 = .ok (.aload_n 0, 1) := by decide +kernel
theorem dX12_undo_1 : decode cX12_undo 1 = .ok (.getfield 357, 3) := by decide +kernel
theorem dX12_undo_4 : decode cX12_undo 4 = .ok (.ifCond .ne 5, 3) := by decide +kernel
theorem dX12_undo_7 : decode cX12_undo 7 = .ok (.iconst 0, 1) := by decide +kernel
theorem dX12_undo_8 : decode cX12_undo 8 = .ok (.ireturn, 1) := by decide +kernel
theorem dX12_undo_9 : decode cX12_undo 9 = .ok (.aload_n 0, 1) := by decide +kernel
theorem dX12_undo_10 : decode cX12_undo 10 = .ok (.dup, 1) := by decide +kernel
theorem dX12_undo_11 : decode cX12_undo 11 = .ok (.getfield 357, 3) := by decide +kernel
theorem dX12_undo_14 : decode cX12_undo 14 = .ok (.iconst 1, 1) := by decide +kernel
theorem dX12_undo_15 : decode cX12_undo 15 = .ok (.isub, 1) := by decide +kernel
theorem dX12_undo_16 : decode cX12_undo 16 = .ok (.putfield 357, 3) := by decide +kernel
theorem dX12_undo_19 : decode cX12_undo 19 = .ok (.aload_n 0, 1) := by decide +kernel
theorem dX12_undo_20 : decode cX12_undo 20 = .ok (.dup, 1) := by decide +kernel
theorem dX12_undo_21 : decode cX12_undo 21 = .ok (.getfield 360, 3) := by decide +kernel
theorem dX12_undo_24 : decode cX12_undo 24 = .ok (.iconst 1, 1) := by decide +kernel
theorem dX12_undo_25 : decode cX12_undo 25 = .ok (.iadd, 1) := by decide +kernel
theorem dX12_undo_26 : decode cX12_undo 26 = .ok (.putfield 360, 3) := by decide +kernel
theorem dX12_undo_29 : decode cX12_undo 29 = .ok (.aload_n 0, 1) := by decide +kernel
theorem dX12_undo_30 : decode cX12_undo 30 = .ok (.invokevirtual 421, 3) := by decide +kernel
theorem dX12_undo_33 : decode cX12_undo 33 = .ok (.iconst 1, 1) := by decide +kernel
theorem dX12_undo_34 : decode cX12_undo 34 = .ok (.ireturn, 1) := by decide +kernel
def kX12_undo_0 (n : Nat) : mK := i_ldA 0 (i_gI 12 43 (i_c0 (fun x => decide (¬ x = 0)) (i_ldA 0 (i_dup (i_gI 12 43 (i_cst (.int (1)) (i_bin (fun x y => x - y) (i_pI 12 43 (i_ldA 0 (i_dup (i_gI 12 44 (i_cst (.int (1)) (i_bin (fun x y => x + y) (i_pI 12 44 (i_ldA 0 (i_cV 12 0 (FX12_swapAll n) (i_cst (.int (1)) (i_rZ)))))))))))))))) (i_cst (.int (0)) (i_rZ))))
set_option maxRecDepth 20000 in
theorem okX12_undo_0 {E : mE} {X : State → Heap → Prop} {l : Launch} (hX : mXok E X) (n : Nat) : Sd E X l yX12_undo cX12_undo 1 (some .boolean) 2 0 0 0 0 0 (kX12_undo_0 n) := s_aload_n dX12_undo_0 rfl (s_gI dX12_undo_1 lFX12_357 (by decide) (s_ifne dX12_undo_4 (by decide) (s_aload_n dX12_undo_9 rfl (s_dup dX12_undo_10 (s_gI dX12_undo_11 lFX12_357 (by decide) (s_iconst dX12_undo_14 (by decide) (s_isub dX12_undo_15 (s_pI dX12_undo_16 lFX12_357 (s_aload_n dX12_undo_19 rfl (s_dup dX12_undo_20 (s_gI dX12_undo_21 lFX12_360 (by decide) (s_iconst dX12_undo_24 (by decide) (s_iadd dX12_undo_25 (s_pI dX12_undo_26 lFX12_360 (s_aload_n dX12_undo_29 rfl (s_cV dX12_undo_30 lMX12_421 bVX12_swapAll rfl (CtX12_swapAll hX n) (Nat.le_of_ble_eq_true rfl) (s_iconst dX12_undo_33 (by decide) (s_rZ dX12_undo_34 (Nat.le_of_ble_eq_true rfl) (Nat.le_of_ble_eq_true rfl))) (Nat.le_of_ble_eq_true rfl) (Nat.le_of_ble_eq_true rfl))))))))))))))) (s_iconst dX12_undo_7 (by decide) (s_rZ dX12_undo_8 (Nat.le_of_ble_eq_true rfl) (Nat.le_of_ble_eq_true rfl)))))
def FX12_undo (n : Nat) : List Value → mM → Option mR := mfn 1 (kX12_undo_0 n)
theorem CtX12_undo {E : mE} {X : State → Heap → Prop} {l : Launch} (hX : mXok E X) (n : Nat) : Ct E X l yX12_undo cX12_undo 1 (some .boolean) 2 0 0 (FX12_undo n) := Ct_of (by decide) hX (okX12_undo_0 hX n)
theorem dX12_untell_0 : decode cX12_untell 0 = .ok (.iload_n 1, 1) := by decide +kernel
theorem dX12_untell_1 : decode cX12_untell 1 = .ok (.iconst 0, 1) := by decide +kernel
theorem dX12_untell_2 : decode cX12_untell 2 = .ok (.aload_n 0, 1) := by decide +kernel
theorem dX12_untell_3 : decode cX12_untell 3 = .ok (.getfield 363, 3) := by decide +kernel
theorem dX12_untell_6 : decode cX12_untell 6 = .ok (.iconst 1, 1) := by decide +kernel
theorem dX12_untell_7 : decode cX12_untell 7 = .ok (.isub, 1) := by decide +kernel
theorem dX12_untell_8 : decode cX12_untell 8 = .ok (.invokestatic 344, 3) := by decide +kernel
theorem dX12_untell_11 : decode cX12_untell 11 = .ok (.ifCond .eq 12, 3) := by decide +kernel
theorem dX12_untell_14 : decode cX12_untell 14 = .ok (.aload_n 0, 1) := by decide +kernel
theorem dX12_untell_15 : decode cX12_untell 15 = .ok (.getfield 124, 3) := by decide +kernel
theorem dX12_untell_18 : decode cX12_untell 18 = .ok (.iload_n 1, 1) := by decide +kernel
theorem dX12_untell_19 : decode cX12_untell 19 = .ok (.iaload, 1) := by decide +kernel
theorem dX12_untell_20 : decode cX12_untell 20 = .ok (.ifCond .lt 5, 3) := by decide +kernel
theorem dX12_untell_23 : decode cX12_untell 23 = .ok (.iconst 0, 1) := by decide +kernel
theorem dX12_untell_24 : decode cX12_untell 24 = .ok (.ireturn, 1) := by decide +kernel
theorem dX12_untell_25 : decode cX12_untell 25 = .ok (.aload_n 0, 1) := by decide +kernel
theorem dX12_untell_26 : decode cX12_untell 26 = .ok (.getfield 124, 3) := by decide +kernel
theorem dX12_untell_29 : decode cX12_untell 29 = .ok (.iload_n 1, 1) := by decide +kernel
theorem dX12_untell_30 : decode cX12_untell 30 = .ok (.aload_n 0, 1) := by decide +kernel
theorem dX12_untell_31 : decode cX12_untell 31 = .ok (.getfield 477, 3) := by decide +kernel
theorem dX12_untell_34 : decode cX12_untell 34 = .ok (.iastore, 1) := by decide +kernel
theorem dX12_untell_35 : decode cX12_untell 35 = .ok (.iconst 1, 1) := by decide +kernel
theorem dX12_untell_36 : decode cX12_untell 36 = .ok (.ireturn, 1) := by decide +kernel
def kX12_untell_23 (n : Nat) : mK := i_cst (.int (0)) (i_rZ)
set_option maxRecDepth 20000 in
theorem okX12_untell_23 {E : mE} {X : State → Heap → Prop} {l : Launch} (hX : mXok E X) (n : Nat) : Sd E X l yX12_untell cX12_untell 2 (some .boolean) 2 0 0 0 0 23 (kX12_untell_23 n) := s_iconst dX12_untell_23 (by decide) (s_rZ dX12_untell_24 (Nat.le_of_ble_eq_true rfl) (Nat.le_of_ble_eq_true rfl))
def kX12_untell_0 (n : Nat) : mK := i_ldI 1 (i_cst (.int (0)) (i_ldA 0 (i_gI 12 57 (i_cst (.int (1)) (i_bin (fun x y => x - y) (i_cS 3 (FX12_isIn n) (i_c0 (fun x => decide (x = 0)) (kX12_untell_23 n) (i_ldA 0 (i_gA 12 56 (i_ldI 1 (i_al 0 (i_c0 (fun x => decide (x < 0)) (i_ldA 0 (i_gA 12 56 (i_ldI 1 (i_ldA 0 (i_gI 12 58 (i_as 0 (i_cst (.int (1)) (i_rZ)))))))) (kX12_untell_23 n)))))))))))))
set_option maxRecDepth 20000 in
theorem okX12_untell_0 {E : mE} {X : State → Heap → Prop} {l : Launch} (hX : mXok E X) (n : Nat) : Sd E X l yX12_untell cX12_untell 2 (some .boolean) 2 0 0 0 0 0 (kX12_untell_0 n) := s_iload_n dX12_untell_0 rfl (s_iconst dX12_untell_1 (by decide) (s_aload_n dX12_untell_2 rfl (s_gI dX12_untell_3 lFX12_363 (by decide) (s_iconst dX12_untell_6 (by decide) (s_isub dX12_untell_7 (s_cS dX12_untell_8 lMX12_344 bSX12_isIn (CtX12_isIn hX n) (Nat.le_of_ble_eq_true rfl) (s_ifeq dX12_untell_11 (by decide) (okX12_untell_23 hX n) (s_aload_n dX12_untell_14 rfl (s_gA dX12_untell_15 lFX12_124 (s_iload_n dX12_untell_18 rfl (s_iald dX12_untell_19 (s_iflt dX12_untell_20 (by decide) (s_aload_n dX12_untell_25 rfl (s_gA dX12_untell_26 lFX12_124 (s_iload_n dX12_untell_29 rfl (s_aload_n dX12_untell_30 rfl (s_gI dX12_untell_31 lFX12_477 (by decide) (s_iast dX12_untell_34 (s_iconst dX12_untell_35 (by decide) (s_rZ dX12_untell_36 (Nat.le_of_ble_eq_true rfl) (Nat.le_of_ble_eq_true rfl))))))))) (okX12_untell_23 hX n))))))) (Nat.le_of_ble_eq_true rfl) (Nat.le_of_ble_eq_true rfl)))))))
def FX12_untell (n : Nat) : List Value → mM → Option mR := mfn 2 (kX12_untell_0 n)
theorem CtX12_untell {E : mE} {X : State → Heap → Prop} {l : Launch} (hX : mXok E X) (n : Nat) : Ct E X l yX12_untell cX12_untell 2 (some .boolean) 2 0 0 (FX12_untell n) := Ct_of (by decide) hX (okX12_untell_0 hX n)
theorem dX12_whoAt_0 : decode cX12_whoAt 0 = .ok (.iconst 0, 1) := by decide +kernel
theorem dX12_whoAt_1 : decode cX12_whoAt 1 = .ok (.istore_n 2, 1) := by decide +kernel
theorem dX12_whoAt_2 : decode cX12_whoAt 2 = .ok (.iload_n 2, 1) := by decide +kernel
theorem dX12_whoAt_3 : decode cX12_whoAt 3 = .ok (.aload_n 0, 1) := by decide +kernel
theorem dX12_whoAt_4 : decode cX12_whoAt 4 = .ok (.invokevirtual 341, 3) := by decide +kernel
theorem dX12_whoAt_7 : decode cX12_whoAt 7 = .ok (.if_icmp .ge 23, 3) := by decide +kernel
theorem dX12_whoAt_10 : decode cX12_whoAt 10 = .ok (.aload_n 0, 1) := by decide +kernel
theorem dX12_whoAt_11 : decode cX12_whoAt 11 = .ok (.getfield 82, 3) := by decide +kernel
theorem dX12_whoAt_14 : decode cX12_whoAt 14 = .ok (.iconst 0, 1) := by decide +kernel
theorem dX12_whoAt_15 : decode cX12_whoAt 15 = .ok (.iload_n 2, 1) := by decide +kernel
theorem dX12_whoAt_16 : decode cX12_whoAt 16 = .ok (.iadd, 1) := by decide +kernel
theorem dX12_whoAt_17 : decode cX12_whoAt 17 = .ok (.iaload, 1) := by decide +kernel
theorem dX12_whoAt_18 : decode cX12_whoAt 18 = .ok (.iload_n 1, 1) := by decide +kernel
theorem dX12_whoAt_19 : decode cX12_whoAt 19 = .ok (.if_icmp .ne 5, 3) := by decide +kernel
theorem dX12_whoAt_22 : decode cX12_whoAt 22 = .ok (.iload_n 2, 1) := by decide +kernel
theorem dX12_whoAt_23 : decode cX12_whoAt 23 = .ok (.ireturn, 1) := by decide +kernel
theorem dX12_whoAt_24 : decode cX12_whoAt 24 = .ok (.iinc 2 1, 3) := by decide +kernel
theorem dX12_whoAt_27 : decode cX12_whoAt 27 = .ok (.goto (-25), 3) := by decide +kernel
theorem dX12_whoAt_30 : decode cX12_whoAt 30 = .ok (.iconst (-1), 1) := by decide +kernel
theorem dX12_whoAt_31 : decode cX12_whoAt 31 = .ok (.ireturn, 1) := by decide +kernel
def kX12_whoAt_2 (n : Nat) (r2 : mK) : mK := i_ldI 2 (i_ldA 0 (i_cV 12 0 (FX12_many n) (i_c2 (fun x y => decide (y ≤ x)) (i_cst (.int (-1)) (i_rI)) (i_ldA 0 (i_gA 12 39 (i_cst (.int (0)) (i_ldI 2 (i_bin (fun x y => x + y) (i_al 0 (i_ldI 1 (i_c2 (fun x y => decide (¬ x = y)) (i_inc 2 (1) (r2)) (i_ldI 2 (i_rI)))))))))))))
set_option maxRecDepth 20000 in
theorem okX12_whoAt_2 {E : mE} {X : State → Heap → Prop} {l : Launch} (hX : mXok E X) (n : Nat) {r2 : mK} (h2 : Sd E X l yX12_whoAt cX12_whoAt 3 (some .int) 2 0 0 0 0 2 r2) : Sd E X l yX12_whoAt cX12_whoAt 3 (some .int) 2 0 0 0 0 2 (kX12_whoAt_2 n r2) := s_iload_n dX12_whoAt_2 rfl (s_aload_n dX12_whoAt_3 rfl (s_cV dX12_whoAt_4 lMX12_341 bVX12_many rfl (CtX12_many hX n) (Nat.le_of_ble_eq_true rfl) (s_icge dX12_whoAt_7 (by decide) (s_iconst dX12_whoAt_30 (by decide) (s_rI dX12_whoAt_31 (Nat.le_of_ble_eq_true rfl) (Nat.le_of_ble_eq_true rfl))) (s_aload_n dX12_whoAt_10 rfl (s_gA dX12_whoAt_11 lFX12_82 (s_iconst dX12_whoAt_14 (by decide) (s_iload_n dX12_whoAt_15 rfl (s_iadd dX12_whoAt_16 (s_iald dX12_whoAt_17 (s_iload_n dX12_whoAt_18 rfl (s_icne dX12_whoAt_19 (by decide) (s_iinc dX12_whoAt_24 (by decide) (s_goto dX12_whoAt_27 (by decide) h2)) (s_iload_n dX12_whoAt_22 rfl (s_rI dX12_whoAt_23 (Nat.le_of_ble_eq_true rfl) (Nat.le_of_ble_eq_true rfl)))))))))))) (Nat.le_of_ble_eq_true rfl) (Nat.le_of_ble_eq_true rfl)))
def kX12_whoAt_0 (n : Nat) : mK := i_cst (.int (0)) (i_stI 2 (mit (kX12_whoAt_2 n ) n))
set_option maxRecDepth 20000 in
theorem okX12_whoAt_0 {E : mE} {X : State → Heap → Prop} {l : Launch} (hX : mXok E X) (n : Nat) : Sd E X l yX12_whoAt cX12_whoAt 3 (some .int) 2 0 0 0 0 0 (kX12_whoAt_0 n) := s_iconst dX12_whoAt_0 (by decide) (s_istore_n dX12_whoAt_1 rfl (s_mit (fun _ hk => okX12_whoAt_2 hX n hk) n))
def FX12_whoAt (n : Nat) : List Value → mM → Option mR := mfn 3 (kX12_whoAt_0 n)
theorem CtX12_whoAt {E : mE} {X : State → Heap → Prop} {l : Launch} (hX : mXok E X) (n : Nat) : Ct E X l yX12_whoAt cX12_whoAt 3 (some .int) 2 0 0 (FX12_whoAt n) := Ct_of (by decide) hX (okX12_whoAt_0 hX n)
theorem dX12_wordHere_0 : decode cX12_wordHere 0 = .ok (.aload_n 0, 1) := by decide +kernel
theorem dX12_wordHere_1 : decode cX12_wordHere 1 = .ok (.ldc2_w 171, 3) := by decide +kernel
theorem dX12_wordHere_4 : decode cX12_wordHere 4 = .ok (.invokevirtual 235, 3) := by decide +kernel
theorem dX12_wordHere_7 : decode cX12_wordHere 7 = .ok (.ifCond .eq 6, 3) := by decide +kernel
theorem dX12_wordHere_10 : decode cX12_wordHere 10 = .ok (.bipush 104, 2) := by decide +kernel
theorem dX12_wordHere_12 : decode cX12_wordHere 12 = .ok (.ireturn, 1) := by decide +kernel
theorem dX12_wordHere_13 : decode cX12_wordHere 13 = .ok (.aload_n 0, 1) := by decide +kernel
theorem dX12_wordHere_14 : decode cX12_wordHere 14 = .ok (.ldc2_w 173, 3) := by decide +kernel
theorem dX12_wordHere_17 : decode cX12_wordHere 17 = .ok (.invokevirtual 235, 3) := by decide +kernel
theorem dX12_wordHere_20 : decode cX12_wordHere 20 = .ok (.ifCond .eq 6, 3) := by decide +kernel
theorem dX12_wordHere_23 : decode cX12_wordHere 23 = .ok (.bipush 98, 2) := by decide +kernel
theorem dX12_wordHere_25 : decode cX12_wordHere 25 = .ok (.ireturn, 1) := by decide +kernel
theorem dX12_wordHere_26 : decode cX12_wordHere 26 = .ok (.aload_n 0, 1) := by decide +kernel
theorem dX12_wordHere_27 : decode cX12_wordHere 27 = .ok (.ldc2_w 175, 3) := by decide +kernel
theorem dX12_wordHere_30 : decode cX12_wordHere 30 = .ok (.invokevirtual 235, 3) := by decide +kernel
theorem dX12_wordHere_33 : decode cX12_wordHere 33 = .ok (.ifCond .eq 6, 3) := by decide +kernel
theorem dX12_wordHere_36 : decode cX12_wordHere 36 = .ok (.bipush 109, 2) := by decide +kernel
theorem dX12_wordHere_38 : decode cX12_wordHere 38 = .ok (.ireturn, 1) := by decide +kernel
theorem dX12_wordHere_39 : decode cX12_wordHere 39 = .ok (.aload_n 0, 1) := by decide +kernel
theorem dX12_wordHere_40 : decode cX12_wordHere 40 = .ok (.ldc2_w 177, 3) := by decide +kernel
theorem dX12_wordHere_43 : decode cX12_wordHere 43 = .ok (.invokevirtual 235, 3) := by decide +kernel
theorem dX12_wordHere_46 : decode cX12_wordHere 46 = .ok (.ifCond .eq 6, 3) := by decide +kernel
theorem dX12_wordHere_49 : decode cX12_wordHere 49 = .ok (.bipush 108, 2) := by decide +kernel
theorem dX12_wordHere_51 : decode cX12_wordHere 51 = .ok (.ireturn, 1) := by decide +kernel
theorem dX12_wordHere_52 : decode cX12_wordHere 52 = .ok (.aload_n 0, 1) := by decide +kernel
theorem dX12_wordHere_53 : decode cX12_wordHere 53 = .ok (.ldc2_w 179, 3) := by decide +kernel
theorem dX12_wordHere_56 : decode cX12_wordHere 56 = .ok (.invokevirtual 235, 3) := by decide +kernel
theorem dX12_wordHere_59 : decode cX12_wordHere 59 = .ok (.ifCond .eq 8, 3) := by decide +kernel
theorem dX12_wordHere_62 : decode cX12_wordHere 62 = .ok (.bipush 121, 2) := by decide +kernel
theorem dX12_wordHere_64 : decode cX12_wordHere 64 = .ok (.goto 4, 3) := by decide +kernel
theorem dX12_wordHere_67 : decode cX12_wordHere 67 = .ok (.iconst 0, 1) := by decide +kernel
theorem dX12_wordHere_68 : decode cX12_wordHere 68 = .ok (.ireturn, 1) := by decide +kernel
def kX12_wordHere_68 (n : Nat) : mK := i_rI
set_option maxRecDepth 20000 in
theorem okX12_wordHere_68 {E : mE} {X : State → Heap → Prop} {l : Launch} (hX : mXok E X) (n : Nat) : Sd E X l yX12_wordHere cX12_wordHere 1 (some .int) 2 0 0 0 0 68 (kX12_wordHere_68 n) := s_rI dX12_wordHere_68 (Nat.le_of_ble_eq_true rfl) (Nat.le_of_ble_eq_true rfl)
def kX12_wordHere_0 (n : Nat) : mK := i_ldA 0 (i_cst (.long (1752133492)) (i_cV 12 1 (FX12_isWord n) (i_c0 (fun x => decide (x = 0)) (i_ldA 0 (i_cst (.long (108230565520740)) (i_cV 12 1 (FX12_isWord n) (i_c0 (fun x => decide (x = 0)) (i_ldA 0 (i_cst (.long (1835101817)) (i_cV 12 1 (FX12_isWord n) (i_c0 (fun x => decide (x = 0)) (i_ldA 0 (i_cst (.long (1818324581)) (i_cV 12 1 (FX12_isWord n) (i_c0 (fun x => decide (x = 0)) (i_ldA 0 (i_cst (.long (2036687218)) (i_cV 12 1 (FX12_isWord n) (i_c0 (fun x => decide (x = 0)) (i_cst (.int (0)) (kX12_wordHere_68 n)) (i_cst (.int (121)) ((kX12_wordHere_68 n))))))) (i_cst (.int (108)) (i_rI)))))) (i_cst (.int (109)) (i_rI)))))) (i_cst (.int (98)) (i_rI)))))) (i_cst (.int (104)) (i_rI)))))
set_option maxRecDepth 20000 in
theorem okX12_wordHere_0 {E : mE} {X : State → Heap → Prop} {l : Launch} (hX : mXok E X) (n : Nat) : Sd E X l yX12_wordHere cX12_wordHere 1 (some .int) 2 0 0 0 0 0 (kX12_wordHere_0 n) := s_aload_n dX12_wordHere_0 rfl (s_ldc2 dX12_wordHere_1 lCX12_171 (s_cV dX12_wordHere_4 lMX12_235 bVX12_isWord rfl (CtX12_isWord hX n) (Nat.le_of_ble_eq_true rfl) (s_ifeq dX12_wordHere_7 (by decide) (s_aload_n dX12_wordHere_13 rfl (s_ldc2 dX12_wordHere_14 lCX12_173 (s_cV dX12_wordHere_17 lMX12_235 bVX12_isWord rfl (CtX12_isWord hX n) (Nat.le_of_ble_eq_true rfl) (s_ifeq dX12_wordHere_20 (by decide) (s_aload_n dX12_wordHere_26 rfl (s_ldc2 dX12_wordHere_27 lCX12_175 (s_cV dX12_wordHere_30 lMX12_235 bVX12_isWord rfl (CtX12_isWord hX n) (Nat.le_of_ble_eq_true rfl) (s_ifeq dX12_wordHere_33 (by decide) (s_aload_n dX12_wordHere_39 rfl (s_ldc2 dX12_wordHere_40 lCX12_177 (s_cV dX12_wordHere_43 lMX12_235 bVX12_isWord rfl (CtX12_isWord hX n) (Nat.le_of_ble_eq_true rfl) (s_ifeq dX12_wordHere_46 (by decide) (s_aload_n dX12_wordHere_52 rfl (s_ldc2 dX12_wordHere_53 lCX12_179 (s_cV dX12_wordHere_56 lMX12_235 bVX12_isWord rfl (CtX12_isWord hX n) (Nat.le_of_ble_eq_true rfl) (s_ifeq dX12_wordHere_59 (by decide) (s_iconst dX12_wordHere_67 (by decide) (okX12_wordHere_68 hX n)) (s_bipush dX12_wordHere_62 (by decide) (s_goto dX12_wordHere_64 (by decide) (okX12_wordHere_68 hX n)))) (Nat.le_of_ble_eq_true rfl) (Nat.le_of_ble_eq_true rfl)))) (s_bipush dX12_wordHere_49 (by decide) (s_rI dX12_wordHere_51 (Nat.le_of_ble_eq_true rfl) (Nat.le_of_ble_eq_true rfl)))) (Nat.le_of_ble_eq_true rfl) (Nat.le_of_ble_eq_true rfl)))) (s_bipush dX12_wordHere_36 (by decide) (s_rI dX12_wordHere_38 (Nat.le_of_ble_eq_true rfl) (Nat.le_of_ble_eq_true rfl)))) (Nat.le_of_ble_eq_true rfl) (Nat.le_of_ble_eq_true rfl)))) (s_bipush dX12_wordHere_23 (by decide) (s_rI dX12_wordHere_25 (Nat.le_of_ble_eq_true rfl) (Nat.le_of_ble_eq_true rfl)))) (Nat.le_of_ble_eq_true rfl) (Nat.le_of_ble_eq_true rfl)))) (s_bipush dX12_wordHere_10 (by decide) (s_rI dX12_wordHere_12 (Nat.le_of_ble_eq_true rfl) (Nat.le_of_ble_eq_true rfl)))) (Nat.le_of_ble_eq_true rfl) (Nat.le_of_ble_eq_true rfl)))
def FX12_wordHere (n : Nat) : List Value → mM → Option mR := mfn 1 (kX12_wordHere_0 n)
theorem CtX12_wordHere {E : mE} {X : State → Heap → Prop} {l : Launch} (hX : mXok E X) (n : Nat) : Ct E X l yX12_wordHere cX12_wordHere 1 (some .int) 2 0 0 (FX12_wordHere n) := Ct_of (by decide) hX (okX12_wordHere_0 hX n)
theorem dX1_copyFrom_0 : decode cX1_copyFrom 0 = .ok (.aload_n 0, 1) := by decide +kernel
theorem dX1_copyFrom_1 : decode cX1_copyFrom 1 = .ok (.aload_n 1, 1) := by decide +kernel
theorem dX1_copyFrom_2 : decode cX1_copyFrom 2 = .ok (.getfield 18, 3) := by decide +kernel
theorem dX1_copyFrom_5 : decode cX1_copyFrom 5 = .ok (.putfield 18, 3) := by decide +kernel
theorem dX1_copyFrom_8 : decode cX1_copyFrom 8 = .ok (.aload_n 1, 1) := by decide +kernel
theorem dX1_copyFrom_9 : decode cX1_copyFrom 9 = .ok (.getfield 11, 3) := by decide +kernel
theorem dX1_copyFrom_12 : decode cX1_copyFrom 12 = .ok (.aload_n 0, 1) := by decide +kernel
theorem dX1_copyFrom_13 : decode cX1_copyFrom 13 = .ok (.getfield 11, 3) := by decide +kernel
theorem dX1_copyFrom_16 : decode cX1_copyFrom 16 = .ok (.invokestatic 22, 3) := by decide +kernel
theorem dX1_copyFrom_19 : decode cX1_copyFrom 19 = .ok (.return_, 1) := by decide +kernel
def kX1_copyFrom_0 (n : Nat) : mK := i_ldA 0 (i_ldA 1 (i_gI 1 2 (i_pI 1 2 (i_ldA 1 (i_gA 1 0 (i_ldA 0 (i_gA 1 0 (i_cS 2 (FX11_copyRow n) (i_rV)))))))))
set_option maxRecDepth 20000 in
theorem okX1_copyFrom_0 {E : mE} {X : State → Heap → Prop} {l : Launch} (hX : mXok E X) (n : Nat) : Sd E X l yX1_copyFrom cX1_copyFrom 2 none 2 0 0 0 0 0 (kX1_copyFrom_0 n) := s_aload_n dX1_copyFrom_0 rfl (s_aload_n dX1_copyFrom_1 rfl (s_gI dX1_copyFrom_2 lFX1_18 (by decide) (s_pI dX1_copyFrom_5 lFX1_18 (s_aload_n dX1_copyFrom_8 rfl (s_gA dX1_copyFrom_9 lFX1_11 (s_aload_n dX1_copyFrom_12 rfl (s_gA dX1_copyFrom_13 lFX1_11 (s_cN dX1_copyFrom_16 lNX1_22 bSX11_copyRow (CtX11_copyRow hX n) (Nat.le_of_ble_eq_true rfl) (s_rV dX1_copyFrom_19 (Nat.le_of_ble_eq_true rfl) (Nat.le_of_ble_eq_true rfl)) (Nat.le_of_ble_eq_true rfl) (Nat.le_of_ble_eq_true rfl)))))))))
def FX1_copyFrom (n : Nat) : List Value → mM → Option mR := mfn 2 (kX1_copyFrom_0 n)
theorem CtX1_copyFrom {E : mE} {X : State → Heap → Prop} {l : Launch} (hX : mXok E X) (n : Nat) : Ct E X l yX1_copyFrom cX1_copyFrom 2 none 2 0 0 (FX1_copyFrom n) := Ct_of (by decide) hX (okX1_copyFrom_0 hX n)
theorem dX1_valueBy_0 : decode cX1_valueBy 0 = .ok (.iconst (-1), 1) := by decide +kernel
theorem dX1_valueBy_1 : decode cX1_valueBy 1 = .ok (.istore 6, 2) := by decide +kernel
theorem dX1_valueBy_3 : decode cX1_valueBy 3 = .ok (.iconst 0, 1) := by decide +kernel
theorem dX1_valueBy_4 : decode cX1_valueBy 4 = .ok (.istore 7, 2) := by decide +kernel
theorem dX1_valueBy_6 : decode cX1_valueBy 6 = .ok (.iload 7, 2) := by decide +kernel
theorem dX1_valueBy_8 : decode cX1_valueBy 8 = .ok (.aload_n 0, 1) := by decide +kernel
theorem dX1_valueBy_9 : decode cX1_valueBy 9 = .ok (.getfield 18, 3) := by decide +kernel
theorem dX1_valueBy_12 : decode cX1_valueBy 12 = .ok (.if_icmp .ge 159, 3) := by decide +kernel
theorem dX1_valueBy_15 : decode cX1_valueBy 15 = .ok (.iload 7, 2) := by decide +kernel
theorem dX1_valueBy_17 : decode cX1_valueBy 17 = .ok (.aload_n 0, 1) := by decide +kernel
theorem dX1_valueBy_18 : decode cX1_valueBy 18 = .ok (.getfield 11, 3) := by decide +kernel
theorem dX1_valueBy_21 : decode cX1_valueBy 21 = .ok (.arraylength, 1) := by decide +kernel
theorem dX1_valueBy_22 : decode cX1_valueBy 22 = .ok (.if_icmp .ge 149, 3) := by decide +kernel
theorem dX1_valueBy_25 : decode cX1_valueBy 25 = .ok (.aload_n 0, 1) := by decide +kernel
theorem dX1_valueBy_26 : decode cX1_valueBy 26 = .ok (.getfield 11, 3) := by decide +kernel
theorem dX1_valueBy_29 : decode cX1_valueBy 29 = .ok (.iload 7, 2) := by decide +kernel
theorem dX1_valueBy_31 : decode cX1_valueBy 31 = .ok (.iaload, 1) := by decide +kernel
theorem dX1_valueBy_32 : decode cX1_valueBy 32 = .ok (.istore 8, 2) := by decide +kernel
theorem dX1_valueBy_34 : decode cX1_valueBy 34 = .ok (.iload 8, 2) := by decide +kernel
theorem dX1_valueBy_36 : decode cX1_valueBy 36 = .ok (.ifCond .lt 20, 3) := by decide +kernel
theorem dX1_valueBy_39 : decode cX1_valueBy 39 = .ok (.iinc 6 1, 3) := by decide +kernel
theorem dX1_valueBy_42 : decode cX1_valueBy 42 = .ok (.aload_n 0, 1) := by decide +kernel
theorem dX1_valueBy_43 : decode cX1_valueBy 43 = .ok (.getfield 15, 3) := by decide +kernel
theorem dX1_valueBy_46 : decode cX1_valueBy 46 = .ok (.iload 6, 2) := by decide +kernel
theorem dX1_valueBy_48 : decode cX1_valueBy 48 = .ok (.iload 8, 2) := by decide +kernel
theorem dX1_valueBy_50 : decode cX1_valueBy 50 = .ok (.invokestatic 26, 3) := by decide +kernel
theorem dX1_valueBy_53 : decode cX1_valueBy 53 = .ok (.goto 112, 3) := by decide +kernel
theorem dX1_valueBy_56 : decode cX1_valueBy 56 = .ok (.iload 8, 2) := by decide +kernel
theorem dX1_valueBy_58 : decode cX1_valueBy 58 = .ok (.bipush (-28), 2) := by decide +kernel
theorem dX1_valueBy_60 : decode cX1_valueBy 60 = .ok (.if_icmp .ne 32, 3) := by decide +kernel
theorem dX1_valueBy_63 : decode cX1_valueBy 63 = .ok (.aload_n 0, 1) := by decide +kernel
theorem dX1_valueBy_64 : decode cX1_valueBy 64 = .ok (.getfield 15, 3) := by decide +kernel
theorem dX1_valueBy_67 : decode cX1_valueBy 67 = .ok (.iload 6, 2) := by decide +kernel
theorem dX1_valueBy_69 : decode cX1_valueBy 69 = .ok (.aload_n 0, 1) := by decide +kernel
theorem dX1_valueBy_70 : decode cX1_valueBy 70 = .ok (.getfield 15, 3) := by decide +kernel
theorem dX1_valueBy_73 : decode cX1_valueBy 73 = .ok (.iload 6, 2) := by decide +kernel
theorem dX1_valueBy_75 : decode cX1_valueBy 75 = .ok (.invokestatic 32, 3) := by decide +kernel
theorem dX1_valueBy_78 : decode cX1_valueBy 78 = .ok (.ifCond .ne 7, 3) := by decide +kernel
theorem dX1_valueBy_81 : decode cX1_valueBy 81 = .ok (.iconst 1, 1) := by decide +kernel
theorem dX1_valueBy_82 : decode cX1_valueBy 82 = .ok (.goto 4, 3) := by decide +kernel
theorem dX1_valueBy_85 : decode cX1_valueBy 85 = .ok (.iconst 0, 1) := by decide +kernel
theorem dX1_valueBy_86 : decode cX1_valueBy 86 = .ok (.invokestatic 26, 3) := by decide +kernel
theorem dX1_valueBy_89 : decode cX1_valueBy 89 = .ok (.goto 76, 3) := by decide +kernel
theorem dX1_valueBy_92 : decode cX1_valueBy 92 = .ok (.iload 8, 2) := by decide +kernel
theorem dX1_valueBy_94 : decode cX1_valueBy 94 = .ok (.bipush (-29), 2) := by decide +kernel
theorem dX1_valueBy_96 : decode cX1_valueBy 96 = .ok (.if_icmp .gt 31, 3) := by decide +kernel
theorem dX1_valueBy_99 : decode cX1_valueBy 99 = .ok (.iinc 6 1, 3) := by decide +kernel
theorem dX1_valueBy_102 : decode cX1_valueBy 102 = .ok (.aload_n 0, 1) := by decide +kernel
theorem dX1_valueBy_103 : decode cX1_valueBy 103 = .ok (.getfield 15, 3) := by decide +kernel
theorem dX1_valueBy_106 : decode cX1_valueBy 106 = .ok (.iload 6, 2) := by decide +kernel
theorem dX1_valueBy_108 : decode cX1_valueBy 108 = .ok (.iload 8, 2) := by decide +kernel
theorem dX1_valueBy_110 : decode cX1_valueBy 110 = .ok (.ineg, 1) := by decide +kernel
theorem dX1_valueBy_111 : decode cX1_valueBy 111 = .ok (.iload_n 1, 1) := by decide +kernel
theorem dX1_valueBy_112 : decode cX1_valueBy 112 = .ok (.iload_n 2, 1) := by decide +kernel
theorem dX1_valueBy_113 : decode cX1_valueBy 113 = .ok (.iload_n 3, 1) := by decide +kernel
theorem dX1_valueBy_114 : decode cX1_valueBy 114 = .ok (.iload 4, 2) := by decide +kernel
theorem dX1_valueBy_116 : decode cX1_valueBy 116 = .ok (.iload 5, 2) := by decide +kernel
theorem dX1_valueBy_118 : decode cX1_valueBy 118 = .ok (.invokestatic 36, 3) := by decide +kernel
theorem dX1_valueBy_121 : decode cX1_valueBy 121 = .ok (.invokestatic 26, 3) := by decide +kernel
theorem dX1_valueBy_124 : decode cX1_valueBy 124 = .ok (.goto 41, 3) := by decide +kernel
theorem dX1_valueBy_127 : decode cX1_valueBy 127 = .ok (.iinc 6 (-1), 3) := by decide +kernel
theorem dX1_valueBy_130 : decode cX1_valueBy 130 = .ok (.aload_n 0, 1) := by decide +kernel
theorem dX1_valueBy_131 : decode cX1_valueBy 131 = .ok (.getfield 15, 3) := by decide +kernel
theorem dX1_valueBy_134 : decode cX1_valueBy 134 = .ok (.iload 6, 2) := by decide +kernel
theorem dX1_valueBy_136 : decode cX1_valueBy 136 = .ok (.iload 8, 2) := by decide +kernel
theorem dX1_valueBy_138 : decode cX1_valueBy 138 = .ok (.ineg, 1) := by decide +kernel
theorem dX1_valueBy_139 : decode cX1_valueBy 139 = .ok (.aload_n 0, 1) := by decide +kernel
theorem dX1_valueBy_140 : decode cX1_valueBy 140 = .ok (.getfield 15, 3) := by decide +kernel
theorem dX1_valueBy_143 : decode cX1_valueBy 143 = .ok (.iload 6, 2) := by decide +kernel
theorem dX1_valueBy_145 : decode cX1_valueBy 145 = .ok (.invokestatic 32, 3) := by decide +kernel
theorem dX1_valueBy_148 : decode cX1_valueBy 148 = .ok (.aload_n 0, 1) := by decide +kernel
theorem dX1_valueBy_149 : decode cX1_valueBy 149 = .ok (.getfield 15, 3) := by decide +kernel
theorem dX1_valueBy_152 : decode cX1_valueBy 152 = .ok (.iload 6, 2) := by decide +kernel
theorem dX1_valueBy_154 : decode cX1_valueBy 154 = .ok (.iconst 1, 1) := by decide +kernel
theorem dX1_valueBy_155 : decode cX1_valueBy 155 = .ok (.iadd, 1) := by decide +kernel
theorem dX1_valueBy_156 : decode cX1_valueBy 156 = .ok (.invokestatic 32, 3) := by decide +kernel
theorem dX1_valueBy_159 : decode cX1_valueBy 159 = .ok (.invokestatic 40, 3) := by decide +kernel
theorem dX1_valueBy_162 : decode cX1_valueBy 162 = .ok (.invokestatic 26, 3) := by decide +kernel
theorem dX1_valueBy_165 : decode cX1_valueBy 165 = .ok (.iinc 7 1, 3) := by decide +kernel
theorem dX1_valueBy_168 : decode cX1_valueBy 168 = .ok (.goto (-162), 3) := by decide +kernel
theorem dX1_valueBy_171 : decode cX1_valueBy 171 = .ok (.aload_n 0, 1) := by decide +kernel
theorem dX1_valueBy_172 : decode cX1_valueBy 172 = .ok (.getfield 15, 3) := by decide +kernel
theorem dX1_valueBy_175 : decode cX1_valueBy 175 = .ok (.iconst 0, 1) := by decide +kernel
theorem dX1_valueBy_176 : decode cX1_valueBy 176 = .ok (.invokestatic 32, 3) := by decide +kernel
theorem dX1_valueBy_179 : decode cX1_valueBy 179 = .ok (.ireturn, 1) := by decide +kernel
def kX1_valueBy_171 (n : Nat) : mK := i_ldA 0 (i_gA 1 1 (i_cst (.int (0)) (i_cS 2 (FX11_at n) (i_rI))))
set_option maxRecDepth 20000 in
theorem okX1_valueBy_171 {E : mE} {X : State → Heap → Prop} {l : Launch} (hX : mXok E X) (n : Nat) : Sd E X l yX1_valueBy cX1_valueBy 9 (some .int) 2 0 0 0 0 171 (kX1_valueBy_171 n) := s_aload_n dX1_valueBy_171 rfl (s_gA dX1_valueBy_172 lFX1_15 (s_iconst dX1_valueBy_175 (by decide) (s_cN dX1_valueBy_176 lNX1_32 bSX11_at (CtX11_at hX n) (Nat.le_of_ble_eq_true rfl) (s_rI dX1_valueBy_179 (Nat.le_of_ble_eq_true rfl) (Nat.le_of_ble_eq_true rfl)) (Nat.le_of_ble_eq_true rfl) (Nat.le_of_ble_eq_true rfl))))
def kX1_valueBy_165 (n : Nat) (r6 : mK) : mK := i_inc 7 (1) (r6)
set_option maxRecDepth 20000 in
theorem okX1_valueBy_165 {E : mE} {X : State → Heap → Prop} {l : Launch} (hX : mXok E X) (n : Nat) {r6 : mK} (h6 : Sd E X l yX1_valueBy cX1_valueBy 9 (some .int) 2 0 0 0 0 6 r6) : Sd E X l yX1_valueBy cX1_valueBy 9 (some .int) 2 0 0 0 0 165 (kX1_valueBy_165 n r6) := s_iinc dX1_valueBy_165 (by decide) (s_goto dX1_valueBy_168 (by decide) h6)
def kX1_valueBy_86 (n : Nat) (r6 : mK) : mK := i_cS 3 (FX11_set n) ((kX1_valueBy_165 n r6))
set_option maxRecDepth 20000 in
theorem okX1_valueBy_86 {E : mE} {X : State → Heap → Prop} {l : Launch} (hX : mXok E X) (n : Nat) {r6 : mK} (h6 : Sd E X l yX1_valueBy cX1_valueBy 9 (some .int) 2 0 0 0 0 6 r6) : Sd E X l yX1_valueBy cX1_valueBy 9 (some .int) 2 0 0 0 0 86 (kX1_valueBy_86 n r6) := s_cN dX1_valueBy_86 lNX1_26 bSX11_set (CtX11_set hX n) (Nat.le_of_ble_eq_true rfl) (s_goto dX1_valueBy_89 (by decide) (okX1_valueBy_165 hX n h6)) (Nat.le_of_ble_eq_true rfl) (Nat.le_of_ble_eq_true rfl)
def kX1_valueBy_73 (n : Nat) (r6 : mK) : mK := i_ldI 6 (i_cS 2 (FX11_at n) (i_c0 (fun x => decide (¬ x = 0)) (i_cst (.int (0)) (kX1_valueBy_86 n r6)) (i_cst (.int (1)) ((kX1_valueBy_86 n r6)))))
set_option maxRecDepth 20000 in
theorem okX1_valueBy_73 {E : mE} {X : State → Heap → Prop} {l : Launch} (hX : mXok E X) (n : Nat) {r6 : mK} (h6 : Sd E X l yX1_valueBy cX1_valueBy 9 (some .int) 2 0 0 0 0 6 r6) : Sd E X l yX1_valueBy cX1_valueBy 9 (some .int) 2 0 0 0 0 73 (kX1_valueBy_73 n r6) := s_iload dX1_valueBy_73 (s_cN dX1_valueBy_75 lNX1_32 bSX11_at (CtX11_at hX n) (Nat.le_of_ble_eq_true rfl) (s_ifne dX1_valueBy_78 (by decide) (s_iconst dX1_valueBy_85 (by decide) (okX1_valueBy_86 hX n h6)) (s_iconst dX1_valueBy_81 (by decide) (s_goto dX1_valueBy_82 (by decide) (okX1_valueBy_86 hX n h6)))) (Nat.le_of_ble_eq_true rfl) (Nat.le_of_ble_eq_true rfl))
def kX1_valueBy_103 (n : Nat) (r6 : mK) : mK := i_gA 1 1 (i_ldI 6 (i_ldI 8 (i_un (fun x => -x) (i_ldI 1 (i_ldI 2 (i_ldI 3 (i_ldI 4 (i_ldI 5 (i_cS 6 (FX1_variable n) (i_cS 3 (FX11_set n) ((kX1_valueBy_165 n r6))))))))))))
set_option maxRecDepth 20000 in
theorem okX1_valueBy_103 {E : mE} {X : State → Heap → Prop} {l : Launch} (hX : mXok E X) (n : Nat) {r6 : mK} (h6 : Sd E X l yX1_valueBy cX1_valueBy 9 (some .int) 2 0 0 0 0 6 r6) : Sd E X l yX1_valueBy cX1_valueBy 9 (some .int) 2 0 0 0 0 103 (kX1_valueBy_103 n r6) := s_gA dX1_valueBy_103 lFX1_15 (s_iload dX1_valueBy_106 (s_iload dX1_valueBy_108 (s_ineg dX1_valueBy_110 (s_iload_n dX1_valueBy_111 rfl (s_iload_n dX1_valueBy_112 rfl (s_iload_n dX1_valueBy_113 rfl (s_iload dX1_valueBy_114 (s_iload dX1_valueBy_116 (s_cS dX1_valueBy_118 lMX1_36 bSX1_variable (CtX1_variable hX n) (Nat.le_of_ble_eq_true rfl) (s_cN dX1_valueBy_121 lNX1_26 bSX11_set (CtX11_set hX n) (Nat.le_of_ble_eq_true rfl) (s_goto dX1_valueBy_124 (by decide) (okX1_valueBy_165 hX n h6)) (Nat.le_of_ble_eq_true rfl) (Nat.le_of_ble_eq_true rfl)) (Nat.le_of_ble_eq_true rfl) (Nat.le_of_ble_eq_true rfl))))))))))
def kX1_valueBy_131 (n : Nat) (r6 : mK) : mK := i_gA 1 1 (i_ldI 6 (i_ldI 8 (i_un (fun x => -x) (i_ldA 0 (i_gA 1 1 (i_ldI 6 (i_cS 2 (FX11_at n) (i_ldA 0 (i_gA 1 1 (i_ldI 6 (i_cst (.int (1)) (i_bin (fun x y => x + y) (i_cS 2 (FX11_at n) (i_cS 3 (FX1_joined n) (i_cS 3 (FX11_set n) (kX1_valueBy_165 n r6))))))))))))))))
set_option maxRecDepth 20000 in
theorem okX1_valueBy_131 {E : mE} {X : State → Heap → Prop} {l : Launch} (hX : mXok E X) (n : Nat) {r6 : mK} (h6 : Sd E X l yX1_valueBy cX1_valueBy 9 (some .int) 2 0 0 0 0 6 r6) : Sd E X l yX1_valueBy cX1_valueBy 9 (some .int) 2 0 0 0 0 131 (kX1_valueBy_131 n r6) := s_gA dX1_valueBy_131 lFX1_15 (s_iload dX1_valueBy_134 (s_iload dX1_valueBy_136 (s_ineg dX1_valueBy_138 (s_aload_n dX1_valueBy_139 rfl (s_gA dX1_valueBy_140 lFX1_15 (s_iload dX1_valueBy_143 (s_cN dX1_valueBy_145 lNX1_32 bSX11_at (CtX11_at hX n) (Nat.le_of_ble_eq_true rfl) (s_aload_n dX1_valueBy_148 rfl (s_gA dX1_valueBy_149 lFX1_15 (s_iload dX1_valueBy_152 (s_iconst dX1_valueBy_154 (by decide) (s_iadd dX1_valueBy_155 (s_cN dX1_valueBy_156 lNX1_32 bSX11_at (CtX11_at hX n) (Nat.le_of_ble_eq_true rfl) (s_cS dX1_valueBy_159 lMX1_40 bSX1_joined (CtX1_joined hX n) (Nat.le_of_ble_eq_true rfl) (s_cN dX1_valueBy_162 lNX1_26 bSX11_set (CtX11_set hX n) (Nat.le_of_ble_eq_true rfl) (okX1_valueBy_165 hX n h6) (Nat.le_of_ble_eq_true rfl) (Nat.le_of_ble_eq_true rfl)) (Nat.le_of_ble_eq_true rfl) (Nat.le_of_ble_eq_true rfl)) (Nat.le_of_ble_eq_true rfl) (Nat.le_of_ble_eq_true rfl))))))) (Nat.le_of_ble_eq_true rfl) (Nat.le_of_ble_eq_true rfl))))))))
def kX1_valueBy_6 (n : Nat) (r6 : mK) : mK := i_ldI 7 (i_ldA 0 (i_gI 1 2 (i_c2 (fun x y => decide (y ≤ x)) (kX1_valueBy_171 n) (i_ldI 7 (i_ldA 0 (i_gA 1 0 (i_len (i_c2 (fun x y => decide (y ≤ x)) (kX1_valueBy_171 n) (i_ldA 0 (i_gA 1 0 (i_ldI 7 (i_al 0 (i_stI 8 (i_ldI 8 (i_c0 (fun x => decide (x < 0)) (i_ldI 8 (i_cst (.int (-28)) (i_c2 (fun x y => decide (¬ x = y)) (i_ldI 8 (i_cst (.int (-29)) (i_c2 (fun x y => decide (y < x)) (i_inc 6 (-1) (i_ldA 0 (kX1_valueBy_131 n r6))) (i_inc 6 (1) (i_ldA 0 (kX1_valueBy_103 n r6)))))) (i_ldA 0 (i_gA 1 1 (i_ldI 6 (i_ldA 0 (i_gA 1 1 (kX1_valueBy_73 n r6))))))))) (i_inc 6 (1) (i_ldA 0 (i_gA 1 1 (i_ldI 6 (i_ldI 8 (i_cS 3 (FX11_set n) ((kX1_valueBy_165 n r6)))))))))))))))))))))))
set_option maxRecDepth 20000 in
theorem okX1_valueBy_6 {E : mE} {X : State → Heap → Prop} {l : Launch} (hX : mXok E X) (n : Nat) {r6 : mK} (h6 : Sd E X l yX1_valueBy cX1_valueBy 9 (some .int) 2 0 0 0 0 6 r6) : Sd E X l yX1_valueBy cX1_valueBy 9 (some .int) 2 0 0 0 0 6 (kX1_valueBy_6 n r6) := s_iload dX1_valueBy_6 (s_aload_n dX1_valueBy_8 rfl (s_gI dX1_valueBy_9 lFX1_18 (by decide) (s_icge dX1_valueBy_12 (by decide) (okX1_valueBy_171 hX n) (s_iload dX1_valueBy_15 (s_aload_n dX1_valueBy_17 rfl (s_gA dX1_valueBy_18 lFX1_11 (s_len dX1_valueBy_21 (s_icge dX1_valueBy_22 (by decide) (okX1_valueBy_171 hX n) (s_aload_n dX1_valueBy_25 rfl (s_gA dX1_valueBy_26 lFX1_11 (s_iload dX1_valueBy_29 (s_iald dX1_valueBy_31 (s_istore dX1_valueBy_32 (s_iload dX1_valueBy_34 (s_iflt dX1_valueBy_36 (by decide) (s_iload dX1_valueBy_56 (s_bipush dX1_valueBy_58 (by decide) (s_icne dX1_valueBy_60 (by decide) (s_iload dX1_valueBy_92 (s_bipush dX1_valueBy_94 (by decide) (s_icgt dX1_valueBy_96 (by decide) (s_iinc dX1_valueBy_127 (by decide) (s_aload_n dX1_valueBy_130 rfl (okX1_valueBy_131 hX n h6))) (s_iinc dX1_valueBy_99 (by decide) (s_aload_n dX1_valueBy_102 rfl (okX1_valueBy_103 hX n h6)))))) (s_aload_n dX1_valueBy_63 rfl (s_gA dX1_valueBy_64 lFX1_15 (s_iload dX1_valueBy_67 (s_aload_n dX1_valueBy_69 rfl (s_gA dX1_valueBy_70 lFX1_15 (okX1_valueBy_73 hX n h6))))))))) (s_iinc dX1_valueBy_39 (by decide) (s_aload_n dX1_valueBy_42 rfl (s_gA dX1_valueBy_43 lFX1_15 (s_iload dX1_valueBy_46 (s_iload dX1_valueBy_48 (s_cN dX1_valueBy_50 lNX1_26 bSX11_set (CtX11_set hX n) (Nat.le_of_ble_eq_true rfl) (s_goto dX1_valueBy_53 (by decide) (okX1_valueBy_165 hX n h6)) (Nat.le_of_ble_eq_true rfl) (Nat.le_of_ble_eq_true rfl))))))))))))))))))))))
def kX1_valueBy_0 (n : Nat) : mK := i_cst (.int (-1)) (i_stI 6 (i_cst (.int (0)) (i_stI 7 (mit (kX1_valueBy_6 n ) n))))
set_option maxRecDepth 20000 in
theorem okX1_valueBy_0 {E : mE} {X : State → Heap → Prop} {l : Launch} (hX : mXok E X) (n : Nat) : Sd E X l yX1_valueBy cX1_valueBy 9 (some .int) 2 0 0 0 0 0 (kX1_valueBy_0 n) := s_iconst dX1_valueBy_0 (by decide) (s_istore dX1_valueBy_1 (s_iconst dX1_valueBy_3 (by decide) (s_istore dX1_valueBy_4 (s_mit (fun _ hk => okX1_valueBy_6 hX n hk) n))))
def FX1_valueBy (n : Nat) : List Value → mM → Option mR := mfn 9 (kX1_valueBy_0 n)
theorem CtX1_valueBy {E : mE} {X : State → Heap → Prop} {l : Launch} (hX : mXok E X) (n : Nat) : Ct E X l yX1_valueBy cX1_valueBy 9 (some .int) 2 0 0 (FX1_valueBy n) := Ct_of (by decide) hX (okX1_valueBy_0 hX n)
theorem dX2_countsAt_0 : decode cX2_countsAt 0 = .ok (.aload_n 0, 1) := by decide +kernel
theorem dX2_countsAt_1 : decode cX2_countsAt 1 = .ok (.getfield 25, 3) := by decide +kernel
theorem dX2_countsAt_4 : decode cX2_countsAt 4 = .ok (.iload_n 1, 1) := by decide +kernel
theorem dX2_countsAt_5 : decode cX2_countsAt 5 = .ok (.invokestatic 56, 3) := by decide +kernel
theorem dX2_countsAt_8 : decode cX2_countsAt 8 = .ok (.istore_n 3, 1) := by decide +kernel
theorem dX2_countsAt_9 : decode cX2_countsAt 9 = .ok (.aload_n 0, 1) := by decide +kernel
theorem dX2_countsAt_10 : decode cX2_countsAt 10 = .ok (.getfield 22, 3) := by decide +kernel
theorem dX2_countsAt_13 : decode cX2_countsAt 13 = .ok (.iload_n 1, 1) := by decide +kernel
theorem dX2_countsAt_14 : decode cX2_countsAt 14 = .ok (.invokestatic 56, 3) := by decide +kernel
theorem dX2_countsAt_17 : decode cX2_countsAt 17 = .ok (.iload_n 2, 1) := by decide +kernel
theorem dX2_countsAt_18 : decode cX2_countsAt 18 = .ok (.if_icmp .gt 17, 3) := by decide +kernel
theorem dX2_countsAt_21 : decode cX2_countsAt 21 = .ok (.iload_n 3, 1) := by decide +kernel
theorem dX2_countsAt_22 : decode cX2_countsAt 22 = .ok (.iconst (-1), 1) := by decide +kernel
theorem dX2_countsAt_23 : decode cX2_countsAt 23 = .ok (.if_icmp .eq 8, 3) := by decide +kernel
theorem dX2_countsAt_26 : decode cX2_countsAt 26 = .ok (.iload_n 3, 1) := by decide +kernel
theorem dX2_countsAt_27 : decode cX2_countsAt 27 = .ok (.iload_n 2, 1) := by decide +kernel
theorem dX2_countsAt_28 : decode cX2_countsAt 28 = .ok (.if_icmp .le 7, 3) := by decide +kernel
theorem dX2_countsAt_31 : decode cX2_countsAt 31 = .ok (.iconst 1, 1) := by decide +kernel
theorem dX2_countsAt_32 : decode cX2_countsAt 32 = .ok (.goto 4, 3) := by decide +kernel
theorem dX2_countsAt_35 : decode cX2_countsAt 35 = .ok (.iconst 0, 1) := by decide +kernel
theorem dX2_countsAt_36 : decode cX2_countsAt 36 = .ok (.ireturn, 1) := by decide +kernel
def kX2_countsAt_36 (n : Nat) : mK := i_rZ
set_option maxRecDepth 20000 in
theorem okX2_countsAt_36 {E : mE} {X : State → Heap → Prop} {l : Launch} (hX : mXok E X) (n : Nat) : Sd E X l yX2_countsAt cX2_countsAt 4 (some .boolean) 2 0 0 0 0 36 (kX2_countsAt_36 n) := s_rZ dX2_countsAt_36 (Nat.le_of_ble_eq_true rfl) (Nat.le_of_ble_eq_true rfl)
def kX2_countsAt_35 (n : Nat) : mK := i_cst (.int (0)) (kX2_countsAt_36 n)
set_option maxRecDepth 20000 in
theorem okX2_countsAt_35 {E : mE} {X : State → Heap → Prop} {l : Launch} (hX : mXok E X) (n : Nat) : Sd E X l yX2_countsAt cX2_countsAt 4 (some .boolean) 2 0 0 0 0 35 (kX2_countsAt_35 n) := s_iconst dX2_countsAt_35 (by decide) (okX2_countsAt_36 hX n)
def kX2_countsAt_31 (n : Nat) : mK := i_cst (.int (1)) ((kX2_countsAt_36 n))
set_option maxRecDepth 20000 in
theorem okX2_countsAt_31 {E : mE} {X : State → Heap → Prop} {l : Launch} (hX : mXok E X) (n : Nat) : Sd E X l yX2_countsAt cX2_countsAt 4 (some .boolean) 2 0 0 0 0 31 (kX2_countsAt_31 n) := s_iconst dX2_countsAt_31 (by decide) (s_goto dX2_countsAt_32 (by decide) (okX2_countsAt_36 hX n))
def kX2_countsAt_0 (n : Nat) : mK := i_ldA 0 (i_gA 2 5 (i_ldI 1 (i_cS 2 (FX11_at n) (i_stI 3 (i_ldA 0 (i_gA 2 4 (i_ldI 1 (i_cS 2 (FX11_at n) (i_ldI 2 (i_c2 (fun x y => decide (y < x)) (kX2_countsAt_35 n) (i_ldI 3 (i_cst (.int (-1)) (i_c2 (fun x y => decide (x = y)) (kX2_countsAt_31 n) (i_ldI 3 (i_ldI 2 (i_c2 (fun x y => decide (x ≤ y)) (kX2_countsAt_35 n) (kX2_countsAt_31 n)))))))))))))))))
set_option maxRecDepth 20000 in
theorem okX2_countsAt_0 {E : mE} {X : State → Heap → Prop} {l : Launch} (hX : mXok E X) (n : Nat) : Sd E X l yX2_countsAt cX2_countsAt 4 (some .boolean) 2 0 0 0 0 0 (kX2_countsAt_0 n) := s_aload_n dX2_countsAt_0 rfl (s_gA dX2_countsAt_1 lFX2_25 (s_iload_n dX2_countsAt_4 rfl (s_cN dX2_countsAt_5 lNX2_56 bSX11_at (CtX11_at hX n) (Nat.le_of_ble_eq_true rfl) (s_istore_n dX2_countsAt_8 rfl (s_aload_n dX2_countsAt_9 rfl (s_gA dX2_countsAt_10 lFX2_22 (s_iload_n dX2_countsAt_13 rfl (s_cN dX2_countsAt_14 lNX2_56 bSX11_at (CtX11_at hX n) (Nat.le_of_ble_eq_true rfl) (s_iload_n dX2_countsAt_17 rfl (s_icgt dX2_countsAt_18 (by decide) (okX2_countsAt_35 hX n) (s_iload_n dX2_countsAt_21 rfl (s_iconst dX2_countsAt_22 (by decide) (s_iceq dX2_countsAt_23 (by decide) (okX2_countsAt_31 hX n) (s_iload_n dX2_countsAt_26 rfl (s_iload_n dX2_countsAt_27 rfl (s_icle dX2_countsAt_28 (by decide) (okX2_countsAt_35 hX n) (okX2_countsAt_31 hX n))))))))) (Nat.le_of_ble_eq_true rfl) (Nat.le_of_ble_eq_true rfl)))))) (Nat.le_of_ble_eq_true rfl) (Nat.le_of_ble_eq_true rfl))))
def FX2_countsAt (n : Nat) : List Value → mM → Option mR := mfn 4 (kX2_countsAt_0 n)
theorem CtX2_countsAt {E : mE} {X : State → Heap → Prop} {l : Launch} (hX : mXok E X) (n : Nat) : Ct E X l yX2_countsAt cX2_countsAt 4 (some .boolean) 2 0 0 (FX2_countsAt n) := Ct_of (by decide) hX (okX2_countsAt_0 hX n)
theorem dX2_greatestFit_0 : decode cX2_greatestFit 0 = .ok (.aload_n 0, 1) := by decide +kernel
theorem dX2_greatestFit_1 : decode cX2_greatestFit 1 = .ok (.getfield 31, 3) := by decide +kernel
theorem dX2_greatestFit_4 : decode cX2_greatestFit 4 = .ok (.aload_n 0, 1) := by decide +kernel
theorem dX2_greatestFit_5 : decode cX2_greatestFit 5 = .ok (.getfield 61, 3) := by decide +kernel
theorem dX2_greatestFit_8 : decode cX2_greatestFit 8 = .ok (.iconst 1, 1) := by decide +kernel
theorem dX2_greatestFit_9 : decode cX2_greatestFit 9 = .ok (.isub, 1) := by decide +kernel
theorem dX2_greatestFit_10 : decode cX2_greatestFit 10 = .ok (.invokestatic 56, 3) := by decide +kernel
theorem dX2_greatestFit_13 : decode cX2_greatestFit 13 = .ok (.ireturn, 1) := by decide +kernel
def kX2_greatestFit_0 (n : Nat) : mK := i_ldA 0 (i_gA 2 10 (i_ldA 0 (i_gI 2 11 (i_cst (.int (1)) (i_bin (fun x y => x - y) (i_cS 2 (FX11_at n) (i_rI)))))))
set_option maxRecDepth 20000 in
theorem okX2_greatestFit_0 {E : mE} {X : State → Heap → Prop} {l : Launch} (hX : mXok E X) (n : Nat) : Sd E X l yX2_greatestFit cX2_greatestFit 1 (some .int) 2 0 0 0 0 0 (kX2_greatestFit_0 n) := s_aload_n dX2_greatestFit_0 rfl (s_gA dX2_greatestFit_1 lFX2_31 (s_aload_n dX2_greatestFit_4 rfl (s_gI dX2_greatestFit_5 lFX2_61 (by decide) (s_iconst dX2_greatestFit_8 (by decide) (s_isub dX2_greatestFit_9 (s_cN dX2_greatestFit_10 lNX2_56 bSX11_at (CtX11_at hX n) (Nat.le_of_ble_eq_true rfl) (s_rI dX2_greatestFit_13 (Nat.le_of_ble_eq_true rfl) (Nat.le_of_ble_eq_true rfl)) (Nat.le_of_ble_eq_true rfl) (Nat.le_of_ble_eq_true rfl)))))))
def FX2_greatestFit (n : Nat) : List Value → mM → Option mR := mfn 1 (kX2_greatestFit_0 n)
theorem CtX2_greatestFit {E : mE} {X : State → Heap → Prop} {l : Launch} (hX : mXok E X) (n : Nat) : Ct E X l yX2_greatestFit cX2_greatestFit 1 (some .int) 2 0 0 (FX2_greatestFit n) := Ct_of (by decide) hX (okX2_greatestFit_0 hX n)
theorem dX2_leastFit_0 : decode cX2_leastFit 0 = .ok (.aload_n 0, 1) := by decide +kernel
theorem dX2_leastFit_1 : decode cX2_leastFit 1 = .ok (.getfield 31, 3) := by decide +kernel
theorem dX2_leastFit_4 : decode cX2_leastFit 4 = .ok (.iconst 0, 1) := by decide +kernel
theorem dX2_leastFit_5 : decode cX2_leastFit 5 = .ok (.invokestatic 56, 3) := by decide +kernel
theorem dX2_leastFit_8 : decode cX2_leastFit 8 = .ok (.ireturn, 1) := by decide +kernel
def kX2_leastFit_0 (n : Nat) : mK := i_ldA 0 (i_gA 2 10 (i_cst (.int (0)) (i_cS 2 (FX11_at n) (i_rI))))
set_option maxRecDepth 20000 in
theorem okX2_leastFit_0 {E : mE} {X : State → Heap → Prop} {l : Launch} (hX : mXok E X) (n : Nat) : Sd E X l yX2_leastFit cX2_leastFit 1 (some .int) 2 0 0 0 0 0 (kX2_leastFit_0 n) := s_aload_n dX2_leastFit_0 rfl (s_gA dX2_leastFit_1 lFX2_31 (s_iconst dX2_leastFit_4 (by decide) (s_cN dX2_leastFit_5 lNX2_56 bSX11_at (CtX11_at hX n) (Nat.le_of_ble_eq_true rfl) (s_rI dX2_leastFit_8 (Nat.le_of_ble_eq_true rfl) (Nat.le_of_ble_eq_true rfl)) (Nat.le_of_ble_eq_true rfl) (Nat.le_of_ble_eq_true rfl))))
def FX2_leastFit (n : Nat) : List Value → mM → Option mR := mfn 1 (kX2_leastFit_0 n)
theorem CtX2_leastFit {E : mE} {X : State → Heap → Prop} {l : Launch} (hX : mXok E X) (n : Nat) : Ct E X l yX2_leastFit cX2_leastFit 1 (some .int) 2 0 0 (FX2_leastFit n) := Ct_of (by decide) hX (okX2_leastFit_0 hX n)
theorem dX2_takeBack_0 : decode cX2_takeBack 0 = .ok (.iload_n 1, 1) := by decide +kernel
theorem dX2_takeBack_1 : decode cX2_takeBack 1 = .ok (.ifCond .lt 23, 3) := by decide +kernel
theorem dX2_takeBack_4 : decode cX2_takeBack 4 = .ok (.iload_n 1, 1) := by decide +kernel
theorem dX2_takeBack_5 : decode cX2_takeBack 5 = .ok (.aload_n 0, 1) := by decide +kernel
theorem dX2_takeBack_6 : decode cX2_takeBack 6 = .ok (.getfield 38, 3) := by decide +kernel
theorem dX2_takeBack_9 : decode cX2_takeBack 9 = .ok (.if_icmp .ge 15, 3) := by decide +kernel
theorem dX2_takeBack_12 : decode cX2_takeBack 12 = .ok (.aload_n 0, 1) := by decide +kernel
theorem dX2_takeBack_13 : decode cX2_takeBack 13 = .ok (.getfield 25, 3) := by decide +kernel
theorem dX2_takeBack_16 : decode cX2_takeBack 16 = .ok (.iload_n 1, 1) := by decide +kernel
theorem dX2_takeBack_17 : decode cX2_takeBack 17 = .ok (.invokestatic 56, 3) := by decide +kernel
theorem dX2_takeBack_20 : decode cX2_takeBack 20 = .ok (.iconst (-1), 1) := by decide +kernel
theorem dX2_takeBack_21 : decode cX2_takeBack 21 = .ok (.if_icmp .eq 5, 3) := by decide +kernel
theorem dX2_takeBack_24 : decode cX2_takeBack 24 = .ok (.iconst 0, 1) := by decide +kernel
theorem dX2_takeBack_25 : decode cX2_takeBack 25 = .ok (.ireturn, 1) := by decide +kernel
theorem dX2_takeBack_26 : decode cX2_takeBack 26 = .ok (.aload_n 0, 1) := by decide +kernel
theorem dX2_takeBack_27 : decode cX2_takeBack 27 = .ok (.getfield 25, 3) := by decide +kernel
theorem dX2_takeBack_30 : decode cX2_takeBack 30 = .ok (.iload_n 1, 1) := by decide +kernel
theorem dX2_takeBack_31 : decode cX2_takeBack 31 = .ok (.aload_n 0, 1) := by decide +kernel
theorem dX2_takeBack_32 : decode cX2_takeBack 32 = .ok (.getfield 53, 3) := by decide +kernel
theorem dX2_takeBack_35 : decode cX2_takeBack 35 = .ok (.invokestatic 49, 3) := by decide +kernel
theorem dX2_takeBack_38 : decode cX2_takeBack 38 = .ok (.iconst 1, 1) := by decide +kernel
theorem dX2_takeBack_39 : decode cX2_takeBack 39 = .ok (.ireturn, 1) := by decide +kernel
def kX2_takeBack_24 (n : Nat) : mK := i_cst (.int (0)) (i_rZ)
set_option maxRecDepth 20000 in
theorem okX2_takeBack_24 {E : mE} {X : State → Heap → Prop} {l : Launch} (hX : mXok E X) (n : Nat) : Sd E X l yX2_takeBack cX2_takeBack 2 (some .boolean) 2 0 0 0 0 24 (kX2_takeBack_24 n) := s_iconst dX2_takeBack_24 (by decide) (s_rZ dX2_takeBack_25 (Nat.le_of_ble_eq_true rfl) (Nat.le_of_ble_eq_true rfl))
def kX2_takeBack_0 (n : Nat) : mK := i_ldI 1 (i_c0 (fun x => decide (x < 0)) (kX2_takeBack_24 n) (i_ldI 1 (i_ldA 0 (i_gI 2 6 (i_c2 (fun x y => decide (y ≤ x)) (kX2_takeBack_24 n) (i_ldA 0 (i_gA 2 5 (i_ldI 1 (i_cS 2 (FX11_at n) (i_cst (.int (-1)) (i_c2 (fun x y => decide (x = y)) (i_ldA 0 (i_gA 2 5 (i_ldI 1 (i_ldA 0 (i_gI 2 7 (i_cS 3 (FX11_set n) (i_cst (.int (1)) (i_rZ)))))))) (kX2_takeBack_24 n))))))))))))
set_option maxRecDepth 20000 in
theorem okX2_takeBack_0 {E : mE} {X : State → Heap → Prop} {l : Launch} (hX : mXok E X) (n : Nat) : Sd E X l yX2_takeBack cX2_takeBack 2 (some .boolean) 2 0 0 0 0 0 (kX2_takeBack_0 n) := s_iload_n dX2_takeBack_0 rfl (s_iflt dX2_takeBack_1 (by decide) (okX2_takeBack_24 hX n) (s_iload_n dX2_takeBack_4 rfl (s_aload_n dX2_takeBack_5 rfl (s_gI dX2_takeBack_6 lFX2_38 (by decide) (s_icge dX2_takeBack_9 (by decide) (okX2_takeBack_24 hX n) (s_aload_n dX2_takeBack_12 rfl (s_gA dX2_takeBack_13 lFX2_25 (s_iload_n dX2_takeBack_16 rfl (s_cN dX2_takeBack_17 lNX2_56 bSX11_at (CtX11_at hX n) (Nat.le_of_ble_eq_true rfl) (s_iconst dX2_takeBack_20 (by decide) (s_iceq dX2_takeBack_21 (by decide) (s_aload_n dX2_takeBack_26 rfl (s_gA dX2_takeBack_27 lFX2_25 (s_iload_n dX2_takeBack_30 rfl (s_aload_n dX2_takeBack_31 rfl (s_gI dX2_takeBack_32 lFX2_53 (by decide) (s_cN dX2_takeBack_35 lNX2_49 bSX11_set (CtX11_set hX n) (Nat.le_of_ble_eq_true rfl) (s_iconst dX2_takeBack_38 (by decide) (s_rZ dX2_takeBack_39 (Nat.le_of_ble_eq_true rfl) (Nat.le_of_ble_eq_true rfl))) (Nat.le_of_ble_eq_true rfl) (Nat.le_of_ble_eq_true rfl))))))) (okX2_takeBack_24 hX n))) (Nat.le_of_ble_eq_true rfl) (Nat.le_of_ble_eq_true rfl))))))))))
def FX2_takeBack (n : Nat) : List Value → mM → Option mR := mfn 2 (kX2_takeBack_0 n)
theorem CtX2_takeBack {E : mE} {X : State → Heap → Prop} {l : Launch} (hX : mXok E X) (n : Nat) : Ct E X l yX2_takeBack cX2_takeBack 2 (some .boolean) 2 0 0 (FX2_takeBack n) := Ct_of (by decide) hX (okX2_takeBack_0 hX n)
theorem dX2_tell_0 : decode cX2_tell 0 = .ok (.iload_n 1, 1) := by decide +kernel
theorem dX2_tell_1 : decode cX2_tell 1 = .ok (.ifCond .lt 13, 3) := by decide +kernel
theorem dX2_tell_4 : decode cX2_tell 4 = .ok (.iload_n 1, 1) := by decide +kernel
theorem dX2_tell_5 : decode cX2_tell 5 = .ok (.bipush 21, 2) := by decide +kernel
theorem dX2_tell_7 : decode cX2_tell 7 = .ok (.if_icmp .ge 7, 3) := by decide +kernel
theorem dX2_tell_10 : decode cX2_tell 10 = .ok (.iconst 1, 1) := by decide +kernel
theorem dX2_tell_11 : decode cX2_tell 11 = .ok (.goto 4, 3) := by decide +kernel
theorem dX2_tell_14 : decode cX2_tell 14 = .ok (.iconst 0, 1) := by decide +kernel
theorem dX2_tell_15 : decode cX2_tell 15 = .ok (.istore 4, 2) := by decide +kernel
theorem dX2_tell_17 : decode cX2_tell 17 = .ok (.iload_n 2, 1) := by decide +kernel
theorem dX2_tell_18 : decode cX2_tell 18 = .ok (.sipush (-9999), 3) := by decide +kernel
theorem dX2_tell_21 : decode cX2_tell 21 = .ok (.if_icmp .lt 14, 3) := by decide +kernel
theorem dX2_tell_24 : decode cX2_tell 24 = .ok (.iload_n 2, 1) := by decide +kernel
theorem dX2_tell_25 : decode cX2_tell 25 = .ok (.sipush 9999, 3) := by decide +kernel
theorem dX2_tell_28 : decode cX2_tell 28 = .ok (.if_icmp .gt 7, 3) := by decide +kernel
theorem dX2_tell_31 : decode cX2_tell 31 = .ok (.iconst 1, 1) := by decide +kernel
theorem dX2_tell_32 : decode cX2_tell 32 = .ok (.goto 4, 3) := by decide +kernel
theorem dX2_tell_35 : decode cX2_tell 35 = .ok (.iconst 0, 1) := by decide +kernel
theorem dX2_tell_36 : decode cX2_tell 36 = .ok (.istore 5, 2) := by decide +kernel
theorem dX2_tell_38 : decode cX2_tell 38 = .ok (.iload 4, 2) := by decide +kernel
theorem dX2_tell_40 : decode cX2_tell 40 = .ok (.ifCond .eq 37, 3) := by decide +kernel
theorem dX2_tell_43 : decode cX2_tell 43 = .ok (.iload 5, 2) := by decide +kernel
theorem dX2_tell_45 : decode cX2_tell 45 = .ok (.ifCond .eq 32, 3) := by decide +kernel
theorem dX2_tell_48 : decode cX2_tell 48 = .ok (.aload_n 0, 1) := by decide +kernel
theorem dX2_tell_49 : decode cX2_tell 49 = .ok (.getfield 34, 3) := by decide +kernel
theorem dX2_tell_52 : decode cX2_tell 52 = .ok (.getfield 48, 3) := by decide +kernel
theorem dX2_tell_55 : decode cX2_tell 55 = .ok (.ifCond .eq 22, 3) := by decide +kernel
theorem dX2_tell_58 : decode cX2_tell 58 = .ok (.aload_n 0, 1) := by decide +kernel
theorem dX2_tell_59 : decode cX2_tell 59 = .ok (.getfield 38, 3) := by decide +kernel
theorem dX2_tell_62 : decode cX2_tell 62 = .ok (.ifCond .lt 15, 3) := by decide +kernel
theorem dX2_tell_65 : decode cX2_tell 65 = .ok (.aload_n 0, 1) := by decide +kernel
theorem dX2_tell_66 : decode cX2_tell 66 = .ok (.getfield 38, 3) := by decide +kernel
theorem dX2_tell_69 : decode cX2_tell 69 = .ok (.aload_n 0, 1) := by decide +kernel
theorem dX2_tell_70 : decode cX2_tell 70 = .ok (.getfield 18, 3) := by decide +kernel
theorem dX2_tell_73 : decode cX2_tell 73 = .ok (.arraylength, 1) := by decide +kernel
theorem dX2_tell_74 : decode cX2_tell 74 = .ok (.if_icmp .lt 5, 3) := by decide +kernel
theorem dX2_tell_77 : decode cX2_tell 77 = .ok (.iconst (-1), 1) := by decide +kernel
theorem dX2_tell_78 : decode cX2_tell 78 = .ok (.ireturn, 1) := by decide +kernel
theorem dX2_tell_79 : decode cX2_tell 79 = .ok (.aload_n 0, 1) := by decide +kernel
theorem dX2_tell_80 : decode cX2_tell 80 = .ok (.getfield 11, 3) := by decide +kernel
theorem dX2_tell_83 : decode cX2_tell 83 = .ok (.aload_n 0, 1) := by decide +kernel
theorem dX2_tell_84 : decode cX2_tell 84 = .ok (.getfield 38, 3) := by decide +kernel
theorem dX2_tell_87 : decode cX2_tell 87 = .ok (.iload_n 1, 1) := by decide +kernel
theorem dX2_tell_88 : decode cX2_tell 88 = .ok (.invokestatic 49, 3) := by decide +kernel
theorem dX2_tell_91 : decode cX2_tell 91 = .ok (.aload_n 0, 1) := by decide +kernel
theorem dX2_tell_92 : decode cX2_tell 92 = .ok (.getfield 15, 3) := by decide +kernel
theorem dX2_tell_95 : decode cX2_tell 95 = .ok (.aload_n 0, 1) := by decide +kernel
theorem dX2_tell_96 : decode cX2_tell 96 = .ok (.getfield 38, 3) := by decide +kernel
theorem dX2_tell_99 : decode cX2_tell 99 = .ok (.iload_n 2, 1) := by decide +kernel
theorem dX2_tell_100 : decode cX2_tell 100 = .ok (.invokestatic 49, 3) := by decide +kernel
theorem dX2_tell_103 : decode cX2_tell 103 = .ok (.aload_n 0, 1) := by decide +kernel
theorem dX2_tell_104 : decode cX2_tell 104 = .ok (.getfield 18, 3) := by decide +kernel
theorem dX2_tell_107 : decode cX2_tell 107 = .ok (.aload_n 0, 1) := by decide +kernel
theorem dX2_tell_108 : decode cX2_tell 108 = .ok (.getfield 38, 3) := by decide +kernel
theorem dX2_tell_111 : decode cX2_tell 111 = .ok (.iload_n 3, 1) := by decide +kernel
theorem dX2_tell_112 : decode cX2_tell 112 = .ok (.bastore, 1) := by decide +kernel
theorem dX2_tell_113 : decode cX2_tell 113 = .ok (.aload_n 0, 1) := by decide +kernel
theorem dX2_tell_114 : decode cX2_tell 114 = .ok (.getfield 22, 3) := by decide +kernel
theorem dX2_tell_117 : decode cX2_tell 117 = .ok (.aload_n 0, 1) := by decide +kernel
theorem dX2_tell_118 : decode cX2_tell 118 = .ok (.getfield 38, 3) := by decide +kernel
theorem dX2_tell_121 : decode cX2_tell 121 = .ok (.aload_n 0, 1) := by decide +kernel
theorem dX2_tell_122 : decode cX2_tell 122 = .ok (.getfield 53, 3) := by decide +kernel
theorem dX2_tell_125 : decode cX2_tell 125 = .ok (.invokestatic 49, 3) := by decide +kernel
theorem dX2_tell_128 : decode cX2_tell 128 = .ok (.aload_n 0, 1) := by decide +kernel
theorem dX2_tell_129 : decode cX2_tell 129 = .ok (.getfield 25, 3) := by decide +kernel
theorem dX2_tell_132 : decode cX2_tell 132 = .ok (.aload_n 0, 1) := by decide +kernel
theorem dX2_tell_133 : decode cX2_tell 133 = .ok (.getfield 38, 3) := by decide +kernel
theorem dX2_tell_136 : decode cX2_tell 136 = .ok (.iconst (-1), 1) := by decide +kernel
theorem dX2_tell_137 : decode cX2_tell 137 = .ok (.invokestatic 49, 3) := by decide +kernel
theorem dX2_tell_140 : decode cX2_tell 140 = .ok (.aload_n 0, 1) := by decide +kernel
theorem dX2_tell_141 : decode cX2_tell 141 = .ok (.dup, 1) := by decide +kernel
theorem dX2_tell_142 : decode cX2_tell 142 = .ok (.getfield 38, 3) := by decide +kernel
theorem dX2_tell_145 : decode cX2_tell 145 = .ok (.iconst 1, 1) := by decide +kernel
theorem dX2_tell_146 : decode cX2_tell 146 = .ok (.iadd, 1) := by decide +kernel
theorem dX2_tell_147 : decode cX2_tell 147 = .ok (.putfield 38, 3) := by decide +kernel
theorem dX2_tell_150 : decode cX2_tell 150 = .ok (.aload_n 0, 1) := by decide +kernel
theorem dX2_tell_151 : decode cX2_tell 151 = .ok (.getfield 38, 3) := by decide +kernel
theorem dX2_tell_154 : decode cX2_tell 154 = .ok (.iconst 1, 1) := by decide +kernel
theorem dX2_tell_155 : decode cX2_tell 155 = .ok (.isub, 1) := by decide +kernel
theorem dX2_tell_156 : decode cX2_tell 156 = .ok (.ireturn, 1) := by decide +kernel
def kX2_tell_77 (n : Nat) : mK := i_cst (.int (-1)) (i_rI)
set_option maxRecDepth 20000 in
theorem okX2_tell_77 {E : mE} {X : State → Heap → Prop} {l : Launch} (hX : mXok E X) (n : Nat) : Sd E X l yX2_tell cX2_tell 6 (some .int) 2 0 0 0 0 77 (kX2_tell_77 n) := s_iconst dX2_tell_77 (by decide) (s_rI dX2_tell_78 (Nat.le_of_ble_eq_true rfl) (Nat.le_of_ble_eq_true rfl))
def kX2_tell_137 (n : Nat) : mK := i_cS 3 (FX11_set n) (i_ldA 0 (i_dup (i_gI 2 6 (i_cst (.int (1)) (i_bin (fun x y => x + y) (i_pI 2 6 (i_ldA 0 (i_gI 2 6 (i_cst (.int (1)) (i_bin (fun x y => x - y) (i_rI)))))))))))
set_option maxRecDepth 20000 in
theorem okX2_tell_137 {E : mE} {X : State → Heap → Prop} {l : Launch} (hX : mXok E X) (n : Nat) : Sd E X l yX2_tell cX2_tell 6 (some .int) 2 0 0 0 0 137 (kX2_tell_137 n) := s_cN dX2_tell_137 lNX2_49 bSX11_set (CtX11_set hX n) (Nat.le_of_ble_eq_true rfl) (s_aload_n dX2_tell_140 rfl (s_dup dX2_tell_141 (s_gI dX2_tell_142 lFX2_38 (by decide) (s_iconst dX2_tell_145 (by decide) (s_iadd dX2_tell_146 (s_pI dX2_tell_147 lFX2_38 (s_aload_n dX2_tell_150 rfl (s_gI dX2_tell_151 lFX2_38 (by decide) (s_iconst dX2_tell_154 (by decide) (s_isub dX2_tell_155 (s_rI dX2_tell_156 (Nat.le_of_ble_eq_true rfl) (Nat.le_of_ble_eq_true rfl)))))))))))) (Nat.le_of_ble_eq_true rfl) (Nat.le_of_ble_eq_true rfl)
def kX2_tell_91 (n : Nat) : mK := i_ldA 0 (i_gA 2 2 (i_ldA 0 (i_gI 2 6 (i_ldI 2 (i_cS 3 (FX11_set n) (i_ldA 0 (i_gA 2 3 (i_ldA 0 (i_gI 2 6 (i_ldI 3 (i_as 2 (i_ldA 0 (i_gA 2 4 (i_ldA 0 (i_gI 2 6 (i_ldA 0 (i_gI 2 7 (i_cS 3 (FX11_set n) (i_ldA 0 (i_gA 2 5 (i_ldA 0 (i_gI 2 6 (i_cst (.int (-1)) (kX2_tell_137 n))))))))))))))))))))))))
set_option maxRecDepth 20000 in
theorem okX2_tell_91 {E : mE} {X : State → Heap → Prop} {l : Launch} (hX : mXok E X) (n : Nat) : Sd E X l yX2_tell cX2_tell 6 (some .int) 2 0 0 0 0 91 (kX2_tell_91 n) := s_aload_n dX2_tell_91 rfl (s_gA dX2_tell_92 lFX2_15 (s_aload_n dX2_tell_95 rfl (s_gI dX2_tell_96 lFX2_38 (by decide) (s_iload_n dX2_tell_99 rfl (s_cN dX2_tell_100 lNX2_49 bSX11_set (CtX11_set hX n) (Nat.le_of_ble_eq_true rfl) (s_aload_n dX2_tell_103 rfl (s_gA dX2_tell_104 lFX2_18 (s_aload_n dX2_tell_107 rfl (s_gI dX2_tell_108 lFX2_38 (by decide) (s_iload_n dX2_tell_111 rfl (s_zast dX2_tell_112 (s_aload_n dX2_tell_113 rfl (s_gA dX2_tell_114 lFX2_22 (s_aload_n dX2_tell_117 rfl (s_gI dX2_tell_118 lFX2_38 (by decide) (s_aload_n dX2_tell_121 rfl (s_gI dX2_tell_122 lFX2_53 (by decide) (s_cN dX2_tell_125 lNX2_49 bSX11_set (CtX11_set hX n) (Nat.le_of_ble_eq_true rfl) (s_aload_n dX2_tell_128 rfl (s_gA dX2_tell_129 lFX2_25 (s_aload_n dX2_tell_132 rfl (s_gI dX2_tell_133 lFX2_38 (by decide) (s_iconst dX2_tell_136 (by decide) (okX2_tell_137 hX n)))))) (Nat.le_of_ble_eq_true rfl) (Nat.le_of_ble_eq_true rfl)))))))))))))) (Nat.le_of_ble_eq_true rfl) (Nat.le_of_ble_eq_true rfl))))))
def kX2_tell_36 (n : Nat) : mK := i_stI 5 (i_ldI 4 (i_c0 (fun x => decide (x = 0)) (kX2_tell_77 n) (i_ldI 5 (i_c0 (fun x => decide (x = 0)) (kX2_tell_77 n) (i_ldA 0 (i_gA 2 0 (i_gI 4 2 (i_c0 (fun x => decide (x = 0)) (kX2_tell_77 n) (i_ldA 0 (i_gI 2 6 (i_c0 (fun x => decide (x < 0)) (kX2_tell_77 n) (i_ldA 0 (i_gI 2 6 (i_ldA 0 (i_gA 2 3 (i_len (i_c2 (fun x y => decide (x < y)) (i_ldA 0 (i_gA 2 1 (i_ldA 0 (i_gI 2 6 (i_ldI 1 (i_cS 3 (FX11_set n) (kX2_tell_91 n))))))) (kX2_tell_77 n))))))))))))))))))
set_option maxRecDepth 20000 in
theorem okX2_tell_36 {E : mE} {X : State → Heap → Prop} {l : Launch} (hX : mXok E X) (n : Nat) : Sd E X l yX2_tell cX2_tell 6 (some .int) 2 0 0 0 0 36 (kX2_tell_36 n) := s_istore dX2_tell_36 (s_iload dX2_tell_38 (s_ifeq dX2_tell_40 (by decide) (okX2_tell_77 hX n) (s_iload dX2_tell_43 (s_ifeq dX2_tell_45 (by decide) (okX2_tell_77 hX n) (s_aload_n dX2_tell_48 rfl (s_gA dX2_tell_49 lFX2_34 (s_gI dX2_tell_52 lFX2_48 (by decide) (s_ifeq dX2_tell_55 (by decide) (okX2_tell_77 hX n) (s_aload_n dX2_tell_58 rfl (s_gI dX2_tell_59 lFX2_38 (by decide) (s_iflt dX2_tell_62 (by decide) (okX2_tell_77 hX n) (s_aload_n dX2_tell_65 rfl (s_gI dX2_tell_66 lFX2_38 (by decide) (s_aload_n dX2_tell_69 rfl (s_gA dX2_tell_70 lFX2_18 (s_len dX2_tell_73 (s_iclt dX2_tell_74 (by decide) (s_aload_n dX2_tell_79 rfl (s_gA dX2_tell_80 lFX2_11 (s_aload_n dX2_tell_83 rfl (s_gI dX2_tell_84 lFX2_38 (by decide) (s_iload_n dX2_tell_87 rfl (s_cN dX2_tell_88 lNX2_49 bSX11_set (CtX11_set hX n) (Nat.le_of_ble_eq_true rfl) (okX2_tell_91 hX n) (Nat.le_of_ble_eq_true rfl) (Nat.le_of_ble_eq_true rfl))))))) (okX2_tell_77 hX n))))))))))))))))))
def kX2_tell_35 (n : Nat) : mK := i_cst (.int (0)) (kX2_tell_36 n)
set_option maxRecDepth 20000 in
theorem okX2_tell_35 {E : mE} {X : State → Heap → Prop} {l : Launch} (hX : mXok E X) (n : Nat) : Sd E X l yX2_tell cX2_tell 6 (some .int) 2 0 0 0 0 35 (kX2_tell_35 n) := s_iconst dX2_tell_35 (by decide) (okX2_tell_36 hX n)
def kX2_tell_15 (n : Nat) : mK := i_stI 4 (i_ldI 2 (i_cst (.int (-9999)) (i_c2 (fun x y => decide (x < y)) (kX2_tell_35 n) (i_ldI 2 (i_cst (.int (9999)) (i_c2 (fun x y => decide (y < x)) (kX2_tell_35 n) (i_cst (.int (1)) ((kX2_tell_36 n)))))))))
set_option maxRecDepth 20000 in
theorem okX2_tell_15 {E : mE} {X : State → Heap → Prop} {l : Launch} (hX : mXok E X) (n : Nat) : Sd E X l yX2_tell cX2_tell 6 (some .int) 2 0 0 0 0 15 (kX2_tell_15 n) := s_istore dX2_tell_15 (s_iload_n dX2_tell_17 rfl (s_sipush dX2_tell_18 (by decide) (s_iclt dX2_tell_21 (by decide) (okX2_tell_35 hX n) (s_iload_n dX2_tell_24 rfl (s_sipush dX2_tell_25 (by decide) (s_icgt dX2_tell_28 (by decide) (okX2_tell_35 hX n) (s_iconst dX2_tell_31 (by decide) (s_goto dX2_tell_32 (by decide) (okX2_tell_36 hX n)))))))))
def kX2_tell_14 (n : Nat) : mK := i_cst (.int (0)) (kX2_tell_15 n)
set_option maxRecDepth 20000 in
theorem okX2_tell_14 {E : mE} {X : State → Heap → Prop} {l : Launch} (hX : mXok E X) (n : Nat) : Sd E X l yX2_tell cX2_tell 6 (some .int) 2 0 0 0 0 14 (kX2_tell_14 n) := s_iconst dX2_tell_14 (by decide) (okX2_tell_15 hX n)
def kX2_tell_0 (n : Nat) : mK := i_ldI 1 (i_c0 (fun x => decide (x < 0)) (kX2_tell_14 n) (i_ldI 1 (i_cst (.int (21)) (i_c2 (fun x y => decide (y ≤ x)) (kX2_tell_14 n) (i_cst (.int (1)) ((kX2_tell_15 n)))))))
set_option maxRecDepth 20000 in
theorem okX2_tell_0 {E : mE} {X : State → Heap → Prop} {l : Launch} (hX : mXok E X) (n : Nat) : Sd E X l yX2_tell cX2_tell 6 (some .int) 2 0 0 0 0 0 (kX2_tell_0 n) := s_iload_n dX2_tell_0 rfl (s_iflt dX2_tell_1 (by decide) (okX2_tell_14 hX n) (s_iload_n dX2_tell_4 rfl (s_bipush dX2_tell_5 (by decide) (s_icge dX2_tell_7 (by decide) (okX2_tell_14 hX n) (s_iconst dX2_tell_10 (by decide) (s_goto dX2_tell_11 (by decide) (okX2_tell_15 hX n)))))))
def FX2_tell (n : Nat) : List Value → mM → Option mR := mfn 6 (kX2_tell_0 n)
theorem CtX2_tell {E : mE} {X : State → Heap → Prop} {l : Launch} (hX : mXok E X) (n : Nat) : Ct E X l yX2_tell cX2_tell 6 (some .int) 2 0 0 (FX2_tell n) := Ct_of (by decide) hX (okX2_tell_0 hX n)
theorem dX2_worthBehind_0 : decode cX2_worthBehind 0 = .ok (.aload_n 0, 1) := by decide +kernel
theorem dX2_worthBehind_1 : decode cX2_worthBehind 1 = .ok (.getfield 28, 3) := by decide +kernel
theorem dX2_worthBehind_4 : decode cX2_worthBehind 4 = .ok (.iload_n 1, 1) := by decide +kernel
theorem dX2_worthBehind_5 : decode cX2_worthBehind 5 = .ok (.bipush 100, 2) := by decide +kernel
theorem dX2_worthBehind_7 : decode cX2_worthBehind 7 = .ok (.imul, 1) := by decide +kernel
theorem dX2_worthBehind_8 : decode cX2_worthBehind 8 = .ok (.iload_n 2, 1) := by decide +kernel
theorem dX2_worthBehind_9 : decode cX2_worthBehind 9 = .ok (.iadd, 1) := by decide +kernel
theorem dX2_worthBehind_10 : decode cX2_worthBehind 10 = .ok (.invokestatic 56, 3) := by decide +kernel
theorem dX2_worthBehind_13 : decode cX2_worthBehind 13 = .ok (.ireturn, 1) := by decide +kernel
def kX2_worthBehind_0 (n : Nat) : mK := i_ldA 0 (i_gA 2 8 (i_ldI 1 (i_cst (.int (100)) (i_bin (fun x y => x * y) (i_ldI 2 (i_bin (fun x y => x + y) (i_cS 2 (FX11_at n) (i_rI))))))))
set_option maxRecDepth 20000 in
theorem okX2_worthBehind_0 {E : mE} {X : State → Heap → Prop} {l : Launch} (hX : mXok E X) (n : Nat) : Sd E X l yX2_worthBehind cX2_worthBehind 3 (some .int) 2 0 0 0 0 0 (kX2_worthBehind_0 n) := s_aload_n dX2_worthBehind_0 rfl (s_gA dX2_worthBehind_1 lFX2_28 (s_iload_n dX2_worthBehind_4 rfl (s_bipush dX2_worthBehind_5 (by decide) (s_imul dX2_worthBehind_7 (s_iload_n dX2_worthBehind_8 rfl (s_iadd dX2_worthBehind_9 (s_cN dX2_worthBehind_10 lNX2_56 bSX11_at (CtX11_at hX n) (Nat.le_of_ble_eq_true rfl) (s_rI dX2_worthBehind_13 (Nat.le_of_ble_eq_true rfl) (Nat.le_of_ble_eq_true rfl)) (Nat.le_of_ble_eq_true rfl) (Nat.le_of_ble_eq_true rfl))))))))
def FX2_worthBehind (n : Nat) : List Value → mM → Option mR := mfn 3 (kX2_worthBehind_0 n)
theorem CtX2_worthBehind {E : mE} {X : State → Heap → Prop} {l : Launch} (hX : mXok E X) (n : Nat) : Ct E X l yX2_worthBehind cX2_worthBehind 3 (some .int) 2 0 0 (FX2_worthBehind n) := Ct_of (by decide) hX (okX2_worthBehind_0 hX n)
theorem dX4_beside_0 : decode cX4_beside 0 = .ok (.iload_n 2, 1) := by decide +kernel
theorem dX4_beside_1 : decode cX4_beside 1 = .ok (.tableswitch 84 0 2 #[27, 46, 62], 27) := by decide +kernel
theorem dX4_beside_28 : decode cX4_beside 28 = .ok (.aload_n 0, 1) := by decide +kernel
theorem dX4_beside_29 : decode cX4_beside 29 = .ok (.iload_n 1, 1) := by decide +kernel
theorem dX4_beside_30 : decode cX4_beside 30 = .ok (.invokevirtual 69, 3) := by decide +kernel
theorem dX4_beside_33 : decode cX4_beside 33 = .ok (.ifCond .le 12, 3) := by decide +kernel
theorem dX4_beside_36 : decode cX4_beside 36 = .ok (.iload_n 1, 1) := by decide +kernel
theorem dX4_beside_37 : decode cX4_beside 37 = .ok (.aload_n 0, 1) := by decide +kernel
theorem dX4_beside_38 : decode cX4_beside 38 = .ok (.getfield 37, 3) := by decide +kernel
theorem dX4_beside_41 : decode cX4_beside 41 = .ok (.isub, 1) := by decide +kernel
theorem dX4_beside_42 : decode cX4_beside 42 = .ok (.goto 4, 3) := by decide +kernel
theorem dX4_beside_45 : decode cX4_beside 45 = .ok (.iconst (-1), 1) := by decide +kernel
theorem dX4_beside_46 : decode cX4_beside 46 = .ok (.ireturn, 1) := by decide +kernel
theorem dX4_beside_47 : decode cX4_beside 47 = .ok (.aload_n 0, 1) := by decide +kernel
theorem dX4_beside_48 : decode cX4_beside 48 = .ok (.iload_n 1, 1) := by decide +kernel
theorem dX4_beside_49 : decode cX4_beside 49 = .ok (.invokevirtual 65, 3) := by decide +kernel
theorem dX4_beside_52 : decode cX4_beside 52 = .ok (.ifCond .le 9, 3) := by decide +kernel
theorem dX4_beside_55 : decode cX4_beside 55 = .ok (.iload_n 1, 1) := by decide +kernel
theorem dX4_beside_56 : decode cX4_beside 56 = .ok (.iconst 1, 1) := by decide +kernel
theorem dX4_beside_57 : decode cX4_beside 57 = .ok (.isub, 1) := by decide +kernel
theorem dX4_beside_58 : decode cX4_beside 58 = .ok (.goto 4, 3) := by decide +kernel
theorem dX4_beside_61 : decode cX4_beside 61 = .ok (.iconst (-1), 1) := by decide +kernel
theorem dX4_beside_62 : decode cX4_beside 62 = .ok (.ireturn, 1) := by decide +kernel
theorem dX4_beside_63 : decode cX4_beside 63 = .ok (.aload_n 0, 1) := by decide +kernel
theorem dX4_beside_64 : decode cX4_beside 64 = .ok (.iload_n 1, 1) := by decide +kernel
theorem dX4_beside_65 : decode cX4_beside 65 = .ok (.invokevirtual 65, 3) := by decide +kernel
theorem dX4_beside_68 : decode cX4_beside 68 = .ok (.aload_n 0, 1) := by decide +kernel
theorem dX4_beside_69 : decode cX4_beside 69 = .ok (.getfield 37, 3) := by decide +kernel
theorem dX4_beside_72 : decode cX4_beside 72 = .ok (.iconst 1, 1) := by decide +kernel
theorem dX4_beside_73 : decode cX4_beside 73 = .ok (.isub, 1) := by decide +kernel
theorem dX4_beside_74 : decode cX4_beside 74 = .ok (.if_icmp .ge 9, 3) := by decide +kernel
theorem dX4_beside_77 : decode cX4_beside 77 = .ok (.iload_n 1, 1) := by decide +kernel
theorem dX4_beside_78 : decode cX4_beside 78 = .ok (.iconst 1, 1) := by decide +kernel
theorem dX4_beside_79 : decode cX4_beside 79 = .ok (.iadd, 1) := by decide +kernel
theorem dX4_beside_80 : decode cX4_beside 80 = .ok (.goto 4, 3) := by decide +kernel
theorem dX4_beside_83 : decode cX4_beside 83 = .ok (.iconst (-1), 1) := by decide +kernel
theorem dX4_beside_84 : decode cX4_beside 84 = .ok (.ireturn, 1) := by decide +kernel
theorem dX4_beside_85 : decode cX4_beside 85 = .ok (.aload_n 0, 1) := by decide +kernel
theorem dX4_beside_86 : decode cX4_beside 86 = .ok (.iload_n 1, 1) := by decide +kernel
theorem dX4_beside_87 : decode cX4_beside 87 = .ok (.invokevirtual 69, 3) := by decide +kernel
theorem dX4_beside_90 : decode cX4_beside 90 = .ok (.aload_n 0, 1) := by decide +kernel
theorem dX4_beside_91 : decode cX4_beside 91 = .ok (.getfield 41, 3) := by decide +kernel
theorem dX4_beside_94 : decode cX4_beside 94 = .ok (.iconst 1, 1) := by decide +kernel
theorem dX4_beside_95 : decode cX4_beside 95 = .ok (.isub, 1) := by decide +kernel
theorem dX4_beside_96 : decode cX4_beside 96 = .ok (.if_icmp .ge 12, 3) := by decide +kernel
theorem dX4_beside_99 : decode cX4_beside 99 = .ok (.iload_n 1, 1) := by decide +kernel
theorem dX4_beside_100 : decode cX4_beside 100 = .ok (.aload_n 0, 1) := by decide +kernel
theorem dX4_beside_101 : decode cX4_beside 101 = .ok (.getfield 37, 3) := by decide +kernel
theorem dX4_beside_104 : decode cX4_beside 104 = .ok (.iadd, 1) := by decide +kernel
theorem dX4_beside_105 : decode cX4_beside 105 = .ok (.goto 4, 3) := by decide +kernel
theorem dX4_beside_108 : decode cX4_beside 108 = .ok (.iconst (-1), 1) := by decide +kernel
theorem dX4_beside_109 : decode cX4_beside 109 = .ok (.ireturn, 1) := by decide +kernel
def kX4_beside_109 (n : Nat) : mK := i_rI
set_option maxRecDepth 20000 in
theorem okX4_beside_109 {E : mE} {X : State → Heap → Prop} {l : Launch} (hX : mXok E X) (n : Nat) : Sd E X l yX4_beside cX4_beside 3 (some .int) 2 0 0 0 0 109 (kX4_beside_109 n) := s_rI dX4_beside_109 (Nat.le_of_ble_eq_true rfl) (Nat.le_of_ble_eq_true rfl)
def kX4_beside_84 (n : Nat) : mK := i_rI
set_option maxRecDepth 20000 in
theorem okX4_beside_84 {E : mE} {X : State → Heap → Prop} {l : Launch} (hX : mXok E X) (n : Nat) : Sd E X l yX4_beside cX4_beside 3 (some .int) 2 0 0 0 0 84 (kX4_beside_84 n) := s_rI dX4_beside_84 (Nat.le_of_ble_eq_true rfl) (Nat.le_of_ble_eq_true rfl)
def kX4_beside_62 (n : Nat) : mK := i_rI
set_option maxRecDepth 20000 in
theorem okX4_beside_62 {E : mE} {X : State → Heap → Prop} {l : Launch} (hX : mXok E X) (n : Nat) : Sd E X l yX4_beside cX4_beside 3 (some .int) 2 0 0 0 0 62 (kX4_beside_62 n) := s_rI dX4_beside_62 (Nat.le_of_ble_eq_true rfl) (Nat.le_of_ble_eq_true rfl)
def kX4_beside_46 (n : Nat) : mK := i_rI
set_option maxRecDepth 20000 in
theorem okX4_beside_46 {E : mE} {X : State → Heap → Prop} {l : Launch} (hX : mXok E X) (n : Nat) : Sd E X l yX4_beside cX4_beside 3 (some .int) 2 0 0 0 0 46 (kX4_beside_46 n) := s_rI dX4_beside_46 (Nat.le_of_ble_eq_true rfl) (Nat.le_of_ble_eq_true rfl)
def kX4_beside_0 (n : Nat) : mK := i_ldI 2 (i_sw [(0, (i_ldA 0 (i_ldI 1 (i_cV 4 1 (FX4_rowOf n) (i_c0 (fun x => decide (x ≤ 0)) (i_cst (.int (-1)) (kX4_beside_46 n)) (i_ldI 1 (i_ldA 0 (i_gI 4 0 (i_bin (fun x y => x - y) ((kX4_beside_46 n))))))))))), (1, (i_ldA 0 (i_ldI 1 (i_cV 4 1 (FX4_columnOf n) (i_c0 (fun x => decide (x ≤ 0)) (i_cst (.int (-1)) (kX4_beside_62 n)) (i_ldI 1 (i_cst (.int (1)) (i_bin (fun x y => x - y) ((kX4_beside_62 n)))))))))), (2, (i_ldA 0 (i_ldI 1 (i_cV 4 1 (FX4_columnOf n) (i_ldA 0 (i_gI 4 0 (i_cst (.int (1)) (i_bin (fun x y => x - y) (i_c2 (fun x y => decide (y ≤ x)) (i_cst (.int (-1)) (kX4_beside_84 n)) (i_ldI 1 (i_cst (.int (1)) (i_bin (fun x y => x + y) ((kX4_beside_84 n))))))))))))))] (i_ldA 0 (i_ldI 1 (i_cV 4 1 (FX4_rowOf n) (i_ldA 0 (i_gI 4 1 (i_cst (.int (1)) (i_bin (fun x y => x - y) (i_c2 (fun x y => decide (y ≤ x)) (i_cst (.int (-1)) (kX4_beside_109 n)) (i_ldI 1 (i_ldA 0 (i_gI 4 0 (i_bin (fun x y => x + y) ((kX4_beside_109 n)))))))))))))))
set_option maxRecDepth 20000 in
theorem okX4_beside_0 {E : mE} {X : State → Heap → Prop} {l : Launch} (hX : mXok E X) (n : Nat) : Sd E X l yX4_beside cX4_beside 3 (some .int) 2 0 0 0 0 0 (kX4_beside_0 n) := s_iload_n dX4_beside_0 rfl (s_tsw dX4_beside_1 (by decide) (s_aload_n dX4_beside_85 rfl (s_iload_n dX4_beside_86 rfl (s_cV dX4_beside_87 lMX4_69 bVX4_rowOf rfl (CtX4_rowOf hX n) (Nat.le_of_ble_eq_true rfl) (s_aload_n dX4_beside_90 rfl (s_gI dX4_beside_91 lFX4_41 (by decide) (s_iconst dX4_beside_94 (by decide) (s_isub dX4_beside_95 (s_icge dX4_beside_96 (by decide) (s_iconst dX4_beside_108 (by decide) (okX4_beside_109 hX n)) (s_iload_n dX4_beside_99 rfl (s_aload_n dX4_beside_100 rfl (s_gI dX4_beside_101 lFX4_37 (by decide) (s_iadd dX4_beside_104 (s_goto dX4_beside_105 (by decide) (okX4_beside_109 hX n))))))))))) (Nat.le_of_ble_eq_true rfl) (Nat.le_of_ble_eq_true rfl)))) (by decide) (tsw_c (by decide) (by decide) (s_aload_n dX4_beside_28 rfl (s_iload_n dX4_beside_29 rfl (s_cV dX4_beside_30 lMX4_69 bVX4_rowOf rfl (CtX4_rowOf hX n) (Nat.le_of_ble_eq_true rfl) (s_ifle dX4_beside_33 (by decide) (s_iconst dX4_beside_45 (by decide) (okX4_beside_46 hX n)) (s_iload_n dX4_beside_36 rfl (s_aload_n dX4_beside_37 rfl (s_gI dX4_beside_38 lFX4_37 (by decide) (s_isub dX4_beside_41 (s_goto dX4_beside_42 (by decide) (okX4_beside_46 hX n))))))) (Nat.le_of_ble_eq_true rfl) (Nat.le_of_ble_eq_true rfl)))) (tsw_c (by decide) (by decide) (s_aload_n dX4_beside_47 rfl (s_iload_n dX4_beside_48 rfl (s_cV dX4_beside_49 lMX4_65 bVX4_columnOf rfl (CtX4_columnOf hX n) (Nat.le_of_ble_eq_true rfl) (s_ifle dX4_beside_52 (by decide) (s_iconst dX4_beside_61 (by decide) (okX4_beside_62 hX n)) (s_iload_n dX4_beside_55 rfl (s_iconst dX4_beside_56 (by decide) (s_isub dX4_beside_57 (s_goto dX4_beside_58 (by decide) (okX4_beside_62 hX n)))))) (Nat.le_of_ble_eq_true rfl) (Nat.le_of_ble_eq_true rfl)))) (tsw_c (by decide) (by decide) (s_aload_n dX4_beside_63 rfl (s_iload_n dX4_beside_64 rfl (s_cV dX4_beside_65 lMX4_65 bVX4_columnOf rfl (CtX4_columnOf hX n) (Nat.le_of_ble_eq_true rfl) (s_aload_n dX4_beside_68 rfl (s_gI dX4_beside_69 lFX4_37 (by decide) (s_iconst dX4_beside_72 (by decide) (s_isub dX4_beside_73 (s_icge dX4_beside_74 (by decide) (s_iconst dX4_beside_83 (by decide) (okX4_beside_84 hX n)) (s_iload_n dX4_beside_77 rfl (s_iconst dX4_beside_78 (by decide) (s_iadd dX4_beside_79 (s_goto dX4_beside_80 (by decide) (okX4_beside_84 hX n)))))))))) (Nat.le_of_ble_eq_true rfl) (Nat.le_of_ble_eq_true rfl)))) tsw_n))))
def FX4_beside (n : Nat) : List Value → mM → Option mR := mfn 3 (kX4_beside_0 n)
theorem CtX4_beside {E : mE} {X : State → Heap → Prop} {l : Launch} (hX : mXok E X) (n : Nat) : Ct E X l yX4_beside cX4_beside 3 (some .int) 2 0 0 (FX4_beside n) := Ct_of (by decide) hX (okX4_beside_0 hX n)
theorem dX4_clear_0 : decode cX4_clear 0 = .ok (.aload_n 0, 1) := by decide +kernel
theorem dX4_clear_1 : decode cX4_clear 1 = .ok (.bipush 6, 2) := by decide +kernel
theorem dX4_clear_3 : decode cX4_clear 3 = .ok (.putfield 37, 3) := by decide +kernel
theorem dX4_clear_6 : decode cX4_clear 6 = .ok (.aload_n 0, 1) := by decide +kernel
theorem dX4_clear_7 : decode cX4_clear 7 = .ok (.bipush 6, 2) := by decide +kernel
theorem dX4_clear_9 : decode cX4_clear 9 = .ok (.putfield 41, 3) := by decide +kernel
theorem dX4_clear_12 : decode cX4_clear 12 = .ok (.aload_n 0, 1) := by decide +kernel
theorem dX4_clear_13 : decode cX4_clear 13 = .ok (.iconst 0, 1) := by decide +kernel
theorem dX4_clear_14 : decode cX4_clear 14 = .ok (.putfield 44, 3) := by decide +kernel
theorem dX4_clear_17 : decode cX4_clear 17 = .ok (.aload_n 0, 1) := by decide +kernel
theorem dX4_clear_18 : decode cX4_clear 18 = .ok (.iconst 0, 1) := by decide +kernel
theorem dX4_clear_19 : decode cX4_clear 19 = .ok (.putfield 47, 3) := by decide +kernel
theorem dX4_clear_22 : decode cX4_clear 22 = .ok (.aload_n 0, 1) := by decide +kernel
theorem dX4_clear_23 : decode cX4_clear 23 = .ok (.iconst 0, 1) := by decide +kernel
theorem dX4_clear_24 : decode cX4_clear 24 = .ok (.putfield 50, 3) := by decide +kernel
theorem dX4_clear_27 : decode cX4_clear 27 = .ok (.aload_n 0, 1) := by decide +kernel
theorem dX4_clear_28 : decode cX4_clear 28 = .ok (.iconst 0, 1) := by decide +kernel
theorem dX4_clear_29 : decode cX4_clear 29 = .ok (.putfield 53, 3) := by decide +kernel
theorem dX4_clear_32 : decode cX4_clear 32 = .ok (.aload_n 0, 1) := by decide +kernel
theorem dX4_clear_33 : decode cX4_clear 33 = .ok (.getfield 27, 3) := by decide +kernel
theorem dX4_clear_36 : decode cX4_clear 36 = .ok (.invokevirtual 56, 3) := by decide +kernel
theorem dX4_clear_39 : decode cX4_clear 39 = .ok (.aload_n 0, 1) := by decide +kernel
theorem dX4_clear_40 : decode cX4_clear 40 = .ok (.getfield 31, 3) := by decide +kernel
theorem dX4_clear_43 : decode cX4_clear 43 = .ok (.invokevirtual 56, 3) := by decide +kernel
theorem dX4_clear_46 : decode cX4_clear 46 = .ok (.return_, 1) := by decide +kernel
def kX4_clear_46 (n : Nat) : mK := i_rV
set_option maxRecDepth 20000 in
theorem okX4_clear_46 {E : mE} {X : State → Heap → Prop} {l : Launch} (hX : mXok E X) (n : Nat) : Sd E X l yX4_clear cX4_clear 1 none 2 0 0 0 0 46 (kX4_clear_46 n) := s_rV dX4_clear_46 (Nat.le_of_ble_eq_true rfl) (Nat.le_of_ble_eq_true rfl)
def kX4_clear_0 (n : Nat) : mK := i_ldA 0 (i_cst (.int (6)) (i_pI 4 0 (i_ldA 0 (i_cst (.int (6)) (i_pI 4 1 (i_ldA 0 (i_cst (.int (0)) (i_pI 4 2 (i_ldA 0 (i_cst (.int (0)) (i_pI 4 3 (i_ldA 0 (i_cst (.int (0)) (i_pI 4 4 (i_ldA 0 (i_cst (.int (0)) (i_pI 4 5 (i_ldA 0 (i_gA 4 10 (i_cV 1 0 (FX1_clear n) (i_ldA 0 (i_gA 4 11 (i_cV 1 0 (FX1_clear n) (kX4_clear_46 n))))))))))))))))))))))))
set_option maxRecDepth 20000 in
theorem okX4_clear_0 {E : mE} {X : State → Heap → Prop} {l : Launch} (hX : mXok E X) (n : Nat) : Sd E X l yX4_clear cX4_clear 1 none 2 0 0 0 0 0 (kX4_clear_0 n) := s_aload_n dX4_clear_0 rfl (s_bipush dX4_clear_1 (by decide) (s_pI dX4_clear_3 lFX4_37 (s_aload_n dX4_clear_6 rfl (s_bipush dX4_clear_7 (by decide) (s_pI dX4_clear_9 lFX4_41 (s_aload_n dX4_clear_12 rfl (s_iconst dX4_clear_13 (by decide) (s_pI dX4_clear_14 lFX4_44 (s_aload_n dX4_clear_17 rfl (s_iconst dX4_clear_18 (by decide) (s_pI dX4_clear_19 lFX4_47 (s_aload_n dX4_clear_22 rfl (s_iconst dX4_clear_23 (by decide) (s_pI dX4_clear_24 lFX4_50 (s_aload_n dX4_clear_27 rfl (s_iconst dX4_clear_28 (by decide) (s_pI dX4_clear_29 lFX4_53 (s_aload_n dX4_clear_32 rfl (s_gA dX4_clear_33 lFX4_27 (s_cV dX4_clear_36 lMX4_56 bVX1_clear rfl (CtX1_clear hX n) (Nat.le_of_ble_eq_true rfl) (s_aload_n dX4_clear_39 rfl (s_gA dX4_clear_40 lFX4_31 (s_cV dX4_clear_43 lMX4_56 bVX1_clear rfl (CtX1_clear hX n) (Nat.le_of_ble_eq_true rfl) (okX4_clear_46 hX n) (Nat.le_of_ble_eq_true rfl) (Nat.le_of_ble_eq_true rfl)))) (Nat.le_of_ble_eq_true rfl) (Nat.le_of_ble_eq_true rfl)))))))))))))))))))))
def FX4_clear (n : Nat) : List Value → mM → Option mR := mfn 1 (kX4_clear_0 n)
theorem CtX4_clear {E : mE} {X : State → Heap → Prop} {l : Launch} (hX : mXok E X) (n : Nat) : Ct E X l yX4_clear cX4_clear 1 none 2 0 0 (FX4_clear n) := Ct_of (by decide) hX (okX4_clear_0 hX n)
theorem dX4_isOnLine_0 : decode cX4_isOnLine 0 = .ok (.aload_n 0, 1) := by decide +kernel
theorem dX4_isOnLine_1 : decode cX4_isOnLine 1 = .ok (.iload_n 3, 1) := by decide +kernel
theorem dX4_isOnLine_2 : decode cX4_isOnLine 2 = .ok (.invokevirtual 65, 3) := by decide +kernel
theorem dX4_isOnLine_5 : decode cX4_isOnLine 5 = .ok (.aload_n 0, 1) := by decide +kernel
theorem dX4_isOnLine_6 : decode cX4_isOnLine 6 = .ok (.iload_n 1, 1) := by decide +kernel
theorem dX4_isOnLine_7 : decode cX4_isOnLine 7 = .ok (.invokevirtual 65, 3) := by decide +kernel
theorem dX4_isOnLine_10 : decode cX4_isOnLine 10 = .ok (.isub, 1) := by decide +kernel
theorem dX4_isOnLine_11 : decode cX4_isOnLine 11 = .ok (.istore 4, 2) := by decide +kernel
theorem dX4_isOnLine_13 : decode cX4_isOnLine 13 = .ok (.aload_n 0, 1) := by decide +kernel
theorem dX4_isOnLine_14 : decode cX4_isOnLine 14 = .ok (.iload_n 3, 1) := by decide +kernel
theorem dX4_isOnLine_15 : decode cX4_isOnLine 15 = .ok (.invokevirtual 69, 3) := by decide +kernel
theorem dX4_isOnLine_18 : decode cX4_isOnLine 18 = .ok (.aload_n 0, 1) := by decide +kernel
theorem dX4_isOnLine_19 : decode cX4_isOnLine 19 = .ok (.iload_n 1, 1) := by decide +kernel
theorem dX4_isOnLine_20 : decode cX4_isOnLine 20 = .ok (.invokevirtual 69, 3) := by decide +kernel
theorem dX4_isOnLine_23 : decode cX4_isOnLine 23 = .ok (.isub, 1) := by decide +kernel
theorem dX4_isOnLine_24 : decode cX4_isOnLine 24 = .ok (.istore 5, 2) := by decide +kernel
theorem dX4_isOnLine_26 : decode cX4_isOnLine 26 = .ok (.iload_n 2, 1) := by decide +kernel
theorem dX4_isOnLine_27 : decode cX4_isOnLine 27 = .ok (.tableswitch 73 0 2 #[25, 41, 57], 25) := by decide +kernel
theorem dX4_isOnLine_52 : decode cX4_isOnLine 52 = .ok (.iload 4, 2) := by decide +kernel
theorem dX4_isOnLine_54 : decode cX4_isOnLine 54 = .ok (.ifCond .ne 12, 3) := by decide +kernel
theorem dX4_isOnLine_57 : decode cX4_isOnLine 57 = .ok (.iload 5, 2) := by decide +kernel
theorem dX4_isOnLine_59 : decode cX4_isOnLine 59 = .ok (.ifCond .ge 7, 3) := by decide +kernel
theorem dX4_isOnLine_62 : decode cX4_isOnLine 62 = .ok (.iconst 1, 1) := by decide +kernel
theorem dX4_isOnLine_63 : decode cX4_isOnLine 63 = .ok (.goto 4, 3) := by decide +kernel
theorem dX4_isOnLine_66 : decode cX4_isOnLine 66 = .ok (.iconst 0, 1) := by decide +kernel
theorem dX4_isOnLine_67 : decode cX4_isOnLine 67 = .ok (.ireturn, 1) := by decide +kernel
theorem dX4_isOnLine_68 : decode cX4_isOnLine 68 = .ok (.iload 5, 2) := by decide +kernel
theorem dX4_isOnLine_70 : decode cX4_isOnLine 70 = .ok (.ifCond .ne 12, 3) := by decide +kernel
theorem dX4_isOnLine_73 : decode cX4_isOnLine 73 = .ok (.iload 4, 2) := by decide +kernel
theorem dX4_isOnLine_75 : decode cX4_isOnLine 75 = .ok (.ifCond .le 7, 3) := by decide +kernel
theorem dX4_isOnLine_78 : decode cX4_isOnLine 78 = .ok (.iconst 1, 1) := by decide +kernel
theorem dX4_isOnLine_79 : decode cX4_isOnLine 79 = .ok (.goto 4, 3) := by decide +kernel
theorem dX4_isOnLine_82 : decode cX4_isOnLine 82 = .ok (.iconst 0, 1) := by decide +kernel
theorem dX4_isOnLine_83 : decode cX4_isOnLine 83 = .ok (.ireturn, 1) := by decide +kernel
theorem dX4_isOnLine_84 : decode cX4_isOnLine 84 = .ok (.iload 4, 2) := by decide +kernel
theorem dX4_isOnLine_86 : decode cX4_isOnLine 86 = .ok (.ifCond .ne 12, 3) := by decide +kernel
theorem dX4_isOnLine_89 : decode cX4_isOnLine 89 = .ok (.iload 5, 2) := by decide +kernel
theorem dX4_isOnLine_91 : decode cX4_isOnLine 91 = .ok (.ifCond .le 7, 3) := by decide +kernel
theorem dX4_isOnLine_94 : decode cX4_isOnLine 94 = .ok (.iconst 1, 1) := by decide +kernel
theorem dX4_isOnLine_95 : decode cX4_isOnLine 95 = .ok (.goto 4, 3) := by decide +kernel
theorem dX4_isOnLine_98 : decode cX4_isOnLine 98 = .ok (.iconst 0, 1) := by decide +kernel
theorem dX4_isOnLine_99 : decode cX4_isOnLine 99 = .ok (.ireturn, 1) := by decide +kernel
theorem dX4_isOnLine_100 : decode cX4_isOnLine 100 = .ok (.iload 5, 2) := by decide +kernel
theorem dX4_isOnLine_102 : decode cX4_isOnLine 102 = .ok (.ifCond .ne 12, 3) := by decide +kernel
theorem dX4_isOnLine_105 : decode cX4_isOnLine 105 = .ok (.iload 4, 2) := by decide +kernel
theorem dX4_isOnLine_107 : decode cX4_isOnLine 107 = .ok (.ifCond .ge 7, 3) := by decide +kernel
theorem dX4_isOnLine_110 : decode cX4_isOnLine 110 = .ok (.iconst 1, 1) := by decide +kernel
theorem dX4_isOnLine_111 : decode cX4_isOnLine 111 = .ok (.goto 4, 3) := by decide +kernel
theorem dX4_isOnLine_114 : decode cX4_isOnLine 114 = .ok (.iconst 0, 1) := by decide +kernel
theorem dX4_isOnLine_115 : decode cX4_isOnLine 115 = .ok (.ireturn, 1) := by decide +kernel
def kX4_isOnLine_115 (n : Nat) : mK := i_rZ
set_option maxRecDepth 20000 in
theorem okX4_isOnLine_115 {E : mE} {X : State → Heap → Prop} {l : Launch} (hX : mXok E X) (n : Nat) : Sd E X l yX4_isOnLine cX4_isOnLine 6 (some .boolean) 2 0 0 0 0 115 (kX4_isOnLine_115 n) := s_rZ dX4_isOnLine_115 (Nat.le_of_ble_eq_true rfl) (Nat.le_of_ble_eq_true rfl)
def kX4_isOnLine_114 (n : Nat) : mK := i_cst (.int (0)) (kX4_isOnLine_115 n)
set_option maxRecDepth 20000 in
theorem okX4_isOnLine_114 {E : mE} {X : State → Heap → Prop} {l : Launch} (hX : mXok E X) (n : Nat) : Sd E X l yX4_isOnLine cX4_isOnLine 6 (some .boolean) 2 0 0 0 0 114 (kX4_isOnLine_114 n) := s_iconst dX4_isOnLine_114 (by decide) (okX4_isOnLine_115 hX n)
def kX4_isOnLine_99 (n : Nat) : mK := i_rZ
set_option maxRecDepth 20000 in
theorem okX4_isOnLine_99 {E : mE} {X : State → Heap → Prop} {l : Launch} (hX : mXok E X) (n : Nat) : Sd E X l yX4_isOnLine cX4_isOnLine 6 (some .boolean) 2 0 0 0 0 99 (kX4_isOnLine_99 n) := s_rZ dX4_isOnLine_99 (Nat.le_of_ble_eq_true rfl) (Nat.le_of_ble_eq_true rfl)
def kX4_isOnLine_98 (n : Nat) : mK := i_cst (.int (0)) (kX4_isOnLine_99 n)
set_option maxRecDepth 20000 in
theorem okX4_isOnLine_98 {E : mE} {X : State → Heap → Prop} {l : Launch} (hX : mXok E X) (n : Nat) : Sd E X l yX4_isOnLine cX4_isOnLine 6 (some .boolean) 2 0 0 0 0 98 (kX4_isOnLine_98 n) := s_iconst dX4_isOnLine_98 (by decide) (okX4_isOnLine_99 hX n)
def kX4_isOnLine_83 (n : Nat) : mK := i_rZ
set_option maxRecDepth 20000 in
theorem okX4_isOnLine_83 {E : mE} {X : State → Heap → Prop} {l : Launch} (hX : mXok E X) (n : Nat) : Sd E X l yX4_isOnLine cX4_isOnLine 6 (some .boolean) 2 0 0 0 0 83 (kX4_isOnLine_83 n) := s_rZ dX4_isOnLine_83 (Nat.le_of_ble_eq_true rfl) (Nat.le_of_ble_eq_true rfl)
def kX4_isOnLine_82 (n : Nat) : mK := i_cst (.int (0)) (kX4_isOnLine_83 n)
set_option maxRecDepth 20000 in
theorem okX4_isOnLine_82 {E : mE} {X : State → Heap → Prop} {l : Launch} (hX : mXok E X) (n : Nat) : Sd E X l yX4_isOnLine cX4_isOnLine 6 (some .boolean) 2 0 0 0 0 82 (kX4_isOnLine_82 n) := s_iconst dX4_isOnLine_82 (by decide) (okX4_isOnLine_83 hX n)
def kX4_isOnLine_67 (n : Nat) : mK := i_rZ
set_option maxRecDepth 20000 in
theorem okX4_isOnLine_67 {E : mE} {X : State → Heap → Prop} {l : Launch} (hX : mXok E X) (n : Nat) : Sd E X l yX4_isOnLine cX4_isOnLine 6 (some .boolean) 2 0 0 0 0 67 (kX4_isOnLine_67 n) := s_rZ dX4_isOnLine_67 (Nat.le_of_ble_eq_true rfl) (Nat.le_of_ble_eq_true rfl)
def kX4_isOnLine_66 (n : Nat) : mK := i_cst (.int (0)) (kX4_isOnLine_67 n)
set_option maxRecDepth 20000 in
theorem okX4_isOnLine_66 {E : mE} {X : State → Heap → Prop} {l : Launch} (hX : mXok E X) (n : Nat) : Sd E X l yX4_isOnLine cX4_isOnLine 6 (some .boolean) 2 0 0 0 0 66 (kX4_isOnLine_66 n) := s_iconst dX4_isOnLine_66 (by decide) (okX4_isOnLine_67 hX n)
def kX4_isOnLine_0 (n : Nat) : mK := i_ldA 0 (i_ldI 3 (i_cV 4 1 (FX4_columnOf n) (i_ldA 0 (i_ldI 1 (i_cV 4 1 (FX4_columnOf n) (i_bin (fun x y => x - y) (i_stI 4 (i_ldA 0 (i_ldI 3 (i_cV 4 1 (FX4_rowOf n) (i_ldA 0 (i_ldI 1 (i_cV 4 1 (FX4_rowOf n) (i_bin (fun x y => x - y) (i_stI 5 (i_ldI 2 (i_sw [(0, (i_ldI 4 (i_c0 (fun x => decide (¬ x = 0)) (kX4_isOnLine_66 n) (i_ldI 5 (i_c0 (fun x => decide (0 ≤ x)) (kX4_isOnLine_66 n) (i_cst (.int (1)) ((kX4_isOnLine_67 n)))))))), (1, (i_ldI 5 (i_c0 (fun x => decide (¬ x = 0)) (kX4_isOnLine_82 n) (i_ldI 4 (i_c0 (fun x => decide (x ≤ 0)) (kX4_isOnLine_82 n) (i_cst (.int (1)) ((kX4_isOnLine_83 n)))))))), (2, (i_ldI 4 (i_c0 (fun x => decide (¬ x = 0)) (kX4_isOnLine_98 n) (i_ldI 5 (i_c0 (fun x => decide (x ≤ 0)) (kX4_isOnLine_98 n) (i_cst (.int (1)) ((kX4_isOnLine_99 n))))))))] (i_ldI 5 (i_c0 (fun x => decide (¬ x = 0)) (kX4_isOnLine_114 n) (i_ldI 4 (i_c0 (fun x => decide (0 ≤ x)) (kX4_isOnLine_114 n) (i_cst (.int (1)) ((kX4_isOnLine_115 n))))))))))))))))))))))))
set_option maxRecDepth 20000 in
theorem okX4_isOnLine_0 {E : mE} {X : State → Heap → Prop} {l : Launch} (hX : mXok E X) (n : Nat) : Sd E X l yX4_isOnLine cX4_isOnLine 6 (some .boolean) 2 0 0 0 0 0 (kX4_isOnLine_0 n) := s_aload_n dX4_isOnLine_0 rfl (s_iload_n dX4_isOnLine_1 rfl (s_cV dX4_isOnLine_2 lMX4_65 bVX4_columnOf rfl (CtX4_columnOf hX n) (Nat.le_of_ble_eq_true rfl) (s_aload_n dX4_isOnLine_5 rfl (s_iload_n dX4_isOnLine_6 rfl (s_cV dX4_isOnLine_7 lMX4_65 bVX4_columnOf rfl (CtX4_columnOf hX n) (Nat.le_of_ble_eq_true rfl) (s_isub dX4_isOnLine_10 (s_istore dX4_isOnLine_11 (s_aload_n dX4_isOnLine_13 rfl (s_iload_n dX4_isOnLine_14 rfl (s_cV dX4_isOnLine_15 lMX4_69 bVX4_rowOf rfl (CtX4_rowOf hX n) (Nat.le_of_ble_eq_true rfl) (s_aload_n dX4_isOnLine_18 rfl (s_iload_n dX4_isOnLine_19 rfl (s_cV dX4_isOnLine_20 lMX4_69 bVX4_rowOf rfl (CtX4_rowOf hX n) (Nat.le_of_ble_eq_true rfl) (s_isub dX4_isOnLine_23 (s_istore dX4_isOnLine_24 (s_iload_n dX4_isOnLine_26 rfl (s_tsw dX4_isOnLine_27 (by decide) (s_iload dX4_isOnLine_100 (s_ifne dX4_isOnLine_102 (by decide) (okX4_isOnLine_114 hX n) (s_iload dX4_isOnLine_105 (s_ifge dX4_isOnLine_107 (by decide) (okX4_isOnLine_114 hX n) (s_iconst dX4_isOnLine_110 (by decide) (s_goto dX4_isOnLine_111 (by decide) (okX4_isOnLine_115 hX n))))))) (by decide) (tsw_c (by decide) (by decide) (s_iload dX4_isOnLine_52 (s_ifne dX4_isOnLine_54 (by decide) (okX4_isOnLine_66 hX n) (s_iload dX4_isOnLine_57 (s_ifge dX4_isOnLine_59 (by decide) (okX4_isOnLine_66 hX n) (s_iconst dX4_isOnLine_62 (by decide) (s_goto dX4_isOnLine_63 (by decide) (okX4_isOnLine_67 hX n))))))) (tsw_c (by decide) (by decide) (s_iload dX4_isOnLine_68 (s_ifne dX4_isOnLine_70 (by decide) (okX4_isOnLine_82 hX n) (s_iload dX4_isOnLine_73 (s_ifle dX4_isOnLine_75 (by decide) (okX4_isOnLine_82 hX n) (s_iconst dX4_isOnLine_78 (by decide) (s_goto dX4_isOnLine_79 (by decide) (okX4_isOnLine_83 hX n))))))) (tsw_c (by decide) (by decide) (s_iload dX4_isOnLine_84 (s_ifne dX4_isOnLine_86 (by decide) (okX4_isOnLine_98 hX n) (s_iload dX4_isOnLine_89 (s_ifle dX4_isOnLine_91 (by decide) (okX4_isOnLine_98 hX n) (s_iconst dX4_isOnLine_94 (by decide) (s_goto dX4_isOnLine_95 (by decide) (okX4_isOnLine_99 hX n))))))) tsw_n))))))) (Nat.le_of_ble_eq_true rfl) (Nat.le_of_ble_eq_true rfl)))) (Nat.le_of_ble_eq_true rfl) (Nat.le_of_ble_eq_true rfl)))))) (Nat.le_of_ble_eq_true rfl) (Nat.le_of_ble_eq_true rfl)))) (Nat.le_of_ble_eq_true rfl) (Nat.le_of_ble_eq_true rfl)))
def FX4_isOnLine (n : Nat) : List Value → mM → Option mR := mfn 6 (kX4_isOnLine_0 n)
theorem CtX4_isOnLine {E : mE} {X : State → Heap → Prop} {l : Launch} (hX : mXok E X) (n : Nat) : Ct E X l yX4_isOnLine cX4_isOnLine 6 (some .boolean) 2 0 0 (FX4_isOnLine n) := Ct_of (by decide) hX (okX4_isOnLine_0 hX n)
theorem dX5_init_0 : decode cX5_init 0 = .ok (.aload_n 0, 1) := by decide +kernel
theorem dX5_init_1 : decode cX5_init 1 = .ok (.invokespecial 3, 3) := by decide +kernel
theorem dX5_init_4 : decode cX5_init 4 = .ok (.aload_n 0, 1) := by decide +kernel
theorem dX5_init_5 : decode cX5_init 5 = .ok (.bipush 8, 2) := by decide +kernel
theorem dX5_init_7 : decode cX5_init 7 = .ok (.newarray .long, 2) := by decide +kernel
theorem dX5_init_9 : decode cX5_init 9 = .ok (.putfield 9, 3) := by decide +kernel
theorem dX5_init_12 : decode cX5_init 12 = .ok (.aload_n 0, 1) := by decide +kernel
theorem dX5_init_13 : decode cX5_init 13 = .ok (.iconst (-1), 1) := by decide +kernel
theorem dX5_init_14 : decode cX5_init 14 = .ok (.putfield 15, 3) := by decide +kernel
theorem dX5_init_17 : decode cX5_init 17 = .ok (.aload_n 0, 1) := by decide +kernel
theorem dX5_init_18 : decode cX5_init 18 = .ok (.new 19, 3) := by decide +kernel
theorem dX5_init_21 : decode cX5_init 21 = .ok (.dup, 1) := by decide +kernel
theorem dX5_init_22 : decode cX5_init 22 = .ok (.aload_n 1, 1) := by decide +kernel
theorem dX5_init_23 : decode cX5_init 23 = .ok (.invokespecial 21, 3) := by decide +kernel
theorem dX5_init_26 : decode cX5_init 26 = .ok (.putfield 24, 3) := by decide +kernel
theorem dX5_init_29 : decode cX5_init 29 = .ok (.aload_n 0, 1) := by decide +kernel
theorem dX5_init_30 : decode cX5_init 30 = .ok (.aload_n 2, 1) := by decide +kernel
theorem dX5_init_31 : decode cX5_init 31 = .ok (.putfield 28, 3) := by decide +kernel
theorem dX5_init_34 : decode cX5_init 34 = .ok (.aload_n 0, 1) := by decide +kernel
theorem dX5_init_35 : decode cX5_init 35 = .ok (.aload_n 2, 1) := by decide +kernel
theorem dX5_init_36 : decode cX5_init 36 = .ok (.getfield 32, 3) := by decide +kernel
theorem dX5_init_39 : decode cX5_init 39 = .ok (.putfield 38, 3) := by decide +kernel
theorem dX5_init_42 : decode cX5_init 42 = .ok (.return_, 1) := by decide +kernel
def kX5_init_0 (n : Nat) : mK := i_ldA 0 (i_obj (i_ldA 0 (i_cst (.int (8)) (i_na 3 8 (i_pA 5 2 (i_ldA 0 (i_cst (.int (-1)) (i_pI 5 12 (i_ldA 0 (i_new 9 (i_dup (i_ldA 1 (i_cI 1 2 (FX9_init n) (i_pA 5 0 (i_ldA 0 (i_ldA 2 (i_pA 5 1 (i_ldA 0 (i_ldA 2 (i_gA 4 11 (i_pA 5 3 (i_rV))))))))))))))))))))))
set_option maxRecDepth 20000 in
theorem okX5_init_0 {E : mE} {X : State → Heap → Prop} {l : Launch} (hX : mXok E X) (n : Nat) : Sd E X l yX5_init cX5_init 3 none 2 4 3215 0 0 0 (kX5_init_0 n) := s_aload_n dX5_init_0 rfl (s_obj dX5_init_1 lMX5_3 lObj1 lObj2 (Nat.le_of_ble_eq_true rfl) (s_aload_n dX5_init_4 rfl (s_bipush dX5_init_5 (by decide) (s_na dX5_init_7 rfl (by decide) lA_3 (Nat.le_of_ble_eq_true rfl) (Nat.le_of_ble_eq_true rfl) (Nat.le_of_ble_eq_true rfl) (s_pF dX5_init_9 lFX5_9 rfl rfl (s_aload_n dX5_init_12 rfl (s_iconst dX5_init_13 (by decide) (s_pI dX5_init_14 lFX5_15 (s_aload_n dX5_init_17 rfl (s_new dX5_init_18 rfl lKX5_19 lIX9 lJX9 (by decide) (Nat.le_of_ble_eq_true rfl) (Nat.le_of_ble_eq_true rfl) (s_dup dX5_init_21 (s_aload_n dX5_init_22 rfl (s_cI dX5_init_23 lMX5_21 bIX9_init (CtX9_init hX n) (Nat.le_of_ble_eq_true rfl) (Nat.le_of_ble_eq_true rfl) (Nat.le_of_ble_eq_true rfl) (s_pF dX5_init_26 lFX5_24 rfl rfl (s_aload_n dX5_init_29 rfl (s_aload_n dX5_init_30 rfl (s_pF dX5_init_31 lFX5_28 rfl rfl (s_aload_n dX5_init_34 rfl (s_aload_n dX5_init_35 rfl (s_gA dX5_init_36 lFX5_32 (s_pA dX5_init_39 lFX5_38 (s_rV dX5_init_42 (Nat.le_of_ble_eq_true rfl) (Nat.le_of_ble_eq_true rfl)))))))))))))))))))))))
def FX5_init (n : Nat) : List Value → mM → Option mR := mfn 3 (kX5_init_0 n)
theorem CtX5_init {E : mE} {X : State → Heap → Prop} {l : Launch} (hX : mXok E X) (n : Nat) : Ct E X l yX5_init cX5_init 3 none 2 4 3215 (FX5_init n) := Ct_of (by decide) hX (okX5_init_0 hX n)
theorem dX5_take_0 : decode cX5_take 0 = .ok (.aload_n 0, 1) := by decide +kernel
theorem dX5_take_1 : decode cX5_take 1 = .ok (.getfield 60, 3) := by decide +kernel
theorem dX5_take_4 : decode cX5_take 4 = .ok (.iload_n 1, 1) := by decide +kernel
theorem dX5_take_5 : decode cX5_take 5 = .ok (.if_icmp .eq 8, 3) := by decide +kernel
theorem dX5_take_8 : decode cX5_take 8 = .ok (.aload_n 0, 1) := by decide +kernel
theorem dX5_take_9 : decode cX5_take 9 = .ok (.invokevirtual 70, 3) := by decide +kernel
theorem dX5_take_12 : decode cX5_take 12 = .ok (.ireturn, 1) := by decide +kernel
theorem dX5_take_13 : decode cX5_take 13 = .ok (.aload_n 0, 1) := by decide +kernel
theorem dX5_take_14 : decode cX5_take 14 = .ok (.invokevirtual 57, 3) := by decide +kernel
theorem dX5_take_17 : decode cX5_take 17 = .ok (.iconst 1, 1) := by decide +kernel
theorem dX5_take_18 : decode cX5_take 18 = .ok (.ireturn, 1) := by decide +kernel
def kX5_take_0 (n : Nat) : mK := i_ldA 0 (i_gI 5 5 (i_ldI 1 (i_c2 (fun x y => decide (x = y)) (i_ldA 0 (i_cV 5 0 (FX5_advance n) (i_cst (.int (1)) (i_rZ)))) (i_ldA 0 (i_cV 5 0 (FX5_refuse n) (i_rZ))))))
set_option maxRecDepth 20000 in
theorem okX5_take_0 {E : mE} {X : State → Heap → Prop} {l : Launch} (hX : mXok E X) (n : Nat) : Sd E X l yX5_take cX5_take 2 (some .boolean) 2 0 0 0 0 0 (kX5_take_0 n) := s_aload_n dX5_take_0 rfl (s_gI dX5_take_1 lFX5_60 (by decide) (s_iload_n dX5_take_4 rfl (s_iceq dX5_take_5 (by decide) (s_aload_n dX5_take_13 rfl (s_cV dX5_take_14 lMX5_57 bVX5_advance rfl (CtX5_advance hX n) (Nat.le_of_ble_eq_true rfl) (s_iconst dX5_take_17 (by decide) (s_rZ dX5_take_18 (Nat.le_of_ble_eq_true rfl) (Nat.le_of_ble_eq_true rfl))) (Nat.le_of_ble_eq_true rfl) (Nat.le_of_ble_eq_true rfl))) (s_aload_n dX5_take_8 rfl (s_cV dX5_take_9 lMX5_70 bVX5_refuse rfl (CtX5_refuse hX n) (Nat.le_of_ble_eq_true rfl) (s_rZ dX5_take_12 (Nat.le_of_ble_eq_true rfl) (Nat.le_of_ble_eq_true rfl)) (Nat.le_of_ble_eq_true rfl) (Nat.le_of_ble_eq_true rfl))))))
def FX5_take (n : Nat) : List Value → mM → Option mR := mfn 2 (kX5_take_0 n)
theorem CtX5_take {E : mE} {X : State → Heap → Prop} {l : Launch} (hX : mXok E X) (n : Nat) : Ct E X l yX5_take cX5_take 2 (some .boolean) 2 0 0 (FX5_take n) := Ct_of (by decide) hX (okX5_take_0 hX n)
theorem dX5_takeSort_0 : decode cX5_takeSort 0 = .ok (.aload_n 0, 1) := by decide +kernel
theorem dX5_takeSort_1 : decode cX5_takeSort 1 = .ok (.dup, 1) := by decide +kernel
theorem dX5_takeSort_2 : decode cX5_takeSort 2 = .ok (.getfield 48, 3) := by decide +kernel
theorem dX5_takeSort_5 : decode cX5_takeSort 5 = .ok (.aload_n 0, 1) := by decide +kernel
theorem dX5_takeSort_6 : decode cX5_takeSort 6 = .ok (.invokevirtual 191, 3) := by decide +kernel
theorem dX5_takeSort_9 : decode cX5_takeSort 9 = .ok (.ior, 1) := by decide +kernel
theorem dX5_takeSort_10 : decode cX5_takeSort 10 = .ok (.putfield 48, 3) := by decide +kernel
theorem dX5_takeSort_13 : decode cX5_takeSort 13 = .ok (.aload_n 0, 1) := by decide +kernel
theorem dX5_takeSort_14 : decode cX5_takeSort 14 = .ok (.invokevirtual 57, 3) := by decide +kernel
theorem dX5_takeSort_17 : decode cX5_takeSort 17 = .ok (.return_, 1) := by decide +kernel
def kX5_takeSort_0 (n : Nat) : mK := i_ldA 0 (i_dup (i_gI 5 9 (i_ldA 0 (i_cV 5 0 (FX5_sortOfLine n) (i_bin (fun x y => x ||| y) (i_pI 5 9 (i_ldA 0 (i_cV 5 0 (FX5_advance n) (i_rV)))))))))
set_option maxRecDepth 20000 in
theorem okX5_takeSort_0 {E : mE} {X : State → Heap → Prop} {l : Launch} (hX : mXok E X) (n : Nat) : Sd E X l yX5_takeSort cX5_takeSort 1 none 2 0 0 0 0 0 (kX5_takeSort_0 n) := s_aload_n dX5_takeSort_0 rfl (s_dup dX5_takeSort_1 (s_gI dX5_takeSort_2 lFX5_48 (by decide) (s_aload_n dX5_takeSort_5 rfl (s_cV dX5_takeSort_6 lMX5_191 bVX5_sortOfLine rfl (CtX5_sortOfLine hX n) (Nat.le_of_ble_eq_true rfl) (s_ior dX5_takeSort_9 (s_pI dX5_takeSort_10 lFX5_48 (s_aload_n dX5_takeSort_13 rfl (s_cV dX5_takeSort_14 lMX5_57 bVX5_advance rfl (CtX5_advance hX n) (Nat.le_of_ble_eq_true rfl) (s_rV dX5_takeSort_17 (Nat.le_of_ble_eq_true rfl) (Nat.le_of_ble_eq_true rfl)) (Nat.le_of_ble_eq_true rfl) (Nat.le_of_ble_eq_true rfl))))) (Nat.le_of_ble_eq_true rfl) (Nat.le_of_ble_eq_true rfl)))))
def FX5_takeSort (n : Nat) : List Value → mM → Option mR := mfn 1 (kX5_takeSort_0 n)
theorem CtX5_takeSort {E : mE} {X : State → Heap → Prop} {l : Launch} (hX : mXok E X) (n : Nat) : Ct E X l yX5_takeSort cX5_takeSort 1 none 2 0 0 (FX5_takeSort n) := Ct_of (by decide) hX (okX5_takeSort_0 hX n)
theorem dX7_rests_0 : decode cX7_rests 0 = .ok (.aload_n 0, 1) := by decide +kernel
theorem dX7_rests_1 : decode cX7_rests 1 = .ok (.iload_n 1, 1) := by decide +kernel
theorem dX7_rests_2 : decode cX7_rests 2 = .ok (.iload_n 2, 1) := by decide +kernel
theorem dX7_rests_3 : decode cX7_rests 3 = .ok (.invokevirtual 16, 3) := by decide +kernel
theorem dX7_rests_6 : decode cX7_rests 6 = .ok (.istore_n 3, 1) := by decide +kernel
theorem dX7_rests_7 : decode cX7_rests 7 = .ok (.aload_n 0, 1) := by decide +kernel
theorem dX7_rests_8 : decode cX7_rests 8 = .ok (.iload_n 1, 1) := by decide +kernel
theorem dX7_rests_9 : decode cX7_rests 9 = .ok (.iload_n 2, 1) := by decide +kernel
theorem dX7_rests_10 : decode cX7_rests 10 = .ok (.invokevirtual 20, 3) := by decide +kernel
theorem dX7_rests_13 : decode cX7_rests 13 = .ok (.istore 4, 2) := by decide +kernel
theorem dX7_rests_15 : decode cX7_rests 15 = .ok (.iconst 0, 1) := by decide +kernel
theorem dX7_rests_16 : decode cX7_rests 16 = .ok (.istore 5, 2) := by decide +kernel
theorem dX7_rests_18 : decode cX7_rests 18 = .ok (.iload 5, 2) := by decide +kernel
theorem dX7_rests_20 : decode cX7_rests 20 = .ok (.bipush 10, 2) := by decide +kernel
theorem dX7_rests_22 : decode cX7_rests 22 = .ok (.if_icmp .ge 34, 3) := by decide +kernel
theorem dX7_rests_25 : decode cX7_rests 25 = .ok (.aload_n 0, 1) := by decide +kernel
theorem dX7_rests_26 : decode cX7_rests 26 = .ok (.iload 5, 2) := by decide +kernel
theorem dX7_rests_28 : decode cX7_rests 28 = .ok (.iload_n 2, 1) := by decide +kernel
theorem dX7_rests_29 : decode cX7_rests 29 = .ok (.invokevirtual 16, 3) := by decide +kernel
theorem dX7_rests_32 : decode cX7_rests 32 = .ok (.iload_n 3, 1) := by decide +kernel
theorem dX7_rests_33 : decode cX7_rests 33 = .ok (.if_icmp .gt 15, 3) := by decide +kernel
theorem dX7_rests_36 : decode cX7_rests 36 = .ok (.aload_n 0, 1) := by decide +kernel
theorem dX7_rests_37 : decode cX7_rests 37 = .ok (.iload_n 1, 1) := by decide +kernel
theorem dX7_rests_38 : decode cX7_rests 38 = .ok (.iload 5, 2) := by decide +kernel
theorem dX7_rests_40 : decode cX7_rests 40 = .ok (.invokevirtual 20, 3) := by decide +kernel
theorem dX7_rests_43 : decode cX7_rests 43 = .ok (.iload 4, 2) := by decide +kernel
theorem dX7_rests_45 : decode cX7_rests 45 = .ok (.if_icmp .le 5, 3) := by decide +kernel
theorem dX7_rests_48 : decode cX7_rests 48 = .ok (.iconst 0, 1) := by decide +kernel
theorem dX7_rests_49 : decode cX7_rests 49 = .ok (.ireturn, 1) := by decide +kernel
theorem dX7_rests_50 : decode cX7_rests 50 = .ok (.iinc 5 1, 3) := by decide +kernel
theorem dX7_rests_53 : decode cX7_rests 53 = .ok (.goto (-35), 3) := by decide +kernel
theorem dX7_rests_56 : decode cX7_rests 56 = .ok (.iconst 1, 1) := by decide +kernel
theorem dX7_rests_57 : decode cX7_rests 57 = .ok (.ireturn, 1) := by decide +kernel
def kX7_rests_48 (n : Nat) : mK := i_cst (.int (0)) (i_rZ)
set_option maxRecDepth 20000 in
theorem okX7_rests_48 {E : mE} {X : State → Heap → Prop} {l : Launch} (hX : mXok E X) (n : Nat) : Sd E X l yX7_rests cX7_rests 6 (some .boolean) 2 0 0 0 0 48 (kX7_rests_48 n) := s_iconst dX7_rests_48 (by decide) (s_rZ dX7_rests_49 (Nat.le_of_ble_eq_true rfl) (Nat.le_of_ble_eq_true rfl))
def kX7_rests_18 (n : Nat) (r18 : mK) : mK := i_ldI 5 (i_cst (.int (10)) (i_c2 (fun x y => decide (y ≤ x)) (i_cst (.int (1)) (i_rZ)) (i_ldA 0 (i_ldI 5 (i_ldI 2 (i_cV 7 2 (FX7_gain n) (i_ldI 3 (i_c2 (fun x y => decide (y < x)) (kX7_rests_48 n) (i_ldA 0 (i_ldI 1 (i_ldI 5 (i_cV 7 2 (FX7_otherGain n) (i_ldI 4 (i_c2 (fun x y => decide (x ≤ y)) (i_inc 5 (1) (r18)) (kX7_rests_48 n)))))))))))))))
set_option maxRecDepth 20000 in
theorem okX7_rests_18 {E : mE} {X : State → Heap → Prop} {l : Launch} (hX : mXok E X) (n : Nat) {r18 : mK} (h18 : Sd E X l yX7_rests cX7_rests 6 (some .boolean) 2 0 0 0 0 18 r18) : Sd E X l yX7_rests cX7_rests 6 (some .boolean) 2 0 0 0 0 18 (kX7_rests_18 n r18) := s_iload dX7_rests_18 (s_bipush dX7_rests_20 (by decide) (s_icge dX7_rests_22 (by decide) (s_iconst dX7_rests_56 (by decide) (s_rZ dX7_rests_57 (Nat.le_of_ble_eq_true rfl) (Nat.le_of_ble_eq_true rfl))) (s_aload_n dX7_rests_25 rfl (s_iload dX7_rests_26 (s_iload_n dX7_rests_28 rfl (s_cV dX7_rests_29 lMX7_16 bVX7_gain rfl (CtX7_gain hX n) (Nat.le_of_ble_eq_true rfl) (s_iload_n dX7_rests_32 rfl (s_icgt dX7_rests_33 (by decide) (okX7_rests_48 hX n) (s_aload_n dX7_rests_36 rfl (s_iload_n dX7_rests_37 rfl (s_iload dX7_rests_38 (s_cV dX7_rests_40 lMX7_20 bVX7_otherGain rfl (CtX7_otherGain hX n) (Nat.le_of_ble_eq_true rfl) (s_iload dX7_rests_43 (s_icle dX7_rests_45 (by decide) (s_iinc dX7_rests_50 (by decide) (s_goto dX7_rests_53 (by decide) h18)) (okX7_rests_48 hX n))) (Nat.le_of_ble_eq_true rfl) (Nat.le_of_ble_eq_true rfl))))))) (Nat.le_of_ble_eq_true rfl) (Nat.le_of_ble_eq_true rfl)))))))
def kX7_rests_0 (n : Nat) : mK := i_ldA 0 (i_ldI 1 (i_ldI 2 (i_cV 7 2 (FX7_gain n) (i_stI 3 (i_ldA 0 (i_ldI 1 (i_ldI 2 (i_cV 7 2 (FX7_otherGain n) (i_stI 4 (i_cst (.int (0)) (i_stI 5 (mit (kX7_rests_18 n ) n))))))))))))
set_option maxRecDepth 20000 in
theorem okX7_rests_0 {E : mE} {X : State → Heap → Prop} {l : Launch} (hX : mXok E X) (n : Nat) : Sd E X l yX7_rests cX7_rests 6 (some .boolean) 2 0 0 0 0 0 (kX7_rests_0 n) := s_aload_n dX7_rests_0 rfl (s_iload_n dX7_rests_1 rfl (s_iload_n dX7_rests_2 rfl (s_cV dX7_rests_3 lMX7_16 bVX7_gain rfl (CtX7_gain hX n) (Nat.le_of_ble_eq_true rfl) (s_istore_n dX7_rests_6 rfl (s_aload_n dX7_rests_7 rfl (s_iload_n dX7_rests_8 rfl (s_iload_n dX7_rests_9 rfl (s_cV dX7_rests_10 lMX7_20 bVX7_otherGain rfl (CtX7_otherGain hX n) (Nat.le_of_ble_eq_true rfl) (s_istore dX7_rests_13 (s_iconst dX7_rests_15 (by decide) (s_istore dX7_rests_16 (s_mit (fun _ hk => okX7_rests_18 hX n hk) n)))) (Nat.le_of_ble_eq_true rfl) (Nat.le_of_ble_eq_true rfl)))))) (Nat.le_of_ble_eq_true rfl) (Nat.le_of_ble_eq_true rfl))))
def FX7_rests (n : Nat) : List Value → mM → Option mR := mfn 6 (kX7_rests_0 n)
theorem CtX7_rests {E : mE} {X : State → Heap → Prop} {l : Launch} (hX : mXok E X) (n : Nat) : Ct E X l yX7_rests cX7_rests 6 (some .boolean) 2 0 0 (FX7_rests n) := Ct_of (by decide) hX (okX7_rests_0 hX n)
theorem dX8_copyFrom_0 : decode cX8_copyFrom 0 = .ok (.aload_n 1, 1) := by decide +kernel
theorem dX8_copyFrom_1 : decode cX8_copyFrom 1 = .ok (.getfield 9, 3) := by decide +kernel
theorem dX8_copyFrom_4 : decode cX8_copyFrom 4 = .ok (.aload_n 0, 1) := by decide +kernel
theorem dX8_copyFrom_5 : decode cX8_copyFrom 5 = .ok (.getfield 9, 3) := by decide +kernel
theorem dX8_copyFrom_8 : decode cX8_copyFrom 8 = .ok (.invokestatic 31, 3) := by decide +kernel
theorem dX8_copyFrom_11 : decode cX8_copyFrom 11 = .ok (.aload_n 1, 1) := by decide +kernel
theorem dX8_copyFrom_12 : decode cX8_copyFrom 12 = .ok (.getfield 15, 3) := by decide +kernel
theorem dX8_copyFrom_15 : decode cX8_copyFrom 15 = .ok (.aload_n 0, 1) := by decide +kernel
theorem dX8_copyFrom_16 : decode cX8_copyFrom 16 = .ok (.getfield 15, 3) := by decide +kernel
theorem dX8_copyFrom_19 : decode cX8_copyFrom 19 = .ok (.invokestatic 31, 3) := by decide +kernel
theorem dX8_copyFrom_22 : decode cX8_copyFrom 22 = .ok (.aload_n 1, 1) := by decide +kernel
theorem dX8_copyFrom_23 : decode cX8_copyFrom 23 = .ok (.getfield 18, 3) := by decide +kernel
theorem dX8_copyFrom_26 : decode cX8_copyFrom 26 = .ok (.aload_n 0, 1) := by decide +kernel
theorem dX8_copyFrom_27 : decode cX8_copyFrom 27 = .ok (.getfield 18, 3) := by decide +kernel
theorem dX8_copyFrom_30 : decode cX8_copyFrom 30 = .ok (.invokestatic 31, 3) := by decide +kernel
theorem dX8_copyFrom_33 : decode cX8_copyFrom 33 = .ok (.aload_n 1, 1) := by decide +kernel
theorem dX8_copyFrom_34 : decode cX8_copyFrom 34 = .ok (.getfield 21, 3) := by decide +kernel
theorem dX8_copyFrom_37 : decode cX8_copyFrom 37 = .ok (.aload_n 0, 1) := by decide +kernel
theorem dX8_copyFrom_38 : decode cX8_copyFrom 38 = .ok (.getfield 21, 3) := by decide +kernel
theorem dX8_copyFrom_41 : decode cX8_copyFrom 41 = .ok (.invokestatic 31, 3) := by decide +kernel
theorem dX8_copyFrom_44 : decode cX8_copyFrom 44 = .ok (.aload_n 0, 1) := by decide +kernel
theorem dX8_copyFrom_45 : decode cX8_copyFrom 45 = .ok (.aload_n 1, 1) := by decide +kernel
theorem dX8_copyFrom_46 : decode cX8_copyFrom 46 = .ok (.getfield 38, 3) := by decide +kernel
theorem dX8_copyFrom_49 : decode cX8_copyFrom 49 = .ok (.putfield 38, 3) := by decide +kernel
theorem dX8_copyFrom_52 : decode cX8_copyFrom 52 = .ok (.aload_n 0, 1) := by decide +kernel
theorem dX8_copyFrom_53 : decode cX8_copyFrom 53 = .ok (.aload_n 1, 1) := by decide +kernel
theorem dX8_copyFrom_54 : decode cX8_copyFrom 54 = .ok (.getfield 45, 3) := by decide +kernel
theorem dX8_copyFrom_57 : decode cX8_copyFrom 57 = .ok (.putfield 45, 3) := by decide +kernel
theorem dX8_copyFrom_60 : decode cX8_copyFrom 60 = .ok (.return_, 1) := by decide +kernel
def kX8_copyFrom_52 (n : Nat) : mK := i_ldA 0 (i_ldA 1 (i_gI 8 6 (i_pI 8 6 (i_rV))))
set_option maxRecDepth 20000 in
theorem okX8_copyFrom_52 {E : mE} {X : State → Heap → Prop} {l : Launch} (hX : mXok E X) (n : Nat) : Sd E X l yX8_copyFrom cX8_copyFrom 2 none 2 0 0 0 0 52 (kX8_copyFrom_52 n) := s_aload_n dX8_copyFrom_52 rfl (s_aload_n dX8_copyFrom_53 rfl (s_gI dX8_copyFrom_54 lFX8_45 (by decide) (s_pI dX8_copyFrom_57 lFX8_45 (s_rV dX8_copyFrom_60 (Nat.le_of_ble_eq_true rfl) (Nat.le_of_ble_eq_true rfl)))))
def kX8_copyFrom_0 (n : Nat) : mK := i_ldA 1 (i_gA 8 1 (i_ldA 0 (i_gA 8 1 (i_cS 2 (FX11_copyRow n) (i_ldA 1 (i_gA 8 2 (i_ldA 0 (i_gA 8 2 (i_cS 2 (FX11_copyRow n) (i_ldA 1 (i_gA 8 3 (i_ldA 0 (i_gA 8 3 (i_cS 2 (FX11_copyRow n) (i_ldA 1 (i_gA 8 4 (i_ldA 0 (i_gA 8 4 (i_cS 2 (FX11_copyRow n) (i_ldA 0 (i_ldA 1 (i_gI 8 5 (i_pI 8 5 (kX8_copyFrom_52 n))))))))))))))))))))))))
set_option maxRecDepth 20000 in
theorem okX8_copyFrom_0 {E : mE} {X : State → Heap → Prop} {l : Launch} (hX : mXok E X) (n : Nat) : Sd E X l yX8_copyFrom cX8_copyFrom 2 none 2 0 0 0 0 0 (kX8_copyFrom_0 n) := s_aload_n dX8_copyFrom_0 rfl (s_gA dX8_copyFrom_1 lFX8_9 (s_aload_n dX8_copyFrom_4 rfl (s_gA dX8_copyFrom_5 lFX8_9 (s_cN dX8_copyFrom_8 lNX8_31 bSX11_copyRow (CtX11_copyRow hX n) (Nat.le_of_ble_eq_true rfl) (s_aload_n dX8_copyFrom_11 rfl (s_gA dX8_copyFrom_12 lFX8_15 (s_aload_n dX8_copyFrom_15 rfl (s_gA dX8_copyFrom_16 lFX8_15 (s_cN dX8_copyFrom_19 lNX8_31 bSX11_copyRow (CtX11_copyRow hX n) (Nat.le_of_ble_eq_true rfl) (s_aload_n dX8_copyFrom_22 rfl (s_gA dX8_copyFrom_23 lFX8_18 (s_aload_n dX8_copyFrom_26 rfl (s_gA dX8_copyFrom_27 lFX8_18 (s_cN dX8_copyFrom_30 lNX8_31 bSX11_copyRow (CtX11_copyRow hX n) (Nat.le_of_ble_eq_true rfl) (s_aload_n dX8_copyFrom_33 rfl (s_gA dX8_copyFrom_34 lFX8_21 (s_aload_n dX8_copyFrom_37 rfl (s_gA dX8_copyFrom_38 lFX8_21 (s_cN dX8_copyFrom_41 lNX8_31 bSX11_copyRow (CtX11_copyRow hX n) (Nat.le_of_ble_eq_true rfl) (s_aload_n dX8_copyFrom_44 rfl (s_aload_n dX8_copyFrom_45 rfl (s_gI dX8_copyFrom_46 lFX8_38 (by decide) (s_pI dX8_copyFrom_49 lFX8_38 (okX8_copyFrom_52 hX n))))) (Nat.le_of_ble_eq_true rfl) (Nat.le_of_ble_eq_true rfl)))))) (Nat.le_of_ble_eq_true rfl) (Nat.le_of_ble_eq_true rfl)))))) (Nat.le_of_ble_eq_true rfl) (Nat.le_of_ble_eq_true rfl)))))) (Nat.le_of_ble_eq_true rfl) (Nat.le_of_ble_eq_true rfl)))))
def FX8_copyFrom (n : Nat) : List Value → mM → Option mR := mfn 2 (kX8_copyFrom_0 n)
theorem CtX8_copyFrom {E : mE} {X : State → Heap → Prop} {l : Launch} (hX : mXok E X) (n : Nat) : Ct E X l yX8_copyFrom cX8_copyFrom 2 none 2 0 0 (FX8_copyFrom n) := Ct_of (by decide) hX (okX8_copyFrom_0 hX n)
theorem dX8_isIn_0 : decode cX8_isIn 0 = .ok (.aload_n 0, 1) := by decide +kernel
theorem dX8_isIn_1 : decode cX8_isIn 1 = .ok (.getfield 24, 3) := by decide +kernel
theorem dX8_isIn_4 : decode cX8_isIn 4 = .ok (.iload_n 1, 1) := by decide +kernel
theorem dX8_isIn_5 : decode cX8_isIn 5 = .ok (.invokevirtual 56, 3) := by decide +kernel
theorem dX8_isIn_8 : decode cX8_isIn 8 = .ok (.ifCond .eq 19, 3) := by decide +kernel
theorem dX8_isIn_11 : decode cX8_isIn 11 = .ok (.aload_n 0, 1) := by decide +kernel
theorem dX8_isIn_12 : decode cX8_isIn 12 = .ok (.getfield 9, 3) := by decide +kernel
theorem dX8_isIn_15 : decode cX8_isIn 15 = .ok (.iload_n 1, 1) := by decide +kernel
theorem dX8_isIn_16 : decode cX8_isIn 16 = .ok (.invokestatic 48, 3) := by decide +kernel
theorem dX8_isIn_19 : decode cX8_isIn 19 = .ok (.iconst (-1), 1) := by decide +kernel
theorem dX8_isIn_20 : decode cX8_isIn 20 = .ok (.if_icmp .eq 7, 3) := by decide +kernel
theorem dX8_isIn_23 : decode cX8_isIn 23 = .ok (.iconst 1, 1) := by decide +kernel
theorem dX8_isIn_24 : decode cX8_isIn 24 = .ok (.goto 4, 3) := by decide +kernel
theorem dX8_isIn_27 : decode cX8_isIn 27 = .ok (.iconst 0, 1) := by decide +kernel
theorem dX8_isIn_28 : decode cX8_isIn 28 = .ok (.ireturn, 1) := by decide +kernel
def kX8_isIn_28 (n : Nat) : mK := i_rZ
set_option maxRecDepth 20000 in
theorem okX8_isIn_28 {E : mE} {X : State → Heap → Prop} {l : Launch} (hX : mXok E X) (n : Nat) : Sd E X l yX8_isIn cX8_isIn 2 (some .boolean) 2 0 0 0 0 28 (kX8_isIn_28 n) := s_rZ dX8_isIn_28 (Nat.le_of_ble_eq_true rfl) (Nat.le_of_ble_eq_true rfl)
def kX8_isIn_27 (n : Nat) : mK := i_cst (.int (0)) (kX8_isIn_28 n)
set_option maxRecDepth 20000 in
theorem okX8_isIn_27 {E : mE} {X : State → Heap → Prop} {l : Launch} (hX : mXok E X) (n : Nat) : Sd E X l yX8_isIn cX8_isIn 2 (some .boolean) 2 0 0 0 0 27 (kX8_isIn_27 n) := s_iconst dX8_isIn_27 (by decide) (okX8_isIn_28 hX n)
def kX8_isIn_0 (n : Nat) : mK := i_ldA 0 (i_gA 8 0 (i_ldI 1 (i_cV 4 1 (FX4_hasCar n) (i_c0 (fun x => decide (x = 0)) (kX8_isIn_27 n) (i_ldA 0 (i_gA 8 1 (i_ldI 1 (i_cS 2 (FX11_at n) (i_cst (.int (-1)) (i_c2 (fun x y => decide (x = y)) (kX8_isIn_27 n) (i_cst (.int (1)) ((kX8_isIn_28 n)))))))))))))
set_option maxRecDepth 20000 in
theorem okX8_isIn_0 {E : mE} {X : State → Heap → Prop} {l : Launch} (hX : mXok E X) (n : Nat) : Sd E X l yX8_isIn cX8_isIn 2 (some .boolean) 2 0 0 0 0 0 (kX8_isIn_0 n) := s_aload_n dX8_isIn_0 rfl (s_gA dX8_isIn_1 lFX8_24 (s_iload_n dX8_isIn_4 rfl (s_cV dX8_isIn_5 lMX8_56 bVX4_hasCar rfl (CtX4_hasCar hX n) (Nat.le_of_ble_eq_true rfl) (s_ifeq dX8_isIn_8 (by decide) (okX8_isIn_27 hX n) (s_aload_n dX8_isIn_11 rfl (s_gA dX8_isIn_12 lFX8_9 (s_iload_n dX8_isIn_15 rfl (s_cN dX8_isIn_16 lNX8_48 bSX11_at (CtX11_at hX n) (Nat.le_of_ble_eq_true rfl) (s_iconst dX8_isIn_19 (by decide) (s_iceq dX8_isIn_20 (by decide) (okX8_isIn_27 hX n) (s_iconst dX8_isIn_23 (by decide) (s_goto dX8_isIn_24 (by decide) (okX8_isIn_28 hX n))))) (Nat.le_of_ble_eq_true rfl) (Nat.le_of_ble_eq_true rfl)))))) (Nat.le_of_ble_eq_true rfl) (Nat.le_of_ble_eq_true rfl))))
def FX8_isIn (n : Nat) : List Value → mM → Option mR := mfn 2 (kX8_isIn_0 n)
theorem CtX8_isIn {E : mE} {X : State → Heap → Prop} {l : Launch} (hX : mXok E X) (n : Nat) : Ct E X l yX8_isIn cX8_isIn 2 (some .boolean) 2 0 0 (FX8_isIn n) := Ct_of (by decide) hX (okX8_isIn_0 hX n)
theorem dX8_lay_0 : decode cX8_lay 0 = .ok (.aload_n 0, 1) := by decide +kernel
theorem dX8_lay_1 : decode cX8_lay 1 = .ok (.getfield 24, 3) := by decide +kernel
theorem dX8_lay_4 : decode cX8_lay 4 = .ok (.getfield 28, 3) := by decide +kernel
theorem dX8_lay_7 : decode cX8_lay 7 = .ok (.aload_n 0, 1) := by decide +kernel
theorem dX8_lay_8 : decode cX8_lay 8 = .ok (.getfield 9, 3) := by decide +kernel
theorem dX8_lay_11 : decode cX8_lay 11 = .ok (.invokestatic 31, 3) := by decide +kernel
theorem dX8_lay_14 : decode cX8_lay 14 = .ok (.aload_n 0, 1) := by decide +kernel
theorem dX8_lay_15 : decode cX8_lay 15 = .ok (.getfield 24, 3) := by decide +kernel
theorem dX8_lay_18 : decode cX8_lay 18 = .ok (.getfield 35, 3) := by decide +kernel
theorem dX8_lay_21 : decode cX8_lay 21 = .ok (.aload_n 0, 1) := by decide +kernel
theorem dX8_lay_22 : decode cX8_lay 22 = .ok (.getfield 15, 3) := by decide +kernel
theorem dX8_lay_25 : decode cX8_lay 25 = .ok (.invokestatic 31, 3) := by decide +kernel
theorem dX8_lay_28 : decode cX8_lay 28 = .ok (.aload_n 0, 1) := by decide +kernel
theorem dX8_lay_29 : decode cX8_lay 29 = .ok (.getfield 24, 3) := by decide +kernel
theorem dX8_lay_32 : decode cX8_lay 32 = .ok (.getfield 36, 3) := by decide +kernel
theorem dX8_lay_35 : decode cX8_lay 35 = .ok (.aload_n 0, 1) := by decide +kernel
theorem dX8_lay_36 : decode cX8_lay 36 = .ok (.getfield 18, 3) := by decide +kernel
theorem dX8_lay_39 : decode cX8_lay 39 = .ok (.invokestatic 31, 3) := by decide +kernel
theorem dX8_lay_42 : decode cX8_lay 42 = .ok (.aload_n 0, 1) := by decide +kernel
theorem dX8_lay_43 : decode cX8_lay 43 = .ok (.getfield 24, 3) := by decide +kernel
theorem dX8_lay_46 : decode cX8_lay 46 = .ok (.getfield 37, 3) := by decide +kernel
theorem dX8_lay_49 : decode cX8_lay 49 = .ok (.aload_n 0, 1) := by decide +kernel
theorem dX8_lay_50 : decode cX8_lay 50 = .ok (.getfield 21, 3) := by decide +kernel
theorem dX8_lay_53 : decode cX8_lay 53 = .ok (.invokestatic 31, 3) := by decide +kernel
theorem dX8_lay_56 : decode cX8_lay 56 = .ok (.aload_n 0, 1) := by decide +kernel
theorem dX8_lay_57 : decode cX8_lay 57 = .ok (.iconst 0, 1) := by decide +kernel
theorem dX8_lay_58 : decode cX8_lay 58 = .ok (.putfield 38, 3) := by decide +kernel
theorem dX8_lay_61 : decode cX8_lay 61 = .ok (.aload_n 0, 1) := by decide +kernel
theorem dX8_lay_62 : decode cX8_lay 62 = .ok (.aload_n 0, 1) := by decide +kernel
theorem dX8_lay_63 : decode cX8_lay 63 = .ok (.getfield 24, 3) := by decide +kernel
theorem dX8_lay_66 : decode cX8_lay 66 = .ok (.getfield 42, 3) := by decide +kernel
theorem dX8_lay_69 : decode cX8_lay 69 = .ok (.putfield 45, 3) := by decide +kernel
theorem dX8_lay_72 : decode cX8_lay 72 = .ok (.return_, 1) := by decide +kernel
def kX8_lay_56 (n : Nat) : mK := i_ldA 0 (i_cst (.int (0)) (i_pI 8 5 (i_ldA 0 (i_ldA 0 (i_gA 8 0 (i_gI 4 4 (i_pI 8 6 (i_rV))))))))
set_option maxRecDepth 20000 in
theorem okX8_lay_56 {E : mE} {X : State → Heap → Prop} {l : Launch} (hX : mXok E X) (n : Nat) : Sd E X l yX8_lay cX8_lay 1 none 2 0 0 0 0 56 (kX8_lay_56 n) := s_aload_n dX8_lay_56 rfl (s_iconst dX8_lay_57 (by decide) (s_pI dX8_lay_58 lFX8_38 (s_aload_n dX8_lay_61 rfl (s_aload_n dX8_lay_62 rfl (s_gA dX8_lay_63 lFX8_24 (s_gI dX8_lay_66 lFX8_42 (by decide) (s_pI dX8_lay_69 lFX8_45 (s_rV dX8_lay_72 (Nat.le_of_ble_eq_true rfl) (Nat.le_of_ble_eq_true rfl)))))))))
def kX8_lay_0 (n : Nat) : mK := i_ldA 0 (i_gA 8 0 (i_gA 4 6 (i_ldA 0 (i_gA 8 1 (i_cS 2 (FX11_copyRow n) (i_ldA 0 (i_gA 8 0 (i_gA 4 7 (i_ldA 0 (i_gA 8 2 (i_cS 2 (FX11_copyRow n) (i_ldA 0 (i_gA 8 0 (i_gA 4 8 (i_ldA 0 (i_gA 8 3 (i_cS 2 (FX11_copyRow n) (i_ldA 0 (i_gA 8 0 (i_gA 4 9 (i_ldA 0 (i_gA 8 4 (i_cS 2 (FX11_copyRow n) (kX8_lay_56 n))))))))))))))))))))))))
set_option maxRecDepth 20000 in
theorem okX8_lay_0 {E : mE} {X : State → Heap → Prop} {l : Launch} (hX : mXok E X) (n : Nat) : Sd E X l yX8_lay cX8_lay 1 none 2 0 0 0 0 0 (kX8_lay_0 n) := s_aload_n dX8_lay_0 rfl (s_gA dX8_lay_1 lFX8_24 (s_gA dX8_lay_4 lFX8_28 (s_aload_n dX8_lay_7 rfl (s_gA dX8_lay_8 lFX8_9 (s_cN dX8_lay_11 lNX8_31 bSX11_copyRow (CtX11_copyRow hX n) (Nat.le_of_ble_eq_true rfl) (s_aload_n dX8_lay_14 rfl (s_gA dX8_lay_15 lFX8_24 (s_gA dX8_lay_18 lFX8_35 (s_aload_n dX8_lay_21 rfl (s_gA dX8_lay_22 lFX8_15 (s_cN dX8_lay_25 lNX8_31 bSX11_copyRow (CtX11_copyRow hX n) (Nat.le_of_ble_eq_true rfl) (s_aload_n dX8_lay_28 rfl (s_gA dX8_lay_29 lFX8_24 (s_gA dX8_lay_32 lFX8_36 (s_aload_n dX8_lay_35 rfl (s_gA dX8_lay_36 lFX8_18 (s_cN dX8_lay_39 lNX8_31 bSX11_copyRow (CtX11_copyRow hX n) (Nat.le_of_ble_eq_true rfl) (s_aload_n dX8_lay_42 rfl (s_gA dX8_lay_43 lFX8_24 (s_gA dX8_lay_46 lFX8_37 (s_aload_n dX8_lay_49 rfl (s_gA dX8_lay_50 lFX8_21 (s_cN dX8_lay_53 lNX8_31 bSX11_copyRow (CtX11_copyRow hX n) (Nat.le_of_ble_eq_true rfl) (okX8_lay_56 hX n) (Nat.le_of_ble_eq_true rfl) (Nat.le_of_ble_eq_true rfl))))))) (Nat.le_of_ble_eq_true rfl) (Nat.le_of_ble_eq_true rfl))))))) (Nat.le_of_ble_eq_true rfl) (Nat.le_of_ble_eq_true rfl))))))) (Nat.le_of_ble_eq_true rfl) (Nat.le_of_ble_eq_true rfl))))))
def FX8_lay (n : Nat) : List Value → mM → Option mR := mfn 1 (kX8_lay_0 n)
theorem CtX8_lay {E : mE} {X : State → Heap → Prop} {l : Launch} (hX : mXok E X) (n : Nat) : Ct E X l yX8_lay cX8_lay 1 none 2 0 0 (FX8_lay n) := Ct_of (by decide) hX (okX8_lay_0 hX n)
theorem dX8_load_0 : decode cX8_load 0 = .ok (.iconst 0, 1) := by decide +kernel
theorem dX8_load_1 : decode cX8_load 1 = .ok (.istore_n 3, 1) := by decide +kernel
theorem dX8_load_2 : decode cX8_load 2 = .ok (.iload_n 3, 1) := by decide +kernel
theorem dX8_load_3 : decode cX8_load 3 = .ok (.bipush 8, 2) := by decide +kernel
theorem dX8_load_5 : decode cX8_load 5 = .ok (.if_icmp .ge 78, 3) := by decide +kernel
theorem dX8_load_8 : decode cX8_load 8 = .ok (.iload_n 2, 1) := by decide +kernel
theorem dX8_load_9 : decode cX8_load 9 = .ok (.iconst 4, 1) := by decide +kernel
theorem dX8_load_10 : decode cX8_load 10 = .ok (.iload_n 3, 1) := by decide +kernel
theorem dX8_load_11 : decode cX8_load 11 = .ok (.imul, 1) := by decide +kernel
theorem dX8_load_12 : decode cX8_load 12 = .ok (.iadd, 1) := by decide +kernel
theorem dX8_load_13 : decode cX8_load 13 = .ok (.istore 4, 2) := by decide +kernel
theorem dX8_load_15 : decode cX8_load 15 = .ok (.aload_n 0, 1) := by decide +kernel
theorem dX8_load_16 : decode cX8_load 16 = .ok (.getfield 9, 3) := by decide +kernel
theorem dX8_load_19 : decode cX8_load 19 = .ok (.iload_n 3, 1) := by decide +kernel
theorem dX8_load_20 : decode cX8_load 20 = .ok (.aload_n 1, 1) := by decide +kernel
theorem dX8_load_21 : decode cX8_load 21 = .ok (.iload 4, 2) := by decide +kernel
theorem dX8_load_23 : decode cX8_load 23 = .ok (.invokestatic 48, 3) := by decide +kernel
theorem dX8_load_26 : decode cX8_load 26 = .ok (.invokestatic 52, 3) := by decide +kernel
theorem dX8_load_29 : decode cX8_load 29 = .ok (.aload_n 0, 1) := by decide +kernel
theorem dX8_load_30 : decode cX8_load 30 = .ok (.getfield 15, 3) := by decide +kernel
theorem dX8_load_33 : decode cX8_load 33 = .ok (.iload_n 3, 1) := by decide +kernel
theorem dX8_load_34 : decode cX8_load 34 = .ok (.aload_n 1, 1) := by decide +kernel
theorem dX8_load_35 : decode cX8_load 35 = .ok (.iload 4, 2) := by decide +kernel
theorem dX8_load_37 : decode cX8_load 37 = .ok (.iconst 1, 1) := by decide +kernel
theorem dX8_load_38 : decode cX8_load 38 = .ok (.iadd, 1) := by decide +kernel
theorem dX8_load_39 : decode cX8_load 39 = .ok (.invokestatic 48, 3) := by decide +kernel
theorem dX8_load_42 : decode cX8_load 42 = .ok (.invokestatic 52, 3) := by decide +kernel
theorem dX8_load_45 : decode cX8_load 45 = .ok (.aload_n 0, 1) := by decide +kernel
theorem dX8_load_46 : decode cX8_load 46 = .ok (.getfield 18, 3) := by decide +kernel
theorem dX8_load_49 : decode cX8_load 49 = .ok (.iload_n 3, 1) := by decide +kernel
theorem dX8_load_50 : decode cX8_load 50 = .ok (.aload_n 1, 1) := by decide +kernel
theorem dX8_load_51 : decode cX8_load 51 = .ok (.iload 4, 2) := by decide +kernel
theorem dX8_load_53 : decode cX8_load 53 = .ok (.iconst 2, 1) := by decide +kernel
theorem dX8_load_54 : decode cX8_load 54 = .ok (.iadd, 1) := by decide +kernel
theorem dX8_load_55 : decode cX8_load 55 = .ok (.invokestatic 48, 3) := by decide +kernel
theorem dX8_load_58 : decode cX8_load 58 = .ok (.invokestatic 52, 3) := by decide +kernel
theorem dX8_load_61 : decode cX8_load 61 = .ok (.aload_n 0, 1) := by decide +kernel
theorem dX8_load_62 : decode cX8_load 62 = .ok (.getfield 21, 3) := by decide +kernel
theorem dX8_load_65 : decode cX8_load 65 = .ok (.iload_n 3, 1) := by decide +kernel
theorem dX8_load_66 : decode cX8_load 66 = .ok (.aload_n 1, 1) := by decide +kernel
theorem dX8_load_67 : decode cX8_load 67 = .ok (.iload 4, 2) := by decide +kernel
theorem dX8_load_69 : decode cX8_load 69 = .ok (.iconst 3, 1) := by decide +kernel
theorem dX8_load_70 : decode cX8_load 70 = .ok (.iadd, 1) := by decide +kernel
theorem dX8_load_71 : decode cX8_load 71 = .ok (.invokestatic 48, 3) := by decide +kernel
theorem dX8_load_74 : decode cX8_load 74 = .ok (.invokestatic 52, 3) := by decide +kernel
theorem dX8_load_77 : decode cX8_load 77 = .ok (.iinc 3 1, 3) := by decide +kernel
theorem dX8_load_80 : decode cX8_load 80 = .ok (.goto (-78), 3) := by decide +kernel
theorem dX8_load_83 : decode cX8_load 83 = .ok (.aload_n 0, 1) := by decide +kernel
theorem dX8_load_84 : decode cX8_load 84 = .ok (.aload_n 1, 1) := by decide +kernel
theorem dX8_load_85 : decode cX8_load 85 = .ok (.iload_n 2, 1) := by decide +kernel
theorem dX8_load_86 : decode cX8_load 86 = .ok (.bipush 32, 2) := by decide +kernel
theorem dX8_load_88 : decode cX8_load 88 = .ok (.iadd, 1) := by decide +kernel
theorem dX8_load_89 : decode cX8_load 89 = .ok (.invokestatic 48, 3) := by decide +kernel
theorem dX8_load_92 : decode cX8_load 92 = .ok (.putfield 38, 3) := by decide +kernel
theorem dX8_load_95 : decode cX8_load 95 = .ok (.aload_n 0, 1) := by decide +kernel
theorem dX8_load_96 : decode cX8_load 96 = .ok (.aload_n 1, 1) := by decide +kernel
theorem dX8_load_97 : decode cX8_load 97 = .ok (.iload_n 2, 1) := by decide +kernel
theorem dX8_load_98 : decode cX8_load 98 = .ok (.bipush 32, 2) := by decide +kernel
theorem dX8_load_100 : decode cX8_load 100 = .ok (.iadd, 1) := by decide +kernel
theorem dX8_load_101 : decode cX8_load 101 = .ok (.iconst 1, 1) := by decide +kernel
theorem dX8_load_102 : decode cX8_load 102 = .ok (.iadd, 1) := by decide +kernel
theorem dX8_load_103 : decode cX8_load 103 = .ok (.invokestatic 48, 3) := by decide +kernel
theorem dX8_load_106 : decode cX8_load 106 = .ok (.putfield 45, 3) := by decide +kernel
theorem dX8_load_109 : decode cX8_load 109 = .ok (.return_, 1) := by decide +kernel
def kX8_load_42 (n : Nat) (r2 : mK) : mK := i_cS 3 (FX11_set n) (i_ldA 0 (i_gA 8 3 (i_ldI 3 (i_ldA 1 (i_ldI 4 (i_cst (.int (2)) (i_bin (fun x y => x + y) (i_cS 2 (FX11_at n) (i_cS 3 (FX11_set n) (i_ldA 0 (i_gA 8 4 (i_ldI 3 (i_ldA 1 (i_ldI 4 (i_cst (.int (3)) (i_bin (fun x y => x + y) (i_cS 2 (FX11_at n) (i_cS 3 (FX11_set n) (i_inc 3 (1) (r2))))))))))))))))))))
set_option maxRecDepth 20000 in
theorem okX8_load_42 {E : mE} {X : State → Heap → Prop} {l : Launch} (hX : mXok E X) (n : Nat) {r2 : mK} (h2 : Sd E X l yX8_load cX8_load 5 none 2 0 0 0 0 2 r2) : Sd E X l yX8_load cX8_load 5 none 2 0 0 0 0 42 (kX8_load_42 n r2) := s_cN dX8_load_42 lNX8_52 bSX11_set (CtX11_set hX n) (Nat.le_of_ble_eq_true rfl) (s_aload_n dX8_load_45 rfl (s_gA dX8_load_46 lFX8_18 (s_iload_n dX8_load_49 rfl (s_aload_n dX8_load_50 rfl (s_iload dX8_load_51 (s_iconst dX8_load_53 (by decide) (s_iadd dX8_load_54 (s_cN dX8_load_55 lNX8_48 bSX11_at (CtX11_at hX n) (Nat.le_of_ble_eq_true rfl) (s_cN dX8_load_58 lNX8_52 bSX11_set (CtX11_set hX n) (Nat.le_of_ble_eq_true rfl) (s_aload_n dX8_load_61 rfl (s_gA dX8_load_62 lFX8_21 (s_iload_n dX8_load_65 rfl (s_aload_n dX8_load_66 rfl (s_iload dX8_load_67 (s_iconst dX8_load_69 (by decide) (s_iadd dX8_load_70 (s_cN dX8_load_71 lNX8_48 bSX11_at (CtX11_at hX n) (Nat.le_of_ble_eq_true rfl) (s_cN dX8_load_74 lNX8_52 bSX11_set (CtX11_set hX n) (Nat.le_of_ble_eq_true rfl) (s_iinc dX8_load_77 (by decide) (s_goto dX8_load_80 (by decide) h2)) (Nat.le_of_ble_eq_true rfl) (Nat.le_of_ble_eq_true rfl)) (Nat.le_of_ble_eq_true rfl) (Nat.le_of_ble_eq_true rfl))))))))) (Nat.le_of_ble_eq_true rfl) (Nat.le_of_ble_eq_true rfl)) (Nat.le_of_ble_eq_true rfl) (Nat.le_of_ble_eq_true rfl))))))))) (Nat.le_of_ble_eq_true rfl) (Nat.le_of_ble_eq_true rfl)
def kX8_load_2 (n : Nat) (r2 : mK) : mK := i_ldI 3 (i_cst (.int (8)) (i_c2 (fun x y => decide (y ≤ x)) (i_ldA 0 (i_ldA 1 (i_ldI 2 (i_cst (.int (32)) (i_bin (fun x y => x + y) (i_cS 2 (FX11_at n) (i_pI 8 5 (i_ldA 0 (i_ldA 1 (i_ldI 2 (i_cst (.int (32)) (i_bin (fun x y => x + y) (i_cst (.int (1)) (i_bin (fun x y => x + y) (i_cS 2 (FX11_at n) (i_pI 8 6 (i_rV))))))))))))))))) (i_ldI 2 (i_cst (.int (4)) (i_ldI 3 (i_bin (fun x y => x * y) (i_bin (fun x y => x + y) (i_stI 4 (i_ldA 0 (i_gA 8 1 (i_ldI 3 (i_ldA 1 (i_ldI 4 (i_cS 2 (FX11_at n) (i_cS 3 (FX11_set n) (i_ldA 0 (i_gA 8 2 (i_ldI 3 (i_ldA 1 (i_ldI 4 (i_cst (.int (1)) (i_bin (fun x y => x + y) (i_cS 2 (FX11_at n) (kX8_load_42 n r2))))))))))))))))))))))))
set_option maxRecDepth 20000 in
theorem okX8_load_2 {E : mE} {X : State → Heap → Prop} {l : Launch} (hX : mXok E X) (n : Nat) {r2 : mK} (h2 : Sd E X l yX8_load cX8_load 5 none 2 0 0 0 0 2 r2) : Sd E X l yX8_load cX8_load 5 none 2 0 0 0 0 2 (kX8_load_2 n r2) := s_iload_n dX8_load_2 rfl (s_bipush dX8_load_3 (by decide) (s_icge dX8_load_5 (by decide) (s_aload_n dX8_load_83 rfl (s_aload_n dX8_load_84 rfl (s_iload_n dX8_load_85 rfl (s_bipush dX8_load_86 (by decide) (s_iadd dX8_load_88 (s_cN dX8_load_89 lNX8_48 bSX11_at (CtX11_at hX n) (Nat.le_of_ble_eq_true rfl) (s_pI dX8_load_92 lFX8_38 (s_aload_n dX8_load_95 rfl (s_aload_n dX8_load_96 rfl (s_iload_n dX8_load_97 rfl (s_bipush dX8_load_98 (by decide) (s_iadd dX8_load_100 (s_iconst dX8_load_101 (by decide) (s_iadd dX8_load_102 (s_cN dX8_load_103 lNX8_48 bSX11_at (CtX11_at hX n) (Nat.le_of_ble_eq_true rfl) (s_pI dX8_load_106 lFX8_45 (s_rV dX8_load_109 (Nat.le_of_ble_eq_true rfl) (Nat.le_of_ble_eq_true rfl))) (Nat.le_of_ble_eq_true rfl) (Nat.le_of_ble_eq_true rfl)))))))))) (Nat.le_of_ble_eq_true rfl) (Nat.le_of_ble_eq_true rfl))))))) (s_iload_n dX8_load_8 rfl (s_iconst dX8_load_9 (by decide) (s_iload_n dX8_load_10 rfl (s_imul dX8_load_11 (s_iadd dX8_load_12 (s_istore dX8_load_13 (s_aload_n dX8_load_15 rfl (s_gA dX8_load_16 lFX8_9 (s_iload_n dX8_load_19 rfl (s_aload_n dX8_load_20 rfl (s_iload dX8_load_21 (s_cN dX8_load_23 lNX8_48 bSX11_at (CtX11_at hX n) (Nat.le_of_ble_eq_true rfl) (s_cN dX8_load_26 lNX8_52 bSX11_set (CtX11_set hX n) (Nat.le_of_ble_eq_true rfl) (s_aload_n dX8_load_29 rfl (s_gA dX8_load_30 lFX8_15 (s_iload_n dX8_load_33 rfl (s_aload_n dX8_load_34 rfl (s_iload dX8_load_35 (s_iconst dX8_load_37 (by decide) (s_iadd dX8_load_38 (s_cN dX8_load_39 lNX8_48 bSX11_at (CtX11_at hX n) (Nat.le_of_ble_eq_true rfl) (okX8_load_42 hX n h2) (Nat.le_of_ble_eq_true rfl) (Nat.le_of_ble_eq_true rfl))))))))) (Nat.le_of_ble_eq_true rfl) (Nat.le_of_ble_eq_true rfl)) (Nat.le_of_ble_eq_true rfl) (Nat.le_of_ble_eq_true rfl)))))))))))))))
def kX8_load_0 (n : Nat) : mK := i_cst (.int (0)) (i_stI 3 (mit (kX8_load_2 n ) n))
set_option maxRecDepth 20000 in
theorem okX8_load_0 {E : mE} {X : State → Heap → Prop} {l : Launch} (hX : mXok E X) (n : Nat) : Sd E X l yX8_load cX8_load 5 none 2 0 0 0 0 0 (kX8_load_0 n) := s_iconst dX8_load_0 (by decide) (s_istore_n dX8_load_1 rfl (s_mit (fun _ hk => okX8_load_2 hX n hk) n))
def FX8_load (n : Nat) : List Value → mM → Option mR := mfn 5 (kX8_load_0 n)
theorem CtX8_load {E : mE} {X : State → Heap → Prop} {l : Launch} (hX : mXok E X) (n : Nat) : Ct E X l yX8_load cX8_load 5 none 2 0 0 (FX8_load n) := Ct_of (by decide) hX (okX8_load_0 hX n)
