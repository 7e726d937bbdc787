theorem dX1_variable_0 : decode cX1_variable 0 = .ok (.iload_n 0, 1) := by decide +kernel
theorem dX1_variable_1 : decode cX1_variable 1 = .ok (.tableswitch 40 29 32 #[31, 33, 35, 37], 31) := by decide +kernel
theorem dX1_variable_32 : decode cX1_variable 32 = .ok (.iload_n 1, 1) := by decide +kernel
theorem dX1_variable_33 : decode cX1_variable 33 = .ok (.ireturn, 1) := by decide +kernel
theorem dX1_variable_34 : decode cX1_variable 34 = .ok (.iload_n 2, 1) := by decide +kernel
theorem dX1_variable_35 : decode cX1_variable 35 = .ok (.ireturn, 1) := by decide +kernel
theorem dX1_variable_36 : decode cX1_variable 36 = .ok (.iload_n 3, 1) := by decide +kernel
theorem dX1_variable_37 : decode cX1_variable 37 = .ok (.ireturn, 1) := by decide +kernel
theorem dX1_variable_38 : decode cX1_variable 38 = .ok (.iload 4, 2) := by decide +kernel
theorem dX1_variable_40 : decode cX1_variable 40 = .ok (.ireturn, 1) := by decide +kernel
theorem dX1_variable_41 : decode cX1_variable 41 = .ok (.iload 5, 2) := by decide +kernel
theorem dX1_variable_43 : decode cX1_variable 43 = .ok (.ireturn, 1) := by decide +kernel
def kX1_variable_0 (n : Nat) : mK := i_ldI 0 (i_sw [(29, (i_ldI 1 (i_rI))), (30, (i_ldI 2 (i_rI))), (31, (i_ldI 3 (i_rI))), (32, (i_ldI 4 (i_rI)))] (i_ldI 5 (i_rI)))
set_option maxRecDepth 20000 in
theorem okX1_variable_0 {E : mE} {X : State → Heap → Prop} {l : Launch} (hX : mXok E X) (n : Nat) : Sd E X l yX1_variable cX1_variable 6 (some .int) 1 0 0 0 0 0 (kX1_variable_0 n) := s_iload_n dX1_variable_0 rfl (s_tsw dX1_variable_1 (by decide) (s_iload dX1_variable_41 (s_rI dX1_variable_43 (Nat.le_of_ble_eq_true rfl) (Nat.le_of_ble_eq_true rfl))) (by decide) (tsw_c (by decide) (by decide) (s_iload_n dX1_variable_32 rfl (s_rI dX1_variable_33 (Nat.le_of_ble_eq_true rfl) (Nat.le_of_ble_eq_true rfl))) (tsw_c (by decide) (by decide) (s_iload_n dX1_variable_34 rfl (s_rI dX1_variable_35 (Nat.le_of_ble_eq_true rfl) (Nat.le_of_ble_eq_true rfl))) (tsw_c (by decide) (by decide) (s_iload_n dX1_variable_36 rfl (s_rI dX1_variable_37 (Nat.le_of_ble_eq_true rfl) (Nat.le_of_ble_eq_true rfl))) (tsw_c (by decide) (by decide) (s_iload dX1_variable_38 (s_rI dX1_variable_40 (Nat.le_of_ble_eq_true rfl) (Nat.le_of_ble_eq_true rfl))) tsw_n)))))
def FX1_variable (n : Nat) : List Value → mM → Option mR := mfn 6 (kX1_variable_0 n)
theorem CtX1_variable {E : mE} {X : State → Heap → Prop} {l : Launch} (hX : mXok E X) (n : Nat) : Ct E X l yX1_variable cX1_variable 6 (some .int) 1 0 0 (FX1_variable n) := Ct_of (by decide) hX (okX1_variable_0 hX n)
theorem dX2_forget_0 : decode cX2_forget 0 = .ok (.aload_n 0, 1) := by decide +kernel
theorem dX2_forget_1 : decode cX2_forget 1 = .ok (.iconst 0, 1) := by decide +kernel
theorem dX2_forget_2 : decode cX2_forget 2 = .ok (.putfield 38, 3) := by decide +kernel
theorem dX2_forget_5 : decode cX2_forget 5 = .ok (.aload_n 0, 1) := by decide +kernel
theorem dX2_forget_6 : decode cX2_forget 6 = .ok (.iconst 0, 1) := by decide +kernel
theorem dX2_forget_7 : decode cX2_forget 7 = .ok (.putfield 42, 3) := by decide +kernel
theorem dX2_forget_10 : decode cX2_forget 10 = .ok (.return_, 1) := by decide +kernel
def kX2_forget_0 (n : Nat) : mK := i_ldA 0 (i_cst (.int (0)) (i_pI 2 6 (i_ldA 0 (i_cst (.int (0)) (i_pZ 2 9 (i_rV))))))
set_option maxRecDepth 20000 in
theorem okX2_forget_0 {E : mE} {X : State → Heap → Prop} {l : Launch} (hX : mXok E X) (n : Nat) : Sd E X l yX2_forget cX2_forget 1 none 1 0 0 0 0 0 (kX2_forget_0 n) := s_aload_n dX2_forget_0 rfl (s_iconst dX2_forget_1 (by decide) (s_pI dX2_forget_2 lFX2_38 (s_aload_n dX2_forget_5 rfl (s_iconst dX2_forget_6 (by decide) (s_pZ dX2_forget_7 lFX2_42 (s_rV dX2_forget_10 (Nat.le_of_ble_eq_true rfl) (Nat.le_of_ble_eq_true rfl)))))))
def FX2_forget (n : Nat) : List Value → mM → Option mR := mfn 1 (kX2_forget_0 n)
theorem CtX2_forget {E : mE} {X : State → Heap → Prop} {l : Launch} (hX : mXok E X) (n : Nat) : Ct E X l yX2_forget cX2_forget 1 none 1 0 0 (FX2_forget n) := Ct_of (by decide) hX (okX2_forget_0 hX n)
theorem dX2_goOn_0 : decode cX2_goOn 0 = .ok (.iload_n 1, 1) := by decide +kernel
theorem dX2_goOn_1 : decode cX2_goOn 1 = .ok (.ifCond .lt 21, 3) := by decide +kernel
theorem dX2_goOn_4 : decode cX2_goOn 4 = .ok (.iload_n 1, 1) := by decide +kernel
theorem dX2_goOn_5 : decode cX2_goOn 5 = .ok (.sipush 1000, 3) := by decide +kernel
theorem dX2_goOn_8 : decode cX2_goOn 8 = .ok (.if_icmp .gt 14, 3) := by decide +kernel
theorem dX2_goOn_11 : decode cX2_goOn 11 = .ok (.aload_n 0, 1) := by decide +kernel
theorem dX2_goOn_12 : decode cX2_goOn 12 = .ok (.getfield 53, 3) := by decide +kernel
theorem dX2_goOn_15 : decode cX2_goOn 15 = .ok (.iload_n 1, 1) := by decide +kernel
theorem dX2_goOn_16 : decode cX2_goOn 16 = .ok (.iadd, 1) := by decide +kernel
theorem dX2_goOn_17 : decode cX2_goOn 17 = .ok (.ldc 60, 2) := by decide +kernel
theorem dX2_goOn_19 : decode cX2_goOn 19 = .ok (.if_icmp .le 5, 3) := by decide +kernel
theorem dX2_goOn_22 : decode cX2_goOn 22 = .ok (.iconst (-1), 1) := by decide +kernel
theorem dX2_goOn_23 : decode cX2_goOn 23 = .ok (.ireturn, 1) := by decide +kernel
theorem dX2_goOn_24 : decode cX2_goOn 24 = .ok (.aload_n 0, 1) := by decide +kernel
theorem dX2_goOn_25 : decode cX2_goOn 25 = .ok (.dup, 1) := by decide +kernel
theorem dX2_goOn_26 : decode cX2_goOn 26 = .ok (.getfield 53, 3) := by decide +kernel
theorem dX2_goOn_29 : decode cX2_goOn 29 = .ok (.iload_n 1, 1) := by decide +kernel
theorem dX2_goOn_30 : decode cX2_goOn 30 = .ok (.iadd, 1) := by decide +kernel
theorem dX2_goOn_31 : decode cX2_goOn 31 = .ok (.putfield 53, 3) := by decide +kernel
theorem dX2_goOn_34 : decode cX2_goOn 34 = .ok (.aload_n 0, 1) := by decide +kernel
theorem dX2_goOn_35 : decode cX2_goOn 35 = .ok (.getfield 53, 3) := by decide +kernel
theorem dX2_goOn_38 : decode cX2_goOn 38 = .ok (.ireturn, 1) := by decide +kernel
def kX2_goOn_22 (n : Nat) : mK := i_cst (.int (-1)) (i_rI)
set_option maxRecDepth 20000 in
theorem okX2_goOn_22 {E : mE} {X : State → Heap → Prop} {l : Launch} (hX : mXok E X) (n : Nat) : Sd E X l yX2_goOn cX2_goOn 2 (some .int) 1 0 0 0 0 22 (kX2_goOn_22 n) := s_iconst dX2_goOn_22 (by decide) (s_rI dX2_goOn_23 (Nat.le_of_ble_eq_true rfl) (Nat.le_of_ble_eq_true rfl))
def kX2_goOn_0 (n : Nat) : mK := i_ldI 1 (i_c0 (fun x => decide (x < 0)) (kX2_goOn_22 n) (i_ldI 1 (i_cst (.int (1000)) (i_c2 (fun x y => decide (y < x)) (kX2_goOn_22 n) (i_ldA 0 (i_gI 2 7 (i_ldI 1 (i_bin (fun x y => x + y) (i_cst (.int (100000)) (i_c2 (fun x y => decide (x ≤ y)) (i_ldA 0 (i_dup (i_gI 2 7 (i_ldI 1 (i_bin (fun x y => x + y) (i_pI 2 7 (i_ldA 0 (i_gI 2 7 (i_rI))))))))) (kX2_goOn_22 n)))))))))))
set_option maxRecDepth 20000 in
theorem okX2_goOn_0 {E : mE} {X : State → Heap → Prop} {l : Launch} (hX : mXok E X) (n : Nat) : Sd E X l yX2_goOn cX2_goOn 2 (some .int) 1 0 0 0 0 0 (kX2_goOn_0 n) := s_iload_n dX2_goOn_0 rfl (s_iflt dX2_goOn_1 (by decide) (okX2_goOn_22 hX n) (s_iload_n dX2_goOn_4 rfl (s_sipush dX2_goOn_5 (by decide) (s_icgt dX2_goOn_8 (by decide) (okX2_goOn_22 hX n) (s_aload_n dX2_goOn_11 rfl (s_gI dX2_goOn_12 lFX2_53 (by decide) (s_iload_n dX2_goOn_15 rfl (s_iadd dX2_goOn_16 (s_ldc dX2_goOn_17 lCX2_60 (s_icle dX2_goOn_19 (by decide) (s_aload_n dX2_goOn_24 rfl (s_dup dX2_goOn_25 (s_gI dX2_goOn_26 lFX2_53 (by decide) (s_iload_n dX2_goOn_29 rfl (s_iadd dX2_goOn_30 (s_pI dX2_goOn_31 lFX2_53 (s_aload_n dX2_goOn_34 rfl (s_gI dX2_goOn_35 lFX2_53 (by decide) (s_rI dX2_goOn_38 (Nat.le_of_ble_eq_true rfl) (Nat.le_of_ble_eq_true rfl)))))))))) (okX2_goOn_22 hX n)))))))))))
def FX2_goOn (n : Nat) : List Value → mM → Option mR := mfn 2 (kX2_goOn_0 n)
theorem CtX2_goOn {E : mE} {X : State → Heap → Prop} {l : Launch} (hX : mXok E X) (n : Nat) : Ct E X l yX2_goOn cX2_goOn 2 (some .int) 1 0 0 (FX2_goOn n) := Ct_of (by decide) hX (okX2_goOn_0 hX n)
theorem dX2_init_0 : decode cX2_init 0 = .ok (.aload_n 0, 1) := by decide +kernel
theorem dX2_init_1 : decode cX2_init 1 = .ok (.invokespecial 3, 3) := by decide +kernel
theorem dX2_init_4 : decode cX2_init 4 = .ok (.aload_n 0, 1) := by decide +kernel
theorem dX2_init_5 : decode cX2_init 5 = .ok (.bipush 30, 2) := by decide +kernel
theorem dX2_init_7 : decode cX2_init 7 = .ok (.newarray .int, 2) := by decide +kernel
theorem dX2_init_9 : decode cX2_init 9 = .ok (.putfield 11, 3) := by decide +kernel
theorem dX2_init_12 : decode cX2_init 12 = .ok (.aload_n 0, 1) := by decide +kernel
theorem dX2_init_13 : decode cX2_init 13 = .ok (.bipush 30, 2) := by decide +kernel
theorem dX2_init_15 : decode cX2_init 15 = .ok (.newarray .int, 2) := by decide +kernel
theorem dX2_init_17 : decode cX2_init 17 = .ok (.putfield 15, 3) := by decide +kernel
theorem dX2_init_20 : decode cX2_init 20 = .ok (.aload_n 0, 1) := by decide +kernel
theorem dX2_init_21 : decode cX2_init 21 = .ok (.bipush 30, 2) := by decide +kernel
theorem dX2_init_23 : decode cX2_init 23 = .ok (.newarray .boolean, 2) := by decide +kernel
theorem dX2_init_25 : decode cX2_init 25 = .ok (.putfield 18, 3) := by decide +kernel
theorem dX2_init_28 : decode cX2_init 28 = .ok (.aload_n 0, 1) := by decide +kernel
theorem dX2_init_29 : decode cX2_init 29 = .ok (.bipush 30, 2) := by decide +kernel
theorem dX2_init_31 : decode cX2_init 31 = .ok (.newarray .int, 2) := by decide +kernel
theorem dX2_init_33 : decode cX2_init 33 = .ok (.putfield 22, 3) := by decide +kernel
theorem dX2_init_36 : decode cX2_init 36 = .ok (.aload_n 0, 1) := by decide +kernel
theorem dX2_init_37 : decode cX2_init 37 = .ok (.bipush 30, 2) := by decide +kernel
theorem dX2_init_39 : decode cX2_init 39 = .ok (.newarray .int, 2) := by decide +kernel
theorem dX2_init_41 : decode cX2_init 41 = .ok (.putfield 25, 3) := by decide +kernel
theorem dX2_init_44 : decode cX2_init 44 = .ok (.aload_n 0, 1) := by decide +kernel
theorem dX2_init_45 : decode cX2_init 45 = .ok (.sipush 2100, 3) := by decide +kernel
theorem dX2_init_48 : decode cX2_init 48 = .ok (.newarray .int, 2) := by decide +kernel
theorem dX2_init_50 : decode cX2_init 50 = .ok (.putfield 28, 3) := by decide +kernel
theorem dX2_init_53 : decode cX2_init 53 = .ok (.aload_n 0, 1) := by decide +kernel
theorem dX2_init_54 : decode cX2_init 54 = .ok (.bipush 100, 2) := by decide +kernel
theorem dX2_init_56 : decode cX2_init 56 = .ok (.newarray .int, 2) := by decide +kernel
theorem dX2_init_58 : decode cX2_init 58 = .ok (.putfield 31, 3) := by decide +kernel
theorem dX2_init_61 : decode cX2_init 61 = .ok (.aload_n 0, 1) := by decide +kernel
theorem dX2_init_62 : decode cX2_init 62 = .ok (.aload_n 1, 1) := by decide +kernel
theorem dX2_init_63 : decode cX2_init 63 = .ok (.putfield 34, 3) := by decide +kernel
theorem dX2_init_66 : decode cX2_init 66 = .ok (.return_, 1) := by decide +kernel
def kX2_init_48 (n : Nat) : mK := i_na 0 2100 (i_pA 2 8 (i_ldA 0 (i_cst (.int (100)) (i_na 0 100 (i_pA 2 10 (i_ldA 0 (i_ldA 1 (i_pA 2 0 (i_rV)))))))))
set_option maxRecDepth 20000 in
theorem okX2_init_48 {E : mE} {X : State → Heap → Prop} {l : Launch} (hX : mXok E X) (n : Nat) : Sd E X l yX2_init cX2_init 2 none 1 7 2350 5 150 48 (kX2_init_48 n) := s_na dX2_init_48 rfl (by decide) lA_0 (Nat.le_of_ble_eq_true rfl) (Nat.le_of_ble_eq_true rfl) (Nat.le_of_ble_eq_true rfl) (s_pF dX2_init_50 lFX2_28 rfl rfl (s_aload_n dX2_init_53 rfl (s_bipush dX2_init_54 (by decide) (s_na dX2_init_56 rfl (by decide) lA_0 (Nat.le_of_ble_eq_true rfl) (Nat.le_of_ble_eq_true rfl) (Nat.le_of_ble_eq_true rfl) (s_pF dX2_init_58 lFX2_31 rfl rfl (s_aload_n dX2_init_61 rfl (s_aload_n dX2_init_62 rfl (s_pF dX2_init_63 lFX2_34 rfl rfl (s_rV dX2_init_66 (Nat.le_of_ble_eq_true rfl) (Nat.le_of_ble_eq_true rfl))))))))))
def kX2_init_0 (n : Nat) : mK := i_ldA 0 (i_obj (i_ldA 0 (i_cst (.int (30)) (i_na 0 30 (i_pA 2 1 (i_ldA 0 (i_cst (.int (30)) (i_na 0 30 (i_pA 2 2 (i_ldA 0 (i_cst (.int (30)) (i_na 2 30 (i_pA 2 3 (i_ldA 0 (i_cst (.int (30)) (i_na 0 30 (i_pA 2 4 (i_ldA 0 (i_cst (.int (30)) (i_na 0 30 (i_pA 2 5 (i_ldA 0 (i_cst (.int (2100)) (kX2_init_48 n))))))))))))))))))))))))
set_option maxRecDepth 20000 in
theorem okX2_init_0 {E : mE} {X : State → Heap → Prop} {l : Launch} (hX : mXok E X) (n : Nat) : Sd E X l yX2_init cX2_init 2 none 1 7 2350 0 0 0 (kX2_init_0 n) := s_aload_n dX2_init_0 rfl (s_obj dX2_init_1 lMX2_3 lObj1 lObj2 (Nat.le_of_ble_eq_true rfl) (s_aload_n dX2_init_4 rfl (s_bipush dX2_init_5 (by decide) (s_na dX2_init_7 rfl (by decide) lA_0 (Nat.le_of_ble_eq_true rfl) (Nat.le_of_ble_eq_true rfl) (Nat.le_of_ble_eq_true rfl) (s_pF dX2_init_9 lFX2_11 rfl rfl (s_aload_n dX2_init_12 rfl (s_bipush dX2_init_13 (by decide) (s_na dX2_init_15 rfl (by decide) lA_0 (Nat.le_of_ble_eq_true rfl) (Nat.le_of_ble_eq_true rfl) (Nat.le_of_ble_eq_true rfl) (s_pF dX2_init_17 lFX2_15 rfl rfl (s_aload_n dX2_init_20 rfl (s_bipush dX2_init_21 (by decide) (s_na dX2_init_23 rfl (by decide) lA_2 (Nat.le_of_ble_eq_true rfl) (Nat.le_of_ble_eq_true rfl) (Nat.le_of_ble_eq_true rfl) (s_pF dX2_init_25 lFX2_18 rfl rfl (s_aload_n dX2_init_28 rfl (s_bipush dX2_init_29 (by decide) (s_na dX2_init_31 rfl (by decide) lA_0 (Nat.le_of_ble_eq_true rfl) (Nat.le_of_ble_eq_true rfl) (Nat.le_of_ble_eq_true rfl) (s_pF dX2_init_33 lFX2_22 rfl rfl (s_aload_n dX2_init_36 rfl (s_bipush dX2_init_37 (by decide) (s_na dX2_init_39 rfl (by decide) lA_0 (Nat.le_of_ble_eq_true rfl) (Nat.le_of_ble_eq_true rfl) (Nat.le_of_ble_eq_true rfl) (s_pF dX2_init_41 lFX2_25 rfl rfl (s_aload_n dX2_init_44 rfl (s_sipush dX2_init_45 (by decide) (okX2_init_48 hX n))))))))))))))))))))))))
def FX2_init (n : Nat) : List Value → mM → Option mR := mfn 2 (kX2_init_0 n)
theorem CtX2_init {E : mE} {X : State → Heap → Prop} {l : Launch} (hX : mXok E X) (n : Nat) : Ct E X l yX2_init cX2_init 2 none 1 7 2350 (FX2_init n) := Ct_of (by decide) hX (okX2_init_0 hX n)
theorem dX3_dropOldest_0 : decode cX3_dropOldest 0 = .ok (.iconst 0, 1) := by decide +kernel
theorem dX3_dropOldest_1 : decode cX3_dropOldest 1 = .ok (.istore_n 1, 1) := by decide +kernel
theorem dX3_dropOldest_2 : decode cX3_dropOldest 2 = .ok (.iload_n 1, 1) := by decide +kernel
theorem dX3_dropOldest_3 : decode cX3_dropOldest 3 = .ok (.bipush 34, 2) := by decide +kernel
theorem dX3_dropOldest_5 : decode cX3_dropOldest 5 = .ok (.iadd, 1) := by decide +kernel
theorem dX3_dropOldest_6 : decode cX3_dropOldest 6 = .ok (.aload_n 0, 1) := by decide +kernel
theorem dX3_dropOldest_7 : decode cX3_dropOldest 7 = .ok (.getfield 11, 3) := by decide +kernel
theorem dX3_dropOldest_10 : decode cX3_dropOldest 10 = .ok (.arraylength, 1) := by decide +kernel
theorem dX3_dropOldest_11 : decode cX3_dropOldest 11 = .ok (.if_icmp .ge 24, 3) := by decide +kernel
theorem dX3_dropOldest_14 : decode cX3_dropOldest 14 = .ok (.aload_n 0, 1) := by decide +kernel
theorem dX3_dropOldest_15 : decode cX3_dropOldest 15 = .ok (.getfield 11, 3) := by decide +kernel
theorem dX3_dropOldest_18 : decode cX3_dropOldest 18 = .ok (.iload_n 1, 1) := by decide +kernel
theorem dX3_dropOldest_19 : decode cX3_dropOldest 19 = .ok (.aload_n 0, 1) := by decide +kernel
theorem dX3_dropOldest_20 : decode cX3_dropOldest 20 = .ok (.getfield 11, 3) := by decide +kernel
theorem dX3_dropOldest_23 : decode cX3_dropOldest 23 = .ok (.iload_n 1, 1) := by decide +kernel
theorem dX3_dropOldest_24 : decode cX3_dropOldest 24 = .ok (.bipush 34, 2) := by decide +kernel
theorem dX3_dropOldest_26 : decode cX3_dropOldest 26 = .ok (.iadd, 1) := by decide +kernel
theorem dX3_dropOldest_27 : decode cX3_dropOldest 27 = .ok (.iaload, 1) := by decide +kernel
theorem dX3_dropOldest_28 : decode cX3_dropOldest 28 = .ok (.iastore, 1) := by decide +kernel
theorem dX3_dropOldest_29 : decode cX3_dropOldest 29 = .ok (.iinc 1 1, 3) := by decide +kernel
theorem dX3_dropOldest_32 : decode cX3_dropOldest 32 = .ok (.goto (-30), 3) := by decide +kernel
theorem dX3_dropOldest_35 : decode cX3_dropOldest 35 = .ok (.aload_n 0, 1) := by decide +kernel
theorem dX3_dropOldest_36 : decode cX3_dropOldest 36 = .ok (.dup, 1) := by decide +kernel
theorem dX3_dropOldest_37 : decode cX3_dropOldest 37 = .ok (.getfield 19, 3) := by decide +kernel
theorem dX3_dropOldest_40 : decode cX3_dropOldest 40 = .ok (.iconst 1, 1) := by decide +kernel
theorem dX3_dropOldest_41 : decode cX3_dropOldest 41 = .ok (.isub, 1) := by decide +kernel
theorem dX3_dropOldest_42 : decode cX3_dropOldest 42 = .ok (.putfield 19, 3) := by decide +kernel
theorem dX3_dropOldest_45 : decode cX3_dropOldest 45 = .ok (.return_, 1) := by decide +kernel
def kX3_dropOldest_2 (n : Nat) (r2 : mK) : mK := i_ldI 1 (i_cst (.int (34)) (i_bin (fun x y => x + y) (i_ldA 0 (i_gA 3 1 (i_len (i_c2 (fun x y => decide (y ≤ x)) (i_ldA 0 (i_dup (i_gI 3 2 (i_cst (.int (1)) (i_bin (fun x y => x - y) (i_pI 3 2 (i_rV))))))) (i_ldA 0 (i_gA 3 1 (i_ldI 1 (i_ldA 0 (i_gA 3 1 (i_ldI 1 (i_cst (.int (34)) (i_bin (fun x y => x + y) (i_al 0 (i_as 0 (i_inc 1 (1) (r2))))))))))))))))))
set_option maxRecDepth 20000 in
theorem okX3_dropOldest_2 {E : mE} {X : State → Heap → Prop} {l : Launch} (hX : mXok E X) (n : Nat) {r2 : mK} (h2 : Sd E X l yX3_dropOldest cX3_dropOldest 2 none 1 0 0 0 0 2 r2) : Sd E X l yX3_dropOldest cX3_dropOldest 2 none 1 0 0 0 0 2 (kX3_dropOldest_2 n r2) := s_iload_n dX3_dropOldest_2 rfl (s_bipush dX3_dropOldest_3 (by decide) (s_iadd dX3_dropOldest_5 (s_aload_n dX3_dropOldest_6 rfl (s_gA dX3_dropOldest_7 lFX3_11 (s_len dX3_dropOldest_10 (s_icge dX3_dropOldest_11 (by decide) (s_aload_n dX3_dropOldest_35 rfl (s_dup dX3_dropOldest_36 (s_gI dX3_dropOldest_37 lFX3_19 (by decide) (s_iconst dX3_dropOldest_40 (by decide) (s_isub dX3_dropOldest_41 (s_pI dX3_dropOldest_42 lFX3_19 (s_rV dX3_dropOldest_45 (Nat.le_of_ble_eq_true rfl) (Nat.le_of_ble_eq_true rfl)))))))) (s_aload_n dX3_dropOldest_14 rfl (s_gA dX3_dropOldest_15 lFX3_11 (s_iload_n dX3_dropOldest_18 rfl (s_aload_n dX3_dropOldest_19 rfl (s_gA dX3_dropOldest_20 lFX3_11 (s_iload_n dX3_dropOldest_23 rfl (s_bipush dX3_dropOldest_24 (by decide) (s_iadd dX3_dropOldest_26 (s_iald dX3_dropOldest_27 (s_iast dX3_dropOldest_28 (s_iinc dX3_dropOldest_29 (by decide) (s_goto dX3_dropOldest_32 (by decide) h2))))))))))))))))))
def kX3_dropOldest_0 (n : Nat) : mK := i_cst (.int (0)) (i_stI 1 (mit (kX3_dropOldest_2 n ) n))
set_option maxRecDepth 20000 in
theorem okX3_dropOldest_0 {E : mE} {X : State → Heap → Prop} {l : Launch} (hX : mXok E X) (n : Nat) : Sd E X l yX3_dropOldest cX3_dropOldest 2 none 1 0 0 0 0 0 (kX3_dropOldest_0 n) := s_iconst dX3_dropOldest_0 (by decide) (s_istore_n dX3_dropOldest_1 rfl (s_mit (fun _ hk => okX3_dropOldest_2 hX n hk) n))
def FX3_dropOldest (n : Nat) : List Value → mM → Option mR := mfn 2 (kX3_dropOldest_0 n)
theorem CtX3_dropOldest {E : mE} {X : State → Heap → Prop} {l : Launch} (hX : mXok E X) (n : Nat) : Ct E X l yX3_dropOldest cX3_dropOldest 2 none 1 0 0 (FX3_dropOldest n) := Ct_of (by decide) hX (okX3_dropOldest_0 hX n)
theorem dX3_init_0 : decode cX3_init 0 = .ok (.aload_n 0, 1) := by decide +kernel
theorem dX3_init_1 : decode cX3_init 1 = .ok (.invokespecial 3, 3) := by decide +kernel
theorem dX3_init_4 : decode cX3_init 4 = .ok (.aload_n 0, 1) := by decide +kernel
theorem dX3_init_5 : decode cX3_init 5 = .ok (.sipush 1394, 3) := by decide +kernel
theorem dX3_init_8 : decode cX3_init 8 = .ok (.newarray .int, 2) := by decide +kernel
theorem dX3_init_10 : decode cX3_init 10 = .ok (.putfield 11, 3) := by decide +kernel
theorem dX3_init_13 : decode cX3_init 13 = .ok (.aload_n 0, 1) := by decide +kernel
theorem dX3_init_14 : decode cX3_init 14 = .ok (.aload_n 1, 1) := by decide +kernel
theorem dX3_init_15 : decode cX3_init 15 = .ok (.putfield 15, 3) := by decide +kernel
theorem dX3_init_18 : decode cX3_init 18 = .ok (.return_, 1) := by decide +kernel
def kX3_init_0 (n : Nat) : mK := i_ldA 0 (i_obj (i_ldA 0 (i_cst (.int (1394)) (i_na 0 1394 (i_pA 3 1 (i_ldA 0 (i_ldA 1 (i_pA 3 0 (i_rV)))))))))
set_option maxRecDepth 20000 in
theorem okX3_init_0 {E : mE} {X : State → Heap → Prop} {l : Launch} (hX : mXok E X) (n : Nat) : Sd E X l yX3_init cX3_init 2 none 1 1 1394 0 0 0 (kX3_init_0 n) := s_aload_n dX3_init_0 rfl (s_obj dX3_init_1 lMX3_3 lObj1 lObj2 (Nat.le_of_ble_eq_true rfl) (s_aload_n dX3_init_4 rfl (s_sipush dX3_init_5 (by decide) (s_na dX3_init_8 rfl (by decide) lA_0 (Nat.le_of_ble_eq_true rfl) (Nat.le_of_ble_eq_true rfl) (Nat.le_of_ble_eq_true rfl) (s_pF dX3_init_10 lFX3_11 rfl rfl (s_aload_n dX3_init_13 rfl (s_aload_n dX3_init_14 rfl (s_pF dX3_init_15 lFX3_15 rfl rfl (s_rV dX3_init_18 (Nat.le_of_ble_eq_true rfl) (Nat.le_of_ble_eq_true rfl))))))))))
def FX3_init (n : Nat) : List Value → mM → Option mR := mfn 2 (kX3_init_0 n)
theorem CtX3_init {E : mE} {X : State → Heap → Prop} {l : Launch} (hX : mXok E X) (n : Nat) : Ct E X l yX3_init cX3_init 2 none 1 1 1394 (FX3_init n) := Ct_of (by decide) hX (okX3_init_0 hX n)
theorem dX4_columnOf_0 : decode cX4_columnOf 0 = .ok (.aload_n 0, 1) := by decide +kernel
theorem dX4_columnOf_1 : decode cX4_columnOf 1 = .ok (.getfield 37, 3) := by decide +kernel
theorem dX4_columnOf_4 : decode cX4_columnOf 4 = .ok (.ifCond .le 12, 3) := by decide +kernel
theorem dX4_columnOf_7 : decode cX4_columnOf 7 = .ok (.iload_n 1, 1) := by decide +kernel
theorem dX4_columnOf_8 : decode cX4_columnOf 8 = .ok (.aload_n 0, 1) := by decide +kernel
theorem dX4_columnOf_9 : decode cX4_columnOf 9 = .ok (.getfield 37, 3) := by decide +kernel
theorem dX4_columnOf_12 : decode cX4_columnOf 12 = .ok (.irem, 1) := by decide +kernel
theorem dX4_columnOf_13 : decode cX4_columnOf 13 = .ok (.goto 4, 3) := by decide +kernel
theorem dX4_columnOf_16 : decode cX4_columnOf 16 = .ok (.iconst 0, 1) := by decide +kernel
theorem dX4_columnOf_17 : decode cX4_columnOf 17 = .ok (.ireturn, 1) := by decide +kernel
def kX4_columnOf_17 (n : Nat) : mK := i_rI
set_option maxRecDepth 20000 in
theorem okX4_columnOf_17 {E : mE} {X : State → Heap → Prop} {l : Launch} (hX : mXok E X) (n : Nat) : Sd E X l yX4_columnOf cX4_columnOf 2 (some .int) 1 0 0 0 0 17 (kX4_columnOf_17 n) := s_rI dX4_columnOf_17 (Nat.le_of_ble_eq_true rfl) (Nat.le_of_ble_eq_true rfl)
def kX4_columnOf_0 (n : Nat) : mK := i_ldA 0 (i_gI 4 0 (i_c0 (fun x => decide (x ≤ 0)) (i_cst (.int (0)) (kX4_columnOf_17 n)) (i_ldI 1 (i_ldA 0 (i_gI 4 0 (i_dv (fun x y => x - x / y * y) ((kX4_columnOf_17 n))))))))
set_option maxRecDepth 20000 in
theorem okX4_columnOf_0 {E : mE} {X : State → Heap → Prop} {l : Launch} (hX : mXok E X) (n : Nat) : Sd E X l yX4_columnOf cX4_columnOf 2 (some .int) 1 0 0 0 0 0 (kX4_columnOf_0 n) := s_aload_n dX4_columnOf_0 rfl (s_gI dX4_columnOf_1 lFX4_37 (by decide) (s_ifle dX4_columnOf_4 (by decide) (s_iconst dX4_columnOf_16 (by decide) (okX4_columnOf_17 hX n)) (s_iload_n dX4_columnOf_7 rfl (s_aload_n dX4_columnOf_8 rfl (s_gI dX4_columnOf_9 lFX4_37 (by decide) (s_irem dX4_columnOf_12 (s_goto dX4_columnOf_13 (by decide) (okX4_columnOf_17 hX n))))))))
def FX4_columnOf (n : Nat) : List Value → mM → Option mR := mfn 2 (kX4_columnOf_0 n)
theorem CtX4_columnOf {E : mE} {X : State → Heap → Prop} {l : Launch} (hX : mXok E X) (n : Nat) : Ct E X l yX4_columnOf cX4_columnOf 2 (some .int) 1 0 0 (FX4_columnOf n) := Ct_of (by decide) hX (okX4_columnOf_0 hX n)
theorem dX4_hasCar_0 : decode cX4_hasCar 0 = .ok (.iload_n 1, 1) := by decide +kernel
theorem dX4_hasCar_1 : decode cX4_hasCar 1 = .ok (.ifCond .lt 15, 3) := by decide +kernel
theorem dX4_hasCar_4 : decode cX4_hasCar 4 = .ok (.iload_n 1, 1) := by decide +kernel
theorem dX4_hasCar_5 : decode cX4_hasCar 5 = .ok (.aload_n 0, 1) := by decide +kernel
theorem dX4_hasCar_6 : decode cX4_hasCar 6 = .ok (.getfield 44, 3) := by decide +kernel
theorem dX4_hasCar_9 : decode cX4_hasCar 9 = .ok (.if_icmp .ge 7, 3) := by decide +kernel
theorem dX4_hasCar_12 : decode cX4_hasCar 12 = .ok (.iconst 1, 1) := by decide +kernel
theorem dX4_hasCar_13 : decode cX4_hasCar 13 = .ok (.goto 4, 3) := by decide +kernel
theorem dX4_hasCar_16 : decode cX4_hasCar 16 = .ok (.iconst 0, 1) := by decide +kernel
theorem dX4_hasCar_17 : decode cX4_hasCar 17 = .ok (.ireturn, 1) := by decide +kernel
def kX4_hasCar_17 (n : Nat) : mK := i_rZ
set_option maxRecDepth 20000 in
theorem okX4_hasCar_17 {E : mE} {X : State → Heap → Prop} {l : Launch} (hX : mXok E X) (n : Nat) : Sd E X l yX4_hasCar cX4_hasCar 2 (some .boolean) 1 0 0 0 0 17 (kX4_hasCar_17 n) := s_rZ dX4_hasCar_17 (Nat.le_of_ble_eq_true rfl) (Nat.le_of_ble_eq_true rfl)
def kX4_hasCar_16 (n : Nat) : mK := i_cst (.int (0)) (kX4_hasCar_17 n)
set_option maxRecDepth 20000 in
theorem okX4_hasCar_16 {E : mE} {X : State → Heap → Prop} {l : Launch} (hX : mXok E X) (n : Nat) : Sd E X l yX4_hasCar cX4_hasCar 2 (some .boolean) 1 0 0 0 0 16 (kX4_hasCar_16 n) := s_iconst dX4_hasCar_16 (by decide) (okX4_hasCar_17 hX n)
def kX4_hasCar_0 (n : Nat) : mK := i_ldI 1 (i_c0 (fun x => decide (x < 0)) (kX4_hasCar_16 n) (i_ldI 1 (i_ldA 0 (i_gI 4 2 (i_c2 (fun x y => decide (y ≤ x)) (kX4_hasCar_16 n) (i_cst (.int (1)) ((kX4_hasCar_17 n))))))))
set_option maxRecDepth 20000 in
theorem okX4_hasCar_0 {E : mE} {X : State → Heap → Prop} {l : Launch} (hX : mXok E X) (n : Nat) : Sd E X l yX4_hasCar cX4_hasCar 2 (some .boolean) 1 0 0 0 0 0 (kX4_hasCar_0 n) := s_iload_n dX4_hasCar_0 rfl (s_iflt dX4_hasCar_1 (by decide) (okX4_hasCar_16 hX n) (s_iload_n dX4_hasCar_4 rfl (s_aload_n dX4_hasCar_5 rfl (s_gI dX4_hasCar_6 lFX4_44 (by decide) (s_icge dX4_hasCar_9 (by decide) (okX4_hasCar_16 hX n) (s_iconst dX4_hasCar_12 (by decide) (s_goto dX4_hasCar_13 (by decide) (okX4_hasCar_17 hX n))))))))
def FX4_hasCar (n : Nat) : List Value → mM → Option mR := mfn 2 (kX4_hasCar_0 n)
theorem CtX4_hasCar {E : mE} {X : State → Heap → Prop} {l : Launch} (hX : mXok E X) (n : Nat) : Ct E X l yX4_hasCar cX4_hasCar 2 (some .boolean) 1 0 0 (FX4_hasCar n) := Ct_of (by decide) hX (okX4_hasCar_0 hX n)
theorem dX4_hasCell_0 : decode cX4_hasCell 0 = .ok (.iload_n 1, 1) := by decide +kernel
theorem dX4_hasCell_1 : decode cX4_hasCell 1 = .ok (.ifCond .lt 20, 3) := by decide +kernel
theorem dX4_hasCell_4 : decode cX4_hasCell 4 = .ok (.iload_n 1, 1) := by decide +kernel
theorem dX4_hasCell_5 : decode cX4_hasCell 5 = .ok (.aload_n 0, 1) := by decide +kernel
theorem dX4_hasCell_6 : decode cX4_hasCell 6 = .ok (.getfield 37, 3) := by decide +kernel
theorem dX4_hasCell_9 : decode cX4_hasCell 9 = .ok (.aload_n 0, 1) := by decide +kernel
theorem dX4_hasCell_10 : decode cX4_hasCell 10 = .ok (.getfield 41, 3) := by decide +kernel
theorem dX4_hasCell_13 : decode cX4_hasCell 13 = .ok (.imul, 1) := by decide +kernel
theorem dX4_hasCell_14 : decode cX4_hasCell 14 = .ok (.if_icmp .ge 7, 3) := by decide +kernel
theorem dX4_hasCell_17 : decode cX4_hasCell 17 = .ok (.iconst 1, 1) := by decide +kernel
theorem dX4_hasCell_18 : decode cX4_hasCell 18 = .ok (.goto 4, 3) := by decide +kernel
theorem dX4_hasCell_21 : decode cX4_hasCell 21 = .ok (.iconst 0, 1) := by decide +kernel
theorem dX4_hasCell_22 : decode cX4_hasCell 22 = .ok (.ireturn, 1) := by decide +kernel
def kX4_hasCell_22 (n : Nat) : mK := i_rZ
set_option maxRecDepth 20000 in
theorem okX4_hasCell_22 {E : mE} {X : State → Heap → Prop} {l : Launch} (hX : mXok E X) (n : Nat) : Sd E X l yX4_hasCell cX4_hasCell 2 (some .boolean) 1 0 0 0 0 22 (kX4_hasCell_22 n) := s_rZ dX4_hasCell_22 (Nat.le_of_ble_eq_true rfl) (Nat.le_of_ble_eq_true rfl)
def kX4_hasCell_21 (n : Nat) : mK := i_cst (.int (0)) (kX4_hasCell_22 n)
set_option maxRecDepth 20000 in
theorem okX4_hasCell_21 {E : mE} {X : State → Heap → Prop} {l : Launch} (hX : mXok E X) (n : Nat) : Sd E X l yX4_hasCell cX4_hasCell 2 (some .boolean) 1 0 0 0 0 21 (kX4_hasCell_21 n) := s_iconst dX4_hasCell_21 (by decide) (okX4_hasCell_22 hX n)
def kX4_hasCell_0 (n : Nat) : mK := i_ldI 1 (i_c0 (fun x => decide (x < 0)) (kX4_hasCell_21 n) (i_ldI 1 (i_ldA 0 (i_gI 4 0 (i_ldA 0 (i_gI 4 1 (i_bin (fun x y => x * y) (i_c2 (fun x y => decide (y ≤ x)) (kX4_hasCell_21 n) (i_cst (.int (1)) ((kX4_hasCell_22 n)))))))))))
set_option maxRecDepth 20000 in
theorem okX4_hasCell_0 {E : mE} {X : State → Heap → Prop} {l : Launch} (hX : mXok E X) (n : Nat) : Sd E X l yX4_hasCell cX4_hasCell 2 (some .boolean) 1 0 0 0 0 0 (kX4_hasCell_0 n) := s_iload_n dX4_hasCell_0 rfl (s_iflt dX4_hasCell_1 (by decide) (okX4_hasCell_21 hX n) (s_iload_n dX4_hasCell_4 rfl (s_aload_n dX4_hasCell_5 rfl (s_gI dX4_hasCell_6 lFX4_37 (by decide) (s_aload_n dX4_hasCell_9 rfl (s_gI dX4_hasCell_10 lFX4_41 (by decide) (s_imul dX4_hasCell_13 (s_icge dX4_hasCell_14 (by decide) (okX4_hasCell_21 hX n) (s_iconst dX4_hasCell_17 (by decide) (s_goto dX4_hasCell_18 (by decide) (okX4_hasCell_22 hX n)))))))))))
def FX4_hasCell (n : Nat) : List Value → mM → Option mR := mfn 2 (kX4_hasCell_0 n)
theorem CtX4_hasCell {E : mE} {X : State → Heap → Prop} {l : Launch} (hX : mXok E X) (n : Nat) : Ct E X l yX4_hasCell cX4_hasCell 2 (some .boolean) 1 0 0 (FX4_hasCell n) := Ct_of (by decide) hX (okX4_hasCell_0 hX n)
theorem dX4_rowOf_0 : decode cX4_rowOf 0 = .ok (.aload_n 0, 1) := by decide +kernel
theorem dX4_rowOf_1 : decode cX4_rowOf 1 = .ok (.getfield 37, 3) := by decide +kernel
theorem dX4_rowOf_4 : decode cX4_rowOf 4 = .ok (.ifCond .le 12, 3) := by decide +kernel
theorem dX4_rowOf_7 : decode cX4_rowOf 7 = .ok (.iload_n 1, 1) := by decide +kernel
theorem dX4_rowOf_8 : decode cX4_rowOf 8 = .ok (.aload_n 0, 1) := by decide +kernel
theorem dX4_rowOf_9 : decode cX4_rowOf 9 = .ok (.getfield 37, 3) := by decide +kernel
theorem dX4_rowOf_12 : decode cX4_rowOf 12 = .ok (.idiv, 1) := by decide +kernel
theorem dX4_rowOf_13 : decode cX4_rowOf 13 = .ok (.goto 4, 3) := by decide +kernel
theorem dX4_rowOf_16 : decode cX4_rowOf 16 = .ok (.iconst 0, 1) := by decide +kernel
theorem dX4_rowOf_17 : decode cX4_rowOf 17 = .ok (.ireturn, 1) := by decide +kernel
def kX4_rowOf_17 (n : Nat) : mK := i_rI
set_option maxRecDepth 20000 in
theorem okX4_rowOf_17 {E : mE} {X : State → Heap → Prop} {l : Launch} (hX : mXok E X) (n : Nat) : Sd E X l yX4_rowOf cX4_rowOf 2 (some .int) 1 0 0 0 0 17 (kX4_rowOf_17 n) := s_rI dX4_rowOf_17 (Nat.le_of_ble_eq_true rfl) (Nat.le_of_ble_eq_true rfl)
def kX4_rowOf_0 (n : Nat) : mK := i_ldA 0 (i_gI 4 0 (i_c0 (fun x => decide (x ≤ 0)) (i_cst (.int (0)) (kX4_rowOf_17 n)) (i_ldI 1 (i_ldA 0 (i_gI 4 0 (i_dv (fun x y => x / y) ((kX4_rowOf_17 n))))))))
set_option maxRecDepth 20000 in
theorem okX4_rowOf_0 {E : mE} {X : State → Heap → Prop} {l : Launch} (hX : mXok E X) (n : Nat) : Sd E X l yX4_rowOf cX4_rowOf 2 (some .int) 1 0 0 0 0 0 (kX4_rowOf_0 n) := s_aload_n dX4_rowOf_0 rfl (s_gI dX4_rowOf_1 lFX4_37 (by decide) (s_ifle dX4_rowOf_4 (by decide) (s_iconst dX4_rowOf_16 (by decide) (okX4_rowOf_17 hX n)) (s_iload_n dX4_rowOf_7 rfl (s_aload_n dX4_rowOf_8 rfl (s_gI dX4_rowOf_9 lFX4_37 (by decide) (s_idiv dX4_rowOf_12 (s_goto dX4_rowOf_13 (by decide) (okX4_rowOf_17 hX n))))))))
def FX4_rowOf (n : Nat) : List Value → mM → Option mR := mfn 2 (kX4_rowOf_0 n)
theorem CtX4_rowOf {E : mE} {X : State → Heap → Prop} {l : Launch} (hX : mXok E X) (n : Nat) : Ct E X l yX4_rowOf cX4_rowOf 2 (some .int) 1 0 0 (FX4_rowOf n) := Ct_of (by decide) hX (okX4_rowOf_0 hX n)
theorem dX5_advance_0 : decode cX5_advance 0 = .ok (.aload_n 0, 1) := by decide +kernel
theorem dX5_advance_1 : decode cX5_advance 1 = .ok (.dup, 1) := by decide +kernel
theorem dX5_advance_2 : decode cX5_advance 2 = .ok (.getfield 54, 3) := by decide +kernel
theorem dX5_advance_5 : decode cX5_advance 5 = .ok (.iconst 1, 1) := by decide +kernel
theorem dX5_advance_6 : decode cX5_advance 6 = .ok (.iadd, 1) := by decide +kernel
theorem dX5_advance_7 : decode cX5_advance 7 = .ok (.putfield 54, 3) := by decide +kernel
theorem dX5_advance_10 : decode cX5_advance 10 = .ok (.aload_n 0, 1) := by decide +kernel
theorem dX5_advance_11 : decode cX5_advance 11 = .ok (.getfield 54, 3) := by decide +kernel
theorem dX5_advance_14 : decode cX5_advance 14 = .ok (.ifCond .lt 36, 3) := by decide +kernel
theorem dX5_advance_17 : decode cX5_advance 17 = .ok (.aload_n 0, 1) := by decide +kernel
theorem dX5_advance_18 : decode cX5_advance 18 = .ok (.getfield 54, 3) := by decide +kernel
theorem dX5_advance_21 : decode cX5_advance 21 = .ok (.aload_n 0, 1) := by decide +kernel
theorem dX5_advance_22 : decode cX5_advance 22 = .ok (.getfield 24, 3) := by decide +kernel
theorem dX5_advance_25 : decode cX5_advance 25 = .ok (.getfield 195, 3) := by decide +kernel
theorem dX5_advance_28 : decode cX5_advance 28 = .ok (.if_icmp .ge 22, 3) := by decide +kernel
theorem dX5_advance_31 : decode cX5_advance 31 = .ok (.aload_n 0, 1) := by decide +kernel
theorem dX5_advance_32 : decode cX5_advance 32 = .ok (.getfield 54, 3) := by decide +kernel
theorem dX5_advance_35 : decode cX5_advance 35 = .ok (.aload_n 0, 1) := by decide +kernel
theorem dX5_advance_36 : decode cX5_advance 36 = .ok (.getfield 24, 3) := by decide +kernel
theorem dX5_advance_39 : decode cX5_advance 39 = .ok (.getfield 196, 3) := by decide +kernel
theorem dX5_advance_42 : decode cX5_advance 42 = .ok (.arraylength, 1) := by decide +kernel
theorem dX5_advance_43 : decode cX5_advance 43 = .ok (.if_icmp .ge 7, 3) := by decide +kernel
theorem dX5_advance_46 : decode cX5_advance 46 = .ok (.iconst 1, 1) := by decide +kernel
theorem dX5_advance_47 : decode cX5_advance 47 = .ok (.goto 4, 3) := by decide +kernel
theorem dX5_advance_50 : decode cX5_advance 50 = .ok (.iconst 0, 1) := by decide +kernel
theorem dX5_advance_51 : decode cX5_advance 51 = .ok (.istore_n 1, 1) := by decide +kernel
theorem dX5_advance_52 : decode cX5_advance 52 = .ok (.aload_n 0, 1) := by decide +kernel
theorem dX5_advance_53 : decode cX5_advance 53 = .ok (.iload_n 1, 1) := by decide +kernel
theorem dX5_advance_54 : decode cX5_advance 54 = .ok (.ifCond .eq 18, 3) := by decide +kernel
theorem dX5_advance_57 : decode cX5_advance 57 = .ok (.aload_n 0, 1) := by decide +kernel
theorem dX5_advance_58 : decode cX5_advance 58 = .ok (.getfield 24, 3) := by decide +kernel
theorem dX5_advance_61 : decode cX5_advance 61 = .ok (.getfield 196, 3) := by decide +kernel
theorem dX5_advance_64 : decode cX5_advance 64 = .ok (.aload_n 0, 1) := by decide +kernel
theorem dX5_advance_65 : decode cX5_advance 65 = .ok (.getfield 54, 3) := by decide +kernel
theorem dX5_advance_68 : decode cX5_advance 68 = .ok (.iaload, 1) := by decide +kernel
theorem dX5_advance_69 : decode cX5_advance 69 = .ok (.goto 4, 3) := by decide +kernel
theorem dX5_advance_72 : decode cX5_advance 72 = .ok (.iconst 0, 1) := by decide +kernel
theorem dX5_advance_73 : decode cX5_advance 73 = .ok (.putfield 60, 3) := by decide +kernel
theorem dX5_advance_76 : decode cX5_advance 76 = .ok (.aload_n 0, 1) := by decide +kernel
theorem dX5_advance_77 : decode cX5_advance 77 = .ok (.iload_n 1, 1) := by decide +kernel
theorem dX5_advance_78 : decode cX5_advance 78 = .ok (.ifCond .eq 33, 3) := by decide +kernel
theorem dX5_advance_81 : decode cX5_advance 81 = .ok (.aload_n 0, 1) := by decide +kernel
theorem dX5_advance_82 : decode cX5_advance 82 = .ok (.getfield 54, 3) := by decide +kernel
theorem dX5_advance_85 : decode cX5_advance 85 = .ok (.aload_n 0, 1) := by decide +kernel
theorem dX5_advance_86 : decode cX5_advance 86 = .ok (.getfield 24, 3) := by decide +kernel
theorem dX5_advance_89 : decode cX5_advance 89 = .ok (.getfield 199, 3) := by decide +kernel
theorem dX5_advance_92 : decode cX5_advance 92 = .ok (.arraylength, 1) := by decide +kernel
theorem dX5_advance_93 : decode cX5_advance 93 = .ok (.if_icmp .ge 18, 3) := by decide +kernel
theorem dX5_advance_96 : decode cX5_advance 96 = .ok (.aload_n 0, 1) := by decide +kernel
theorem dX5_advance_97 : decode cX5_advance 97 = .ok (.getfield 24, 3) := by decide +kernel
theorem dX5_advance_100 : decode cX5_advance 100 = .ok (.getfield 199, 3) := by decide +kernel
theorem dX5_advance_103 : decode cX5_advance 103 = .ok (.aload_n 0, 1) := by decide +kernel
theorem dX5_advance_104 : decode cX5_advance 104 = .ok (.getfield 54, 3) := by decide +kernel
theorem dX5_advance_107 : decode cX5_advance 107 = .ok (.iaload, 1) := by decide +kernel
theorem dX5_advance_108 : decode cX5_advance 108 = .ok (.goto 10, 3) := by decide +kernel
theorem dX5_advance_111 : decode cX5_advance 111 = .ok (.aload_n 0, 1) := by decide +kernel
theorem dX5_advance_112 : decode cX5_advance 112 = .ok (.getfield 24, 3) := by decide +kernel
theorem dX5_advance_115 : decode cX5_advance 115 = .ok (.getfield 202, 3) := by decide +kernel
theorem dX5_advance_118 : decode cX5_advance 118 = .ok (.putfield 132, 3) := by decide +kernel
theorem dX5_advance_121 : decode cX5_advance 121 = .ok (.return_, 1) := by decide +kernel
def kX5_advance_118 (n : Nat) : mK := i_pI 5 6 (i_rV)
set_option maxRecDepth 20000 in
theorem okX5_advance_118 {E : mE} {X : State → Heap → Prop} {l : Launch} (hX : mXok E X) (n : Nat) : Sd E X l yX5_advance cX5_advance 2 none 1 0 0 0 0 118 (kX5_advance_118 n) := s_pI dX5_advance_118 lFX5_132 (s_rV dX5_advance_121 (Nat.le_of_ble_eq_true rfl) (Nat.le_of_ble_eq_true rfl))
def kX5_advance_111 (n : Nat) : mK := i_ldA 0 (i_gA 5 0 (i_gI 9 3 (kX5_advance_118 n)))
set_option maxRecDepth 20000 in
theorem okX5_advance_111 {E : mE} {X : State → Heap → Prop} {l : Launch} (hX : mXok E X) (n : Nat) : Sd E X l yX5_advance cX5_advance 2 none 1 0 0 0 0 111 (kX5_advance_111 n) := s_aload_n dX5_advance_111 rfl (s_gA dX5_advance_112 lFX5_24 (s_gI dX5_advance_115 lFX5_202 (by decide) (okX5_advance_118 hX n)))
def kX5_advance_73 (n : Nat) : mK := i_pI 5 5 (i_ldA 0 (i_ldI 1 (i_c0 (fun x => decide (x = 0)) (kX5_advance_111 n) (i_ldA 0 (i_gI 5 4 (i_ldA 0 (i_gA 5 0 (i_gA 9 2 (i_len (i_c2 (fun x y => decide (y ≤ x)) (kX5_advance_111 n) (i_ldA 0 (i_gA 5 0 (i_gA 9 2 (i_ldA 0 (i_gI 5 4 (i_al 0 ((kX5_advance_118 n))))))))))))))))))
set_option maxRecDepth 20000 in
theorem okX5_advance_73 {E : mE} {X : State → Heap → Prop} {l : Launch} (hX : mXok E X) (n : Nat) : Sd E X l yX5_advance cX5_advance 2 none 1 0 0 0 0 73 (kX5_advance_73 n) := s_pI dX5_advance_73 lFX5_60 (s_aload_n dX5_advance_76 rfl (s_iload_n dX5_advance_77 rfl (s_ifeq dX5_advance_78 (by decide) (okX5_advance_111 hX n) (s_aload_n dX5_advance_81 rfl (s_gI dX5_advance_82 lFX5_54 (by decide) (s_aload_n dX5_advance_85 rfl (s_gA dX5_advance_86 lFX5_24 (s_gA dX5_advance_89 lFX5_199 (s_len dX5_advance_92 (s_icge dX5_advance_93 (by decide) (okX5_advance_111 hX n) (s_aload_n dX5_advance_96 rfl (s_gA dX5_advance_97 lFX5_24 (s_gA dX5_advance_100 lFX5_199 (s_aload_n dX5_advance_103 rfl (s_gI dX5_advance_104 lFX5_54 (by decide) (s_iald dX5_advance_107 (s_goto dX5_advance_108 (by decide) (okX5_advance_118 hX n))))))))))))))))))
def kX5_advance_51 (n : Nat) : mK := i_stI 1 (i_ldA 0 (i_ldI 1 (i_c0 (fun x => decide (x = 0)) (i_cst (.int (0)) (kX5_advance_73 n)) (i_ldA 0 (i_gA 5 0 (i_gA 9 1 (i_ldA 0 (i_gI 5 4 (i_al 0 ((kX5_advance_73 n)))))))))))
set_option maxRecDepth 20000 in
theorem okX5_advance_51 {E : mE} {X : State → Heap → Prop} {l : Launch} (hX : mXok E X) (n : Nat) : Sd E X l yX5_advance cX5_advance 2 none 1 0 0 0 0 51 (kX5_advance_51 n) := s_istore_n dX5_advance_51 rfl (s_aload_n dX5_advance_52 rfl (s_iload_n dX5_advance_53 rfl (s_ifeq dX5_advance_54 (by decide) (s_iconst dX5_advance_72 (by decide) (okX5_advance_73 hX n)) (s_aload_n dX5_advance_57 rfl (s_gA dX5_advance_58 lFX5_24 (s_gA dX5_advance_61 lFX5_196 (s_aload_n dX5_advance_64 rfl (s_gI dX5_advance_65 lFX5_54 (by decide) (s_iald dX5_advance_68 (s_goto dX5_advance_69 (by decide) (okX5_advance_73 hX n)))))))))))
def kX5_advance_50 (n : Nat) : mK := i_cst (.int (0)) (kX5_advance_51 n)
set_option maxRecDepth 20000 in
theorem okX5_advance_50 {E : mE} {X : State → Heap → Prop} {l : Launch} (hX : mXok E X) (n : Nat) : Sd E X l yX5_advance cX5_advance 2 none 1 0 0 0 0 50 (kX5_advance_50 n) := s_iconst dX5_advance_50 (by decide) (okX5_advance_51 hX n)
def kX5_advance_0 (n : Nat) : mK := i_ldA 0 (i_dup (i_gI 5 4 (i_cst (.int (1)) (i_bin (fun x y => x + y) (i_pI 5 4 (i_ldA 0 (i_gI 5 4 (i_c0 (fun x => decide (x < 0)) (kX5_advance_50 n) (i_ldA 0 (i_gI 5 4 (i_ldA 0 (i_gA 5 0 (i_gI 9 4 (i_c2 (fun x y => decide (y ≤ x)) (kX5_advance_50 n) (i_ldA 0 (i_gI 5 4 (i_ldA 0 (i_gA 5 0 (i_gA 9 1 (i_len (i_c2 (fun x y => decide (y ≤ x)) (kX5_advance_50 n) (i_cst (.int (1)) ((kX5_advance_51 n))))))))))))))))))))))))
set_option maxRecDepth 20000 in
theorem okX5_advance_0 {E : mE} {X : State → Heap → Prop} {l : Launch} (hX : mXok E X) (n : Nat) : Sd E X l yX5_advance cX5_advance 2 none 1 0 0 0 0 0 (kX5_advance_0 n) := s_aload_n dX5_advance_0 rfl (s_dup dX5_advance_1 (s_gI dX5_advance_2 lFX5_54 (by decide) (s_iconst dX5_advance_5 (by decide) (s_iadd dX5_advance_6 (s_pI dX5_advance_7 lFX5_54 (s_aload_n dX5_advance_10 rfl (s_gI dX5_advance_11 lFX5_54 (by decide) (s_iflt dX5_advance_14 (by decide) (okX5_advance_50 hX n) (s_aload_n dX5_advance_17 rfl (s_gI dX5_advance_18 lFX5_54 (by decide) (s_aload_n dX5_advance_21 rfl (s_gA dX5_advance_22 lFX5_24 (s_gI dX5_advance_25 lFX5_195 (by decide) (s_icge dX5_advance_28 (by decide) (okX5_advance_50 hX n) (s_aload_n dX5_advance_31 rfl (s_gI dX5_advance_32 lFX5_54 (by decide) (s_aload_n dX5_advance_35 rfl (s_gA dX5_advance_36 lFX5_24 (s_gA dX5_advance_39 lFX5_196 (s_len dX5_advance_42 (s_icge dX5_advance_43 (by decide) (okX5_advance_50 hX n) (s_iconst dX5_advance_46 (by decide) (s_goto dX5_advance_47 (by decide) (okX5_advance_51 hX n))))))))))))))))))))))))
def FX5_advance (n : Nat) : List Value → mM → Option mR := mfn 2 (kX5_advance_0 n)
theorem CtX5_advance {E : mE} {X : State → Heap → Prop} {l : Launch} (hX : mXok E X) (n : Nat) : Ct E X l yX5_advance cX5_advance 2 none 1 0 0 (FX5_advance n) := Ct_of (by decide) hX (okX5_advance_0 hX n)
theorem dX5_fail_0 : decode cX5_fail 0 = .ok (.aload_n 0, 1) := by decide +kernel
theorem dX5_fail_1 : decode cX5_fail 1 = .ok (.iload_n 1, 1) := by decide +kernel
theorem dX5_fail_2 : decode cX5_fail 2 = .ok (.putfield 51, 3) := by decide +kernel
theorem dX5_fail_5 : decode cX5_fail 5 = .ok (.aload_n 0, 1) := by decide +kernel
theorem dX5_fail_6 : decode cX5_fail 6 = .ok (.iload_n 2, 1) := by decide +kernel
theorem dX5_fail_7 : decode cX5_fail 7 = .ok (.putfield 15, 3) := by decide +kernel
theorem dX5_fail_10 : decode cX5_fail 10 = .ok (.iconst 0, 1) := by decide +kernel
theorem dX5_fail_11 : decode cX5_fail 11 = .ok (.ireturn, 1) := by decide +kernel
def kX5_fail_0 (n : Nat) : mK := i_ldA 0 (i_ldI 1 (i_pI 5 11 (i_ldA 0 (i_ldI 2 (i_pI 5 12 (i_cst (.int (0)) (i_rZ)))))))
set_option maxRecDepth 20000 in
theorem okX5_fail_0 {E : mE} {X : State → Heap → Prop} {l : Launch} (hX : mXok E X) (n : Nat) : Sd E X l yX5_fail cX5_fail 3 (some .boolean) 1 0 0 0 0 0 (kX5_fail_0 n) := s_aload_n dX5_fail_0 rfl (s_iload_n dX5_fail_1 rfl (s_pI dX5_fail_2 lFX5_51 (s_aload_n dX5_fail_5 rfl (s_iload_n dX5_fail_6 rfl (s_pI dX5_fail_7 lFX5_15 (s_iconst dX5_fail_10 (by decide) (s_rZ dX5_fail_11 (Nat.le_of_ble_eq_true rfl) (Nat.le_of_ble_eq_true rfl))))))))
def FX5_fail (n : Nat) : List Value → mM → Option mR := mfn 3 (kX5_fail_0 n)
theorem CtX5_fail {E : mE} {X : State → Heap → Prop} {l : Launch} (hX : mXok E X) (n : Nat) : Ct E X l yX5_fail cX5_fail 3 (some .boolean) 1 0 0 (FX5_fail n) := Ct_of (by decide) hX (okX5_fail_0 hX n)
theorem dX5_levelOf_0 : decode cX5_levelOf 0 = .ok (.iload_n 0, 1) := by decide +kernel
theorem dX5_levelOf_1 : decode cX5_levelOf 1 = .ok (.tableswitch 109 7 27 #[103, 103, 103, 105, 105, 107, 107, 107, 109, 109, 109, 109, 109, 109, 109, 109, 109, 109, 109, 99, 101], 99) := by decide +kernel
theorem dX5_levelOf_100 : decode cX5_levelOf 100 = .ok (.iconst 0, 1) := by decide +kernel
theorem dX5_levelOf_101 : decode cX5_levelOf 101 = .ok (.ireturn, 1) := by decide +kernel
theorem dX5_levelOf_102 : decode cX5_levelOf 102 = .ok (.iconst 1, 1) := by decide +kernel
theorem dX5_levelOf_103 : decode cX5_levelOf 103 = .ok (.ireturn, 1) := by decide +kernel
theorem dX5_levelOf_104 : decode cX5_levelOf 104 = .ok (.iconst 2, 1) := by decide +kernel
theorem dX5_levelOf_105 : decode cX5_levelOf 105 = .ok (.ireturn, 1) := by decide +kernel
theorem dX5_levelOf_106 : decode cX5_levelOf 106 = .ok (.iconst 3, 1) := by decide +kernel
theorem dX5_levelOf_107 : decode cX5_levelOf 107 = .ok (.ireturn, 1) := by decide +kernel
theorem dX5_levelOf_108 : decode cX5_levelOf 108 = .ok (.iconst 4, 1) := by decide +kernel
theorem dX5_levelOf_109 : decode cX5_levelOf 109 = .ok (.ireturn, 1) := by decide +kernel
theorem dX5_levelOf_110 : decode cX5_levelOf 110 = .ok (.iconst (-1), 1) := by decide +kernel
theorem dX5_levelOf_111 : decode cX5_levelOf 111 = .ok (.ireturn, 1) := by decide +kernel
def kX5_levelOf_104 (n : Nat) : mK := i_cst (.int (2)) (i_rI)
set_option maxRecDepth 20000 in
theorem okX5_levelOf_104 {E : mE} {X : State → Heap → Prop} {l : Launch} (hX : mXok E X) (n : Nat) : Sd E X l yX5_levelOf cX5_levelOf 1 (some .int) 1 0 0 0 0 104 (kX5_levelOf_104 n) := s_iconst dX5_levelOf_104 (by decide) (s_rI dX5_levelOf_105 (Nat.le_of_ble_eq_true rfl) (Nat.le_of_ble_eq_true rfl))
def kX5_levelOf_106 (n : Nat) : mK := i_cst (.int (3)) (i_rI)
set_option maxRecDepth 20000 in
theorem okX5_levelOf_106 {E : mE} {X : State → Heap → Prop} {l : Launch} (hX : mXok E X) (n : Nat) : Sd E X l yX5_levelOf cX5_levelOf 1 (some .int) 1 0 0 0 0 106 (kX5_levelOf_106 n) := s_iconst dX5_levelOf_106 (by decide) (s_rI dX5_levelOf_107 (Nat.le_of_ble_eq_true rfl) (Nat.le_of_ble_eq_true rfl))
def kX5_levelOf_108 (n : Nat) : mK := i_cst (.int (4)) (i_rI)
set_option maxRecDepth 20000 in
theorem okX5_levelOf_108 {E : mE} {X : State → Heap → Prop} {l : Launch} (hX : mXok E X) (n : Nat) : Sd E X l yX5_levelOf cX5_levelOf 1 (some .int) 1 0 0 0 0 108 (kX5_levelOf_108 n) := s_iconst dX5_levelOf_108 (by decide) (s_rI dX5_levelOf_109 (Nat.le_of_ble_eq_true rfl) (Nat.le_of_ble_eq_true rfl))
def kX5_levelOf_110 (n : Nat) : mK := i_cst (.int (-1)) (i_rI)
set_option maxRecDepth 20000 in
theorem okX5_levelOf_110 {E : mE} {X : State → Heap → Prop} {l : Launch} (hX : mXok E X) (n : Nat) : Sd E X l yX5_levelOf cX5_levelOf 1 (some .int) 1 0 0 0 0 110 (kX5_levelOf_110 n) := s_iconst dX5_levelOf_110 (by decide) (s_rI dX5_levelOf_111 (Nat.le_of_ble_eq_true rfl) (Nat.le_of_ble_eq_true rfl))
def kX5_levelOf_0 (n : Nat) : mK := i_ldI 0 (i_sw [(7, (kX5_levelOf_104 n)), (8, (kX5_levelOf_104 n)), (9, (kX5_levelOf_104 n)), (10, (kX5_levelOf_106 n)), (11, (kX5_levelOf_106 n)), (12, (kX5_levelOf_108 n)), (13, (kX5_levelOf_108 n)), (14, (kX5_levelOf_108 n)), (15, (kX5_levelOf_110 n)), (16, (kX5_levelOf_110 n)), (17, (kX5_levelOf_110 n)), (18, (kX5_levelOf_110 n)), (19, (kX5_levelOf_110 n)), (20, (kX5_levelOf_110 n)), (21, (kX5_levelOf_110 n)), (22, (kX5_levelOf_110 n)), (23, (kX5_levelOf_110 n)), (24, (kX5_levelOf_110 n)), (25, (kX5_levelOf_110 n)), (26, (i_cst (.int (0)) (i_rI))), (27, (i_cst (.int (1)) (i_rI)))] (kX5_levelOf_110 n))
set_option maxRecDepth 20000 in
theorem okX5_levelOf_0 {E : mE} {X : State → Heap → Prop} {l : Launch} (hX : mXok E X) (n : Nat) : Sd E X l yX5_levelOf cX5_levelOf 1 (some .int) 1 0 0 0 0 0 (kX5_levelOf_0 n) := s_iload_n dX5_levelOf_0 rfl (s_tsw dX5_levelOf_1 (by decide) (okX5_levelOf_110 hX n) (by decide) (tsw_c (by decide) (by decide) (okX5_levelOf_104 hX n) (tsw_c (by decide) (by decide) (okX5_levelOf_104 hX n) (tsw_c (by decide) (by decide) (okX5_levelOf_104 hX n) (tsw_c (by decide) (by decide) (okX5_levelOf_106 hX n) (tsw_c (by decide) (by decide) (okX5_levelOf_106 hX n) (tsw_c (by decide) (by decide) (okX5_levelOf_108 hX n) (tsw_c (by decide) (by decide) (okX5_levelOf_108 hX n) (tsw_c (by decide) (by decide) (okX5_levelOf_108 hX n) (tsw_c (by decide) (by decide) (okX5_levelOf_110 hX n) (tsw_c (by decide) (by decide) (okX5_levelOf_110 hX n) (tsw_c (by decide) (by decide) (okX5_levelOf_110 hX n) (tsw_c (by decide) (by decide) (okX5_levelOf_110 hX n) (tsw_c (by decide) (by decide) (okX5_levelOf_110 hX n) (tsw_c (by decide) (by decide) (okX5_levelOf_110 hX n) (tsw_c (by decide) (by decide) (okX5_levelOf_110 hX n) (tsw_c (by decide) (by decide) (okX5_levelOf_110 hX n) (tsw_c (by decide) (by decide) (okX5_levelOf_110 hX n) (tsw_c (by decide) (by decide) (okX5_levelOf_110 hX n) (tsw_c (by decide) (by decide) (okX5_levelOf_110 hX n) (tsw_c (by decide) (by decide) (s_iconst dX5_levelOf_100 (by decide) (s_rI dX5_levelOf_101 (Nat.le_of_ble_eq_true rfl) (Nat.le_of_ble_eq_true rfl))) (tsw_c (by decide) (by decide) (s_iconst dX5_levelOf_102 (by decide) (s_rI dX5_levelOf_103 (Nat.le_of_ble_eq_true rfl) (Nat.le_of_ble_eq_true rfl))) tsw_n))))))))))))))))))))))
def FX5_levelOf (n : Nat) : List Value → mM → Option mR := mfn 1 (kX5_levelOf_0 n)
theorem CtX5_levelOf {E : mE} {X : State → Heap → Prop} {l : Launch} (hX : mXok E X) (n : Nat) : Ct E X l yX5_levelOf cX5_levelOf 1 (some .int) 1 0 0 (FX5_levelOf n) := Ct_of (by decide) hX (okX5_levelOf_0 hX n)
theorem dX5_refuse_0 : decode cX5_refuse 0 = .ok (.aload_n 0, 1) := by decide +kernel
theorem dX5_refuse_1 : decode cX5_refuse 1 = .ok (.aload_n 0, 1) := by decide +kernel
theorem dX5_refuse_2 : decode cX5_refuse 2 = .ok (.getfield 60, 3) := by decide +kernel
theorem dX5_refuse_5 : decode cX5_refuse 5 = .ok (.iconst 1, 1) := by decide +kernel
theorem dX5_refuse_6 : decode cX5_refuse 6 = .ok (.if_icmp .ne 7, 3) := by decide +kernel
theorem dX5_refuse_9 : decode cX5_refuse 9 = .ok (.iconst 1, 1) := by decide +kernel
theorem dX5_refuse_10 : decode cX5_refuse 10 = .ok (.goto 4, 3) := by decide +kernel
theorem dX5_refuse_13 : decode cX5_refuse 13 = .ok (.iconst 2, 1) := by decide +kernel
theorem dX5_refuse_14 : decode cX5_refuse 14 = .ok (.putfield 51, 3) := by decide +kernel
theorem dX5_refuse_17 : decode cX5_refuse 17 = .ok (.aload_n 0, 1) := by decide +kernel
theorem dX5_refuse_18 : decode cX5_refuse 18 = .ok (.aload_n 0, 1) := by decide +kernel
theorem dX5_refuse_19 : decode cX5_refuse 19 = .ok (.getfield 132, 3) := by decide +kernel
theorem dX5_refuse_22 : decode cX5_refuse 22 = .ok (.putfield 15, 3) := by decide +kernel
theorem dX5_refuse_25 : decode cX5_refuse 25 = .ok (.iconst 0, 1) := by decide +kernel
theorem dX5_refuse_26 : decode cX5_refuse 26 = .ok (.ireturn, 1) := by decide +kernel
def kX5_refuse_14 (n : Nat) : mK := i_pI 5 11 (i_ldA 0 (i_ldA 0 (i_gI 5 6 (i_pI 5 12 (i_cst (.int (0)) (i_rZ))))))
set_option maxRecDepth 20000 in
theorem okX5_refuse_14 {E : mE} {X : State → Heap → Prop} {l : Launch} (hX : mXok E X) (n : Nat) : Sd E X l yX5_refuse cX5_refuse 1 (some .boolean) 1 0 0 0 0 14 (kX5_refuse_14 n) := s_pI dX5_refuse_14 lFX5_51 (s_aload_n dX5_refuse_17 rfl (s_aload_n dX5_refuse_18 rfl (s_gI dX5_refuse_19 lFX5_132 (by decide) (s_pI dX5_refuse_22 lFX5_15 (s_iconst dX5_refuse_25 (by decide) (s_rZ dX5_refuse_26 (Nat.le_of_ble_eq_true rfl) (Nat.le_of_ble_eq_true rfl)))))))
def kX5_refuse_0 (n : Nat) : mK := i_ldA 0 (i_ldA 0 (i_gI 5 5 (i_cst (.int (1)) (i_c2 (fun x y => decide (¬ x = y)) (i_cst (.int (2)) (kX5_refuse_14 n)) (i_cst (.int (1)) ((kX5_refuse_14 n)))))))
set_option maxRecDepth 20000 in
theorem okX5_refuse_0 {E : mE} {X : State → Heap → Prop} {l : Launch} (hX : mXok E X) (n : Nat) : Sd E X l yX5_refuse cX5_refuse 1 (some .boolean) 1 0 0 0 0 0 (kX5_refuse_0 n) := s_aload_n dX5_refuse_0 rfl (s_aload_n dX5_refuse_1 rfl (s_gI dX5_refuse_2 lFX5_60 (by decide) (s_iconst dX5_refuse_5 (by decide) (s_icne dX5_refuse_6 (by decide) (s_iconst dX5_refuse_13 (by decide) (okX5_refuse_14 hX n)) (s_iconst dX5_refuse_9 (by decide) (s_goto dX5_refuse_10 (by decide) (okX5_refuse_14 hX n)))))))
def FX5_refuse (n : Nat) : List Value → mM → Option mR := mfn 1 (kX5_refuse_0 n)
theorem CtX5_refuse {E : mE} {X : State → Heap → Prop} {l : Launch} (hX : mXok E X) (n : Nat) : Ct E X l yX5_refuse cX5_refuse 1 (some .boolean) 1 0 0 (FX5_refuse n) := Ct_of (by decide) hX (okX5_refuse_0 hX n)
theorem dX5_sortOfLine_0 : decode cX5_sortOfLine 0 = .ok (.iconst 1, 1) := by decide +kernel
theorem dX5_sortOfLine_1 : decode cX5_sortOfLine 1 = .ok (.aload_n 0, 1) := by decide +kernel
theorem dX5_sortOfLine_2 : decode cX5_sortOfLine 2 = .ok (.getfield 60, 3) := by decide +kernel
theorem dX5_sortOfLine_5 : decode cX5_sortOfLine 5 = .ok (.bipush 15, 2) := by decide +kernel
theorem dX5_sortOfLine_7 : decode cX5_sortOfLine 7 = .ok (.isub, 1) := by decide +kernel
theorem dX5_sortOfLine_8 : decode cX5_sortOfLine 8 = .ok (.ishl, 1) := by decide +kernel
theorem dX5_sortOfLine_9 : decode cX5_sortOfLine 9 = .ok (.ireturn, 1) := by decide +kernel
def kX5_sortOfLine_0 (n : Nat) : mK := i_cst (.int (1)) (i_ldA 0 (i_gI 5 5 (i_cst (.int (15)) (i_bin (fun x y => x - y) (i_bin (fun x y => x <<< (y &&& 31)) (i_rI))))))
set_option maxRecDepth 20000 in
theorem okX5_sortOfLine_0 {E : mE} {X : State → Heap → Prop} {l : Launch} (hX : mXok E X) (n : Nat) : Sd E X l yX5_sortOfLine cX5_sortOfLine 1 (some .int) 1 0 0 0 0 0 (kX5_sortOfLine_0 n) := s_iconst dX5_sortOfLine_0 (by decide) (s_aload_n dX5_sortOfLine_1 rfl (s_gI dX5_sortOfLine_2 lFX5_60 (by decide) (s_bipush dX5_sortOfLine_5 (by decide) (s_isub dX5_sortOfLine_7 (s_ishl dX5_sortOfLine_8 (s_rI dX5_sortOfLine_9 (Nat.le_of_ble_eq_true rfl) (Nat.le_of_ble_eq_true rfl)))))))
def FX5_sortOfLine (n : Nat) : List Value → mM → Option mR := mfn 1 (kX5_sortOfLine_0 n)
theorem CtX5_sortOfLine {E : mE} {X : State → Heap → Prop} {l : Launch} (hX : mXok E X) (n : Nat) : Ct E X l yX5_sortOfLine cX5_sortOfLine 1 (some .int) 1 0 0 (FX5_sortOfLine n) := Ct_of (by decide) hX (okX5_sortOfLine_0 hX n)
theorem dX5_startsUnit_0 : decode cX5_startsUnit 0 = .ok (.aload_n 0, 1) := by decide +kernel
theorem dX5_startsUnit_1 : decode cX5_startsUnit 1 = .ok (.getfield 161, 3) := by decide +kernel
theorem dX5_startsUnit_4 : decode cX5_startsUnit 4 = .ok (.bipush 30, 2) := by decide +kernel
theorem dX5_startsUnit_6 : decode cX5_startsUnit 6 = .ok (.if_icmp .ge 15, 3) := by decide +kernel
theorem dX5_startsUnit_9 : decode cX5_startsUnit 9 = .ok (.aload_n 0, 1) := by decide +kernel
theorem dX5_startsUnit_10 : decode cX5_startsUnit 10 = .ok (.getfield 28, 3) := by decide +kernel
theorem dX5_startsUnit_13 : decode cX5_startsUnit 13 = .ok (.getfield 188, 3) := by decide +kernel
theorem dX5_startsUnit_16 : decode cX5_startsUnit 16 = .ok (.bipush 60, 2) := by decide +kernel
theorem dX5_startsUnit_18 : decode cX5_startsUnit 18 = .ok (.if_icmp .lt 5, 3) := by decide +kernel
theorem dX5_startsUnit_21 : decode cX5_startsUnit 21 = .ok (.iconst 0, 1) := by decide +kernel
theorem dX5_startsUnit_22 : decode cX5_startsUnit 22 = .ok (.ireturn, 1) := by decide +kernel
theorem dX5_startsUnit_23 : decode cX5_startsUnit 23 = .ok (.aload_n 0, 1) := by decide +kernel
theorem dX5_startsUnit_24 : decode cX5_startsUnit 24 = .ok (.getfield 60, 3) := by decide +kernel
theorem dX5_startsUnit_27 : decode cX5_startsUnit 27 = .ok (.iconst 5, 1) := by decide +kernel
theorem dX5_startsUnit_28 : decode cX5_startsUnit 28 = .ok (.if_icmp .ne 15, 3) := by decide +kernel
theorem dX5_startsUnit_31 : decode cX5_startsUnit 31 = .ok (.iload_n 1, 1) := by decide +kernel
theorem dX5_startsUnit_32 : decode cX5_startsUnit 32 = .ok (.bipush 6, 2) := by decide +kernel
theorem dX5_startsUnit_34 : decode cX5_startsUnit 34 = .ok (.if_icmp .gt 7, 3) := by decide +kernel
theorem dX5_startsUnit_37 : decode cX5_startsUnit 37 = .ok (.iconst 1, 1) := by decide +kernel
theorem dX5_startsUnit_38 : decode cX5_startsUnit 38 = .ok (.goto 4, 3) := by decide +kernel
theorem dX5_startsUnit_41 : decode cX5_startsUnit 41 = .ok (.iconst 0, 1) := by decide +kernel
theorem dX5_startsUnit_42 : decode cX5_startsUnit 42 = .ok (.ireturn, 1) := by decide +kernel
theorem dX5_startsUnit_43 : decode cX5_startsUnit 43 = .ok (.aload_n 0, 1) := by decide +kernel
theorem dX5_startsUnit_44 : decode cX5_startsUnit 44 = .ok (.getfield 60, 3) := by decide +kernel
theorem dX5_startsUnit_47 : decode cX5_startsUnit 47 = .ok (.iconst 2, 1) := by decide +kernel
theorem dX5_startsUnit_48 : decode cX5_startsUnit 48 = .ok (.if_icmp .eq 21, 3) := by decide +kernel
theorem dX5_startsUnit_51 : decode cX5_startsUnit 51 = .ok (.aload_n 0, 1) := by decide +kernel
theorem dX5_startsUnit_52 : decode cX5_startsUnit 52 = .ok (.getfield 60, 3) := by decide +kernel
theorem dX5_startsUnit_55 : decode cX5_startsUnit 55 = .ok (.bipush 29, 2) := by decide +kernel
theorem dX5_startsUnit_57 : decode cX5_startsUnit 57 = .ok (.if_icmp .lt 16, 3) := by decide +kernel
theorem dX5_startsUnit_60 : decode cX5_startsUnit 60 = .ok (.aload_n 0, 1) := by decide +kernel
theorem dX5_startsUnit_61 : decode cX5_startsUnit 61 = .ok (.getfield 60, 3) := by decide +kernel
theorem dX5_startsUnit_64 : decode cX5_startsUnit 64 = .ok (.bipush 33, 2) := by decide +kernel
theorem dX5_startsUnit_66 : decode cX5_startsUnit 66 = .ok (.if_icmp .gt 7, 3) := by decide +kernel
theorem dX5_startsUnit_69 : decode cX5_startsUnit 69 = .ok (.iconst 1, 1) := by decide +kernel
theorem dX5_startsUnit_70 : decode cX5_startsUnit 70 = .ok (.goto 4, 3) := by decide +kernel
theorem dX5_startsUnit_73 : decode cX5_startsUnit 73 = .ok (.iconst 0, 1) := by decide +kernel
theorem dX5_startsUnit_74 : decode cX5_startsUnit 74 = .ok (.ireturn, 1) := by decide +kernel
def kX5_startsUnit_21 (n : Nat) : mK := i_cst (.int (0)) (i_rZ)
set_option maxRecDepth 20000 in
theorem okX5_startsUnit_21 {E : mE} {X : State → Heap → Prop} {l : Launch} (hX : mXok E X) (n : Nat) : Sd E X l yX5_startsUnit cX5_startsUnit 2 (some .boolean) 1 0 0 0 0 21 (kX5_startsUnit_21 n) := s_iconst dX5_startsUnit_21 (by decide) (s_rZ dX5_startsUnit_22 (Nat.le_of_ble_eq_true rfl) (Nat.le_of_ble_eq_true rfl))
def kX5_startsUnit_42 (n : Nat) : mK := i_rZ
set_option maxRecDepth 20000 in
theorem okX5_startsUnit_42 {E : mE} {X : State → Heap → Prop} {l : Launch} (hX : mXok E X) (n : Nat) : Sd E X l yX5_startsUnit cX5_startsUnit 2 (some .boolean) 1 0 0 0 0 42 (kX5_startsUnit_42 n) := s_rZ dX5_startsUnit_42 (Nat.le_of_ble_eq_true rfl) (Nat.le_of_ble_eq_true rfl)
def kX5_startsUnit_74 (n : Nat) : mK := i_rZ
set_option maxRecDepth 20000 in
theorem okX5_startsUnit_74 {E : mE} {X : State → Heap → Prop} {l : Launch} (hX : mXok E X) (n : Nat) : Sd E X l yX5_startsUnit cX5_startsUnit 2 (some .boolean) 1 0 0 0 0 74 (kX5_startsUnit_74 n) := s_rZ dX5_startsUnit_74 (Nat.le_of_ble_eq_true rfl) (Nat.le_of_ble_eq_true rfl)
def kX5_startsUnit_69 (n : Nat) : mK := i_cst (.int (1)) ((kX5_startsUnit_74 n))
set_option maxRecDepth 20000 in
theorem okX5_startsUnit_69 {E : mE} {X : State → Heap → Prop} {l : Launch} (hX : mXok E X) (n : Nat) : Sd E X l yX5_startsUnit cX5_startsUnit 2 (some .boolean) 1 0 0 0 0 69 (kX5_startsUnit_69 n) := s_iconst dX5_startsUnit_69 (by decide) (s_goto dX5_startsUnit_70 (by decide) (okX5_startsUnit_74 hX n))
def kX5_startsUnit_73 (n : Nat) : mK := i_cst (.int (0)) (kX5_startsUnit_74 n)
set_option maxRecDepth 20000 in
theorem okX5_startsUnit_73 {E : mE} {X : State → Heap → Prop} {l : Launch} (hX : mXok E X) (n : Nat) : Sd E X l yX5_startsUnit cX5_startsUnit 2 (some .boolean) 1 0 0 0 0 73 (kX5_startsUnit_73 n) := s_iconst dX5_startsUnit_73 (by decide) (okX5_startsUnit_74 hX n)
def kX5_startsUnit_66 (n : Nat) : mK := i_c2 (fun x y => decide (y < x)) (kX5_startsUnit_73 n) (kX5_startsUnit_69 n)
set_option maxRecDepth 20000 in
theorem okX5_startsUnit_66 {E : mE} {X : State → Heap → Prop} {l : Launch} (hX : mXok E X) (n : Nat) : Sd E X l yX5_startsUnit cX5_startsUnit 2 (some .boolean) 1 0 0 0 0 66 (kX5_startsUnit_66 n) := s_icgt dX5_startsUnit_66 (by decide) (okX5_startsUnit_73 hX n) (okX5_startsUnit_69 hX n)
def kX5_startsUnit_0 (n : Nat) : mK := i_ldA 0 (i_gI 5 10 (i_cst (.int (30)) (i_c2 (fun x y => decide (y ≤ x)) (kX5_startsUnit_21 n) (i_ldA 0 (i_gA 5 1 (i_gI 4 5 (i_cst (.int (60)) (i_c2 (fun x y => decide (x < y)) (i_ldA 0 (i_gI 5 5 (i_cst (.int (5)) (i_c2 (fun x y => decide (¬ x = y)) (i_ldA 0 (i_gI 5 5 (i_cst (.int (2)) (i_c2 (fun x y => decide (x = y)) (kX5_startsUnit_69 n) (i_ldA 0 (i_gI 5 5 (i_cst (.int (29)) (i_c2 (fun x y => decide (x < y)) (kX5_startsUnit_73 n) (i_ldA 0 (i_gI 5 5 (i_cst (.int (33)) (kX5_startsUnit_66 n)))))))))))) (i_ldI 1 (i_cst (.int (6)) (i_c2 (fun x y => decide (y < x)) (i_cst (.int (0)) (kX5_startsUnit_42 n)) (i_cst (.int (1)) ((kX5_startsUnit_42 n)))))))))) (kX5_startsUnit_21 n)))))))))
set_option maxRecDepth 20000 in
theorem okX5_startsUnit_0 {E : mE} {X : State → Heap → Prop} {l : Launch} (hX : mXok E X) (n : Nat) : Sd E X l yX5_startsUnit cX5_startsUnit 2 (some .boolean) 1 0 0 0 0 0 (kX5_startsUnit_0 n) := s_aload_n dX5_startsUnit_0 rfl (s_gI dX5_startsUnit_1 lFX5_161 (by decide) (s_bipush dX5_startsUnit_4 (by decide) (s_icge dX5_startsUnit_6 (by decide) (okX5_startsUnit_21 hX n) (s_aload_n dX5_startsUnit_9 rfl (s_gA dX5_startsUnit_10 lFX5_28 (s_gI dX5_startsUnit_13 lFX5_188 (by decide) (s_bipush dX5_startsUnit_16 (by decide) (s_iclt dX5_startsUnit_18 (by decide) (s_aload_n dX5_startsUnit_23 rfl (s_gI dX5_startsUnit_24 lFX5_60 (by decide) (s_iconst dX5_startsUnit_27 (by decide) (s_icne dX5_startsUnit_28 (by decide) (s_aload_n dX5_startsUnit_43 rfl (s_gI dX5_startsUnit_44 lFX5_60 (by decide) (s_iconst dX5_startsUnit_47 (by decide) (s_iceq dX5_startsUnit_48 (by decide) (okX5_startsUnit_69 hX n) (s_aload_n dX5_startsUnit_51 rfl (s_gI dX5_startsUnit_52 lFX5_60 (by decide) (s_bipush dX5_startsUnit_55 (by decide) (s_iclt dX5_startsUnit_57 (by decide) (okX5_startsUnit_73 hX n) (s_aload_n dX5_startsUnit_60 rfl (s_gI dX5_startsUnit_61 lFX5_60 (by decide) (s_bipush dX5_startsUnit_64 (by decide) (okX5_startsUnit_66 hX n)))))))))))) (s_iload_n dX5_startsUnit_31 rfl (s_bipush dX5_startsUnit_32 (by decide) (s_icgt dX5_startsUnit_34 (by decide) (s_iconst dX5_startsUnit_41 (by decide) (okX5_startsUnit_42 hX n)) (s_iconst dX5_startsUnit_37 (by decide) (s_goto dX5_startsUnit_38 (by decide) (okX5_startsUnit_42 hX n)))))))))) (okX5_startsUnit_21 hX n)))))))))
def FX5_startsUnit (n : Nat) : List Value → mM → Option mR := mfn 2 (kX5_startsUnit_0 n)
theorem CtX5_startsUnit {E : mE} {X : State → Heap → Prop} {l : Launch} (hX : mXok E X) (n : Nat) : Ct E X l yX5_startsUnit cX5_startsUnit 2 (some .boolean) 1 0 0 (FX5_startsUnit n) := Ct_of (by decide) hX (okX5_startsUnit_0 hX n)
theorem dX6_add_0 : decode cX6_add 0 = .ok (.aload_n 0, 1) := by decide +kernel
theorem dX6_add_1 : decode cX6_add 1 = .ok (.getfield 13, 3) := by decide +kernel
theorem dX6_add_4 : decode cX6_add 4 = .ok (.ifCond .lt 35, 3) := by decide +kernel
theorem dX6_add_7 : decode cX6_add 7 = .ok (.aload_n 0, 1) := by decide +kernel
theorem dX6_add_8 : decode cX6_add 8 = .ok (.getfield 13, 3) := by decide +kernel
theorem dX6_add_11 : decode cX6_add 11 = .ok (.aload_n 0, 1) := by decide +kernel
theorem dX6_add_12 : decode cX6_add 12 = .ok (.getfield 9, 3) := by decide +kernel
theorem dX6_add_15 : decode cX6_add 15 = .ok (.arraylength, 1) := by decide +kernel
theorem dX6_add_16 : decode cX6_add 16 = .ok (.if_icmp .ge 23, 3) := by decide +kernel
theorem dX6_add_19 : decode cX6_add 19 = .ok (.aload_n 0, 1) := by decide +kernel
theorem dX6_add_20 : decode cX6_add 20 = .ok (.getfield 9, 3) := by decide +kernel
theorem dX6_add_23 : decode cX6_add 23 = .ok (.aload_n 0, 1) := by decide +kernel
theorem dX6_add_24 : decode cX6_add 24 = .ok (.getfield 13, 3) := by decide +kernel
theorem dX6_add_27 : decode cX6_add 27 = .ok (.iload_n 1, 1) := by decide +kernel
theorem dX6_add_28 : decode cX6_add 28 = .ok (.iastore, 1) := by decide +kernel
theorem dX6_add_29 : decode cX6_add 29 = .ok (.aload_n 0, 1) := by decide +kernel
theorem dX6_add_30 : decode cX6_add 30 = .ok (.dup, 1) := by decide +kernel
theorem dX6_add_31 : decode cX6_add 31 = .ok (.getfield 13, 3) := by decide +kernel
theorem dX6_add_34 : decode cX6_add 34 = .ok (.iconst 1, 1) := by decide +kernel
theorem dX6_add_35 : decode cX6_add 35 = .ok (.iadd, 1) := by decide +kernel
theorem dX6_add_36 : decode cX6_add 36 = .ok (.putfield 13, 3) := by decide +kernel
theorem dX6_add_39 : decode cX6_add 39 = .ok (.return_, 1) := by decide +kernel
def kX6_add_39 (n : Nat) : mK := i_rV
set_option maxRecDepth 20000 in
theorem okX6_add_39 {E : mE} {X : State → Heap → Prop} {l : Launch} (hX : mXok E X) (n : Nat) : Sd E X l yX6_add cX6_add 2 none 1 0 0 0 0 39 (kX6_add_39 n) := s_rV dX6_add_39 (Nat.le_of_ble_eq_true rfl) (Nat.le_of_ble_eq_true rfl)
def kX6_add_0 (n : Nat) : mK := i_ldA 0 (i_gI 6 1 (i_c0 (fun x => decide (x < 0)) (kX6_add_39 n) (i_ldA 0 (i_gI 6 1 (i_ldA 0 (i_gA 6 0 (i_len (i_c2 (fun x y => decide (y ≤ x)) (kX6_add_39 n) (i_ldA 0 (i_gA 6 0 (i_ldA 0 (i_gI 6 1 (i_ldI 1 (i_as 0 (i_ldA 0 (i_dup (i_gI 6 1 (i_cst (.int (1)) (i_bin (fun x y => x + y) (i_pI 6 1 (kX6_add_39 n)))))))))))))))))))))
set_option maxRecDepth 20000 in
theorem okX6_add_0 {E : mE} {X : State → Heap → Prop} {l : Launch} (hX : mXok E X) (n : Nat) : Sd E X l yX6_add cX6_add 2 none 1 0 0 0 0 0 (kX6_add_0 n) := s_aload_n dX6_add_0 rfl (s_gI dX6_add_1 lFX6_13 (by decide) (s_iflt dX6_add_4 (by decide) (okX6_add_39 hX n) (s_aload_n dX6_add_7 rfl (s_gI dX6_add_8 lFX6_13 (by decide) (s_aload_n dX6_add_11 rfl (s_gA dX6_add_12 lFX6_9 (s_len dX6_add_15 (s_icge dX6_add_16 (by decide) (okX6_add_39 hX n) (s_aload_n dX6_add_19 rfl (s_gA dX6_add_20 lFX6_9 (s_aload_n dX6_add_23 rfl (s_gI dX6_add_24 lFX6_13 (by decide) (s_iload_n dX6_add_27 rfl (s_iast dX6_add_28 (s_aload_n dX6_add_29 rfl (s_dup dX6_add_30 (s_gI dX6_add_31 lFX6_13 (by decide) (s_iconst dX6_add_34 (by decide) (s_iadd dX6_add_35 (s_pI dX6_add_36 lFX6_13 (okX6_add_39 hX n)))))))))))))))))))))
def FX6_add (n : Nat) : List Value → mM → Option mR := mfn 2 (kX6_add_0 n)
theorem CtX6_add {E : mE} {X : State → Heap → Prop} {l : Launch} (hX : mXok E X) (n : Nat) : Ct E X l yX6_add cX6_add 2 none 1 0 0 (FX6_add n) := Ct_of (by decide) hX (okX6_add_0 hX n)
theorem dX6_clear_0 : decode cX6_clear 0 = .ok (.aload_n 0, 1) := by decide +kernel
theorem dX6_clear_1 : decode cX6_clear 1 = .ok (.iconst 0, 1) := by decide +kernel
theorem dX6_clear_2 : decode cX6_clear 2 = .ok (.putfield 13, 3) := by decide +kernel
theorem dX6_clear_5 : decode cX6_clear 5 = .ok (.return_, 1) := by decide +kernel
def kX6_clear_0 (n : Nat) : mK := i_ldA 0 (i_cst (.int (0)) (i_pI 6 1 (i_rV)))
set_option maxRecDepth 20000 in
theorem okX6_clear_0 {E : mE} {X : State → Heap → Prop} {l : Launch} (hX : mXok E X) (n : Nat) : Sd E X l yX6_clear cX6_clear 1 none 1 0 0 0 0 0 (kX6_clear_0 n) := s_aload_n dX6_clear_0 rfl (s_iconst dX6_clear_1 (by decide) (s_pI dX6_clear_2 lFX6_13 (s_rV dX6_clear_5 (Nat.le_of_ble_eq_true rfl) (Nat.le_of_ble_eq_true rfl))))
def FX6_clear (n : Nat) : List Value → mM → Option mR := mfn 1 (kX6_clear_0 n)
theorem CtX6_clear {E : mE} {X : State → Heap → Prop} {l : Launch} (hX : mXok E X) (n : Nat) : Ct E X l yX6_clear cX6_clear 1 none 1 0 0 (FX6_clear n) := Ct_of (by decide) hX (okX6_clear_0 hX n)
theorem dX6_init_0 : decode cX6_init 0 = .ok (.aload_n 0, 1) := by decide +kernel
theorem dX6_init_1 : decode cX6_init 1 = .ok (.invokespecial 1, 3) := by decide +kernel
theorem dX6_init_4 : decode cX6_init 4 = .ok (.aload_n 0, 1) := by decide +kernel
theorem dX6_init_5 : decode cX6_init 5 = .ok (.bipush 16, 2) := by decide +kernel
theorem dX6_init_7 : decode cX6_init 7 = .ok (.newarray .int, 2) := by decide +kernel
theorem dX6_init_9 : decode cX6_init 9 = .ok (.putfield 9, 3) := by decide +kernel
theorem dX6_init_12 : decode cX6_init 12 = .ok (.return_, 1) := by decide +kernel
def kX6_init_0 (n : Nat) : mK := i_ldA 0 (i_obj (i_ldA 0 (i_cst (.int (16)) (i_na 0 16 (i_pA 6 0 (i_rV))))))
set_option maxRecDepth 20000 in
theorem okX6_init_0 {E : mE} {X : State → Heap → Prop} {l : Launch} (hX : mXok E X) (n : Nat) : Sd E X l yX6_init cX6_init 1 none 1 1 16 0 0 0 (kX6_init_0 n) := s_aload_n dX6_init_0 rfl (s_obj dX6_init_1 lMX6_1 lObj1 lObj2 (Nat.le_of_ble_eq_true rfl) (s_aload_n dX6_init_4 rfl (s_bipush dX6_init_5 (by decide) (s_na dX6_init_7 rfl (by decide) lA_0 (Nat.le_of_ble_eq_true rfl) (Nat.le_of_ble_eq_true rfl) (Nat.le_of_ble_eq_true rfl) (s_pF dX6_init_9 lFX6_9 rfl rfl (s_rV dX6_init_12 (Nat.le_of_ble_eq_true rfl) (Nat.le_of_ble_eq_true rfl)))))))
def FX6_init (n : Nat) : List Value → mM → Option mR := mfn 1 (kX6_init_0 n)
theorem CtX6_init {E : mE} {X : State → Heap → Prop} {l : Launch} (hX : mXok E X) (n : Nat) : Ct E X l yX6_init cX6_init 1 none 1 1 16 (FX6_init n) := Ct_of (by decide) hX (okX6_init_0 hX n)
theorem dX7_gain_0 : decode cX7_gain 0 = .ok (.aload_n 0, 1) := by decide +kernel
theorem dX7_gain_1 : decode cX7_gain 1 = .ok (.getfield 7, 3) := by decide +kernel
theorem dX7_gain_4 : decode cX7_gain 4 = .ok (.iload_n 1, 1) := by decide +kernel
theorem dX7_gain_5 : decode cX7_gain 5 = .ok (.isub, 1) := by decide +kernel
theorem dX7_gain_6 : decode cX7_gain 6 = .ok (.istore_n 3, 1) := by decide +kernel
theorem dX7_gain_7 : decode cX7_gain 7 = .ok (.iload_n 3, 1) := by decide +kernel
theorem dX7_gain_8 : decode cX7_gain 8 = .ok (.ifCond .lt 17, 3) := by decide +kernel
theorem dX7_gain_11 : decode cX7_gain 11 = .ok (.iload_n 3, 1) := by decide +kernel
theorem dX7_gain_12 : decode cX7_gain 12 = .ok (.aload_n 0, 1) := by decide +kernel
theorem dX7_gain_13 : decode cX7_gain 13 = .ok (.getfield 13, 3) := by decide +kernel
theorem dX7_gain_16 : decode cX7_gain 16 = .ok (.iload_n 2, 1) := by decide +kernel
theorem dX7_gain_17 : decode cX7_gain 17 = .ok (.isub, 1) := by decide +kernel
theorem dX7_gain_18 : decode cX7_gain 18 = .ok (.if_icmp .lt 7, 3) := by decide +kernel
theorem dX7_gain_21 : decode cX7_gain 21 = .ok (.iload_n 1, 1) := by decide +kernel
theorem dX7_gain_22 : decode cX7_gain 22 = .ok (.goto 4, 3) := by decide +kernel
theorem dX7_gain_25 : decode cX7_gain 25 = .ok (.iconst 0, 1) := by decide +kernel
theorem dX7_gain_26 : decode cX7_gain 26 = .ok (.ireturn, 1) := by decide +kernel
def kX7_gain_26 (n : Nat) : mK := i_rI
set_option maxRecDepth 20000 in
theorem okX7_gain_26 {E : mE} {X : State → Heap → Prop} {l : Launch} (hX : mXok E X) (n : Nat) : Sd E X l yX7_gain cX7_gain 4 (some .int) 1 0 0 0 0 26 (kX7_gain_26 n) := s_rI dX7_gain_26 (Nat.le_of_ble_eq_true rfl) (Nat.le_of_ble_eq_true rfl)
def kX7_gain_25 (n : Nat) : mK := i_cst (.int (0)) (kX7_gain_26 n)
set_option maxRecDepth 20000 in
theorem okX7_gain_25 {E : mE} {X : State → Heap → Prop} {l : Launch} (hX : mXok E X) (n : Nat) : Sd E X l yX7_gain cX7_gain 4 (some .int) 1 0 0 0 0 25 (kX7_gain_25 n) := s_iconst dX7_gain_25 (by decide) (okX7_gain_26 hX n)
def kX7_gain_0 (n : Nat) : mK := i_ldA 0 (i_gI 7 0 (i_ldI 1 (i_bin (fun x y => x - y) (i_stI 3 (i_ldI 3 (i_c0 (fun x => decide (x < 0)) (kX7_gain_25 n) (i_ldI 3 (i_ldA 0 (i_gI 7 1 (i_ldI 2 (i_bin (fun x y => x - y) (i_c2 (fun x y => decide (x < y)) (kX7_gain_25 n) (i_ldI 1 ((kX7_gain_26 n)))))))))))))))
set_option maxRecDepth 20000 in
theorem okX7_gain_0 {E : mE} {X : State → Heap → Prop} {l : Launch} (hX : mXok E X) (n : Nat) : Sd E X l yX7_gain cX7_gain 4 (some .int) 1 0 0 0 0 0 (kX7_gain_0 n) := s_aload_n dX7_gain_0 rfl (s_gI dX7_gain_1 lFX7_7 (by decide) (s_iload_n dX7_gain_4 rfl (s_isub dX7_gain_5 (s_istore_n dX7_gain_6 rfl (s_iload_n dX7_gain_7 rfl (s_iflt dX7_gain_8 (by decide) (okX7_gain_25 hX n) (s_iload_n dX7_gain_11 rfl (s_aload_n dX7_gain_12 rfl (s_gI dX7_gain_13 lFX7_13 (by decide) (s_iload_n dX7_gain_16 rfl (s_isub dX7_gain_17 (s_iclt dX7_gain_18 (by decide) (okX7_gain_25 hX n) (s_iload_n dX7_gain_21 rfl (s_goto dX7_gain_22 (by decide) (okX7_gain_26 hX n)))))))))))))))
def FX7_gain (n : Nat) : List Value → mM → Option mR := mfn 4 (kX7_gain_0 n)
theorem CtX7_gain {E : mE} {X : State → Heap → Prop} {l : Launch} (hX : mXok E X) (n : Nat) : Ct E X l yX7_gain cX7_gain 4 (some .int) 1 0 0 (FX7_gain n) := Ct_of (by decide) hX (okX7_gain_0 hX n)
theorem dX7_init_0 : decode cX7_init 0 = .ok (.aload_n 0, 1) := by decide +kernel
theorem dX7_init_1 : decode cX7_init 1 = .ok (.invokespecial 1, 3) := by decide +kernel
theorem dX7_init_4 : decode cX7_init 4 = .ok (.return_, 1) := by decide +kernel
def kX7_init_0 (n : Nat) : mK := i_ldA 0 (i_obj (i_rV))
set_option maxRecDepth 20000 in
theorem okX7_init_0 {E : mE} {X : State → Heap → Prop} {l : Launch} (hX : mXok E X) (n : Nat) : Sd E X l yX7_init cX7_init 1 none 1 0 0 0 0 0 (kX7_init_0 n) := s_aload_n dX7_init_0 rfl (s_obj dX7_init_1 lMX7_1 lObj1 lObj2 (Nat.le_of_ble_eq_true rfl) (s_rV dX7_init_4 (Nat.le_of_ble_eq_true rfl) (Nat.le_of_ble_eq_true rfl)))
def FX7_init (n : Nat) : List Value → mM → Option mR := mfn 1 (kX7_init_0 n)
theorem CtX7_init {E : mE} {X : State → Heap → Prop} {l : Launch} (hX : mXok E X) (n : Nat) : Ct E X l yX7_init cX7_init 1 none 1 0 0 (FX7_init n) := Ct_of (by decide) hX (okX7_init_0 hX n)
theorem dX7_open_0 : decode cX7_open 0 = .ok (.aload_n 0, 1) := by decide +kernel
theorem dX7_open_1 : decode cX7_open 1 = .ok (.iload_n 1, 1) := by decide +kernel
theorem dX7_open_2 : decode cX7_open 2 = .ok (.putfield 7, 3) := by decide +kernel
theorem dX7_open_5 : decode cX7_open 5 = .ok (.aload_n 0, 1) := by decide +kernel
theorem dX7_open_6 : decode cX7_open 6 = .ok (.iload_n 2, 1) := by decide +kernel
theorem dX7_open_7 : decode cX7_open 7 = .ok (.putfield 13, 3) := by decide +kernel
theorem dX7_open_10 : decode cX7_open 10 = .ok (.return_, 1) := by decide +kernel
def kX7_open_0 (n : Nat) : mK := i_ldA 0 (i_ldI 1 (i_pI 7 0 (i_ldA 0 (i_ldI 2 (i_pI 7 1 (i_rV))))))
set_option maxRecDepth 20000 in
theorem okX7_open_0 {E : mE} {X : State → Heap → Prop} {l : Launch} (hX : mXok E X) (n : Nat) : Sd E X l yX7_open cX7_open 3 none 1 0 0 0 0 0 (kX7_open_0 n) := s_aload_n dX7_open_0 rfl (s_iload_n dX7_open_1 rfl (s_pI dX7_open_2 lFX7_7 (s_aload_n dX7_open_5 rfl (s_iload_n dX7_open_6 rfl (s_pI dX7_open_7 lFX7_13 (s_rV dX7_open_10 (Nat.le_of_ble_eq_true rfl) (Nat.le_of_ble_eq_true rfl)))))))
def FX7_open (n : Nat) : List Value → mM → Option mR := mfn 3 (kX7_open_0 n)
theorem CtX7_open {E : mE} {X : State → Heap → Prop} {l : Launch} (hX : mXok E X) (n : Nat) : Ct E X l yX7_open cX7_open 3 none 1 0 0 (FX7_open n) := Ct_of (by decide) hX (okX7_open_0 hX n)
theorem dX7_otherGain_0 : decode cX7_otherGain 0 = .ok (.aload_n 0, 1) := by decide +kernel
theorem dX7_otherGain_1 : decode cX7_otherGain 1 = .ok (.getfield 13, 3) := by decide +kernel
theorem dX7_otherGain_4 : decode cX7_otherGain 4 = .ok (.iload_n 2, 1) := by decide +kernel
theorem dX7_otherGain_5 : decode cX7_otherGain 5 = .ok (.isub, 1) := by decide +kernel
theorem dX7_otherGain_6 : decode cX7_otherGain 6 = .ok (.istore_n 3, 1) := by decide +kernel
theorem dX7_otherGain_7 : decode cX7_otherGain 7 = .ok (.iload_n 3, 1) := by decide +kernel
theorem dX7_otherGain_8 : decode cX7_otherGain 8 = .ok (.ifCond .lt 17, 3) := by decide +kernel
theorem dX7_otherGain_11 : decode cX7_otherGain 11 = .ok (.iload_n 3, 1) := by decide +kernel
theorem dX7_otherGain_12 : decode cX7_otherGain 12 = .ok (.aload_n 0, 1) := by decide +kernel
theorem dX7_otherGain_13 : decode cX7_otherGain 13 = .ok (.getfield 7, 3) := by decide +kernel
theorem dX7_otherGain_16 : decode cX7_otherGain 16 = .ok (.iload_n 1, 1) := by decide +kernel
theorem dX7_otherGain_17 : decode cX7_otherGain 17 = .ok (.isub, 1) := by decide +kernel
theorem dX7_otherGain_18 : decode cX7_otherGain 18 = .ok (.if_icmp .le 7, 3) := by decide +kernel
theorem dX7_otherGain_21 : decode cX7_otherGain 21 = .ok (.iload_n 2, 1) := by decide +kernel
theorem dX7_otherGain_22 : decode cX7_otherGain 22 = .ok (.goto 4, 3) := by decide +kernel
theorem dX7_otherGain_25 : decode cX7_otherGain 25 = .ok (.iconst 0, 1) := by decide +kernel
theorem dX7_otherGain_26 : decode cX7_otherGain 26 = .ok (.ireturn, 1) := by decide +kernel
def kX7_otherGain_26 (n : Nat) : mK := i_rI
set_option maxRecDepth 20000 in
theorem okX7_otherGain_26 {E : mE} {X : State → Heap → Prop} {l : Launch} (hX : mXok E X) (n : Nat) : Sd E X l yX7_otherGain cX7_otherGain 4 (some .int) 1 0 0 0 0 26 (kX7_otherGain_26 n) := s_rI dX7_otherGain_26 (Nat.le_of_ble_eq_true rfl) (Nat.le_of_ble_eq_true rfl)
def kX7_otherGain_25 (n : Nat) : mK := i_cst (.int (0)) (kX7_otherGain_26 n)
set_option maxRecDepth 20000 in
theorem okX7_otherGain_25 {E : mE} {X : State → Heap → Prop} {l : Launch} (hX : mXok E X) (n : Nat) : Sd E X l yX7_otherGain cX7_otherGain 4 (some .int) 1 0 0 0 0 25 (kX7_otherGain_25 n) := s_iconst dX7_otherGain_25 (by decide) (okX7_otherGain_26 hX n)
def kX7_otherGain_0 (n : Nat) : mK := i_ldA 0 (i_gI 7 1 (i_ldI 2 (i_bin (fun x y => x - y) (i_stI 3 (i_ldI 3 (i_c0 (fun x => decide (x < 0)) (kX7_otherGain_25 n) (i_ldI 3 (i_ldA 0 (i_gI 7 0 (i_ldI 1 (i_bin (fun x y => x - y) (i_c2 (fun x y => decide (x ≤ y)) (kX7_otherGain_25 n) (i_ldI 2 ((kX7_otherGain_26 n)))))))))))))))
set_option maxRecDepth 20000 in
theorem okX7_otherGain_0 {E : mE} {X : State → Heap → Prop} {l : Launch} (hX : mXok E X) (n : Nat) : Sd E X l yX7_otherGain cX7_otherGain 4 (some .int) 1 0 0 0 0 0 (kX7_otherGain_0 n) := s_aload_n dX7_otherGain_0 rfl (s_gI dX7_otherGain_1 lFX7_13 (by decide) (s_iload_n dX7_otherGain_4 rfl (s_isub dX7_otherGain_5 (s_istore_n dX7_otherGain_6 rfl (s_iload_n dX7_otherGain_7 rfl (s_iflt dX7_otherGain_8 (by decide) (okX7_otherGain_25 hX n) (s_iload_n dX7_otherGain_11 rfl (s_aload_n dX7_otherGain_12 rfl (s_gI dX7_otherGain_13 lFX7_7 (by decide) (s_iload_n dX7_otherGain_16 rfl (s_isub dX7_otherGain_17 (s_icle dX7_otherGain_18 (by decide) (okX7_otherGain_25 hX n) (s_iload_n dX7_otherGain_21 rfl (s_goto dX7_otherGain_22 (by decide) (okX7_otherGain_26 hX n)))))))))))))))
def FX7_otherGain (n : Nat) : List Value → mM → Option mR := mfn 4 (kX7_otherGain_0 n)
theorem CtX7_otherGain {E : mE} {X : State → Heap → Prop} {l : Launch} (hX : mXok E X) (n : Nat) : Ct E X l yX7_otherGain cX7_otherGain 4 (some .int) 1 0 0 (FX7_otherGain n) := Ct_of (by decide) hX (okX7_otherGain_0 hX n)
theorem dX8_init_0 : decode cX8_init 0 = .ok (.aload_n 0, 1) := by decide +kernel
theorem dX8_init_1 : decode cX8_init 1 = .ok (.invokespecial 3, 3) := by decide +kernel
theorem dX8_init_4 : decode cX8_init 4 = .ok (.aload_n 0, 1) := by decide +kernel
theorem dX8_init_5 : decode cX8_init 5 = .ok (.bipush 8, 2) := by decide +kernel
theorem dX8_init_7 : decode cX8_init 7 = .ok (.newarray .int, 2) := by decide +kernel
theorem dX8_init_9 : decode cX8_init 9 = .ok (.putfield 9, 3) := by decide +kernel
theorem dX8_init_12 : decode cX8_init 12 = .ok (.aload_n 0, 1) := by decide +kernel
theorem dX8_init_13 : decode cX8_init 13 = .ok (.bipush 8, 2) := by decide +kernel
theorem dX8_init_15 : decode cX8_init 15 = .ok (.newarray .int, 2) := by decide +kernel
theorem dX8_init_17 : decode cX8_init 17 = .ok (.putfield 15, 3) := by decide +kernel
theorem dX8_init_20 : decode cX8_init 20 = .ok (.aload_n 0, 1) := by decide +kernel
theorem dX8_init_21 : decode cX8_init 21 = .ok (.bipush 8, 2) := by decide +kernel
theorem dX8_init_23 : decode cX8_init 23 = .ok (.newarray .int, 2) := by decide +kernel
theorem dX8_init_25 : decode cX8_init 25 = .ok (.putfield 18, 3) := by decide +kernel
theorem dX8_init_28 : decode cX8_init 28 = .ok (.aload_n 0, 1) := by decide +kernel
theorem dX8_init_29 : decode cX8_init 29 = .ok (.bipush 8, 2) := by decide +kernel
theorem dX8_init_31 : decode cX8_init 31 = .ok (.newarray .int, 2) := by decide +kernel
theorem dX8_init_33 : decode cX8_init 33 = .ok (.putfield 21, 3) := by decide +kernel
theorem dX8_init_36 : decode cX8_init 36 = .ok (.aload_n 0, 1) := by decide +kernel
theorem dX8_init_37 : decode cX8_init 37 = .ok (.aload_n 1, 1) := by decide +kernel
theorem dX8_init_38 : decode cX8_init 38 = .ok (.putfield 24, 3) := by decide +kernel
theorem dX8_init_41 : decode cX8_init 41 = .ok (.return_, 1) := by decide +kernel
def kX8_init_0 (n : Nat) : mK := i_ldA 0 (i_obj (i_ldA 0 (i_cst (.int (8)) (i_na 0 8 (i_pA 8 1 (i_ldA 0 (i_cst (.int (8)) (i_na 0 8 (i_pA 8 2 (i_ldA 0 (i_cst (.int (8)) (i_na 0 8 (i_pA 8 3 (i_ldA 0 (i_cst (.int (8)) (i_na 0 8 (i_pA 8 4 (i_ldA 0 (i_ldA 1 (i_pA 8 0 (i_rV)))))))))))))))))))))
set_option maxRecDepth 20000 in
theorem okX8_init_0 {E : mE} {X : State → Heap → Prop} {l : Launch} (hX : mXok E X) (n : Nat) : Sd E X l yX8_init cX8_init 2 none 1 4 32 0 0 0 (kX8_init_0 n) := s_aload_n dX8_init_0 rfl (s_obj dX8_init_1 lMX8_3 lObj1 lObj2 (Nat.le_of_ble_eq_true rfl) (s_aload_n dX8_init_4 rfl (s_bipush dX8_init_5 (by decide) (s_na dX8_init_7 rfl (by decide) lA_0 (Nat.le_of_ble_eq_true rfl) (Nat.le_of_ble_eq_true rfl) (Nat.le_of_ble_eq_true rfl) (s_pF dX8_init_9 lFX8_9 rfl rfl (s_aload_n dX8_init_12 rfl (s_bipush dX8_init_13 (by decide) (s_na dX8_init_15 rfl (by decide) lA_0 (Nat.le_of_ble_eq_true rfl) (Nat.le_of_ble_eq_true rfl) (Nat.le_of_ble_eq_true rfl) (s_pF dX8_init_17 lFX8_15 rfl rfl (s_aload_n dX8_init_20 rfl (s_bipush dX8_init_21 (by decide) (s_na dX8_init_23 rfl (by decide) lA_0 (Nat.le_of_ble_eq_true rfl) (Nat.le_of_ble_eq_true rfl) (Nat.le_of_ble_eq_true rfl) (s_pF dX8_init_25 lFX8_18 rfl rfl (s_aload_n dX8_init_28 rfl (s_bipush dX8_init_29 (by decide) (s_na dX8_init_31 rfl (by decide) lA_0 (Nat.le_of_ble_eq_true rfl) (Nat.le_of_ble_eq_true rfl) (Nat.le_of_ble_eq_true rfl) (s_pF dX8_init_33 lFX8_21 rfl rfl (s_aload_n dX8_init_36 rfl (s_aload_n dX8_init_37 rfl (s_pF dX8_init_38 lFX8_24 rfl rfl (s_rV dX8_init_41 (Nat.le_of_ble_eq_true rfl) (Nat.le_of_ble_eq_true rfl))))))))))))))))))))))
def FX8_init (n : Nat) : List Value → mM → Option mR := mfn 2 (kX8_init_0 n)
theorem CtX8_init {E : mE} {X : State → Heap → Prop} {l : Launch} (hX : mXok E X) (n : Nat) : Ct E X l yX8_init cX8_init 2 none 1 4 32 (FX8_init n) := Ct_of (by decide) hX (okX8_init_0 hX n)
theorem dX9_byteAt_0 : decode cX9_byteAt 0 = .ok (.iload_n 1, 1) := by decide +kernel
theorem dX9_byteAt_1 : decode cX9_byteAt 1 = .ok (.ifCond .lt 29, 3) := by decide +kernel
theorem dX9_byteAt_4 : decode cX9_byteAt 4 = .ok (.iload_n 1, 1) := by decide +kernel
theorem dX9_byteAt_5 : decode cX9_byteAt 5 = .ok (.aload_n 0, 1) := by decide +kernel
theorem dX9_byteAt_6 : decode cX9_byteAt 6 = .ok (.getfield 21, 3) := by decide +kernel
theorem dX9_byteAt_9 : decode cX9_byteAt 9 = .ok (.if_icmp .ge 21, 3) := by decide +kernel
theorem dX9_byteAt_12 : decode cX9_byteAt 12 = .ok (.iload_n 1, 1) := by decide +kernel
theorem dX9_byteAt_13 : decode cX9_byteAt 13 = .ok (.aload_n 0, 1) := by decide +kernel
theorem dX9_byteAt_14 : decode cX9_byteAt 14 = .ok (.getfield 18, 3) := by decide +kernel
theorem dX9_byteAt_17 : decode cX9_byteAt 17 = .ok (.arraylength, 1) := by decide +kernel
theorem dX9_byteAt_18 : decode cX9_byteAt 18 = .ok (.if_icmp .ge 12, 3) := by decide +kernel
theorem dX9_byteAt_21 : decode cX9_byteAt 21 = .ok (.aload_n 0, 1) := by decide +kernel
theorem dX9_byteAt_22 : decode cX9_byteAt 22 = .ok (.getfield 18, 3) := by decide +kernel
theorem dX9_byteAt_25 : decode cX9_byteAt 25 = .ok (.iload_n 1, 1) := by decide +kernel
theorem dX9_byteAt_26 : decode cX9_byteAt 26 = .ok (.iaload, 1) := by decide +kernel
theorem dX9_byteAt_27 : decode cX9_byteAt 27 = .ok (.goto 4, 3) := by decide +kernel
theorem dX9_byteAt_30 : decode cX9_byteAt 30 = .ok (.iconst 0, 1) := by decide +kernel
theorem dX9_byteAt_31 : decode cX9_byteAt 31 = .ok (.ireturn, 1) := by decide +kernel
def kX9_byteAt_31 (n : Nat) : mK := i_rI
set_option maxRecDepth 20000 in
theorem okX9_byteAt_31 {E : mE} {X : State → Heap → Prop} {l : Launch} (hX : mXok E X) (n : Nat) : Sd E X l yX9_byteAt cX9_byteAt 2 (some .int) 1 0 0 0 0 31 (kX9_byteAt_31 n) := s_rI dX9_byteAt_31 (Nat.le_of_ble_eq_true rfl) (Nat.le_of_ble_eq_true rfl)
def kX9_byteAt_30 (n : Nat) : mK := i_cst (.int (0)) (kX9_byteAt_31 n)
set_option maxRecDepth 20000 in
theorem okX9_byteAt_30 {E : mE} {X : State → Heap → Prop} {l : Launch} (hX : mXok E X) (n : Nat) : Sd E X l yX9_byteAt cX9_byteAt 2 (some .int) 1 0 0 0 0 30 (kX9_byteAt_30 n) := s_iconst dX9_byteAt_30 (by decide) (okX9_byteAt_31 hX n)
def kX9_byteAt_0 (n : Nat) : mK := i_ldI 1 (i_c0 (fun x => decide (x < 0)) (kX9_byteAt_30 n) (i_ldI 1 (i_ldA 0 (i_gI 9 3 (i_c2 (fun x y => decide (y ≤ x)) (kX9_byteAt_30 n) (i_ldI 1 (i_ldA 0 (i_gA 9 0 (i_len (i_c2 (fun x y => decide (y ≤ x)) (kX9_byteAt_30 n) (i_ldA 0 (i_gA 9 0 (i_ldI 1 (i_al 0 ((kX9_byteAt_31 n))))))))))))))))
set_option maxRecDepth 20000 in
theorem okX9_byteAt_0 {E : mE} {X : State → Heap → Prop} {l : Launch} (hX : mXok E X) (n : Nat) : Sd E X l yX9_byteAt cX9_byteAt 2 (some .int) 1 0 0 0 0 0 (kX9_byteAt_0 n) := s_iload_n dX9_byteAt_0 rfl (s_iflt dX9_byteAt_1 (by decide) (okX9_byteAt_30 hX n) (s_iload_n dX9_byteAt_4 rfl (s_aload_n dX9_byteAt_5 rfl (s_gI dX9_byteAt_6 lFX9_21 (by decide) (s_icge dX9_byteAt_9 (by decide) (okX9_byteAt_30 hX n) (s_iload_n dX9_byteAt_12 rfl (s_aload_n dX9_byteAt_13 rfl (s_gA dX9_byteAt_14 lFX9_18 (s_len dX9_byteAt_17 (s_icge dX9_byteAt_18 (by decide) (okX9_byteAt_30 hX n) (s_aload_n dX9_byteAt_21 rfl (s_gA dX9_byteAt_22 lFX9_18 (s_iload_n dX9_byteAt_25 rfl (s_iald dX9_byteAt_26 (s_goto dX9_byteAt_27 (by decide) (okX9_byteAt_31 hX n))))))))))))))))
def FX9_byteAt (n : Nat) : List Value → mM → Option mR := mfn 2 (kX9_byteAt_0 n)
theorem CtX9_byteAt {E : mE} {X : State → Heap → Prop} {l : Launch} (hX : mXok E X) (n : Nat) : Ct E X l yX9_byteAt cX9_byteAt 2 (some .int) 1 0 0 (FX9_byteAt n) := Ct_of (by decide) hX (okX9_byteAt_0 hX n)
theorem dX9_init_0 : decode cX9_init 0 = .ok (.aload_n 0, 1) := by decide +kernel
theorem dX9_init_1 : decode cX9_init 1 = .ok (.invokespecial 3, 3) := by decide +kernel
theorem dX9_init_4 : decode cX9_init 4 = .ok (.aload_n 0, 1) := by decide +kernel
theorem dX9_init_5 : decode cX9_init 5 = .ok (.sipush 1601, 3) := by decide +kernel
theorem dX9_init_8 : decode cX9_init 8 = .ok (.newarray .int, 2) := by decide +kernel
theorem dX9_init_10 : decode cX9_init 10 = .ok (.putfield 9, 3) := by decide +kernel
theorem dX9_init_13 : decode cX9_init 13 = .ok (.aload_n 0, 1) := by decide +kernel
theorem dX9_init_14 : decode cX9_init 14 = .ok (.sipush 1601, 3) := by decide +kernel
theorem dX9_init_17 : decode cX9_init 17 = .ok (.newarray .int, 2) := by decide +kernel
theorem dX9_init_19 : decode cX9_init 19 = .ok (.putfield 15, 3) := by decide +kernel
theorem dX9_init_22 : decode cX9_init 22 = .ok (.aload_n 0, 1) := by decide +kernel
theorem dX9_init_23 : decode cX9_init 23 = .ok (.aload_n 1, 1) := by decide +kernel
theorem dX9_init_24 : decode cX9_init 24 = .ok (.putfield 18, 3) := by decide +kernel
theorem dX9_init_27 : decode cX9_init 27 = .ok (.return_, 1) := by decide +kernel
def kX9_init_0 (n : Nat) : mK := i_ldA 0 (i_obj (i_ldA 0 (i_cst (.int (1601)) (i_na 0 1601 (i_pA 9 1 (i_ldA 0 (i_cst (.int (1601)) (i_na 0 1601 (i_pA 9 2 (i_ldA 0 (i_ldA 1 (i_pA 9 0 (i_rV)))))))))))))
set_option maxRecDepth 20000 in
theorem okX9_init_0 {E : mE} {X : State → Heap → Prop} {l : Launch} (hX : mXok E X) (n : Nat) : Sd E X l yX9_init cX9_init 2 none 1 2 3202 0 0 0 (kX9_init_0 n) := s_aload_n dX9_init_0 rfl (s_obj dX9_init_1 lMX9_3 lObj1 lObj2 (Nat.le_of_ble_eq_true rfl) (s_aload_n dX9_init_4 rfl (s_sipush dX9_init_5 (by decide) (s_na dX9_init_8 rfl (by decide) lA_0 (Nat.le_of_ble_eq_true rfl) (Nat.le_of_ble_eq_true rfl) (Nat.le_of_ble_eq_true rfl) (s_pF dX9_init_10 lFX9_9 rfl rfl (s_aload_n dX9_init_13 rfl (s_sipush dX9_init_14 (by decide) (s_na dX9_init_17 rfl (by decide) lA_0 (Nat.le_of_ble_eq_true rfl) (Nat.le_of_ble_eq_true rfl) (Nat.le_of_ble_eq_true rfl) (s_pF dX9_init_19 lFX9_15 rfl rfl (s_aload_n dX9_init_22 rfl (s_aload_n dX9_init_23 rfl (s_pF dX9_init_24 lFX9_18 rfl rfl (s_rV dX9_init_27 (Nat.le_of_ble_eq_true rfl) (Nat.le_of_ble_eq_true rfl))))))))))))))
def FX9_init (n : Nat) : List Value → mM → Option mR := mfn 2 (kX9_init_0 n)
theorem CtX9_init {E : mE} {X : State → Heap → Prop} {l : Launch} (hX : mXok E X) (n : Nat) : Ct E X l yX9_init cX9_init 2 none 1 2 3202 (FX9_init n) := Ct_of (by decide) hX (okX9_init_0 hX n)
theorem dJ0_checkIndex_df160_0 : decode cJ0_checkIndex_df160 0 = .ok (.iload_n 0, 1) := by decide +kernel
theorem dJ0_checkIndex_df160_1 : decode cJ0_checkIndex_df160 1 = .ok (.iload_n 1, 1) := by decide +kernel
theorem dJ0_checkIndex_df160_2 : decode cJ0_checkIndex_df160 2 = .ok (.getstatic 1053, 3) := by decide +kernel
theorem dJ0_checkIndex_df160_5 : decode cJ0_checkIndex_df160 5 = .ok (.invokestatic 1059, 3) := by decide +kernel
theorem dJ0_checkIndex_df160_8 : decode cJ0_checkIndex_df160 8 = .ok (.pop, 1) := by decide +kernel
theorem dJ0_checkIndex_df160_9 : decode cJ0_checkIndex_df160 9 = .ok (.return_, 1) := by decide +kernel
def kJ0_checkIndex_df160_0 (n : Nat) : mK := i_ldI 0 (i_ldI 1 (i_cst (.float 5) (i_cS 3 (FJ3_checkIndex_8e157 n) (i_pop (i_rV)))))
set_option maxRecDepth 20000 in
theorem okJ0_checkIndex_df160_0 {E : mE} {X : State → Heap → Prop} {l : Launch} (hX : mXok E X) (n : Nat) : Sd E X l yJ0_checkIndex_df160 cJ0_checkIndex_df160 2 none 2 0 0 0 0 0 (kJ0_checkIndex_df160_0 n) := s_iload_n dJ0_checkIndex_df160_0 rfl (s_iload_n dJ0_checkIndex_df160_1 rfl (s_gsF dJ0_checkIndex_df160_2 lXJ0_1053 (s_cS dJ0_checkIndex_df160_5 lMJ0_1059 bSJ3_checkIndex_8e157 (CtJ3_checkIndex_8e157 hX n) (Nat.le_of_ble_eq_true rfl) (s_pop dJ0_checkIndex_df160_8 (s_rV dJ0_checkIndex_df160_9 (Nat.le_of_ble_eq_true rfl) (Nat.le_of_ble_eq_true rfl))) (Nat.le_of_ble_eq_true rfl) (Nat.le_of_ble_eq_true rfl))))
def FJ0_checkIndex_df160 (n : Nat) : List Value → mM → Option mR := mfn 2 (kJ0_checkIndex_df160_0 n)
theorem CtJ0_checkIndex_df160 {E : mE} {X : State → Heap → Prop} {l : Launch} (hX : mXok E X) (n : Nat) : Ct E X l yJ0_checkIndex_df160 cJ0_checkIndex_df160 2 none 2 0 0 (FJ0_checkIndex_df160 n) := Ct_of (by decide) hX (okJ0_checkIndex_df160_0 hX n)
theorem dJ0_length_8abf5_0 : decode cJ0_length_8abf5 0 = .ok (.aload_n 0, 1) := by decide +kernel
theorem dJ0_length_8abf5_1 : decode cJ0_length_8abf5 1 = .ok (.getfield 9, 3) := by decide +kernel
theorem dJ0_length_8abf5_4 : decode cJ0_length_8abf5 4 = .ok (.arraylength, 1) := by decide +kernel
theorem dJ0_length_8abf5_5 : decode cJ0_length_8abf5 5 = .ok (.aload_n 0, 1) := by decide +kernel
theorem dJ0_length_8abf5_6 : decode cJ0_length_8abf5 6 = .ok (.invokevirtual 335, 3) := by decide +kernel
theorem dJ0_length_8abf5_9 : decode cJ0_length_8abf5 9 = .ok (.ishr, 1) := by decide +kernel
theorem dJ0_length_8abf5_10 : decode cJ0_length_8abf5 10 = .ok (.ireturn, 1) := by decide +kernel
def kJ0_length_8abf5_0 (n : Nat) : mK := i_ldA 0 (i_xV (i_xln (i_ldA 0 (i_cX 0 (FJ0_coder_7d493 n) (i_bin (fun x y => x >>> (y &&& 31)) (i_rI))))))
set_option maxRecDepth 20000 in
theorem okJ0_length_8abf5_0 {E : mE} {X : State → Heap → Prop} {l : Launch} (hX : mXok E X) (n : Nat) : Sd E X l yJ0_length_8abf5 cJ0_length_8abf5 1 (some .int) 2 0 0 0 0 0 (kJ0_length_8abf5_0 n) := s_aload_n dJ0_length_8abf5_0 rfl (s_xV dJ0_length_8abf5_1 lXJ0_9 (s_xln dJ0_length_8abf5_4 (s_aload_n dJ0_length_8abf5_5 rfl (s_cX dJ0_length_8abf5_6 lMJ0_335 bVJ0_coder_7d493 rfl (CtJ0_coder_7d493 hX n) (Nat.le_of_ble_eq_true rfl) (s_ishr dJ0_length_8abf5_9 (s_rI dJ0_length_8abf5_10 (Nat.le_of_ble_eq_true rfl) (Nat.le_of_ble_eq_true rfl))) (Nat.le_of_ble_eq_true rfl) (Nat.le_of_ble_eq_true rfl)))))
def FJ0_length_8abf5 (n : Nat) : List Value → mM → Option mR := mfn 1 (kJ0_length_8abf5_0 n)
theorem CtJ0_length_8abf5 {E : mE} {X : State → Heap → Prop} {l : Launch} (hX : mXok E X) (n : Nat) : Ct E X l yJ0_length_8abf5 cJ0_length_8abf5 1 (some .int) 2 0 0 (FJ0_length_8abf5 n) := Ct_of (by decide) hX (okJ0_length_8abf5_0 hX n)
theorem dJ1_indexOf_4cfef_0 : decode cJ1_indexOf_4cfef 0 = .ok (.iload_n 1, 1) := by decide +kernel
theorem dJ1_indexOf_4cfef_1 : decode cJ1_indexOf_4cfef 1 = .ok (.invokestatic 88, 3) := by decide +kernel
theorem dJ1_indexOf_4cfef_4 : decode cJ1_indexOf_4cfef 4 = .ok (.ifCond .ne 5, 3) := by decide +kernel
theorem dJ1_indexOf_4cfef_7 : decode cJ1_indexOf_4cfef 7 = .ok (.iconst (-1), 1) := by decide +kernel
theorem dJ1_indexOf_4cfef_8 : decode cJ1_indexOf_4cfef 8 = .ok (.ireturn, 1) := by decide +kernel
theorem dJ1_indexOf_4cfef_9 : decode cJ1_indexOf_4cfef 9 = .ok (.iload_n 2, 1) := by decide +kernel
theorem dJ1_indexOf_4cfef_10 : decode cJ1_indexOf_4cfef 10 = .ok (.iconst 0, 1) := by decide +kernel
theorem dJ1_indexOf_4cfef_11 : decode cJ1_indexOf_4cfef 11 = .ok (.invokestatic 92, 3) := by decide +kernel
theorem dJ1_indexOf_4cfef_14 : decode cJ1_indexOf_4cfef 14 = .ok (.istore_n 2, 1) := by decide +kernel
theorem dJ1_indexOf_4cfef_15 : decode cJ1_indexOf_4cfef 15 = .ok (.iload_n 3, 1) := by decide +kernel
theorem dJ1_indexOf_4cfef_16 : decode cJ1_indexOf_4cfef 16 = .ok (.aload_n 0, 1) := by decide +kernel
theorem dJ1_indexOf_4cfef_17 : decode cJ1_indexOf_4cfef 17 = .ok (.arraylength, 1) := by decide +kernel
theorem dJ1_indexOf_4cfef_18 : decode cJ1_indexOf_4cfef 18 = .ok (.invokestatic 38, 3) := by decide +kernel
theorem dJ1_indexOf_4cfef_21 : decode cJ1_indexOf_4cfef 21 = .ok (.istore_n 3, 1) := by decide +kernel
theorem dJ1_indexOf_4cfef_22 : decode cJ1_indexOf_4cfef 22 = .ok (.iload_n 2, 1) := by decide +kernel
theorem dJ1_indexOf_4cfef_23 : decode cJ1_indexOf_4cfef 23 = .ok (.iload_n 3, 1) := by decide +kernel
theorem dJ1_indexOf_4cfef_24 : decode cJ1_indexOf_4cfef 24 = .ok (.if_icmp .lt 5, 3) := by decide +kernel
theorem dJ1_indexOf_4cfef_27 : decode cJ1_indexOf_4cfef 27 = .ok (.iconst (-1), 1) := by decide +kernel
theorem dJ1_indexOf_4cfef_28 : decode cJ1_indexOf_4cfef 28 = .ok (.ireturn, 1) := by decide +kernel
theorem dJ1_indexOf_4cfef_29 : decode cJ1_indexOf_4cfef 29 = .ok (.aload_n 0, 1) := by decide +kernel
theorem dJ1_indexOf_4cfef_30 : decode cJ1_indexOf_4cfef 30 = .ok (.iload_n 1, 1) := by decide +kernel
theorem dJ1_indexOf_4cfef_31 : decode cJ1_indexOf_4cfef 31 = .ok (.iload_n 2, 1) := by decide +kernel
theorem dJ1_indexOf_4cfef_32 : decode cJ1_indexOf_4cfef 32 = .ok (.iload_n 3, 1) := by decide +kernel
theorem dJ1_indexOf_4cfef_33 : decode cJ1_indexOf_4cfef 33 = .ok (.invokestatic 95, 3) := by decide +kernel
theorem dJ1_indexOf_4cfef_36 : decode cJ1_indexOf_4cfef 36 = .ok (.ireturn, 1) := by decide +kernel
def kJ1_indexOf_4cfef_0 (n : Nat) : mK := i_ldI 1 (i_cS 1 (FJ1_canEncode_9a6ad n) (i_c0 (fun x => decide (¬ x = 0)) (i_ldI 2 (i_cst (.int (0)) (i_mm (fun x y => if x < y then y else x) (i_stI 2 (i_ldI 3 (i_ldA 0 (i_xln (i_mm (fun x y => if y < x then y else x) (i_stI 3 (i_ldI 2 (i_ldI 3 (i_c2 (fun x y => decide (x < y)) (i_ldA 0 (i_ldI 1 (i_ldI 2 (i_ldI 3 (i_cS 4 (FJ1_indexOfChar_4cfef n) (i_rI)))))) (i_cst (.int (-1)) (i_rI)))))))))))))) (i_cst (.int (-1)) (i_rI))))
set_option maxRecDepth 20000 in
theorem okJ1_indexOf_4cfef_0 {E : mE} {X : State → Heap → Prop} {l : Launch} (hX : mXok E X) (n : Nat) : Sd E X l yJ1_indexOf_4cfef cJ1_indexOf_4cfef 4 (some .int) 2 0 0 0 0 0 (kJ1_indexOf_4cfef_0 n) := s_iload_n dJ1_indexOf_4cfef_0 rfl (s_cS dJ1_indexOf_4cfef_1 lMJ1_88 bSJ1_canEncode_9a6ad (CtJ1_canEncode_9a6ad hX n) (Nat.le_of_ble_eq_true rfl) (s_ifne dJ1_indexOf_4cfef_4 (by decide) (s_iload_n dJ1_indexOf_4cfef_9 rfl (s_iconst dJ1_indexOf_4cfef_10 (by decide) (s_max dJ1_indexOf_4cfef_11 lMJ1_92 lmax1 lMath0 lmax2 (Nat.le_of_ble_eq_true rfl) (s_istore_n dJ1_indexOf_4cfef_14 rfl (s_iload_n dJ1_indexOf_4cfef_15 rfl (s_aload_n dJ1_indexOf_4cfef_16 rfl (s_xln dJ1_indexOf_4cfef_17 (s_min dJ1_indexOf_4cfef_18 lMJ1_38 lmin1 lMath0 lmin2 (Nat.le_of_ble_eq_true rfl) (s_istore_n dJ1_indexOf_4cfef_21 rfl (s_iload_n dJ1_indexOf_4cfef_22 rfl (s_iload_n dJ1_indexOf_4cfef_23 rfl (s_iclt dJ1_indexOf_4cfef_24 (by decide) (s_aload_n dJ1_indexOf_4cfef_29 rfl (s_iload_n dJ1_indexOf_4cfef_30 rfl (s_iload_n dJ1_indexOf_4cfef_31 rfl (s_iload_n dJ1_indexOf_4cfef_32 rfl (s_cS dJ1_indexOf_4cfef_33 lMJ1_95 bSJ1_indexOfChar_4cfef (CtJ1_indexOfChar_4cfef hX n) (Nat.le_of_ble_eq_true rfl) (s_rI dJ1_indexOf_4cfef_36 (Nat.le_of_ble_eq_true rfl) (Nat.le_of_ble_eq_true rfl)) (Nat.le_of_ble_eq_true rfl) (Nat.le_of_ble_eq_true rfl)))))) (s_iconst dJ1_indexOf_4cfef_27 (by decide) (s_rI dJ1_indexOf_4cfef_28 (Nat.le_of_ble_eq_true rfl) (Nat.le_of_ble_eq_true rfl))))))) (Nat.le_of_ble_eq_true rfl) (Nat.le_of_ble_eq_true rfl)))))) (Nat.le_of_ble_eq_true rfl) (Nat.le_of_ble_eq_true rfl)))) (s_iconst dJ1_indexOf_4cfef_7 (by decide) (s_rI dJ1_indexOf_4cfef_8 (Nat.le_of_ble_eq_true rfl) (Nat.le_of_ble_eq_true rfl)))) (Nat.le_of_ble_eq_true rfl) (Nat.le_of_ble_eq_true rfl))
def FJ1_indexOf_4cfef (n : Nat) : List Value → mM → Option mR := mfn 4 (kJ1_indexOf_4cfef_0 n)
theorem CtJ1_indexOf_4cfef {E : mE} {X : State → Heap → Prop} {l : Launch} (hX : mXok E X) (n : Nat) : Ct E X l yJ1_indexOf_4cfef cJ1_indexOf_4cfef 4 (some .int) 2 0 0 (FJ1_indexOf_4cfef n) := Ct_of (by decide) hX (okJ1_indexOf_4cfef_0 hX n)
theorem dX0_allAheadOf_0 : decode cX0_allAheadOf 0 = .ok (.aload_n 0, 1) := by decide +kernel
theorem dX0_allAheadOf_1 : decode cX0_allAheadOf 1 = .ok (.getfield 9, 3) := by decide +kernel
theorem dX0_allAheadOf_4 : decode cX0_allAheadOf 4 = .ok (.iload_n 1, 1) := by decide +kernel
theorem dX0_allAheadOf_5 : decode cX0_allAheadOf 5 = .ok (.invokestatic 40, 3) := by decide +kernel
theorem dX0_allAheadOf_8 : decode cX0_allAheadOf 8 = .ok (.istore_n 2, 1) := by decide +kernel
theorem dX0_allAheadOf_9 : decode cX0_allAheadOf 9 = .ok (.iconst 0, 1) := by decide +kernel
theorem dX0_allAheadOf_10 : decode cX0_allAheadOf 10 = .ok (.istore_n 3, 1) := by decide +kernel
theorem dX0_allAheadOf_11 : decode cX0_allAheadOf 11 = .ok (.iload_n 3, 1) := by decide +kernel
theorem dX0_allAheadOf_12 : decode cX0_allAheadOf 12 = .ok (.bipush 8, 2) := by decide +kernel
theorem dX0_allAheadOf_14 : decode cX0_allAheadOf 14 = .ok (.if_icmp .ge 47, 3) := by decide +kernel
theorem dX0_allAheadOf_17 : decode cX0_allAheadOf 17 = .ok (.iconst 0, 1) := by decide +kernel
theorem dX0_allAheadOf_18 : decode cX0_allAheadOf 18 = .ok (.istore 4, 2) := by decide +kernel
theorem dX0_allAheadOf_20 : decode cX0_allAheadOf 20 = .ok (.iload 4, 2) := by decide +kernel
theorem dX0_allAheadOf_22 : decode cX0_allAheadOf 22 = .ok (.bipush 8, 2) := by decide +kernel
theorem dX0_allAheadOf_24 : decode cX0_allAheadOf 24 = .ok (.if_icmp .ge 31, 3) := by decide +kernel
theorem dX0_allAheadOf_27 : decode cX0_allAheadOf 27 = .ok (.iload_n 2, 1) := by decide +kernel
theorem dX0_allAheadOf_28 : decode cX0_allAheadOf 28 = .ok (.iload 4, 2) := by decide +kernel
theorem dX0_allAheadOf_30 : decode cX0_allAheadOf 30 = .ok (.invokestatic 37, 3) := by decide +kernel
theorem dX0_allAheadOf_33 : decode cX0_allAheadOf 33 = .ok (.iand, 1) := by decide +kernel
theorem dX0_allAheadOf_34 : decode cX0_allAheadOf 34 = .ok (.ifCond .eq 15, 3) := by decide +kernel
theorem dX0_allAheadOf_37 : decode cX0_allAheadOf 37 = .ok (.iload_n 2, 1) := by decide +kernel
theorem dX0_allAheadOf_38 : decode cX0_allAheadOf 38 = .ok (.aload_n 0, 1) := by decide +kernel
theorem dX0_allAheadOf_39 : decode cX0_allAheadOf 39 = .ok (.getfield 9, 3) := by decide +kernel
theorem dX0_allAheadOf_42 : decode cX0_allAheadOf 42 = .ok (.iload 4, 2) := by decide +kernel
theorem dX0_allAheadOf_44 : decode cX0_allAheadOf 44 = .ok (.invokestatic 40, 3) := by decide +kernel
theorem dX0_allAheadOf_47 : decode cX0_allAheadOf 47 = .ok (.ior, 1) := by decide +kernel
theorem dX0_allAheadOf_48 : decode cX0_allAheadOf 48 = .ok (.istore_n 2, 1) := by decide +kernel
theorem dX0_allAheadOf_49 : decode cX0_allAheadOf 49 = .ok (.iinc 4 1, 3) := by decide +kernel
theorem dX0_allAheadOf_52 : decode cX0_allAheadOf 52 = .ok (.goto (-32), 3) := by decide +kernel
theorem dX0_allAheadOf_55 : decode cX0_allAheadOf 55 = .ok (.iinc 3 1, 3) := by decide +kernel
theorem dX0_allAheadOf_58 : decode cX0_allAheadOf 58 = .ok (.goto (-47), 3) := by decide +kernel
theorem dX0_allAheadOf_61 : decode cX0_allAheadOf 61 = .ok (.iload_n 2, 1) := by decide +kernel
theorem dX0_allAheadOf_62 : decode cX0_allAheadOf 62 = .ok (.ireturn, 1) := by decide +kernel
def kX0_allAheadOf_49 (n : Nat) (r11 : mK) (r20 : mK) : mK := i_inc 4 (1) (r20)
set_option maxRecDepth 20000 in
theorem okX0_allAheadOf_49 {E : mE} {X : State → Heap → Prop} {l : Launch} (hX : mXok E X) (n : Nat) {r11 : mK} (h11 : Sd E X l yX0_allAheadOf cX0_allAheadOf 5 (some .int) 2 0 0 0 0 11 r11) {r20 : mK} (h20 : Sd E X l yX0_allAheadOf cX0_allAheadOf 5 (some .int) 2 0 0 0 0 20 r20) : Sd E X l yX0_allAheadOf cX0_allAheadOf 5 (some .int) 2 0 0 0 0 49 (kX0_allAheadOf_49 n r11 r20) := s_iinc dX0_allAheadOf_49 (by decide) (s_goto dX0_allAheadOf_52 (by decide) h20)
def kX0_allAheadOf_20 (n : Nat) (r11 : mK) (r20 : mK) : mK := i_ldI 4 (i_cst (.int (8)) (i_c2 (fun x y => decide (y ≤ x)) (i_inc 3 (1) (r11)) (i_ldI 2 (i_ldI 4 (i_cS 1 (FX11_bit n) (i_bin (fun x y => x &&& y) (i_c0 (fun x => decide (x = 0)) (kX0_allAheadOf_49 n r11 r20) (i_ldI 2 (i_ldA 0 (i_gA 0 1 (i_ldI 4 (i_cS 2 (FX11_at n) (i_bin (fun x y => x ||| y) (i_stI 2 (kX0_allAheadOf_49 n r11 r20)))))))))))))))
set_option maxRecDepth 20000 in
theorem okX0_allAheadOf_20 {E : mE} {X : State → Heap → Prop} {l : Launch} (hX : mXok E X) (n : Nat) {r11 : mK} (h11 : Sd E X l yX0_allAheadOf cX0_allAheadOf 5 (some .int) 2 0 0 0 0 11 r11) {r20 : mK} (h20 : Sd E X l yX0_allAheadOf cX0_allAheadOf 5 (some .int) 2 0 0 0 0 20 r20) : Sd E X l yX0_allAheadOf cX0_allAheadOf 5 (some .int) 2 0 0 0 0 20 (kX0_allAheadOf_20 n r11 r20) := s_iload dX0_allAheadOf_20 (s_bipush dX0_allAheadOf_22 (by decide) (s_icge dX0_allAheadOf_24 (by decide) (s_iinc dX0_allAheadOf_55 (by decide) (s_goto dX0_allAheadOf_58 (by decide) h11)) (s_iload_n dX0_allAheadOf_27 rfl (s_iload dX0_allAheadOf_28 (s_cN dX0_allAheadOf_30 lNX0_37 bSX11_bit (CtX11_bit hX n) (Nat.le_of_ble_eq_true rfl) (s_iand dX0_allAheadOf_33 (s_ifeq dX0_allAheadOf_34 (by decide) (okX0_allAheadOf_49 hX n h11 h20) (s_iload_n dX0_allAheadOf_37 rfl (s_aload_n dX0_allAheadOf_38 rfl (s_gA dX0_allAheadOf_39 lFX0_9 (s_iload dX0_allAheadOf_42 (s_cN dX0_allAheadOf_44 lNX0_40 bSX11_at (CtX11_at hX n) (Nat.le_of_ble_eq_true rfl) (s_ior dX0_allAheadOf_47 (s_istore_n dX0_allAheadOf_48 rfl (okX0_allAheadOf_49 hX n h11 h20))) (Nat.le_of_ble_eq_true rfl) (Nat.le_of_ble_eq_true rfl)))))))) (Nat.le_of_ble_eq_true rfl) (Nat.le_of_ble_eq_true rfl))))))
def kX0_allAheadOf_11 (n : Nat) (r11 : mK) : mK := i_ldI 3 (i_cst (.int (8)) (i_c2 (fun x y => decide (y ≤ x)) (i_ldI 2 (i_rI)) (i_cst (.int (0)) (i_stI 4 (mit (kX0_allAheadOf_20 n r11) n)))))
set_option maxRecDepth 20000 in
theorem okX0_allAheadOf_11 {E : mE} {X : State → Heap → Prop} {l : Launch} (hX : mXok E X) (n : Nat) {r11 : mK} (h11 : Sd E X l yX0_allAheadOf cX0_allAheadOf 5 (some .int) 2 0 0 0 0 11 r11) : Sd E X l yX0_allAheadOf cX0_allAheadOf 5 (some .int) 2 0 0 0 0 11 (kX0_allAheadOf_11 n r11) := s_iload_n dX0_allAheadOf_11 rfl (s_bipush dX0_allAheadOf_12 (by decide) (s_icge dX0_allAheadOf_14 (by decide) (s_iload_n dX0_allAheadOf_61 rfl (s_rI dX0_allAheadOf_62 (Nat.le_of_ble_eq_true rfl) (Nat.le_of_ble_eq_true rfl))) (s_iconst dX0_allAheadOf_17 (by decide) (s_istore dX0_allAheadOf_18 (s_mit (fun _ hk => okX0_allAheadOf_20 hX n h11 hk) n)))))
def kX0_allAheadOf_0 (n : Nat) : mK := i_ldA 0 (i_gA 0 1 (i_ldI 1 (i_cS 2 (FX11_at n) (i_stI 2 (i_cst (.int (0)) (i_stI 3 (mit (kX0_allAheadOf_11 n ) n)))))))
set_option maxRecDepth 20000 in
theorem okX0_allAheadOf_0 {E : mE} {X : State → Heap → Prop} {l : Launch} (hX : mXok E X) (n : Nat) : Sd E X l yX0_allAheadOf cX0_allAheadOf 5 (some .int) 2 0 0 0 0 0 (kX0_allAheadOf_0 n) := s_aload_n dX0_allAheadOf_0 rfl (s_gA dX0_allAheadOf_1 lFX0_9 (s_iload_n dX0_allAheadOf_4 rfl (s_cN dX0_allAheadOf_5 lNX0_40 bSX11_at (CtX11_at hX n) (Nat.le_of_ble_eq_true rfl) (s_istore_n dX0_allAheadOf_8 rfl (s_iconst dX0_allAheadOf_9 (by decide) (s_istore_n dX0_allAheadOf_10 rfl (s_mit (fun _ hk => okX0_allAheadOf_11 hX n hk) n)))) (Nat.le_of_ble_eq_true rfl) (Nat.le_of_ble_eq_true rfl))))
def FX0_allAheadOf (n : Nat) : List Value → mM → Option mR := mfn 5 (kX0_allAheadOf_0 n)
theorem CtX0_allAheadOf {E : mE} {X : State → Heap → Prop} {l : Launch} (hX : mXok E X) (n : Nat) : Ct E X l yX0_allAheadOf cX0_allAheadOf 5 (some .int) 2 0 0 (FX0_allAheadOf n) := Ct_of (by decide) hX (okX0_allAheadOf_0 hX n)
theorem dX0_isFreeAmong_0 : decode cX0_isFreeAmong 0 = .ok (.iload_n 2, 1) := by decide +kernel
theorem dX0_isFreeAmong_1 : decode cX0_isFreeAmong 1 = .ok (.iload_n 1, 1) := by decide +kernel
theorem dX0_isFreeAmong_2 : decode cX0_isFreeAmong 2 = .ok (.invokestatic 37, 3) := by decide +kernel
theorem dX0_isFreeAmong_5 : decode cX0_isFreeAmong 5 = .ok (.iand, 1) := by decide +kernel
theorem dX0_isFreeAmong_6 : decode cX0_isFreeAmong 6 = .ok (.ifCond .eq 20, 3) := by decide +kernel
theorem dX0_isFreeAmong_9 : decode cX0_isFreeAmong 9 = .ok (.aload_n 0, 1) := by decide +kernel
theorem dX0_isFreeAmong_10 : decode cX0_isFreeAmong 10 = .ok (.getfield 9, 3) := by decide +kernel
theorem dX0_isFreeAmong_13 : decode cX0_isFreeAmong 13 = .ok (.iload_n 1, 1) := by decide +kernel
theorem dX0_isFreeAmong_14 : decode cX0_isFreeAmong 14 = .ok (.invokestatic 40, 3) := by decide +kernel
theorem dX0_isFreeAmong_17 : decode cX0_isFreeAmong 17 = .ok (.iload_n 2, 1) := by decide +kernel
theorem dX0_isFreeAmong_18 : decode cX0_isFreeAmong 18 = .ok (.iand, 1) := by decide +kernel
theorem dX0_isFreeAmong_19 : decode cX0_isFreeAmong 19 = .ok (.ifCond .ne 7, 3) := by decide +kernel
theorem dX0_isFreeAmong_22 : decode cX0_isFreeAmong 22 = .ok (.iconst 1, 1) := by decide +kernel
theorem dX0_isFreeAmong_23 : decode cX0_isFreeAmong 23 = .ok (.goto 4, 3) := by decide +kernel
theorem dX0_isFreeAmong_26 : decode cX0_isFreeAmong 26 = .ok (.iconst 0, 1) := by decide +kernel
theorem dX0_isFreeAmong_27 : decode cX0_isFreeAmong 27 = .ok (.ireturn, 1) := by decide +kernel
def kX0_isFreeAmong_27 (n : Nat) : mK := i_rZ
set_option maxRecDepth 20000 in
theorem okX0_isFreeAmong_27 {E : mE} {X : State → Heap → Prop} {l : Launch} (hX : mXok E X) (n : Nat) : Sd E X l yX0_isFreeAmong cX0_isFreeAmong 3 (some .boolean) 2 0 0 0 0 27 (kX0_isFreeAmong_27 n) := s_rZ dX0_isFreeAmong_27 (Nat.le_of_ble_eq_true rfl) (Nat.le_of_ble_eq_true rfl)
def kX0_isFreeAmong_26 (n : Nat) : mK := i_cst (.int (0)) (kX0_isFreeAmong_27 n)
set_option maxRecDepth 20000 in
theorem okX0_isFreeAmong_26 {E : mE} {X : State → Heap → Prop} {l : Launch} (hX : mXok E X) (n : Nat) : Sd E X l yX0_isFreeAmong cX0_isFreeAmong 3 (some .boolean) 2 0 0 0 0 26 (kX0_isFreeAmong_26 n) := s_iconst dX0_isFreeAmong_26 (by decide) (okX0_isFreeAmong_27 hX n)
def kX0_isFreeAmong_0 (n : Nat) : mK := i_ldI 2 (i_ldI 1 (i_cS 1 (FX11_bit n) (i_bin (fun x y => x &&& y) (i_c0 (fun x => decide (x = 0)) (kX0_isFreeAmong_26 n) (i_ldA 0 (i_gA 0 1 (i_ldI 1 (i_cS 2 (FX11_at n) (i_ldI 2 (i_bin (fun x y => x &&& y) (i_c0 (fun x => decide (¬ x = 0)) (kX0_isFreeAmong_26 n) (i_cst (.int (1)) ((kX0_isFreeAmong_27 n))))))))))))))
set_option maxRecDepth 20000 in
theorem okX0_isFreeAmong_0 {E : mE} {X : State → Heap → Prop} {l : Launch} (hX : mXok E X) (n : Nat) : Sd E X l yX0_isFreeAmong cX0_isFreeAmong 3 (some .boolean) 2 0 0 0 0 0 (kX0_isFreeAmong_0 n) := s_iload_n dX0_isFreeAmong_0 rfl (s_iload_n dX0_isFreeAmong_1 rfl (s_cN dX0_isFreeAmong_2 lNX0_37 bSX11_bit (CtX11_bit hX n) (Nat.le_of_ble_eq_true rfl) (s_iand dX0_isFreeAmong_5 (s_ifeq dX0_isFreeAmong_6 (by decide) (okX0_isFreeAmong_26 hX n) (s_aload_n dX0_isFreeAmong_9 rfl (s_gA dX0_isFreeAmong_10 lFX0_9 (s_iload_n dX0_isFreeAmong_13 rfl (s_cN dX0_isFreeAmong_14 lNX0_40 bSX11_at (CtX11_at hX n) (Nat.le_of_ble_eq_true rfl) (s_iload_n dX0_isFreeAmong_17 rfl (s_iand dX0_isFreeAmong_18 (s_ifne dX0_isFreeAmong_19 (by decide) (okX0_isFreeAmong_26 hX n) (s_iconst dX0_isFreeAmong_22 (by decide) (s_goto dX0_isFreeAmong_23 (by decide) (okX0_isFreeAmong_27 hX n)))))) (Nat.le_of_ble_eq_true rfl) (Nat.le_of_ble_eq_true rfl))))))) (Nat.le_of_ble_eq_true rfl) (Nat.le_of_ble_eq_true rfl)))
def FX0_isFreeAmong (n : Nat) : List Value → mM → Option mR := mfn 3 (kX0_isFreeAmong_0 n)
theorem CtX0_isFreeAmong {E : mE} {X : State → Heap → Prop} {l : Launch} (hX : mXok E X) (n : Nat) : Ct E X l yX0_isFreeAmong cX0_isFreeAmong 3 (some .boolean) 2 0 0 (FX0_isFreeAmong n) := Ct_of (by decide) hX (okX0_isFreeAmong_0 hX n)
theorem dX0_isSmaller_0 : decode cX0_isSmaller 0 = .ok (.iload_n 1, 1) := by decide +kernel
theorem dX0_isSmaller_1 : decode cX0_isSmaller 1 = .ok (.iconst (-1), 1) := by decide +kernel
theorem dX0_isSmaller_2 : decode cX0_isSmaller 2 = .ok (.if_icmp .eq 14, 3) := by decide +kernel
theorem dX0_isSmaller_5 : decode cX0_isSmaller 5 = .ok (.iload_n 0, 1) := by decide +kernel
theorem dX0_isSmaller_6 : decode cX0_isSmaller 6 = .ok (.invokestatic 67, 3) := by decide +kernel
theorem dX0_isSmaller_9 : decode cX0_isSmaller 9 = .ok (.iload_n 1, 1) := by decide +kernel
theorem dX0_isSmaller_10 : decode cX0_isSmaller 10 = .ok (.invokestatic 67, 3) := by decide +kernel
theorem dX0_isSmaller_13 : decode cX0_isSmaller 13 = .ok (.if_icmp .ge 7, 3) := by decide +kernel
theorem dX0_isSmaller_16 : decode cX0_isSmaller 16 = .ok (.iconst 1, 1) := by decide +kernel
theorem dX0_isSmaller_17 : decode cX0_isSmaller 17 = .ok (.goto 4, 3) := by decide +kernel
theorem dX0_isSmaller_20 : decode cX0_isSmaller 20 = .ok (.iconst 0, 1) := by decide +kernel
theorem dX0_isSmaller_21 : decode cX0_isSmaller 21 = .ok (.ireturn, 1) := by decide +kernel
def kX0_isSmaller_21 (n : Nat) : mK := i_rZ
set_option maxRecDepth 20000 in
theorem okX0_isSmaller_21 {E : mE} {X : State → Heap → Prop} {l : Launch} (hX : mXok E X) (n : Nat) : Sd E X l yX0_isSmaller cX0_isSmaller 2 (some .boolean) 2 0 0 0 0 21 (kX0_isSmaller_21 n) := s_rZ dX0_isSmaller_21 (Nat.le_of_ble_eq_true rfl) (Nat.le_of_ble_eq_true rfl)
def kX0_isSmaller_16 (n : Nat) : mK := i_cst (.int (1)) ((kX0_isSmaller_21 n))
set_option maxRecDepth 20000 in
theorem okX0_isSmaller_16 {E : mE} {X : State → Heap → Prop} {l : Launch} (hX : mXok E X) (n : Nat) : Sd E X l yX0_isSmaller cX0_isSmaller 2 (some .boolean) 2 0 0 0 0 16 (kX0_isSmaller_16 n) := s_iconst dX0_isSmaller_16 (by decide) (s_goto dX0_isSmaller_17 (by decide) (okX0_isSmaller_21 hX n))
def kX0_isSmaller_0 (n : Nat) : mK := i_ldI 1 (i_cst (.int (-1)) (i_c2 (fun x y => decide (x = y)) (kX0_isSmaller_16 n) (i_ldI 0 (i_cS 1 (FJ6_bitCount_0f7a4 n) (i_ldI 1 (i_cS 1 (FJ6_bitCount_0f7a4 n) (i_c2 (fun x y => decide (y ≤ x)) (i_cst (.int (0)) (kX0_isSmaller_21 n)) (kX0_isSmaller_16 n))))))))
set_option maxRecDepth 20000 in
theorem okX0_isSmaller_0 {E : mE} {X : State → Heap → Prop} {l : Launch} (hX : mXok E X) (n : Nat) : Sd E X l yX0_isSmaller cX0_isSmaller 2 (some .boolean) 2 0 0 0 0 0 (kX0_isSmaller_0 n) := s_iload_n dX0_isSmaller_0 rfl (s_iconst dX0_isSmaller_1 (by decide) (s_iceq dX0_isSmaller_2 (by decide) (okX0_isSmaller_16 hX n) (s_iload_n dX0_isSmaller_5 rfl (s_cS dX0_isSmaller_6 lMX0_67 bSJ6_bitCount_0f7a4 (CtJ6_bitCount_0f7a4 hX n) (Nat.le_of_ble_eq_true rfl) (s_iload_n dX0_isSmaller_9 rfl (s_cS dX0_isSmaller_10 lMX0_67 bSJ6_bitCount_0f7a4 (CtJ6_bitCount_0f7a4 hX n) (Nat.le_of_ble_eq_true rfl) (s_icge dX0_isSmaller_13 (by decide) (s_iconst dX0_isSmaller_20 (by decide) (okX0_isSmaller_21 hX n)) (okX0_isSmaller_16 hX n)) (Nat.le_of_ble_eq_true rfl) (Nat.le_of_ble_eq_true rfl))) (Nat.le_of_ble_eq_true rfl) (Nat.le_of_ble_eq_true rfl)))))
def FX0_isSmaller (n : Nat) : List Value → mM → Option mR := mfn 2 (kX0_isSmaller_0 n)
theorem CtX0_isSmaller {E : mE} {X : State → Heap → Prop} {l : Launch} (hX : mXok E X) (n : Nat) : Ct E X l yX0_isSmaller cX0_isSmaller 2 (some .boolean) 2 0 0 (FX0_isSmaller n) := Ct_of (by decide) hX (okX0_isSmaller_0 hX n)
theorem dX11_countOrSet_0 : decode cX11_countOrSet 0 = .ok (.iload_n 1, 1) := by decide +kernel
theorem dX11_countOrSet_1 : decode cX11_countOrSet 1 = .ok (.iconst (-1), 1) := by decide +kernel
theorem dX11_countOrSet_2 : decode cX11_countOrSet 2 = .ok (.if_icmp .ne 5, 3) := by decide +kernel
theorem dX11_countOrSet_5 : decode cX11_countOrSet 5 = .ok (.iconst (-1), 1) := by decide +kernel
theorem dX11_countOrSet_6 : decode cX11_countOrSet 6 = .ok (.ireturn, 1) := by decide +kernel
theorem dX11_countOrSet_7 : decode cX11_countOrSet 7 = .ok (.iload_n 0, 1) := by decide +kernel
theorem dX11_countOrSet_8 : decode cX11_countOrSet 8 = .ok (.ifCond .ne 8, 3) := by decide +kernel
theorem dX11_countOrSet_11 : decode cX11_countOrSet 11 = .ok (.iload_n 1, 1) := by decide +kernel
theorem dX11_countOrSet_12 : decode cX11_countOrSet 12 = .ok (.invokestatic 229, 3) := by decide +kernel
theorem dX11_countOrSet_15 : decode cX11_countOrSet 15 = .ok (.ireturn, 1) := by decide +kernel
theorem dX11_countOrSet_16 : decode cX11_countOrSet 16 = .ok (.iload_n 0, 1) := by decide +kernel
theorem dX11_countOrSet_17 : decode cX11_countOrSet 17 = .ok (.iconst 1, 1) := by decide +kernel
theorem dX11_countOrSet_18 : decode cX11_countOrSet 18 = .ok (.if_icmp .ne 7, 3) := by decide +kernel
theorem dX11_countOrSet_21 : decode cX11_countOrSet 21 = .ok (.iload_n 1, 1) := by decide +kernel
theorem dX11_countOrSet_22 : decode cX11_countOrSet 22 = .ok (.goto 4, 3) := by decide +kernel
theorem dX11_countOrSet_25 : decode cX11_countOrSet 25 = .ok (.iconst (-1), 1) := by decide +kernel
theorem dX11_countOrSet_26 : decode cX11_countOrSet 26 = .ok (.ireturn, 1) := by decide +kernel
def kX11_countOrSet_26 (n : Nat) : mK := i_rI
set_option maxRecDepth 20000 in
theorem okX11_countOrSet_26 {E : mE} {X : State → Heap → Prop} {l : Launch} (hX : mXok E X) (n : Nat) : Sd E X l yX11_countOrSet cX11_countOrSet 2 (some .int) 2 0 0 0 0 26 (kX11_countOrSet_26 n) := s_rI dX11_countOrSet_26 (Nat.le_of_ble_eq_true rfl) (Nat.le_of_ble_eq_true rfl)
def kX11_countOrSet_0 (n : Nat) : mK := i_ldI 1 (i_cst (.int (-1)) (i_c2 (fun x y => decide (¬ x = y)) (i_ldI 0 (i_c0 (fun x => decide (¬ x = 0)) (i_ldI 0 (i_cst (.int (1)) (i_c2 (fun x y => decide (¬ x = y)) (i_cst (.int (-1)) (kX11_countOrSet_26 n)) (i_ldI 1 ((kX11_countOrSet_26 n)))))) (i_ldI 1 (i_cS 1 (FJ6_bitCount_0f7a4 n) (i_rI))))) (i_cst (.int (-1)) (i_rI))))
set_option maxRecDepth 20000 in
theorem okX11_countOrSet_0 {E : mE} {X : State → Heap → Prop} {l : Launch} (hX : mXok E X) (n : Nat) : Sd E X l yX11_countOrSet cX11_countOrSet 2 (some .int) 2 0 0 0 0 0 (kX11_countOrSet_0 n) := s_iload_n dX11_countOrSet_0 rfl (s_iconst dX11_countOrSet_1 (by decide) (s_icne dX11_countOrSet_2 (by decide) (s_iload_n dX11_countOrSet_7 rfl (s_ifne dX11_countOrSet_8 (by decide) (s_iload_n dX11_countOrSet_16 rfl (s_iconst dX11_countOrSet_17 (by decide) (s_icne dX11_countOrSet_18 (by decide) (s_iconst dX11_countOrSet_25 (by decide) (okX11_countOrSet_26 hX n)) (s_iload_n dX11_countOrSet_21 rfl (s_goto dX11_countOrSet_22 (by decide) (okX11_countOrSet_26 hX n)))))) (s_iload_n dX11_countOrSet_11 rfl (s_cS dX11_countOrSet_12 lMX11_229 bSJ6_bitCount_0f7a4 (CtJ6_bitCount_0f7a4 hX n) (Nat.le_of_ble_eq_true rfl) (s_rI dX11_countOrSet_15 (Nat.le_of_ble_eq_true rfl) (Nat.le_of_ble_eq_true rfl)) (Nat.le_of_ble_eq_true rfl) (Nat.le_of_ble_eq_true rfl))))) (s_iconst dX11_countOrSet_5 (by decide) (s_rI dX11_countOrSet_6 (Nat.le_of_ble_eq_true rfl) (Nat.le_of_ble_eq_true rfl)))))
def FX11_countOrSet (n : Nat) : List Value → mM → Option mR := mfn 2 (kX11_countOrSet_0 n)
theorem CtX11_countOrSet {E : mE} {X : State → Heap → Prop} {l : Launch} (hX : mXok E X) (n : Nat) : Ct E X l yX11_countOrSet cX11_countOrSet 2 (some .int) 2 0 0 (FX11_countOrSet n) := Ct_of (by decide) hX (okX11_countOrSet_0 hX n)
theorem dX11_feedOne_0 : decode cX11_feedOne 0 = .ok (.bipush 24, 2) := by decide +kernel
theorem dX11_feedOne_2 : decode cX11_feedOne 2 = .ok (.istore_n 2, 1) := by decide +kernel
theorem dX11_feedOne_3 : decode cX11_feedOne 3 = .ok (.iload_n 2, 1) := by decide +kernel
theorem dX11_feedOne_4 : decode cX11_feedOne 4 = .ok (.ifCond .lt 37, 3) := by decide +kernel
theorem dX11_feedOne_7 : decode cX11_feedOne 7 = .ok (.aload_n 0, 1) := by decide +kernel
theorem dX11_feedOne_8 : decode cX11_feedOne 8 = .ok (.getfield 9, 3) := by decide +kernel
theorem dX11_feedOne_11 : decode cX11_feedOne 11 = .ok (.aload_n 0, 1) := by decide +kernel
theorem dX11_feedOne_12 : decode cX11_feedOne 12 = .ok (.getfield 104, 3) := by decide +kernel
theorem dX11_feedOne_15 : decode cX11_feedOne 15 = .ok (.iload_n 1, 1) := by decide +kernel
theorem dX11_feedOne_16 : decode cX11_feedOne 16 = .ok (.iload_n 2, 1) := by decide +kernel
theorem dX11_feedOne_17 : decode cX11_feedOne 17 = .ok (.ishr, 1) := by decide +kernel
theorem dX11_feedOne_18 : decode cX11_feedOne 18 = .ok (.sipush 255, 3) := by decide +kernel
theorem dX11_feedOne_21 : decode cX11_feedOne 21 = .ok (.iand, 1) := by decide +kernel
theorem dX11_feedOne_22 : decode cX11_feedOne 22 = .ok (.invokestatic 112, 3) := by decide +kernel
theorem dX11_feedOne_25 : decode cX11_feedOne 25 = .ok (.aload_n 0, 1) := by decide +kernel
theorem dX11_feedOne_26 : decode cX11_feedOne 26 = .ok (.dup, 1) := by decide +kernel
theorem dX11_feedOne_27 : decode cX11_feedOne 27 = .ok (.getfield 104, 3) := by decide +kernel
theorem dX11_feedOne_30 : decode cX11_feedOne 30 = .ok (.iconst 1, 1) := by decide +kernel
theorem dX11_feedOne_31 : decode cX11_feedOne 31 = .ok (.iadd, 1) := by decide +kernel
theorem dX11_feedOne_32 : decode cX11_feedOne 32 = .ok (.putfield 104, 3) := by decide +kernel
theorem dX11_feedOne_35 : decode cX11_feedOne 35 = .ok (.iinc 2 (-8), 3) := by decide +kernel
theorem dX11_feedOne_38 : decode cX11_feedOne 38 = .ok (.goto (-35), 3) := by decide +kernel
theorem dX11_feedOne_41 : decode cX11_feedOne 41 = .ok (.return_, 1) := by decide +kernel
def kX11_feedOne_3 (n : Nat) (r3 : mK) : mK := i_ldI 2 (i_c0 (fun x => decide (x < 0)) (i_rV) (i_ldA 0 (i_gA 11 0 (i_ldA 0 (i_gI 11 1 (i_ldI 1 (i_ldI 2 (i_bin (fun x y => x >>> (y &&& 31)) (i_cst (.int (255)) (i_bin (fun x y => x &&& y) (i_cS 3 (FX11_set n) (i_ldA 0 (i_dup (i_gI 11 1 (i_cst (.int (1)) (i_bin (fun x y => x + y) (i_pI 11 1 (i_inc 2 (-8) (r3)))))))))))))))))))
set_option maxRecDepth 20000 in
theorem okX11_feedOne_3 {E : mE} {X : State → Heap → Prop} {l : Launch} (hX : mXok E X) (n : Nat) {r3 : mK} (h3 : Sd E X l yX11_feedOne cX11_feedOne 3 none 2 0 0 0 0 3 r3) : Sd E X l yX11_feedOne cX11_feedOne 3 none 2 0 0 0 0 3 (kX11_feedOne_3 n r3) := s_iload_n dX11_feedOne_3 rfl (s_iflt dX11_feedOne_4 (by decide) (s_rV dX11_feedOne_41 (Nat.le_of_ble_eq_true rfl) (Nat.le_of_ble_eq_true rfl)) (s_aload_n dX11_feedOne_7 rfl (s_gA dX11_feedOne_8 lFX11_9 (s_aload_n dX11_feedOne_11 rfl (s_gI dX11_feedOne_12 lFX11_104 (by decide) (s_iload_n dX11_feedOne_15 rfl (s_iload_n dX11_feedOne_16 rfl (s_ishr dX11_feedOne_17 (s_sipush dX11_feedOne_18 (by decide) (s_iand dX11_feedOne_21 (s_cS dX11_feedOne_22 lMX11_112 bSX11_set (CtX11_set hX n) (Nat.le_of_ble_eq_true rfl) (s_aload_n dX11_feedOne_25 rfl (s_dup dX11_feedOne_26 (s_gI dX11_feedOne_27 lFX11_104 (by decide) (s_iconst dX11_feedOne_30 (by decide) (s_iadd dX11_feedOne_31 (s_pI dX11_feedOne_32 lFX11_104 (s_iinc dX11_feedOne_35 (by decide) (s_goto dX11_feedOne_38 (by decide) h3)))))))) (Nat.le_of_ble_eq_true rfl) (Nat.le_of_ble_eq_true rfl))))))))))))
def kX11_feedOne_0 (n : Nat) : mK := i_cst (.int (24)) (i_stI 2 (mit (kX11_feedOne_3 n ) n))
set_option maxRecDepth 20000 in
theorem okX11_feedOne_0 {E : mE} {X : State → Heap → Prop} {l : Launch} (hX : mXok E X) (n : Nat) : Sd E X l yX11_feedOne cX11_feedOne 3 none 2 0 0 0 0 0 (kX11_feedOne_0 n) := s_bipush dX11_feedOne_0 (by decide) (s_istore_n dX11_feedOne_2 rfl (s_mit (fun _ hk => okX11_feedOne_3 hX n hk) n))
def FX11_feedOne (n : Nat) : List Value → mM → Option mR := mfn 3 (kX11_feedOne_0 n)
theorem CtX11_feedOne {E : mE} {X : State → Heap → Prop} {l : Launch} (hX : mXok E X) (n : Nat) : Ct E X l yX11_feedOne cX11_feedOne 3 none 2 0 0 (FX11_feedOne n) := Ct_of (by decide) hX (okX11_feedOne_0 hX n)
theorem dX11_find_0 : decode cX11_find 0 = .ok (.aload_n 0, 1) := by decide +kernel
theorem dX11_find_1 : decode cX11_find 1 = .ok (.getfield 88, 3) := by decide +kernel
theorem dX11_find_4 : decode cX11_find 4 = .ok (.iconst 0, 1) := by decide +kernel
theorem dX11_find_5 : decode cX11_find 5 = .ok (.iload_n 1, 1) := by decide +kernel
theorem dX11_find_6 : decode cX11_find 6 = .ok (.invokestatic 112, 3) := by decide +kernel
theorem dX11_find_9 : decode cX11_find 9 = .ok (.aload_n 0, 1) := by decide +kernel
theorem dX11_find_10 : decode cX11_find 10 = .ok (.getfield 88, 3) := by decide +kernel
theorem dX11_find_13 : decode cX11_find 13 = .ok (.iconst 1, 1) := by decide +kernel
theorem dX11_find_14 : decode cX11_find 14 = .ok (.iload_n 2, 1) := by decide +kernel
theorem dX11_find_15 : decode cX11_find 15 = .ok (.invokestatic 112, 3) := by decide +kernel
theorem dX11_find_18 : decode cX11_find 18 = .ok (.aload_n 0, 1) := by decide +kernel
theorem dX11_find_19 : decode cX11_find 19 = .ok (.getfield 88, 3) := by decide +kernel
theorem dX11_find_22 : decode cX11_find 22 = .ok (.iconst 2, 1) := by decide +kernel
theorem dX11_find_23 : decode cX11_find 23 = .ok (.iload_n 3, 1) := by decide +kernel
theorem dX11_find_24 : decode cX11_find 24 = .ok (.invokestatic 112, 3) := by decide +kernel
theorem dX11_find_27 : decode cX11_find 27 = .ok (.return_, 1) := by decide +kernel
def kX11_find_0 (n : Nat) : mK := i_ldA 0 (i_gA 11 13 (i_cst (.int (0)) (i_ldI 1 (i_cS 3 (FX11_set n) (i_ldA 0 (i_gA 11 13 (i_cst (.int (1)) (i_ldI 2 (i_cS 3 (FX11_set n) (i_ldA 0 (i_gA 11 13 (i_cst (.int (2)) (i_ldI 3 (i_cS 3 (FX11_set n) (i_rV)))))))))))))))
set_option maxRecDepth 20000 in
theorem okX11_find_0 {E : mE} {X : State → Heap → Prop} {l : Launch} (hX : mXok E X) (n : Nat) : Sd E X l yX11_find cX11_find 4 none 2 0 0 0 0 0 (kX11_find_0 n) := s_aload_n dX11_find_0 rfl (s_gA dX11_find_1 lFX11_88 (s_iconst dX11_find_4 (by decide) (s_iload_n dX11_find_5 rfl (s_cS dX11_find_6 lMX11_112 bSX11_set (CtX11_set hX n) (Nat.le_of_ble_eq_true rfl) (s_aload_n dX11_find_9 rfl (s_gA dX11_find_10 lFX11_88 (s_iconst dX11_find_13 (by decide) (s_iload_n dX11_find_14 rfl (s_cS dX11_find_15 lMX11_112 bSX11_set (CtX11_set hX n) (Nat.le_of_ble_eq_true rfl) (s_aload_n dX11_find_18 rfl (s_gA dX11_find_19 lFX11_88 (s_iconst dX11_find_22 (by decide) (s_iload_n dX11_find_23 rfl (s_cS dX11_find_24 lMX11_112 bSX11_set (CtX11_set hX n) (Nat.le_of_ble_eq_true rfl) (s_rV dX11_find_27 (Nat.le_of_ble_eq_true rfl) (Nat.le_of_ble_eq_true rfl)) (Nat.le_of_ble_eq_true rfl) (Nat.le_of_ble_eq_true rfl)))))) (Nat.le_of_ble_eq_true rfl) (Nat.le_of_ble_eq_true rfl)))))) (Nat.le_of_ble_eq_true rfl) (Nat.le_of_ble_eq_true rfl)))))
def FX11_find (n : Nat) : List Value → mM → Option mR := mfn 4 (kX11_find_0 n)
theorem CtX11_find {E : mE} {X : State → Heap → Prop} {l : Launch} (hX : mXok E X) (n : Nat) : Ct E X l yX11_find cX11_find 4 none 2 0 0 (FX11_find n) := Ct_of (by decide) hX (okX11_find_0 hX n)
theorem dX11_later_0 : decode cX11_later 0 = .ok (.aload_n 0, 1) := by decide +kernel
theorem dX11_later_1 : decode cX11_later 1 = .ok (.getfield 70, 3) := by decide +kernel
theorem dX11_later_4 : decode cX11_later 4 = .ok (.iload_n 1, 1) := by decide +kernel
theorem dX11_later_5 : decode cX11_later 5 = .ok (.invokevirtual 336, 3) := by decide +kernel
theorem dX11_later_8 : decode cX11_later 8 = .ok (.ireturn, 1) := by decide +kernel
def kX11_later_0 (n : Nat) : mK := i_ldA 0 (i_gA 11 10 (i_ldI 1 (i_cV 2 1 (FX2_goOn n) (i_rI))))
set_option maxRecDepth 20000 in
theorem okX11_later_0 {E : mE} {X : State → Heap → Prop} {l : Launch} (hX : mXok E X) (n : Nat) : Sd E X l yX11_later cX11_later 2 (some .int) 2 0 0 0 0 0 (kX11_later_0 n) := s_aload_n dX11_later_0 rfl (s_gA dX11_later_1 lFX11_70 (s_iload_n dX11_later_4 rfl (s_cV dX11_later_5 lMX11_336 bVX2_goOn rfl (CtX2_goOn hX n) (Nat.le_of_ble_eq_true rfl) (s_rI dX11_later_8 (Nat.le_of_ble_eq_true rfl) (Nat.le_of_ble_eq_true rfl)) (Nat.le_of_ble_eq_true rfl) (Nat.le_of_ble_eq_true rfl))))
def FX11_later (n : Nat) : List Value → mM → Option mR := mfn 2 (kX11_later_0 n)
theorem CtX11_later {E : mE} {X : State → Heap → Prop} {l : Launch} (hX : mXok E X) (n : Nat) : Ct E X l yX11_later cX11_later 2 (some .int) 2 0 0 (FX11_later n) := Ct_of (by decide) hX (okX11_later_0 hX n)
theorem dX11_lies_0 : decode cX11_lies 0 = .ok (.iload_n 1, 1) := by decide +kernel
theorem dX11_lies_1 : decode cX11_lies 1 = .ok (.ifCond .lt 28, 3) := by decide +kernel
theorem dX11_lies_4 : decode cX11_lies 4 = .ok (.iload_n 1, 1) := by decide +kernel
theorem dX11_lies_5 : decode cX11_lies 5 = .ok (.aload_n 0, 1) := by decide +kernel
theorem dX11_lies_6 : decode cX11_lies 6 = .ok (.getfield 84, 3) := by decide +kernel
theorem dX11_lies_9 : decode cX11_lies 9 = .ok (.getfield 226, 3) := by decide +kernel
theorem dX11_lies_12 : decode cX11_lies 12 = .ok (.if_icmp .ge 17, 3) := by decide +kernel
theorem dX11_lies_15 : decode cX11_lies 15 = .ok (.aload_n 0, 1) := by decide +kernel
theorem dX11_lies_16 : decode cX11_lies 16 = .ok (.getfield 84, 3) := by decide +kernel
theorem dX11_lies_19 : decode cX11_lies 19 = .ok (.getfield 326, 3) := by decide +kernel
theorem dX11_lies_22 : decode cX11_lies 22 = .ok (.iload_n 1, 1) := by decide +kernel
theorem dX11_lies_23 : decode cX11_lies 23 = .ok (.invokestatic 144, 3) := by decide +kernel
theorem dX11_lies_26 : decode cX11_lies 26 = .ok (.goto 4, 3) := by decide +kernel
theorem dX11_lies_29 : decode cX11_lies 29 = .ok (.iconst (-1), 1) := by decide +kernel
theorem dX11_lies_30 : decode cX11_lies 30 = .ok (.ireturn, 1) := by decide +kernel
def kX11_lies_30 (n : Nat) : mK := i_rI
set_option maxRecDepth 20000 in
theorem okX11_lies_30 {E : mE} {X : State → Heap → Prop} {l : Launch} (hX : mXok E X) (n : Nat) : Sd E X l yX11_lies cX11_lies 2 (some .int) 2 0 0 0 0 30 (kX11_lies_30 n) := s_rI dX11_lies_30 (Nat.le_of_ble_eq_true rfl) (Nat.le_of_ble_eq_true rfl)
def kX11_lies_29 (n : Nat) : mK := i_cst (.int (-1)) (kX11_lies_30 n)
set_option maxRecDepth 20000 in
theorem okX11_lies_29 {E : mE} {X : State → Heap → Prop} {l : Launch} (hX : mXok E X) (n : Nat) : Sd E X l yX11_lies cX11_lies 2 (some .int) 2 0 0 0 0 29 (kX11_lies_29 n) := s_iconst dX11_lies_29 (by decide) (okX11_lies_30 hX n)
def kX11_lies_0 (n : Nat) : mK := i_ldI 1 (i_c0 (fun x => decide (x < 0)) (kX11_lies_29 n) (i_ldI 1 (i_ldA 0 (i_gA 11 12 (i_gI 6 1 (i_c2 (fun x y => decide (y ≤ x)) (kX11_lies_29 n) (i_ldA 0 (i_gA 11 12 (i_gA 6 0 (i_ldI 1 (i_cS 2 (FX11_at n) ((kX11_lies_30 n)))))))))))))
set_option maxRecDepth 20000 in
theorem okX11_lies_0 {E : mE} {X : State → Heap → Prop} {l : Launch} (hX : mXok E X) (n : Nat) : Sd E X l yX11_lies cX11_lies 2 (some .int) 2 0 0 0 0 0 (kX11_lies_0 n) := s_iload_n dX11_lies_0 rfl (s_iflt dX11_lies_1 (by decide) (okX11_lies_29 hX n) (s_iload_n dX11_lies_4 rfl (s_aload_n dX11_lies_5 rfl (s_gA dX11_lies_6 lFX11_84 (s_gI dX11_lies_9 lFX11_226 (by decide) (s_icge dX11_lies_12 (by decide) (okX11_lies_29 hX n) (s_aload_n dX11_lies_15 rfl (s_gA dX11_lies_16 lFX11_84 (s_gA dX11_lies_19 lFX11_326 (s_iload_n dX11_lies_22 rfl (s_cS dX11_lies_23 lMX11_144 bSX11_at (CtX11_at hX n) (Nat.le_of_ble_eq_true rfl) (s_goto dX11_lies_26 (by decide) (okX11_lies_30 hX n)) (Nat.le_of_ble_eq_true rfl) (Nat.le_of_ble_eq_true rfl))))))))))))
def FX11_lies (n : Nat) : List Value → mM → Option mR := mfn 2 (kX11_lies_0 n)
theorem CtX11_lies {E : mE} {X : State → Heap → Prop} {l : Launch} (hX : mXok E X) (n : Nat) : Ct E X l yX11_lies cX11_lies 2 (some .int) 2 0 0 (FX11_lies n) := Ct_of (by decide) hX (okX11_lies_0 hX n)
theorem dX12_back_0 : decode cX12_back 0 = .ok (.iload_n 1, 1) := by decide +kernel
theorem dX12_back_1 : decode cX12_back 1 = .ok (.iconst 0, 1) := by decide +kernel
theorem dX12_back_2 : decode cX12_back 2 = .ok (.iconst 2, 1) := by decide +kernel
theorem dX12_back_3 : decode cX12_back 3 = .ok (.invokestatic 344, 3) := by decide +kernel
theorem dX12_back_6 : decode cX12_back 6 = .ok (.ifCond .eq 12, 3) := by decide +kernel
theorem dX12_back_9 : decode cX12_back 9 = .ok (.aload_n 0, 1) := by decide +kernel
theorem dX12_back_10 : decode cX12_back 10 = .ok (.getfield 133, 3) := by decide +kernel
theorem dX12_back_13 : decode cX12_back 13 = .ok (.iload_n 1, 1) := by decide +kernel
theorem dX12_back_14 : decode cX12_back 14 = .ok (.baload, 1) := by decide +kernel
theorem dX12_back_15 : decode cX12_back 15 = .ok (.ifCond .ne 5, 3) := by decide +kernel
theorem dX12_back_18 : decode cX12_back 18 = .ok (.iconst (-1), 1) := by decide +kernel
theorem dX12_back_19 : decode cX12_back 19 = .ok (.ireturn, 1) := by decide +kernel
theorem dX12_back_20 : decode cX12_back 20 = .ok (.iconst 0, 1) := by decide +kernel
theorem dX12_back_21 : decode cX12_back 21 = .ok (.istore_n 2, 1) := by decide +kernel
theorem dX12_back_22 : decode cX12_back 22 = .ok (.iload_n 2, 1) := by decide +kernel
theorem dX12_back_23 : decode cX12_back 23 = .ok (.bipush 34, 2) := by decide +kernel
theorem dX12_back_25 : decode cX12_back 25 = .ok (.if_icmp .ge 26, 3) := by decide +kernel
theorem dX12_back_28 : decode cX12_back 28 = .ok (.aload_n 0, 1) := by decide +kernel
theorem dX12_back_29 : decode cX12_back 29 = .ok (.getfield 82, 3) := by decide +kernel
theorem dX12_back_32 : decode cX12_back 32 = .ok (.iload_n 2, 1) := by decide +kernel
theorem dX12_back_33 : decode cX12_back 33 = .ok (.aload_n 0, 1) := by decide +kernel
theorem dX12_back_34 : decode cX12_back 34 = .ok (.getfield 130, 3) := by decide +kernel
theorem dX12_back_37 : decode cX12_back 37 = .ok (.bipush 34, 2) := by decide +kernel
theorem dX12_back_39 : decode cX12_back 39 = .ok (.iload_n 1, 1) := by decide +kernel
theorem dX12_back_40 : decode cX12_back 40 = .ok (.imul, 1) := by decide +kernel
theorem dX12_back_41 : decode cX12_back 41 = .ok (.iload_n 2, 1) := by decide +kernel
theorem dX12_back_42 : decode cX12_back 42 = .ok (.iadd, 1) := by decide +kernel
theorem dX12_back_43 : decode cX12_back 43 = .ok (.iaload, 1) := by decide +kernel
theorem dX12_back_44 : decode cX12_back 44 = .ok (.iastore, 1) := by decide +kernel
theorem dX12_back_45 : decode cX12_back 45 = .ok (.iinc 2 1, 3) := by decide +kernel
theorem dX12_back_48 : decode cX12_back 48 = .ok (.goto (-26), 3) := by decide +kernel
theorem dX12_back_51 : decode cX12_back 51 = .ok (.aload_n 0, 1) := by decide +kernel
theorem dX12_back_52 : decode cX12_back 52 = .ok (.iconst 0, 1) := by decide +kernel
theorem dX12_back_53 : decode cX12_back 53 = .ok (.putfield 357, 3) := by decide +kernel
theorem dX12_back_56 : decode cX12_back 56 = .ok (.aload_n 0, 1) := by decide +kernel
theorem dX12_back_57 : decode cX12_back 57 = .ok (.iconst 0, 1) := by decide +kernel
theorem dX12_back_58 : decode cX12_back 58 = .ok (.putfield 360, 3) := by decide +kernel
theorem dX12_back_61 : decode cX12_back 61 = .ok (.aload_n 0, 1) := by decide +kernel
theorem dX12_back_62 : decode cX12_back 62 = .ok (.getfield 82, 3) := by decide +kernel
theorem dX12_back_65 : decode cX12_back 65 = .ok (.bipush 32, 2) := by decide +kernel
theorem dX12_back_67 : decode cX12_back 67 = .ok (.iaload, 1) := by decide +kernel
theorem dX12_back_68 : decode cX12_back 68 = .ok (.ireturn, 1) := by decide +kernel
def kX12_back_18 (n : Nat) : mK := i_cst (.int (-1)) (i_rI)
set_option maxRecDepth 20000 in
theorem okX12_back_18 {E : mE} {X : State → Heap → Prop} {l : Launch} (hX : mXok E X) (n : Nat) : Sd E X l yX12_back cX12_back 3 (some .int) 2 0 0 0 0 18 (kX12_back_18 n) := s_iconst dX12_back_18 (by decide) (s_rI dX12_back_19 (Nat.le_of_ble_eq_true rfl) (Nat.le_of_ble_eq_true rfl))
def kX12_back_22 (n : Nat) (r22 : mK) : mK := i_ldI 2 (i_cst (.int (34)) (i_c2 (fun x y => decide (y ≤ x)) (i_ldA 0 (i_cst (.int (0)) (i_pI 12 43 (i_ldA 0 (i_cst (.int (0)) (i_pI 12 44 (i_ldA 0 (i_gA 12 39 (i_cst (.int (32)) (i_al 0 (i_rI))))))))))) (i_ldA 0 (i_gA 12 39 (i_ldI 2 (i_ldA 0 (i_gA 12 61 (i_cst (.int (34)) (i_ldI 1 (i_bin (fun x y => x * y) (i_ldI 2 (i_bin (fun x y => x + y) (i_al 0 (i_as 0 (i_inc 2 (1) (r22))))))))))))))))
set_option maxRecDepth 20000 in
theorem okX12_back_22 {E : mE} {X : State → Heap → Prop} {l : Launch} (hX : mXok E X) (n : Nat) {r22 : mK} (h22 : Sd E X l yX12_back cX12_back 3 (some .int) 2 0 0 0 0 22 r22) : Sd E X l yX12_back cX12_back 3 (some .int) 2 0 0 0 0 22 (kX12_back_22 n r22) := s_iload_n dX12_back_22 rfl (s_bipush dX12_back_23 (by decide) (s_icge dX12_back_25 (by decide) (s_aload_n dX12_back_51 rfl (s_iconst dX12_back_52 (by decide) (s_pI dX12_back_53 lFX12_357 (s_aload_n dX12_back_56 rfl (s_iconst dX12_back_57 (by decide) (s_pI dX12_back_58 lFX12_360 (s_aload_n dX12_back_61 rfl (s_gA dX12_back_62 lFX12_82 (s_bipush dX12_back_65 (by decide) (s_iald dX12_back_67 (s_rI dX12_back_68 (Nat.le_of_ble_eq_true rfl) (Nat.le_of_ble_eq_true rfl)))))))))))) (s_aload_n dX12_back_28 rfl (s_gA dX12_back_29 lFX12_82 (s_iload_n dX12_back_32 rfl (s_aload_n dX12_back_33 rfl (s_gA dX12_back_34 lFX12_130 (s_bipush dX12_back_37 (by decide) (s_iload_n dX12_back_39 rfl (s_imul dX12_back_40 (s_iload_n dX12_back_41 rfl (s_iadd dX12_back_42 (s_iald dX12_back_43 (s_iast dX12_back_44 (s_iinc dX12_back_45 (by decide) (s_goto dX12_back_48 (by decide) h22))))))))))))))))
def kX12_back_0 (n : Nat) : mK := i_ldI 1 (i_cst (.int (0)) (i_cst (.int (2)) (i_cS 3 (FX12_isIn n) (i_c0 (fun x => decide (x = 0)) (kX12_back_18 n) (i_ldA 0 (i_gA 12 62 (i_ldI 1 (i_al 2 (i_c0 (fun x => decide (¬ x = 0)) (i_cst (.int (0)) (i_stI 2 (mit (kX12_back_22 n ) n))) (kX12_back_18 n))))))))))
set_option maxRecDepth 20000 in
theorem okX12_back_0 {E : mE} {X : State → Heap → Prop} {l : Launch} (hX : mXok E X) (n : Nat) : Sd E X l yX12_back cX12_back 3 (some .int) 2 0 0 0 0 0 (kX12_back_0 n) := s_iload_n dX12_back_0 rfl (s_iconst dX12_back_1 (by decide) (s_iconst dX12_back_2 (by decide) (s_cS dX12_back_3 lMX12_344 bSX12_isIn (CtX12_isIn hX n) (Nat.le_of_ble_eq_true rfl) (s_ifeq dX12_back_6 (by decide) (okX12_back_18 hX n) (s_aload_n dX12_back_9 rfl (s_gA dX12_back_10 lFX12_133 (s_iload_n dX12_back_13 rfl (s_zald dX12_back_14 (s_ifne dX12_back_15 (by decide) (s_iconst dX12_back_20 (by decide) (s_istore_n dX12_back_21 rfl (s_mit (fun _ hk => okX12_back_22 hX n hk) n))) (okX12_back_18 hX n))))))) (Nat.le_of_ble_eq_true rfl) (Nat.le_of_ble_eq_true rfl))))
def FX12_back (n : Nat) : List Value → mM → Option mR := mfn 3 (kX12_back_0 n)
theorem CtX12_back {E : mE} {X : State → Heap → Prop} {l : Launch} (hX : mXok E X) (n : Nat) : Ct E X l yX12_back cX12_back 3 (some .int) 2 0 0 (FX12_back n) := Ct_of (by decide) hX (okX12_back_0 hX n)
theorem dX12_barsOf_0 : decode cX12_barsOf 0 = .ok (.iconst 0, 1) := by decide +kernel
theorem dX12_barsOf_1 : decode cX12_barsOf 1 = .ok (.istore_n 2, 1) := by decide +kernel
theorem dX12_barsOf_2 : decode cX12_barsOf 2 = .ok (.iconst 0, 1) := by decide +kernel
theorem dX12_barsOf_3 : decode cX12_barsOf 3 = .ok (.istore_n 3, 1) := by decide +kernel
theorem dX12_barsOf_4 : decode cX12_barsOf 4 = .ok (.iload_n 3, 1) := by decide +kernel
theorem dX12_barsOf_5 : decode cX12_barsOf 5 = .ok (.aload_n 0, 1) := by decide +kernel
theorem dX12_barsOf_6 : decode cX12_barsOf 6 = .ok (.invokevirtual 341, 3) := by decide +kernel
theorem dX12_barsOf_9 : decode cX12_barsOf 9 = .ok (.if_icmp .ge 53, 3) := by decide +kernel
theorem dX12_barsOf_12 : decode cX12_barsOf 12 = .ok (.aload_n 0, 1) := by decide +kernel
theorem dX12_barsOf_13 : decode cX12_barsOf 13 = .ok (.getfield 82, 3) := by decide +kernel
theorem dX12_barsOf_16 : decode cX12_barsOf 16 = .ok (.iconst 0, 1) := by decide +kernel
theorem dX12_barsOf_17 : decode cX12_barsOf 17 = .ok (.iload_n 1, 1) := by decide +kernel
theorem dX12_barsOf_18 : decode cX12_barsOf 18 = .ok (.iadd, 1) := by decide +kernel
theorem dX12_barsOf_19 : decode cX12_barsOf 19 = .ok (.iaload, 1) := by decide +kernel
theorem dX12_barsOf_20 : decode cX12_barsOf 20 = .ok (.ifCond .lt 42, 3) := by decide +kernel
theorem dX12_barsOf_23 : decode cX12_barsOf 23 = .ok (.aload_n 0, 1) := by decide +kernel
theorem dX12_barsOf_24 : decode cX12_barsOf 24 = .ok (.getfield 82, 3) := by decide +kernel
theorem dX12_barsOf_27 : decode cX12_barsOf 27 = .ok (.iconst 0, 1) := by decide +kernel
theorem dX12_barsOf_28 : decode cX12_barsOf 28 = .ok (.iload_n 3, 1) := by decide +kernel
theorem dX12_barsOf_29 : decode cX12_barsOf 29 = .ok (.iadd, 1) := by decide +kernel
theorem dX12_barsOf_30 : decode cX12_barsOf 30 = .ok (.iaload, 1) := by decide +kernel
theorem dX12_barsOf_31 : decode cX12_barsOf 31 = .ok (.ifCond .lt 25, 3) := by decide +kernel
theorem dX12_barsOf_34 : decode cX12_barsOf 34 = .ok (.aload_n 0, 1) := by decide +kernel
theorem dX12_barsOf_35 : decode cX12_barsOf 35 = .ok (.iload_n 1, 1) := by decide +kernel
theorem dX12_barsOf_36 : decode cX12_barsOf 36 = .ok (.aload_n 0, 1) := by decide +kernel
theorem dX12_barsOf_37 : decode cX12_barsOf 37 = .ok (.getfield 82, 3) := by decide +kernel
theorem dX12_barsOf_40 : decode cX12_barsOf 40 = .ok (.iconst 0, 1) := by decide +kernel
theorem dX12_barsOf_41 : decode cX12_barsOf 41 = .ok (.iload_n 3, 1) := by decide +kernel
theorem dX12_barsOf_42 : decode cX12_barsOf 42 = .ok (.iadd, 1) := by decide +kernel
theorem dX12_barsOf_43 : decode cX12_barsOf 43 = .ok (.iaload, 1) := by decide +kernel
theorem dX12_barsOf_44 : decode cX12_barsOf 44 = .ok (.invokevirtual 369, 3) := by decide +kernel
theorem dX12_barsOf_47 : decode cX12_barsOf 47 = .ok (.ifCond .eq 9, 3) := by decide +kernel
theorem dX12_barsOf_50 : decode cX12_barsOf 50 = .ok (.iload_n 2, 1) := by decide +kernel
theorem dX12_barsOf_51 : decode cX12_barsOf 51 = .ok (.iconst 1, 1) := by decide +kernel
theorem dX12_barsOf_52 : decode cX12_barsOf 52 = .ok (.iload_n 3, 1) := by decide +kernel
theorem dX12_barsOf_53 : decode cX12_barsOf 53 = .ok (.ishl, 1) := by decide +kernel
theorem dX12_barsOf_54 : decode cX12_barsOf 54 = .ok (.ior, 1) := by decide +kernel
theorem dX12_barsOf_55 : decode cX12_barsOf 55 = .ok (.istore_n 2, 1) := by decide +kernel
theorem dX12_barsOf_56 : decode cX12_barsOf 56 = .ok (.iinc 3 1, 3) := by decide +kernel
theorem dX12_barsOf_59 : decode cX12_barsOf 59 = .ok (.goto (-55), 3) := by decide +kernel
theorem dX12_barsOf_62 : decode cX12_barsOf 62 = .ok (.iload_n 2, 1) := by decide +kernel
theorem dX12_barsOf_63 : decode cX12_barsOf 63 = .ok (.ireturn, 1) := by decide +kernel
def kX12_barsOf_62 (n : Nat) : mK := i_ldI 2 (i_rI)
set_option maxRecDepth 20000 in
theorem okX12_barsOf_62 {E : mE} {X : State → Heap → Prop} {l : Launch} (hX : mXok E X) (n : Nat) : Sd E X l yX12_barsOf cX12_barsOf 4 (some .int) 2 0 0 0 0 62 (kX12_barsOf_62 n) := s_iload_n dX12_barsOf_62 rfl (s_rI dX12_barsOf_63 (Nat.le_of_ble_eq_true rfl) (Nat.le_of_ble_eq_true rfl))
def kX12_barsOf_56 (n : Nat) (r4 : mK) : mK := i_inc 3 (1) (r4)
set_option maxRecDepth 20000 in
theorem okX12_barsOf_56 {E : mE} {X : State → Heap → Prop} {l : Launch} (hX : mXok E X) (n : Nat) {r4 : mK} (h4 : Sd E X l yX12_barsOf cX12_barsOf 4 (some .int) 2 0 0 0 0 4 r4) : Sd E X l yX12_barsOf cX12_barsOf 4 (some .int) 2 0 0 0 0 56 (kX12_barsOf_56 n r4) := s_iinc dX12_barsOf_56 (by decide) (s_goto dX12_barsOf_59 (by decide) h4)
def kX12_barsOf_42 (n : Nat) (r4 : mK) : mK := i_bin (fun x y => x + y) (i_al 0 (i_cV 12 2 (FX12_isOnLine n) (i_c0 (fun x => decide (x = 0)) (kX12_barsOf_56 n r4) (i_ldI 2 (i_cst (.int (1)) (i_ldI 3 (i_bin (fun x y => x <<< (y &&& 31)) (i_bin (fun x y => x ||| y) (i_stI 2 (kX12_barsOf_56 n r4))))))))))
set_option maxRecDepth 20000 in
theorem okX12_barsOf_42 {E : mE} {X : State → Heap → Prop} {l : Launch} (hX : mXok E X) (n : Nat) {r4 : mK} (h4 : Sd E X l yX12_barsOf cX12_barsOf 4 (some .int) 2 0 0 0 0 4 r4) : Sd E X l yX12_barsOf cX12_barsOf 4 (some .int) 2 0 0 0 0 42 (kX12_barsOf_42 n r4) := s_iadd dX12_barsOf_42 (s_iald dX12_barsOf_43 (s_cV dX12_barsOf_44 lMX12_369 bVX12_isOnLine rfl (CtX12_isOnLine hX n) (Nat.le_of_ble_eq_true rfl) (s_ifeq dX12_barsOf_47 (by decide) (okX12_barsOf_56 hX n h4) (s_iload_n dX12_barsOf_50 rfl (s_iconst dX12_barsOf_51 (by decide) (s_iload_n dX12_barsOf_52 rfl (s_ishl dX12_barsOf_53 (s_ior dX12_barsOf_54 (s_istore_n dX12_barsOf_55 rfl (okX12_barsOf_56 hX n h4)))))))) (Nat.le_of_ble_eq_true rfl) (Nat.le_of_ble_eq_true rfl)))
def kX12_barsOf_4 (n : Nat) (r4 : mK) : mK := i_ldI 3 (i_ldA 0 (i_cV 12 0 (FX12_many n) (i_c2 (fun x y => decide (y ≤ x)) (kX12_barsOf_62 n) (i_ldA 0 (i_gA 12 39 (i_cst (.int (0)) (i_ldI 1 (i_bin (fun x y => x + y) (i_al 0 (i_c0 (fun x => decide (x < 0)) (kX12_barsOf_62 n) (i_ldA 0 (i_gA 12 39 (i_cst (.int (0)) (i_ldI 3 (i_bin (fun x y => x + y) (i_al 0 (i_c0 (fun x => decide (x < 0)) (kX12_barsOf_56 n r4) (i_ldA 0 (i_ldI 1 (i_ldA 0 (i_gA 12 39 (i_cst (.int (0)) (i_ldI 3 (kX12_barsOf_42 n r4))))))))))))))))))))))))
set_option maxRecDepth 20000 in
theorem okX12_barsOf_4 {E : mE} {X : State → Heap → Prop} {l : Launch} (hX : mXok E X) (n : Nat) {r4 : mK} (h4 : Sd E X l yX12_barsOf cX12_barsOf 4 (some .int) 2 0 0 0 0 4 r4) : Sd E X l yX12_barsOf cX12_barsOf 4 (some .int) 2 0 0 0 0 4 (kX12_barsOf_4 n r4) := s_iload_n dX12_barsOf_4 rfl (s_aload_n dX12_barsOf_5 rfl (s_cV dX12_barsOf_6 lMX12_341 bVX12_many rfl (CtX12_many hX n) (Nat.le_of_ble_eq_true rfl) (s_icge dX12_barsOf_9 (by decide) (okX12_barsOf_62 hX n) (s_aload_n dX12_barsOf_12 rfl (s_gA dX12_barsOf_13 lFX12_82 (s_iconst dX12_barsOf_16 (by decide) (s_iload_n dX12_barsOf_17 rfl (s_iadd dX12_barsOf_18 (s_iald dX12_barsOf_19 (s_iflt dX12_barsOf_20 (by decide) (okX12_barsOf_62 hX n) (s_aload_n dX12_barsOf_23 rfl (s_gA dX12_barsOf_24 lFX12_82 (s_iconst dX12_barsOf_27 (by decide) (s_iload_n dX12_barsOf_28 rfl (s_iadd dX12_barsOf_29 (s_iald dX12_barsOf_30 (s_iflt dX12_barsOf_31 (by decide) (okX12_barsOf_56 hX n h4) (s_aload_n dX12_barsOf_34 rfl (s_iload_n dX12_barsOf_35 rfl (s_aload_n dX12_barsOf_36 rfl (s_gA dX12_barsOf_37 lFX12_82 (s_iconst dX12_barsOf_40 (by decide) (s_iload_n dX12_barsOf_41 rfl (okX12_barsOf_42 hX n h4)))))))))))))))))))))) (Nat.le_of_ble_eq_true rfl) (Nat.le_of_ble_eq_true rfl)))
def kX12_barsOf_0 (n : Nat) : mK := i_cst (.int (0)) (i_stI 2 (i_cst (.int (0)) (i_stI 3 (mit (kX12_barsOf_4 n ) n))))
set_option maxRecDepth 20000 in
theorem okX12_barsOf_0 {E : mE} {X : State → Heap → Prop} {l : Launch} (hX : mXok E X) (n : Nat) : Sd E X l yX12_barsOf cX12_barsOf 4 (some .int) 2 0 0 0 0 0 (kX12_barsOf_0 n) := s_iconst dX12_barsOf_0 (by decide) (s_istore_n dX12_barsOf_1 rfl (s_iconst dX12_barsOf_2 (by decide) (s_istore_n dX12_barsOf_3 rfl (s_mit (fun _ hk => okX12_barsOf_4 hX n hk) n))))
def FX12_barsOf (n : Nat) : List Value → mM → Option mR := mfn 4 (kX12_barsOf_0 n)
theorem CtX12_barsOf {E : mE} {X : State → Heap → Prop} {l : Launch} (hX : mXok E X) (n : Nat) : Ct E X l yX12_barsOf cX12_barsOf 4 (some .int) 2 0 0 (FX12_barsOf n) := Ct_of (by decide) hX (okX12_barsOf_0 hX n)
theorem dX12_comeOff_0 : decode cX12_comeOff 0 = .ok (.iload_n 1, 1) := by decide +kernel
theorem dX12_comeOff_1 : decode cX12_comeOff 1 = .ok (.istore_n 2, 1) := by decide +kernel
theorem dX12_comeOff_2 : decode cX12_comeOff 2 = .ok (.iconst 0, 1) := by decide +kernel
theorem dX12_comeOff_3 : decode cX12_comeOff 3 = .ok (.istore_n 3, 1) := by decide +kernel
theorem dX12_comeOff_4 : decode cX12_comeOff 4 = .ok (.iconst 1, 1) := by decide +kernel
theorem dX12_comeOff_5 : decode cX12_comeOff 5 = .ok (.istore 4, 2) := by decide +kernel
theorem dX12_comeOff_7 : decode cX12_comeOff 7 = .ok (.iload 4, 2) := by decide +kernel
theorem dX12_comeOff_9 : decode cX12_comeOff 9 = .ok (.ifCond .eq 79, 3) := by decide +kernel
theorem dX12_comeOff_12 : decode cX12_comeOff 12 = .ok (.iconst 0, 1) := by decide +kernel
theorem dX12_comeOff_13 : decode cX12_comeOff 13 = .ok (.istore 4, 2) := by decide +kernel
theorem dX12_comeOff_15 : decode cX12_comeOff 15 = .ok (.iconst 0, 1) := by decide +kernel
theorem dX12_comeOff_16 : decode cX12_comeOff 16 = .ok (.istore 5, 2) := by decide +kernel
theorem dX12_comeOff_18 : decode cX12_comeOff 18 = .ok (.iload 5, 2) := by decide +kernel
theorem dX12_comeOff_20 : decode cX12_comeOff 20 = .ok (.aload_n 0, 1) := by decide +kernel
theorem dX12_comeOff_21 : decode cX12_comeOff 21 = .ok (.invokevirtual 341, 3) := by decide +kernel
theorem dX12_comeOff_24 : decode cX12_comeOff 24 = .ok (.if_icmp .ge 61, 3) := by decide +kernel
theorem dX12_comeOff_27 : decode cX12_comeOff 27 = .ok (.iload 4, 2) := by decide +kernel
theorem dX12_comeOff_29 : decode cX12_comeOff 29 = .ok (.ifCond .ne 56, 3) := by decide +kernel
theorem dX12_comeOff_32 : decode cX12_comeOff 32 = .ok (.iload_n 2, 1) := by decide +kernel
theorem dX12_comeOff_33 : decode cX12_comeOff 33 = .ok (.iload 5, 2) := by decide +kernel
theorem dX12_comeOff_35 : decode cX12_comeOff 35 = .ok (.invokestatic 261, 3) := by decide +kernel
theorem dX12_comeOff_38 : decode cX12_comeOff 38 = .ok (.ifCond .eq 41, 3) := by decide +kernel
theorem dX12_comeOff_41 : decode cX12_comeOff 41 = .ok (.aload_n 0, 1) := by decide +kernel
theorem dX12_comeOff_42 : decode cX12_comeOff 42 = .ok (.getfield 100, 3) := by decide +kernel
theorem dX12_comeOff_45 : decode cX12_comeOff 45 = .ok (.iload 5, 2) := by decide +kernel
theorem dX12_comeOff_47 : decode cX12_comeOff 47 = .ok (.iaload, 1) := by decide +kernel
theorem dX12_comeOff_48 : decode cX12_comeOff 48 = .ok (.iload_n 2, 1) := by decide +kernel
theorem dX12_comeOff_49 : decode cX12_comeOff 49 = .ok (.iand, 1) := by decide +kernel
theorem dX12_comeOff_50 : decode cX12_comeOff 50 = .ok (.ifCond .eq 6, 3) := by decide +kernel
theorem dX12_comeOff_53 : decode cX12_comeOff 53 = .ok (.goto 26, 3) := by decide +kernel
theorem dX12_comeOff_56 : decode cX12_comeOff 56 = .ok (.iload_n 2, 1) := by decide +kernel
theorem dX12_comeOff_57 : decode cX12_comeOff 57 = .ok (.iconst 1, 1) := by decide +kernel
theorem dX12_comeOff_58 : decode cX12_comeOff 58 = .ok (.iload 5, 2) := by decide +kernel
theorem dX12_comeOff_60 : decode cX12_comeOff 60 = .ok (.ishl, 1) := by decide +kernel
theorem dX12_comeOff_61 : decode cX12_comeOff 61 = .ok (.iconst (-1), 1) := by decide +kernel
theorem dX12_comeOff_62 : decode cX12_comeOff 62 = .ok (.ixor, 1) := by decide +kernel
theorem dX12_comeOff_63 : decode cX12_comeOff 63 = .ok (.iand, 1) := by decide +kernel
theorem dX12_comeOff_64 : decode cX12_comeOff 64 = .ok (.istore_n 2, 1) := by decide +kernel
theorem dX12_comeOff_65 : decode cX12_comeOff 65 = .ok (.aload_n 0, 1) := by decide +kernel
theorem dX12_comeOff_66 : decode cX12_comeOff 66 = .ok (.getfield 97, 3) := by decide +kernel
theorem dX12_comeOff_69 : decode cX12_comeOff 69 = .ok (.iload_n 3, 1) := by decide +kernel
theorem dX12_comeOff_70 : decode cX12_comeOff 70 = .ok (.iload 5, 2) := by decide +kernel
theorem dX12_comeOff_72 : decode cX12_comeOff 72 = .ok (.iastore, 1) := by decide +kernel
theorem dX12_comeOff_73 : decode cX12_comeOff 73 = .ok (.iinc 3 1, 3) := by decide +kernel
theorem dX12_comeOff_76 : decode cX12_comeOff 76 = .ok (.iconst 1, 1) := by decide +kernel
theorem dX12_comeOff_77 : decode cX12_comeOff 77 = .ok (.istore 4, 2) := by decide +kernel
theorem dX12_comeOff_79 : decode cX12_comeOff 79 = .ok (.iinc 5 1, 3) := by decide +kernel
theorem dX12_comeOff_82 : decode cX12_comeOff 82 = .ok (.goto (-64), 3) := by decide +kernel
theorem dX12_comeOff_85 : decode cX12_comeOff 85 = .ok (.goto (-78), 3) := by decide +kernel
theorem dX12_comeOff_88 : decode cX12_comeOff 88 = .ok (.iload_n 3, 1) := by decide +kernel
theorem dX12_comeOff_89 : decode cX12_comeOff 89 = .ok (.ireturn, 1) := by decide +kernel
def kX12_comeOff_85 (n : Nat) (r7 : mK) : mK := r7
set_option maxRecDepth 20000 in
theorem okX12_comeOff_85 {E : mE} {X : State → Heap → Prop} {l : Launch} (hX : mXok E X) (n : Nat) {r7 : mK} (h7 : Sd E X l yX12_comeOff cX12_comeOff 6 (some .int) 2 0 0 0 0 7 r7) : Sd E X l yX12_comeOff cX12_comeOff 6 (some .int) 2 0 0 0 0 85 (kX12_comeOff_85 n r7) := s_goto dX12_comeOff_85 (by decide) h7
def kX12_comeOff_79 (n : Nat) (r7 : mK) (r18 : mK) : mK := i_inc 5 (1) (r18)
set_option maxRecDepth 20000 in
theorem okX12_comeOff_79 {E : mE} {X : State → Heap → Prop} {l : Launch} (hX : mXok E X) (n : Nat) {r7 : mK} (h7 : Sd E X l yX12_comeOff cX12_comeOff 6 (some .int) 2 0 0 0 0 7 r7) {r18 : mK} (h18 : Sd E X l yX12_comeOff cX12_comeOff 6 (some .int) 2 0 0 0 0 18 r18) : Sd E X l yX12_comeOff cX12_comeOff 6 (some .int) 2 0 0 0 0 79 (kX12_comeOff_79 n r7 r18) := s_iinc dX12_comeOff_79 (by decide) (s_goto dX12_comeOff_82 (by decide) h18)
def kX12_comeOff_64 (n : Nat) (r7 : mK) (r18 : mK) : mK := i_stI 2 (i_ldA 0 (i_gA 12 46 (i_ldI 3 (i_ldI 5 (i_as 0 (i_inc 3 (1) (i_cst (.int (1)) (i_stI 4 (kX12_comeOff_79 n r7 r18)))))))))
set_option maxRecDepth 20000 in
theorem okX12_comeOff_64 {E : mE} {X : State → Heap → Prop} {l : Launch} (hX : mXok E X) (n : Nat) {r7 : mK} (h7 : Sd E X l yX12_comeOff cX12_comeOff 6 (some .int) 2 0 0 0 0 7 r7) {r18 : mK} (h18 : Sd E X l yX12_comeOff cX12_comeOff 6 (some .int) 2 0 0 0 0 18 r18) : Sd E X l yX12_comeOff cX12_comeOff 6 (some .int) 2 0 0 0 0 64 (kX12_comeOff_64 n r7 r18) := s_istore_n dX12_comeOff_64 rfl (s_aload_n dX12_comeOff_65 rfl (s_gA dX12_comeOff_66 lFX12_97 (s_iload_n dX12_comeOff_69 rfl (s_iload dX12_comeOff_70 (s_iast dX12_comeOff_72 (s_iinc dX12_comeOff_73 (by decide) (s_iconst dX12_comeOff_76 (by decide) (s_istore dX12_comeOff_77 (okX12_comeOff_79 hX n h7 h18)))))))))
def kX12_comeOff_18 (n : Nat) (r7 : mK) (r18 : mK) : mK := i_ldI 5 (i_ldA 0 (i_cV 12 0 (FX12_many n) (i_c2 (fun x y => decide (y ≤ x)) (kX12_comeOff_85 n r7) (i_ldI 4 (i_c0 (fun x => decide (¬ x = 0)) (kX12_comeOff_85 n r7) (i_ldI 2 (i_ldI 5 (i_cS 2 (FX12_bit n) (i_c0 (fun x => decide (x = 0)) (kX12_comeOff_79 n r7 r18) (i_ldA 0 (i_gA 12 47 (i_ldI 5 (i_al 0 (i_ldI 2 (i_bin (fun x y => x &&& y) (i_c0 (fun x => decide (x = 0)) (i_ldI 2 (i_cst (.int (1)) (i_ldI 5 (i_bin (fun x y => x <<< (y &&& 31)) (i_cst (.int (-1)) (i_bin (fun x y => x ^^^ y) (i_bin (fun x y => x &&& y) (kX12_comeOff_64 n r7 r18)))))))) ((kX12_comeOff_79 n r7 r18))))))))))))))))))
set_option maxRecDepth 20000 in
theorem okX12_comeOff_18 {E : mE} {X : State → Heap → Prop} {l : Launch} (hX : mXok E X) (n : Nat) {r7 : mK} (h7 : Sd E X l yX12_comeOff cX12_comeOff 6 (some .int) 2 0 0 0 0 7 r7) {r18 : mK} (h18 : Sd E X l yX12_comeOff cX12_comeOff 6 (some .int) 2 0 0 0 0 18 r18) : Sd E X l yX12_comeOff cX12_comeOff 6 (some .int) 2 0 0 0 0 18 (kX12_comeOff_18 n r7 r18) := s_iload dX12_comeOff_18 (s_aload_n dX12_comeOff_20 rfl (s_cV dX12_comeOff_21 lMX12_341 bVX12_many rfl (CtX12_many hX n) (Nat.le_of_ble_eq_true rfl) (s_icge dX12_comeOff_24 (by decide) (okX12_comeOff_85 hX n h7) (s_iload dX12_comeOff_27 (s_ifne dX12_comeOff_29 (by decide) (okX12_comeOff_85 hX n h7) (s_iload_n dX12_comeOff_32 rfl (s_iload dX12_comeOff_33 (s_cS dX12_comeOff_35 lMX12_261 bSX12_bit (CtX12_bit hX n) (Nat.le_of_ble_eq_true rfl) (s_ifeq dX12_comeOff_38 (by decide) (okX12_comeOff_79 hX n h7 h18) (s_aload_n dX12_comeOff_41 rfl (s_gA dX12_comeOff_42 lFX12_100 (s_iload dX12_comeOff_45 (s_iald dX12_comeOff_47 (s_iload_n dX12_comeOff_48 rfl (s_iand dX12_comeOff_49 (s_ifeq dX12_comeOff_50 (by decide) (s_iload_n dX12_comeOff_56 rfl (s_iconst dX12_comeOff_57 (by decide) (s_iload dX12_comeOff_58 (s_ishl dX12_comeOff_60 (s_iconst dX12_comeOff_61 (by decide) (s_ixor dX12_comeOff_62 (s_iand dX12_comeOff_63 (okX12_comeOff_64 hX n h7 h18)))))))) (s_goto dX12_comeOff_53 (by decide) (okX12_comeOff_79 hX n h7 h18)))))))))) (Nat.le_of_ble_eq_true rfl) (Nat.le_of_ble_eq_true rfl))))))) (Nat.le_of_ble_eq_true rfl) (Nat.le_of_ble_eq_true rfl)))
def kX12_comeOff_7 (n : Nat) (r7 : mK) : mK := i_ldI 4 (i_c0 (fun x => decide (x = 0)) (i_ldI 3 (i_rI)) (i_cst (.int (0)) (i_stI 4 (i_cst (.int (0)) (i_stI 5 (mit (kX12_comeOff_18 n r7) n))))))
set_option maxRecDepth 20000 in
theorem okX12_comeOff_7 {E : mE} {X : State → Heap → Prop} {l : Launch} (hX : mXok E X) (n : Nat) {r7 : mK} (h7 : Sd E X l yX12_comeOff cX12_comeOff 6 (some .int) 2 0 0 0 0 7 r7) : Sd E X l yX12_comeOff cX12_comeOff 6 (some .int) 2 0 0 0 0 7 (kX12_comeOff_7 n r7) := s_iload dX12_comeOff_7 (s_ifeq dX12_comeOff_9 (by decide) (s_iload_n dX12_comeOff_88 rfl (s_rI dX12_comeOff_89 (Nat.le_of_ble_eq_true rfl) (Nat.le_of_ble_eq_true rfl))) (s_iconst dX12_comeOff_12 (by decide) (s_istore dX12_comeOff_13 (s_iconst dX12_comeOff_15 (by decide) (s_istore dX12_comeOff_16 (s_mit (fun _ hk => okX12_comeOff_18 hX n h7 hk) n))))))
def kX12_comeOff_0 (n : Nat) : mK := i_ldI 1 (i_stI 2 (i_cst (.int (0)) (i_stI 3 (i_cst (.int (1)) (i_stI 4 (mit (kX12_comeOff_7 n ) n))))))
set_option maxRecDepth 20000 in
theorem okX12_comeOff_0 {E : mE} {X : State → Heap → Prop} {l : Launch} (hX : mXok E X) (n : Nat) : Sd E X l yX12_comeOff cX12_comeOff 6 (some .int) 2 0 0 0 0 0 (kX12_comeOff_0 n) := s_iload_n dX12_comeOff_0 rfl (s_istore_n dX12_comeOff_1 rfl (s_iconst dX12_comeOff_2 (by decide) (s_istore_n dX12_comeOff_3 rfl (s_iconst dX12_comeOff_4 (by decide) (s_istore dX12_comeOff_5 (s_mit (fun _ hk => okX12_comeOff_7 hX n hk) n))))))
def FX12_comeOff (n : Nat) : List Value → mM → Option mR := mfn 6 (kX12_comeOff_0 n)
theorem CtX12_comeOff {E : mE} {X : State → Heap → Prop} {l : Launch} (hX : mXok E X) (n : Nat) : Ct E X l yX12_comeOff cX12_comeOff 6 (some .int) 2 0 0 (FX12_comeOff n) := Ct_of (by decide) hX (okX12_comeOff_0 hX n)
