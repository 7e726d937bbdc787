theorem dX12_softer_0 : decode cX12_softer 0 = .ok (.aload_n 0, 1) := by decide +kernel
theorem dX12_softer_1 : decode cX12_softer 1 = .ok (.iload_n 1, 1) := by decide +kernel
theorem dX12_softer_2 : decode cX12_softer 2 = .ok (.invokevirtual 396, 3) := by decide +kernel
theorem dX12_softer_5 : decode cX12_softer 5 = .ok (.ifCond .eq 11, 3) := by decide +kernel
theorem dX12_softer_8 : decode cX12_softer 8 = .ok (.aload_n 0, 1) := by decide +kernel
theorem dX12_softer_9 : decode cX12_softer 9 = .ok (.iload_n 1, 1) := by decide +kernel
theorem dX12_softer_10 : decode cX12_softer 10 = .ok (.invokevirtual 384, 3) := by decide +kernel
theorem dX12_softer_13 : decode cX12_softer 13 = .ok (.goto 4, 3) := by decide +kernel
theorem dX12_softer_16 : decode cX12_softer 16 = .ok (.iconst (-1), 1) := by decide +kernel
theorem dX12_softer_17 : decode cX12_softer 17 = .ok (.ireturn, 1) := by decide +kernel
def kX12_softer_17 (n : Nat) : mK := i_rI
set_option maxRecDepth 20000 in
theorem okX12_softer_17 {E : mE} {X : State → Heap → Prop} {l : Launch} (hX : mXok E X) (n : Nat) : Sd E X l yX12_softer cX12_softer 2 (some .int) 5 0 0 0 0 17 (kX12_softer_17 n) := s_rI dX12_softer_17 (Nat.le_of_ble_eq_true rfl) (Nat.le_of_ble_eq_true rfl)
def kX12_softer_0 (n : Nat) : mK := i_ldA 0 (i_ldI 1 (i_cV 12 1 (FX12_isHere n) (i_c0 (fun x => decide (x = 0)) (i_cst (.int (-1)) (kX12_softer_17 n)) (i_ldA 0 (i_ldI 1 (i_cV 12 1 (FX12_softerOf n) ((kX12_softer_17 n))))))))
set_option maxRecDepth 20000 in
theorem okX12_softer_0 {E : mE} {X : State → Heap → Prop} {l : Launch} (hX : mXok E X) (n : Nat) : Sd E X l yX12_softer cX12_softer 2 (some .int) 5 0 0 0 0 0 (kX12_softer_0 n) := s_aload_n dX12_softer_0 rfl (s_iload_n dX12_softer_1 rfl (s_cV dX12_softer_2 lMX12_396 bVX12_isHere rfl (CtX12_isHere hX n) (Nat.le_of_ble_eq_true rfl) (s_ifeq dX12_softer_5 (by decide) (s_iconst dX12_softer_16 (by decide) (okX12_softer_17 hX n)) (s_aload_n dX12_softer_8 rfl (s_iload_n dX12_softer_9 rfl (s_cV dX12_softer_10 lMX12_384 bVX12_softerOf rfl (CtX12_softerOf hX n) (Nat.le_of_ble_eq_true rfl) (s_goto dX12_softer_13 (by decide) (okX12_softer_17 hX n)) (Nat.le_of_ble_eq_true rfl) (Nat.le_of_ble_eq_true rfl))))) (Nat.le_of_ble_eq_true rfl) (Nat.le_of_ble_eq_true rfl)))
def FX12_softer (n : Nat) : List Value → mM → Option mR := mfn 2 (kX12_softer_0 n)
theorem CtX12_softer {E : mE} {X : State → Heap → Prop} {l : Launch} (hX : mXok E X) (n : Nat) : Ct E X l yX12_softer cX12_softer 2 (some .int) 5 0 0 (FX12_softer n) := Ct_of (by decide) hX (okX12_softer_0 hX n)
theorem dX12_soldFor_0 : decode cX12_soldFor 0 = .ok (.aload_n 0, 1) := by decide +kernel
theorem dX12_soldFor_1 : decode cX12_soldFor 1 = .ok (.iload_n 1, 1) := by decide +kernel
theorem dX12_soldFor_2 : decode cX12_soldFor 2 = .ok (.invokevirtual 381, 3) := by decide +kernel
theorem dX12_soldFor_5 : decode cX12_soldFor 5 = .ok (.iload_n 3, 1) := by decide +kernel
theorem dX12_soldFor_6 : decode cX12_soldFor 6 = .ok (.isub, 1) := by decide +kernel
theorem dX12_soldFor_7 : decode cX12_soldFor 7 = .ok (.istore 6, 2) := by decide +kernel
theorem dX12_soldFor_9 : decode cX12_soldFor 9 = .ok (.aload_n 0, 1) := by decide +kernel
theorem dX12_soldFor_10 : decode cX12_soldFor 10 = .ok (.iload_n 2, 1) := by decide +kernel
theorem dX12_soldFor_11 : decode cX12_soldFor 11 = .ok (.invokevirtual 381, 3) := by decide +kernel
theorem dX12_soldFor_14 : decode cX12_soldFor 14 = .ok (.iload 4, 2) := by decide +kernel
theorem dX12_soldFor_16 : decode cX12_soldFor 16 = .ok (.isub, 1) := by decide +kernel
theorem dX12_soldFor_17 : decode cX12_soldFor 17 = .ok (.istore 7, 2) := by decide +kernel
theorem dX12_soldFor_19 : decode cX12_soldFor 19 = .ok (.iload 6, 2) := by decide +kernel
theorem dX12_soldFor_21 : decode cX12_soldFor 21 = .ok (.ifCond .lt 14, 3) := by decide +kernel
theorem dX12_soldFor_24 : decode cX12_soldFor 24 = .ok (.iload 6, 2) := by decide +kernel
theorem dX12_soldFor_26 : decode cX12_soldFor 26 = .ok (.iload 7, 2) := by decide +kernel
theorem dX12_soldFor_28 : decode cX12_soldFor 28 = .ok (.if_icmp .lt 7, 3) := by decide +kernel
theorem dX12_soldFor_31 : decode cX12_soldFor 31 = .ok (.iconst 1, 1) := by decide +kernel
theorem dX12_soldFor_32 : decode cX12_soldFor 32 = .ok (.goto 4, 3) := by decide +kernel
theorem dX12_soldFor_35 : decode cX12_soldFor 35 = .ok (.iconst 0, 1) := by decide +kernel
theorem dX12_soldFor_36 : decode cX12_soldFor 36 = .ok (.istore 8, 2) := by decide +kernel
theorem dX12_soldFor_38 : decode cX12_soldFor 38 = .ok (.iload 7, 2) := by decide +kernel
theorem dX12_soldFor_40 : decode cX12_soldFor 40 = .ok (.ifCond .lt 14, 3) := by decide +kernel
theorem dX12_soldFor_43 : decode cX12_soldFor 43 = .ok (.iload 7, 2) := by decide +kernel
theorem dX12_soldFor_45 : decode cX12_soldFor 45 = .ok (.iload 6, 2) := by decide +kernel
theorem dX12_soldFor_47 : decode cX12_soldFor 47 = .ok (.if_icmp .le 7, 3) := by decide +kernel
theorem dX12_soldFor_50 : decode cX12_soldFor 50 = .ok (.iconst 1, 1) := by decide +kernel
theorem dX12_soldFor_51 : decode cX12_soldFor 51 = .ok (.goto 4, 3) := by decide +kernel
theorem dX12_soldFor_54 : decode cX12_soldFor 54 = .ok (.iconst 0, 1) := by decide +kernel
theorem dX12_soldFor_55 : decode cX12_soldFor 55 = .ok (.istore 9, 2) := by decide +kernel
theorem dX12_soldFor_57 : decode cX12_soldFor 57 = .ok (.iload 5, 2) := by decide +kernel
theorem dX12_soldFor_59 : decode cX12_soldFor 59 = .ok (.ifCond .eq 16, 3) := by decide +kernel
theorem dX12_soldFor_62 : decode cX12_soldFor 62 = .ok (.iload 8, 2) := by decide +kernel
theorem dX12_soldFor_64 : decode cX12_soldFor 64 = .ok (.ifCond .eq 7, 3) := by decide +kernel
theorem dX12_soldFor_67 : decode cX12_soldFor 67 = .ok (.iload_n 3, 1) := by decide +kernel
theorem dX12_soldFor_68 : decode cX12_soldFor 68 = .ok (.goto 18, 3) := by decide +kernel
theorem dX12_soldFor_71 : decode cX12_soldFor 71 = .ok (.iconst 0, 1) := by decide +kernel
theorem dX12_soldFor_72 : decode cX12_soldFor 72 = .ok (.goto 14, 3) := by decide +kernel
theorem dX12_soldFor_75 : decode cX12_soldFor 75 = .ok (.iload 9, 2) := by decide +kernel
theorem dX12_soldFor_77 : decode cX12_soldFor 77 = .ok (.ifCond .eq 8, 3) := by decide +kernel
theorem dX12_soldFor_80 : decode cX12_soldFor 80 = .ok (.iload 4, 2) := by decide +kernel
theorem dX12_soldFor_82 : decode cX12_soldFor 82 = .ok (.goto 4, 3) := by decide +kernel
theorem dX12_soldFor_85 : decode cX12_soldFor 85 = .ok (.iconst 0, 1) := by decide +kernel
theorem dX12_soldFor_86 : decode cX12_soldFor 86 = .ok (.ireturn, 1) := by decide +kernel
def kX12_soldFor_86 (n : Nat) : mK := i_rI
set_option maxRecDepth 20000 in
theorem okX12_soldFor_86 {E : mE} {X : State → Heap → Prop} {l : Launch} (hX : mXok E X) (n : Nat) : Sd E X l yX12_soldFor cX12_soldFor 10 (some .int) 5 0 0 0 0 86 (kX12_soldFor_86 n) := s_rI dX12_soldFor_86 (Nat.le_of_ble_eq_true rfl) (Nat.le_of_ble_eq_true rfl)
def kX12_soldFor_55 (n : Nat) : mK := i_stI 9 (i_ldI 5 (i_c0 (fun x => decide (x = 0)) (i_ldI 9 (i_c0 (fun x => decide (x = 0)) (i_cst (.int (0)) (kX12_soldFor_86 n)) (i_ldI 4 ((kX12_soldFor_86 n))))) (i_ldI 8 (i_c0 (fun x => decide (x = 0)) (i_cst (.int (0)) ((kX12_soldFor_86 n))) (i_ldI 3 ((kX12_soldFor_86 n)))))))
set_option maxRecDepth 20000 in
theorem okX12_soldFor_55 {E : mE} {X : State → Heap → Prop} {l : Launch} (hX : mXok E X) (n : Nat) : Sd E X l yX12_soldFor cX12_soldFor 10 (some .int) 5 0 0 0 0 55 (kX12_soldFor_55 n) := s_istore dX12_soldFor_55 (s_iload dX12_soldFor_57 (s_ifeq dX12_soldFor_59 (by decide) (s_iload dX12_soldFor_75 (s_ifeq dX12_soldFor_77 (by decide) (s_iconst dX12_soldFor_85 (by decide) (okX12_soldFor_86 hX n)) (s_iload dX12_soldFor_80 (s_goto dX12_soldFor_82 (by decide) (okX12_soldFor_86 hX n))))) (s_iload dX12_soldFor_62 (s_ifeq dX12_soldFor_64 (by decide) (s_iconst dX12_soldFor_71 (by decide) (s_goto dX12_soldFor_72 (by decide) (okX12_soldFor_86 hX n))) (s_iload_n dX12_soldFor_67 rfl (s_goto dX12_soldFor_68 (by decide) (okX12_soldFor_86 hX n)))))))
def kX12_soldFor_54 (n : Nat) : mK := i_cst (.int (0)) (kX12_soldFor_55 n)
set_option maxRecDepth 20000 in
theorem okX12_soldFor_54 {E : mE} {X : State → Heap → Prop} {l : Launch} (hX : mXok E X) (n : Nat) : Sd E X l yX12_soldFor cX12_soldFor 10 (some .int) 5 0 0 0 0 54 (kX12_soldFor_54 n) := s_iconst dX12_soldFor_54 (by decide) (okX12_soldFor_55 hX n)
def kX12_soldFor_36 (n : Nat) : mK := i_stI 8 (i_ldI 7 (i_c0 (fun x => decide (x < 0)) (kX12_soldFor_54 n) (i_ldI 7 (i_ldI 6 (i_c2 (fun x y => decide (x ≤ y)) (kX12_soldFor_54 n) (i_cst (.int (1)) ((kX12_soldFor_55 n))))))))
set_option maxRecDepth 20000 in
theorem okX12_soldFor_36 {E : mE} {X : State → Heap → Prop} {l : Launch} (hX : mXok E X) (n : Nat) : Sd E X l yX12_soldFor cX12_soldFor 10 (some .int) 5 0 0 0 0 36 (kX12_soldFor_36 n) := s_istore dX12_soldFor_36 (s_iload dX12_soldFor_38 (s_iflt dX12_soldFor_40 (by decide) (okX12_soldFor_54 hX n) (s_iload dX12_soldFor_43 (s_iload dX12_soldFor_45 (s_icle dX12_soldFor_47 (by decide) (okX12_soldFor_54 hX n) (s_iconst dX12_soldFor_50 (by decide) (s_goto dX12_soldFor_51 (by decide) (okX12_soldFor_55 hX n))))))))
def kX12_soldFor_35 (n : Nat) : mK := i_cst (.int (0)) (kX12_soldFor_36 n)
set_option maxRecDepth 20000 in
theorem okX12_soldFor_35 {E : mE} {X : State → Heap → Prop} {l : Launch} (hX : mXok E X) (n : Nat) : Sd E X l yX12_soldFor cX12_soldFor 10 (some .int) 5 0 0 0 0 35 (kX12_soldFor_35 n) := s_iconst dX12_soldFor_35 (by decide) (okX12_soldFor_36 hX n)
def kX12_soldFor_0 (n : Nat) : mK := i_ldA 0 (i_ldI 1 (i_cV 12 1 (FX12_worthOf n) (i_ldI 3 (i_bin (fun x y => x - y) (i_stI 6 (i_ldA 0 (i_ldI 2 (i_cV 12 1 (FX12_worthOf n) (i_ldI 4 (i_bin (fun x y => x - y) (i_stI 7 (i_ldI 6 (i_c0 (fun x => decide (x < 0)) (kX12_soldFor_35 n) (i_ldI 6 (i_ldI 7 (i_c2 (fun x y => decide (x < y)) (kX12_soldFor_35 n) (i_cst (.int (1)) ((kX12_soldFor_36 n)))))))))))))))))))
set_option maxRecDepth 20000 in
theorem okX12_soldFor_0 {E : mE} {X : State → Heap → Prop} {l : Launch} (hX : mXok E X) (n : Nat) : Sd E X l yX12_soldFor cX12_soldFor 10 (some .int) 5 0 0 0 0 0 (kX12_soldFor_0 n) := s_aload_n dX12_soldFor_0 rfl (s_iload_n dX12_soldFor_1 rfl (s_cV dX12_soldFor_2 lMX12_381 bVX12_worthOf rfl (CtX12_worthOf hX n) (Nat.le_of_ble_eq_true rfl) (s_iload_n dX12_soldFor_5 rfl (s_isub dX12_soldFor_6 (s_istore dX12_soldFor_7 (s_aload_n dX12_soldFor_9 rfl (s_iload_n dX12_soldFor_10 rfl (s_cV dX12_soldFor_11 lMX12_381 bVX12_worthOf rfl (CtX12_worthOf hX n) (Nat.le_of_ble_eq_true rfl) (s_iload dX12_soldFor_14 (s_isub dX12_soldFor_16 (s_istore dX12_soldFor_17 (s_iload dX12_soldFor_19 (s_iflt dX12_soldFor_21 (by decide) (okX12_soldFor_35 hX n) (s_iload dX12_soldFor_24 (s_iload dX12_soldFor_26 (s_iclt dX12_soldFor_28 (by decide) (okX12_soldFor_35 hX n) (s_iconst dX12_soldFor_31 (by decide) (s_goto dX12_soldFor_32 (by decide) (okX12_soldFor_36 hX n))))))))))) (Nat.le_of_ble_eq_true rfl) (Nat.le_of_ble_eq_true rfl))))))) (Nat.le_of_ble_eq_true rfl) (Nat.le_of_ble_eq_true rfl)))
def FX12_soldFor (n : Nat) : List Value → mM → Option mR := mfn 10 (kX12_soldFor_0 n)
theorem CtX12_soldFor {E : mE} {X : State → Heap → Prop} {l : Launch} (hX : mXok E X) (n : Nat) : Ct E X l yX12_soldFor cX12_soldFor 10 (some .int) 5 0 0 (FX12_soldFor n) := Ct_of (by decide) hX (okX12_soldFor_0 hX n)
theorem dX12_until_0 : decode cX12_until 0 = .ok (.aload_n 0, 1) := by decide +kernel
theorem dX12_until_1 : decode cX12_until 1 = .ok (.iload_n 1, 1) := by decide +kernel
theorem dX12_until_2 : decode cX12_until 2 = .ok (.invokevirtual 396, 3) := by decide +kernel
theorem dX12_until_5 : decode cX12_until 5 = .ok (.ifCond .ne 5, 3) := by decide +kernel
theorem dX12_until_8 : decode cX12_until 8 = .ok (.iconst (-1), 1) := by decide +kernel
theorem dX12_until_9 : decode cX12_until 9 = .ok (.ireturn, 1) := by decide +kernel
theorem dX12_until_10 : decode cX12_until 10 = .ok (.aload_n 0, 1) := by decide +kernel
theorem dX12_until_11 : decode cX12_until 11 = .ok (.iload_n 1, 1) := by decide +kernel
theorem dX12_until_12 : decode cX12_until 12 = .ok (.invokevirtual 436, 3) := by decide +kernel
theorem dX12_until_15 : decode cX12_until 15 = .ok (.iconst 1, 1) := by decide +kernel
theorem dX12_until_16 : decode cX12_until 16 = .ok (.iload_n 1, 1) := by decide +kernel
theorem dX12_until_17 : decode cX12_until 17 = .ok (.ishl, 1) := by decide +kernel
theorem dX12_until_18 : decode cX12_until 18 = .ok (.ior, 1) := by decide +kernel
theorem dX12_until_19 : decode cX12_until 19 = .ok (.istore_n 2, 1) := by decide +kernel
theorem dX12_until_20 : decode cX12_until 20 = .ok (.aload_n 0, 1) := by decide +kernel
theorem dX12_until_21 : decode cX12_until 21 = .ok (.iload_n 2, 1) := by decide +kernel
theorem dX12_until_22 : decode cX12_until 22 = .ok (.invokevirtual 430, 3) := by decide +kernel
theorem dX12_until_25 : decode cX12_until 25 = .ok (.iload_n 2, 1) := by decide +kernel
theorem dX12_until_26 : decode cX12_until 26 = .ok (.invokestatic 331, 3) := by decide +kernel
theorem dX12_until_29 : decode cX12_until 29 = .ok (.if_icmp .ne 10, 3) := by decide +kernel
theorem dX12_until_32 : decode cX12_until 32 = .ok (.iload_n 2, 1) := by decide +kernel
theorem dX12_until_33 : decode cX12_until 33 = .ok (.invokestatic 331, 3) := by decide +kernel
theorem dX12_until_36 : decode cX12_until 36 = .ok (.goto 4, 3) := by decide +kernel
theorem dX12_until_39 : decode cX12_until 39 = .ok (.iconst (-1), 1) := by decide +kernel
theorem dX12_until_40 : decode cX12_until 40 = .ok (.ireturn, 1) := by decide +kernel
def kX12_until_40 (n : Nat) : mK := i_rI
set_option maxRecDepth 20000 in
theorem okX12_until_40 {E : mE} {X : State → Heap → Prop} {l : Launch} (hX : mXok E X) (n : Nat) : Sd E X l yX12_until cX12_until 3 (some .int) 5 0 0 0 0 40 (kX12_until_40 n) := s_rI dX12_until_40 (Nat.le_of_ble_eq_true rfl) (Nat.le_of_ble_eq_true rfl)
def kX12_until_0 (n : Nat) : mK := i_ldA 0 (i_ldI 1 (i_cV 12 1 (FX12_isHere n) (i_c0 (fun x => decide (¬ x = 0)) (i_ldA 0 (i_ldI 1 (i_cV 12 1 (FX12_aheadOf n) (i_cst (.int (1)) (i_ldI 1 (i_bin (fun x y => x <<< (y &&& 31)) (i_bin (fun x y => x ||| y) (i_stI 2 (i_ldA 0 (i_ldI 2 (i_cV 12 1 (FX12_offOf n) (i_ldI 2 (i_cS 1 (FX12_bitsOf n) (i_c2 (fun x y => decide (¬ x = y)) (i_cst (.int (-1)) (kX12_until_40 n)) (i_ldI 2 (i_cS 1 (FX12_bitsOf n) ((kX12_until_40 n)))))))))))))))))) (i_cst (.int (-1)) (i_rI)))))
set_option maxRecDepth 20000 in
theorem okX12_until_0 {E : mE} {X : State → Heap → Prop} {l : Launch} (hX : mXok E X) (n : Nat) : Sd E X l yX12_until cX12_until 3 (some .int) 5 0 0 0 0 0 (kX12_until_0 n) := s_aload_n dX12_until_0 rfl (s_iload_n dX12_until_1 rfl (s_cV dX12_until_2 lMX12_396 bVX12_isHere rfl (CtX12_isHere hX n) (Nat.le_of_ble_eq_true rfl) (s_ifne dX12_until_5 (by decide) (s_aload_n dX12_until_10 rfl (s_iload_n dX12_until_11 rfl (s_cV dX12_until_12 lMX12_436 bVX12_aheadOf rfl (CtX12_aheadOf hX n) (Nat.le_of_ble_eq_true rfl) (s_iconst dX12_until_15 (by decide) (s_iload_n dX12_until_16 rfl (s_ishl dX12_until_17 (s_ior dX12_until_18 (s_istore_n dX12_until_19 rfl (s_aload_n dX12_until_20 rfl (s_iload_n dX12_until_21 rfl (s_cV dX12_until_22 lMX12_430 bVX12_offOf rfl (CtX12_offOf hX n) (Nat.le_of_ble_eq_true rfl) (s_iload_n dX12_until_25 rfl (s_cS dX12_until_26 lMX12_331 bSX12_bitsOf (CtX12_bitsOf hX n) (Nat.le_of_ble_eq_true rfl) (s_icne dX12_until_29 (by decide) (s_iconst dX12_until_39 (by decide) (okX12_until_40 hX n)) (s_iload_n dX12_until_32 rfl (s_cS dX12_until_33 lMX12_331 bSX12_bitsOf (CtX12_bitsOf hX n) (Nat.le_of_ble_eq_true rfl) (s_goto dX12_until_36 (by decide) (okX12_until_40 hX n)) (Nat.le_of_ble_eq_true rfl) (Nat.le_of_ble_eq_true rfl)))) (Nat.le_of_ble_eq_true rfl) (Nat.le_of_ble_eq_true rfl))) (Nat.le_of_ble_eq_true rfl) (Nat.le_of_ble_eq_true rfl))))))))) (Nat.le_of_ble_eq_true rfl) (Nat.le_of_ble_eq_true rfl)))) (s_iconst dX12_until_8 (by decide) (s_rI dX12_until_9 (Nat.le_of_ble_eq_true rfl) (Nat.le_of_ble_eq_true rfl)))) (Nat.le_of_ble_eq_true rfl) (Nat.le_of_ble_eq_true rfl)))
def FX12_until (n : Nat) : List Value → mM → Option mR := mfn 3 (kX12_until_0 n)
theorem CtX12_until {E : mE} {X : State → Heap → Prop} {l : Launch} (hX : mXok E X) (n : Nat) : Ct E X l yX12_until cX12_until 3 (some .int) 5 0 0 (FX12_until n) := Ct_of (by decide) hX (okX12_until_0 hX n)
theorem dX12_walk_0 : decode cX12_walk 0 = .ok (.aload_n 0, 1) := by decide +kernel
theorem dX12_walk_1 : decode cX12_walk 1 = .ok (.iload_n 1, 1) := by decide +kernel
theorem dX12_walk_2 : decode cX12_walk 2 = .ok (.invokevirtual 390, 3) := by decide +kernel
theorem dX12_walk_5 : decode cX12_walk 5 = .ok (.ifCond .eq 11, 3) := by decide +kernel
theorem dX12_walk_8 : decode cX12_walk 8 = .ok (.aload_n 0, 1) := by decide +kernel
theorem dX12_walk_9 : decode cX12_walk 9 = .ok (.iload_n 2, 1) := by decide +kernel
theorem dX12_walk_10 : decode cX12_walk 10 = .ok (.invokevirtual 390, 3) := by decide +kernel
theorem dX12_walk_13 : decode cX12_walk 13 = .ok (.ifCond .ne 5, 3) := by decide +kernel
theorem dX12_walk_16 : decode cX12_walk 16 = .ok (.iconst (-1), 1) := by decide +kernel
theorem dX12_walk_17 : decode cX12_walk 17 = .ok (.ireturn, 1) := by decide +kernel
theorem dX12_walk_18 : decode cX12_walk 18 = .ok (.aload_n 0, 1) := by decide +kernel
theorem dX12_walk_19 : decode cX12_walk 19 = .ok (.iload_n 2, 1) := by decide +kernel
theorem dX12_walk_20 : decode cX12_walk 20 = .ok (.invokevirtual 466, 3) := by decide +kernel
theorem dX12_walk_23 : decode cX12_walk 23 = .ok (.aload_n 0, 1) := by decide +kernel
theorem dX12_walk_24 : decode cX12_walk 24 = .ok (.getfield 106, 3) := by decide +kernel
theorem dX12_walk_27 : decode cX12_walk 27 = .ok (.iload_n 1, 1) := by decide +kernel
theorem dX12_walk_28 : decode cX12_walk 28 = .ok (.iaload, 1) := by decide +kernel
theorem dX12_walk_29 : decode cX12_walk 29 = .ok (.sipush 1000, 3) := by decide +kernel
theorem dX12_walk_32 : decode cX12_walk 32 = .ok (.if_icmp .ne 7, 3) := by decide +kernel
theorem dX12_walk_35 : decode cX12_walk 35 = .ok (.iconst (-1), 1) := by decide +kernel
theorem dX12_walk_36 : decode cX12_walk 36 = .ok (.goto 9, 3) := by decide +kernel
theorem dX12_walk_39 : decode cX12_walk 39 = .ok (.aload_n 0, 1) := by decide +kernel
theorem dX12_walk_40 : decode cX12_walk 40 = .ok (.getfield 106, 3) := by decide +kernel
theorem dX12_walk_43 : decode cX12_walk 43 = .ok (.iload_n 1, 1) := by decide +kernel
theorem dX12_walk_44 : decode cX12_walk 44 = .ok (.iaload, 1) := by decide +kernel
theorem dX12_walk_45 : decode cX12_walk 45 = .ok (.ireturn, 1) := by decide +kernel
def kX12_walk_16 (n : Nat) : mK := i_cst (.int (-1)) (i_rI)
set_option maxRecDepth 20000 in
theorem okX12_walk_16 {E : mE} {X : State → Heap → Prop} {l : Launch} (hX : mXok E X) (n : Nat) : Sd E X l yX12_walk cX12_walk 3 (some .int) 5 0 0 0 0 16 (kX12_walk_16 n) := s_iconst dX12_walk_16 (by decide) (s_rI dX12_walk_17 (Nat.le_of_ble_eq_true rfl) (Nat.le_of_ble_eq_true rfl))
def kX12_walk_45 (n : Nat) : mK := i_rI
set_option maxRecDepth 20000 in
theorem okX12_walk_45 {E : mE} {X : State → Heap → Prop} {l : Launch} (hX : mXok E X) (n : Nat) : Sd E X l yX12_walk cX12_walk 3 (some .int) 5 0 0 0 0 45 (kX12_walk_45 n) := s_rI dX12_walk_45 (Nat.le_of_ble_eq_true rfl) (Nat.le_of_ble_eq_true rfl)
def kX12_walk_0 (n : Nat) : mK := i_ldA 0 (i_ldI 1 (i_cV 12 1 (FX12_isSpot n) (i_c0 (fun x => decide (x = 0)) (kX12_walk_16 n) (i_ldA 0 (i_ldI 2 (i_cV 12 1 (FX12_isSpot n) (i_c0 (fun x => decide (¬ x = 0)) (i_ldA 0 (i_ldI 2 (i_cV 12 1 (FX12_layFrom n) (i_ldA 0 (i_gA 12 50 (i_ldI 1 (i_al 0 (i_cst (.int (1000)) (i_c2 (fun x y => decide (¬ x = y)) (i_ldA 0 (i_gA 12 50 (i_ldI 1 (i_al 0 (kX12_walk_45 n))))) (i_cst (.int (-1)) ((kX12_walk_45 n)))))))))))) (kX12_walk_16 n))))))))
set_option maxRecDepth 20000 in
theorem okX12_walk_0 {E : mE} {X : State → Heap → Prop} {l : Launch} (hX : mXok E X) (n : Nat) : Sd E X l yX12_walk cX12_walk 3 (some .int) 5 0 0 0 0 0 (kX12_walk_0 n) := s_aload_n dX12_walk_0 rfl (s_iload_n dX12_walk_1 rfl (s_cV dX12_walk_2 lMX12_390 bVX12_isSpot rfl (CtX12_isSpot hX n) (Nat.le_of_ble_eq_true rfl) (s_ifeq dX12_walk_5 (by decide) (okX12_walk_16 hX n) (s_aload_n dX12_walk_8 rfl (s_iload_n dX12_walk_9 rfl (s_cV dX12_walk_10 lMX12_390 bVX12_isSpot rfl (CtX12_isSpot hX n) (Nat.le_of_ble_eq_true rfl) (s_ifne dX12_walk_13 (by decide) (s_aload_n dX12_walk_18 rfl (s_iload_n dX12_walk_19 rfl (s_cV dX12_walk_20 lMX12_466 bVX12_layFrom rfl (CtX12_layFrom hX n) (Nat.le_of_ble_eq_true rfl) (s_aload_n dX12_walk_23 rfl (s_gA dX12_walk_24 lFX12_106 (s_iload_n dX12_walk_27 rfl (s_iald dX12_walk_28 (s_sipush dX12_walk_29 (by decide) (s_icne dX12_walk_32 (by decide) (s_aload_n dX12_walk_39 rfl (s_gA dX12_walk_40 lFX12_106 (s_iload_n dX12_walk_43 rfl (s_iald dX12_walk_44 (okX12_walk_45 hX n))))) (s_iconst dX12_walk_35 (by decide) (s_goto dX12_walk_36 (by decide) (okX12_walk_45 hX n))))))))) (Nat.le_of_ble_eq_true rfl) (Nat.le_of_ble_eq_true rfl)))) (okX12_walk_16 hX n)) (Nat.le_of_ble_eq_true rfl) (Nat.le_of_ble_eq_true rfl))))) (Nat.le_of_ble_eq_true rfl) (Nat.le_of_ble_eq_true rfl)))
def FX12_walk (n : Nat) : List Value → mM → Option mR := mfn 3 (kX12_walk_0 n)
theorem CtX12_walk {E : mE} {X : State → Heap → Prop} {l : Launch} (hX : mXok E X) (n : Nat) : Ct E X l yX12_walk cX12_walk 3 (some .int) 5 0 0 (FX12_walk n) := Ct_of (by decide) hX (okX12_walk_0 hX n)
theorem dX12_worth_0 : decode cX12_worth 0 = .ok (.aload_n 0, 1) := by decide +kernel
theorem dX12_worth_1 : decode cX12_worth 1 = .ok (.iload_n 1, 1) := by decide +kernel
theorem dX12_worth_2 : decode cX12_worth 2 = .ok (.invokevirtual 396, 3) := by decide +kernel
theorem dX12_worth_5 : decode cX12_worth 5 = .ok (.ifCond .eq 11, 3) := by decide +kernel
theorem dX12_worth_8 : decode cX12_worth 8 = .ok (.aload_n 0, 1) := by decide +kernel
theorem dX12_worth_9 : decode cX12_worth 9 = .ok (.iload_n 1, 1) := by decide +kernel
theorem dX12_worth_10 : decode cX12_worth 10 = .ok (.invokevirtual 381, 3) := by decide +kernel
theorem dX12_worth_13 : decode cX12_worth 13 = .ok (.goto 6, 3) := by decide +kernel
theorem dX12_worth_16 : decode cX12_worth 16 = .ok (.ldc_w 399, 3) := by decide +kernel
theorem dX12_worth_19 : decode cX12_worth 19 = .ok (.ireturn, 1) := by decide +kernel
def kX12_worth_19 (n : Nat) : mK := i_rI
set_option maxRecDepth 20000 in
theorem okX12_worth_19 {E : mE} {X : State → Heap → Prop} {l : Launch} (hX : mXok E X) (n : Nat) : Sd E X l yX12_worth cX12_worth 2 (some .int) 5 0 0 0 0 19 (kX12_worth_19 n) := s_rI dX12_worth_19 (Nat.le_of_ble_eq_true rfl) (Nat.le_of_ble_eq_true rfl)
def kX12_worth_0 (n : Nat) : mK := i_ldA 0 (i_ldI 1 (i_cV 12 1 (FX12_isHere n) (i_c0 (fun x => decide (x = 0)) (i_cst (.int (-1000000000)) (kX12_worth_19 n)) (i_ldA 0 (i_ldI 1 (i_cV 12 1 (FX12_worthOf n) ((kX12_worth_19 n))))))))
set_option maxRecDepth 20000 in
theorem okX12_worth_0 {E : mE} {X : State → Heap → Prop} {l : Launch} (hX : mXok E X) (n : Nat) : Sd E X l yX12_worth cX12_worth 2 (some .int) 5 0 0 0 0 0 (kX12_worth_0 n) := s_aload_n dX12_worth_0 rfl (s_iload_n dX12_worth_1 rfl (s_cV dX12_worth_2 lMX12_396 bVX12_isHere rfl (CtX12_isHere hX n) (Nat.le_of_ble_eq_true rfl) (s_ifeq dX12_worth_5 (by decide) (s_ldcw dX12_worth_16 lCX12_399 (okX12_worth_19 hX n)) (s_aload_n dX12_worth_8 rfl (s_iload_n dX12_worth_9 rfl (s_cV dX12_worth_10 lMX12_381 bVX12_worthOf rfl (CtX12_worthOf hX n) (Nat.le_of_ble_eq_true rfl) (s_goto dX12_worth_13 (by decide) (okX12_worth_19 hX n)) (Nat.le_of_ble_eq_true rfl) (Nat.le_of_ble_eq_true rfl))))) (Nat.le_of_ble_eq_true rfl) (Nat.le_of_ble_eq_true rfl)))
def FX12_worth (n : Nat) : List Value → mM → Option mR := mfn 2 (kX12_worth_0 n)
theorem CtX12_worth {E : mE} {X : State → Heap → Prop} {l : Launch} (hX : mXok E X) (n : Nat) : Ct E X l yX12_worth cX12_worth 2 (some .int) 5 0 0 (FX12_worth n) := Ct_of (by decide) hX (okX12_worth_0 hX n)
theorem dX2_makeTable_0 : decode cX2_makeTable 0 = .ok (.iconst 0, 1) := by decide +kernel
theorem dX2_makeTable_1 : decode cX2_makeTable 1 = .ok (.istore_n 1, 1) := by decide +kernel
theorem dX2_makeTable_2 : decode cX2_makeTable 2 = .ok (.iload_n 1, 1) := by decide +kernel
theorem dX2_makeTable_3 : decode cX2_makeTable 3 = .ok (.bipush 100, 2) := by decide +kernel
theorem dX2_makeTable_5 : decode cX2_makeTable 5 = .ok (.if_icmp .ge 21, 3) := by decide +kernel
theorem dX2_makeTable_8 : decode cX2_makeTable 8 = .ok (.aload_n 0, 1) := by decide +kernel
theorem dX2_makeTable_9 : decode cX2_makeTable 9 = .ok (.getfield 42, 3) := by decide +kernel
theorem dX2_makeTable_12 : decode cX2_makeTable 12 = .ok (.ifCond .ne 14, 3) := by decide +kernel
theorem dX2_makeTable_15 : decode cX2_makeTable 15 = .ok (.aload_n 0, 1) := by decide +kernel
theorem dX2_makeTable_16 : decode cX2_makeTable 16 = .ok (.iload_n 1, 1) := by decide +kernel
theorem dX2_makeTable_17 : decode cX2_makeTable 17 = .ok (.invokevirtual 78, 3) := by decide +kernel
theorem dX2_makeTable_20 : decode cX2_makeTable 20 = .ok (.iinc 1 1, 3) := by decide +kernel
theorem dX2_makeTable_23 : decode cX2_makeTable 23 = .ok (.goto (-21), 3) := by decide +kernel
theorem dX2_makeTable_26 : decode cX2_makeTable 26 = .ok (.aload_n 0, 1) := by decide +kernel
theorem dX2_makeTable_27 : decode cX2_makeTable 27 = .ok (.iconst 1, 1) := by decide +kernel
theorem dX2_makeTable_28 : decode cX2_makeTable 28 = .ok (.putfield 42, 3) := by decide +kernel
theorem dX2_makeTable_31 : decode cX2_makeTable 31 = .ok (.return_, 1) := by decide +kernel
def kX2_makeTable_26 (n : Nat) : mK := i_ldA 0 (i_cst (.int (1)) (i_pZ 2 9 (i_rV)))
set_option maxRecDepth 20000 in
theorem okX2_makeTable_26 {E : mE} {X : State → Heap → Prop} {l : Launch} (hX : mXok E X) (n : Nat) : Sd E X l yX2_makeTable cX2_makeTable 2 none 5 0 0 0 0 26 (kX2_makeTable_26 n) := s_aload_n dX2_makeTable_26 rfl (s_iconst dX2_makeTable_27 (by decide) (s_pZ dX2_makeTable_28 lFX2_42 (s_rV dX2_makeTable_31 (Nat.le_of_ble_eq_true rfl) (Nat.le_of_ble_eq_true rfl))))
def kX2_makeTable_2 (n : Nat) (r2 : mK) : mK := i_ldI 1 (i_cst (.int (100)) (i_c2 (fun x y => decide (y ≤ x)) (kX2_makeTable_26 n) (i_ldA 0 (i_gI 2 9 (i_c0 (fun x => decide (¬ x = 0)) (kX2_makeTable_26 n) (i_ldA 0 (i_ldI 1 (i_cV 2 1 (FX2_tabulate n) (i_inc 1 (1) (r2))))))))))
set_option maxRecDepth 20000 in
theorem okX2_makeTable_2 {E : mE} {X : State → Heap → Prop} {l : Launch} (hX : mXok E X) (n : Nat) {r2 : mK} (h2 : Sd E X l yX2_makeTable cX2_makeTable 2 none 5 0 0 0 0 2 r2) : Sd E X l yX2_makeTable cX2_makeTable 2 none 5 0 0 0 0 2 (kX2_makeTable_2 n r2) := s_iload_n dX2_makeTable_2 rfl (s_bipush dX2_makeTable_3 (by decide) (s_icge dX2_makeTable_5 (by decide) (okX2_makeTable_26 hX n) (s_aload_n dX2_makeTable_8 rfl (s_gI dX2_makeTable_9 lFX2_42 (by decide) (s_ifne dX2_makeTable_12 (by decide) (okX2_makeTable_26 hX n) (s_aload_n dX2_makeTable_15 rfl (s_iload_n dX2_makeTable_16 rfl (s_cV dX2_makeTable_17 lMX2_78 bVX2_tabulate rfl (CtX2_tabulate hX n) (Nat.le_of_ble_eq_true rfl) (s_iinc dX2_makeTable_20 (by decide) (s_goto dX2_makeTable_23 (by decide) h2)) (Nat.le_of_ble_eq_true rfl) (Nat.le_of_ble_eq_true rfl)))))))))
def kX2_makeTable_0 (n : Nat) : mK := i_cst (.int (0)) (i_stI 1 (mit (kX2_makeTable_2 n ) n))
set_option maxRecDepth 20000 in
theorem okX2_makeTable_0 {E : mE} {X : State → Heap → Prop} {l : Launch} (hX : mXok E X) (n : Nat) : Sd E X l yX2_makeTable cX2_makeTable 2 none 5 0 0 0 0 0 (kX2_makeTable_0 n) := s_iconst dX2_makeTable_0 (by decide) (s_istore_n dX2_makeTable_1 rfl (s_mit (fun _ hk => okX2_makeTable_2 hX n hk) n))
def FX2_makeTable (n : Nat) : List Value → mM → Option mR := mfn 2 (kX2_makeTable_0 n)
theorem CtX2_makeTable {E : mE} {X : State → Heap → Prop} {l : Launch} (hX : mXok E X) (n : Nat) : Ct E X l yX2_makeTable cX2_makeTable 2 none 5 0 0 (FX2_makeTable n) := Ct_of (by decide) hX (okX2_makeTable_0 hX n)
theorem dX5_carLine_0 : decode cX5_carLine 0 = .ok (.aload_n 0, 1) := by decide +kernel
theorem dX5_carLine_1 : decode cX5_carLine 1 = .ok (.getfield 28, 3) := by decide +kernel
theorem dX5_carLine_4 : decode cX5_carLine 4 = .ok (.getfield 73, 3) := by decide +kernel
theorem dX5_carLine_7 : decode cX5_carLine 7 = .ok (.istore_n 1, 1) := by decide +kernel
theorem dX5_carLine_8 : decode cX5_carLine 8 = .ok (.aload_n 0, 1) := by decide +kernel
theorem dX5_carLine_9 : decode cX5_carLine 9 = .ok (.invokevirtual 92, 3) := by decide +kernel
theorem dX5_carLine_12 : decode cX5_carLine 12 = .ok (.aload_n 0, 1) := by decide +kernel
theorem dX5_carLine_13 : decode cX5_carLine 13 = .ok (.iload_n 1, 1) := by decide +kernel
theorem dX5_carLine_14 : decode cX5_carLine 14 = .ok (.invokevirtual 112, 3) := by decide +kernel
theorem dX5_carLine_17 : decode cX5_carLine 17 = .ok (.ifCond .eq 20, 3) := by decide +kernel
theorem dX5_carLine_20 : decode cX5_carLine 20 = .ok (.aload_n 0, 1) := by decide +kernel
theorem dX5_carLine_21 : decode cX5_carLine 21 = .ok (.bipush 18, 2) := by decide +kernel
theorem dX5_carLine_23 : decode cX5_carLine 23 = .ok (.invokevirtual 105, 3) := by decide +kernel
theorem dX5_carLine_26 : decode cX5_carLine 26 = .ok (.ifCond .eq 11, 3) := by decide +kernel
theorem dX5_carLine_29 : decode cX5_carLine 29 = .ok (.aload_n 0, 1) := by decide +kernel
theorem dX5_carLine_30 : decode cX5_carLine 30 = .ok (.iload_n 1, 1) := by decide +kernel
theorem dX5_carLine_31 : decode cX5_carLine 31 = .ok (.invokevirtual 115, 3) := by decide +kernel
theorem dX5_carLine_34 : decode cX5_carLine 34 = .ok (.ifCond .ne 5, 3) := by decide +kernel
theorem dX5_carLine_37 : decode cX5_carLine 37 = .ok (.iconst 0, 1) := by decide +kernel
theorem dX5_carLine_38 : decode cX5_carLine 38 = .ok (.ireturn, 1) := by decide +kernel
theorem dX5_carLine_39 : decode cX5_carLine 39 = .ok (.aload_n 0, 1) := by decide +kernel
theorem dX5_carLine_40 : decode cX5_carLine 40 = .ok (.bipush 19, 2) := by decide +kernel
theorem dX5_carLine_42 : decode cX5_carLine 42 = .ok (.invokevirtual 105, 3) := by decide +kernel
theorem dX5_carLine_45 : decode cX5_carLine 45 = .ok (.ifCond .eq 12, 3) := by decide +kernel
theorem dX5_carLine_48 : decode cX5_carLine 48 = .ok (.aload_n 0, 1) := by decide +kernel
theorem dX5_carLine_49 : decode cX5_carLine 49 = .ok (.iconst 0, 1) := by decide +kernel
theorem dX5_carLine_50 : decode cX5_carLine 50 = .ok (.iconst 3, 1) := by decide +kernel
theorem dX5_carLine_51 : decode cX5_carLine 51 = .ok (.invokevirtual 95, 3) := by decide +kernel
theorem dX5_carLine_54 : decode cX5_carLine 54 = .ok (.ifCond .ne 5, 3) := by decide +kernel
theorem dX5_carLine_57 : decode cX5_carLine 57 = .ok (.iconst 0, 1) := by decide +kernel
theorem dX5_carLine_58 : decode cX5_carLine 58 = .ok (.ireturn, 1) := by decide +kernel
theorem dX5_carLine_59 : decode cX5_carLine 59 = .ok (.aload_n 0, 1) := by decide +kernel
theorem dX5_carLine_60 : decode cX5_carLine 60 = .ok (.getfield 28, 3) := by decide +kernel
theorem dX5_carLine_63 : decode cX5_carLine 63 = .ok (.getfield 118, 3) := by decide +kernel
theorem dX5_carLine_66 : decode cX5_carLine 66 = .ok (.iload_n 1, 1) := by decide +kernel
theorem dX5_carLine_67 : decode cX5_carLine 67 = .ok (.aload_n 0, 1) := by decide +kernel
theorem dX5_carLine_68 : decode cX5_carLine 68 = .ok (.getfield 99, 3) := by decide +kernel
theorem dX5_carLine_71 : decode cX5_carLine 71 = .ok (.invokestatic 122, 3) := by decide +kernel
theorem dX5_carLine_74 : decode cX5_carLine 74 = .ok (.aload_n 0, 1) := by decide +kernel
theorem dX5_carLine_75 : decode cX5_carLine 75 = .ok (.bipush 20, 2) := by decide +kernel
theorem dX5_carLine_77 : decode cX5_carLine 77 = .ok (.invokevirtual 105, 3) := by decide +kernel
theorem dX5_carLine_80 : decode cX5_carLine 80 = .ok (.ifCond .eq 13, 3) := by decide +kernel
theorem dX5_carLine_83 : decode cX5_carLine 83 = .ok (.aload_n 0, 1) := by decide +kernel
theorem dX5_carLine_84 : decode cX5_carLine 84 = .ok (.iconst 0, 1) := by decide +kernel
theorem dX5_carLine_85 : decode cX5_carLine 85 = .ok (.bipush 99, 2) := by decide +kernel
theorem dX5_carLine_87 : decode cX5_carLine 87 = .ok (.invokevirtual 95, 3) := by decide +kernel
theorem dX5_carLine_90 : decode cX5_carLine 90 = .ok (.ifCond .ne 5, 3) := by decide +kernel
theorem dX5_carLine_93 : decode cX5_carLine 93 = .ok (.iconst 0, 1) := by decide +kernel
theorem dX5_carLine_94 : decode cX5_carLine 94 = .ok (.ireturn, 1) := by decide +kernel
theorem dX5_carLine_95 : decode cX5_carLine 95 = .ok (.aload_n 0, 1) := by decide +kernel
theorem dX5_carLine_96 : decode cX5_carLine 96 = .ok (.getfield 28, 3) := by decide +kernel
theorem dX5_carLine_99 : decode cX5_carLine 99 = .ok (.getfield 126, 3) := by decide +kernel
theorem dX5_carLine_102 : decode cX5_carLine 102 = .ok (.iload_n 1, 1) := by decide +kernel
theorem dX5_carLine_103 : decode cX5_carLine 103 = .ok (.aload_n 0, 1) := by decide +kernel
theorem dX5_carLine_104 : decode cX5_carLine 104 = .ok (.getfield 99, 3) := by decide +kernel
theorem dX5_carLine_107 : decode cX5_carLine 107 = .ok (.invokestatic 122, 3) := by decide +kernel
theorem dX5_carLine_110 : decode cX5_carLine 110 = .ok (.aload_n 0, 1) := by decide +kernel
theorem dX5_carLine_111 : decode cX5_carLine 111 = .ok (.getfield 28, 3) := by decide +kernel
theorem dX5_carLine_114 : decode cX5_carLine 114 = .ok (.getfield 129, 3) := by decide +kernel
theorem dX5_carLine_117 : decode cX5_carLine 117 = .ok (.iload_n 1, 1) := by decide +kernel
theorem dX5_carLine_118 : decode cX5_carLine 118 = .ok (.iconst 1, 1) := by decide +kernel
theorem dX5_carLine_119 : decode cX5_carLine 119 = .ok (.invokestatic 122, 3) := by decide +kernel
theorem dX5_carLine_122 : decode cX5_carLine 122 = .ok (.aload_n 0, 1) := by decide +kernel
theorem dX5_carLine_123 : decode cX5_carLine 123 = .ok (.getfield 60, 3) := by decide +kernel
theorem dX5_carLine_126 : decode cX5_carLine 126 = .ok (.bipush 21, 2) := by decide +kernel
theorem dX5_carLine_128 : decode cX5_carLine 128 = .ok (.if_icmp .ne 34, 3) := by decide +kernel
theorem dX5_carLine_131 : decode cX5_carLine 131 = .ok (.aload_n 0, 1) := by decide +kernel
theorem dX5_carLine_132 : decode cX5_carLine 132 = .ok (.invokevirtual 57, 3) := by decide +kernel
theorem dX5_carLine_135 : decode cX5_carLine 135 = .ok (.aload_n 0, 1) := by decide +kernel
theorem dX5_carLine_136 : decode cX5_carLine 136 = .ok (.iconst 0, 1) := by decide +kernel
theorem dX5_carLine_137 : decode cX5_carLine 137 = .ok (.bipush 9, 2) := by decide +kernel
theorem dX5_carLine_139 : decode cX5_carLine 139 = .ok (.invokevirtual 95, 3) := by decide +kernel
theorem dX5_carLine_142 : decode cX5_carLine 142 = .ok (.ifCond .ne 5, 3) := by decide +kernel
theorem dX5_carLine_145 : decode cX5_carLine 145 = .ok (.iconst 0, 1) := by decide +kernel
theorem dX5_carLine_146 : decode cX5_carLine 146 = .ok (.ireturn, 1) := by decide +kernel
theorem dX5_carLine_147 : decode cX5_carLine 147 = .ok (.aload_n 0, 1) := by decide +kernel
theorem dX5_carLine_148 : decode cX5_carLine 148 = .ok (.getfield 28, 3) := by decide +kernel
theorem dX5_carLine_151 : decode cX5_carLine 151 = .ok (.getfield 129, 3) := by decide +kernel
theorem dX5_carLine_154 : decode cX5_carLine 154 = .ok (.iload_n 1, 1) := by decide +kernel
theorem dX5_carLine_155 : decode cX5_carLine 155 = .ok (.aload_n 0, 1) := by decide +kernel
theorem dX5_carLine_156 : decode cX5_carLine 156 = .ok (.getfield 99, 3) := by decide +kernel
theorem dX5_carLine_159 : decode cX5_carLine 159 = .ok (.invokestatic 122, 3) := by decide +kernel
theorem dX5_carLine_162 : decode cX5_carLine 162 = .ok (.aload_n 0, 1) := by decide +kernel
theorem dX5_carLine_163 : decode cX5_carLine 163 = .ok (.getfield 28, 3) := by decide +kernel
theorem dX5_carLine_166 : decode cX5_carLine 166 = .ok (.iload_n 1, 1) := by decide +kernel
theorem dX5_carLine_167 : decode cX5_carLine 167 = .ok (.iconst 1, 1) := by decide +kernel
theorem dX5_carLine_168 : decode cX5_carLine 168 = .ok (.iadd, 1) := by decide +kernel
theorem dX5_carLine_169 : decode cX5_carLine 169 = .ok (.putfield 73, 3) := by decide +kernel
theorem dX5_carLine_172 : decode cX5_carLine 172 = .ok (.aload_n 0, 1) := by decide +kernel
theorem dX5_carLine_173 : decode cX5_carLine 173 = .ok (.iconst 4, 1) := by decide +kernel
theorem dX5_carLine_174 : decode cX5_carLine 174 = .ok (.invokevirtual 105, 3) := by decide +kernel
theorem dX5_carLine_177 : decode cX5_carLine 177 = .ok (.ireturn, 1) := by decide +kernel
def kX5_carLine_37 (n : Nat) : mK := i_cst (.int (0)) (i_rZ)
set_option maxRecDepth 20000 in
theorem okX5_carLine_37 {E : mE} {X : State → Heap → Prop} {l : Launch} (hX : mXok E X) (n : Nat) : Sd E X l yX5_carLine cX5_carLine 2 (some .boolean) 5 0 0 0 0 37 (kX5_carLine_37 n) := s_iconst dX5_carLine_37 (by decide) (s_rZ dX5_carLine_38 (Nat.le_of_ble_eq_true rfl) (Nat.le_of_ble_eq_true rfl))
def kX5_carLine_57 (n : Nat) : mK := i_cst (.int (0)) (i_rZ)
set_option maxRecDepth 20000 in
theorem okX5_carLine_57 {E : mE} {X : State → Heap → Prop} {l : Launch} (hX : mXok E X) (n : Nat) : Sd E X l yX5_carLine cX5_carLine 2 (some .boolean) 5 0 0 0 0 57 (kX5_carLine_57 n) := s_iconst dX5_carLine_57 (by decide) (s_rZ dX5_carLine_58 (Nat.le_of_ble_eq_true rfl) (Nat.le_of_ble_eq_true rfl))
def kX5_carLine_93 (n : Nat) : mK := i_cst (.int (0)) (i_rZ)
set_option maxRecDepth 20000 in
theorem okX5_carLine_93 {E : mE} {X : State → Heap → Prop} {l : Launch} (hX : mXok E X) (n : Nat) : Sd E X l yX5_carLine cX5_carLine 2 (some .boolean) 5 0 0 0 0 93 (kX5_carLine_93 n) := s_iconst dX5_carLine_93 (by decide) (s_rZ dX5_carLine_94 (Nat.le_of_ble_eq_true rfl) (Nat.le_of_ble_eq_true rfl))
def kX5_carLine_162 (n : Nat) : mK := i_ldA 0 (i_gA 5 1 (i_ldI 1 (i_cst (.int (1)) (i_bin (fun x y => x + y) (i_pI 4 2 (i_ldA 0 (i_cst (.int (4)) (i_cV 5 1 (FX5_take n) (i_rZ)))))))))
set_option maxRecDepth 20000 in
theorem okX5_carLine_162 {E : mE} {X : State → Heap → Prop} {l : Launch} (hX : mXok E X) (n : Nat) : Sd E X l yX5_carLine cX5_carLine 2 (some .boolean) 5 0 0 0 0 162 (kX5_carLine_162 n) := s_aload_n dX5_carLine_162 rfl (s_gA dX5_carLine_163 lFX5_28 (s_iload_n dX5_carLine_166 rfl (s_iconst dX5_carLine_167 (by decide) (s_iadd dX5_carLine_168 (s_pI dX5_carLine_169 lFX5_73 (s_aload_n dX5_carLine_172 rfl (s_iconst dX5_carLine_173 (by decide) (s_cV dX5_carLine_174 lMX5_105 bVX5_take rfl (CtX5_take hX n) (Nat.le_of_ble_eq_true rfl) (s_rZ dX5_carLine_177 (Nat.le_of_ble_eq_true rfl) (Nat.le_of_ble_eq_true rfl)) (Nat.le_of_ble_eq_true rfl) (Nat.le_of_ble_eq_true rfl)))))))))
def kX5_carLine_156 (n : Nat) : mK := i_gI 5 7 (i_cS 3 (FX11_set n) (kX5_carLine_162 n))
set_option maxRecDepth 20000 in
theorem okX5_carLine_156 {E : mE} {X : State → Heap → Prop} {l : Launch} (hX : mXok E X) (n : Nat) : Sd E X l yX5_carLine cX5_carLine 2 (some .boolean) 5 0 0 0 0 156 (kX5_carLine_156 n) := s_gI dX5_carLine_156 lFX5_99 (by decide) (s_cN dX5_carLine_159 lNX5_122 bSX11_set (CtX11_set hX n) (Nat.le_of_ble_eq_true rfl) (okX5_carLine_162 hX n) (Nat.le_of_ble_eq_true rfl) (Nat.le_of_ble_eq_true rfl))
def kX5_carLine_104 (n : Nat) : mK := i_gI 5 7 (i_cS 3 (FX11_set n) (i_ldA 0 (i_gA 5 1 (i_gA 4 9 (i_ldI 1 (i_cst (.int (1)) (i_cS 3 (FX11_set n) (i_ldA 0 (i_gI 5 5 (i_cst (.int (21)) (i_c2 (fun x y => decide (¬ x = y)) (kX5_carLine_162 n) (i_ldA 0 (i_cV 5 0 (FX5_advance n) (i_ldA 0 (i_cst (.int (0)) (i_cst (.int (9)) (i_cV 5 2 (FX5_takeNumber n) (i_c0 (fun x => decide (¬ x = 0)) (i_ldA 0 (i_gA 5 1 (i_gA 4 9 (i_ldI 1 (i_ldA 0 (kX5_carLine_156 n)))))) (i_cst (.int (0)) (i_rZ))))))))))))))))))))
set_option maxRecDepth 20000 in
theorem okX5_carLine_104 {E : mE} {X : State → Heap → Prop} {l : Launch} (hX : mXok E X) (n : Nat) : Sd E X l yX5_carLine cX5_carLine 2 (some .boolean) 5 0 0 0 0 104 (kX5_carLine_104 n) := s_gI dX5_carLine_104 lFX5_99 (by decide) (s_cN dX5_carLine_107 lNX5_122 bSX11_set (CtX11_set hX n) (Nat.le_of_ble_eq_true rfl) (s_aload_n dX5_carLine_110 rfl (s_gA dX5_carLine_111 lFX5_28 (s_gA dX5_carLine_114 lFX5_129 (s_iload_n dX5_carLine_117 rfl (s_iconst dX5_carLine_118 (by decide) (s_cN dX5_carLine_119 lNX5_122 bSX11_set (CtX11_set hX n) (Nat.le_of_ble_eq_true rfl) (s_aload_n dX5_carLine_122 rfl (s_gI dX5_carLine_123 lFX5_60 (by decide) (s_bipush dX5_carLine_126 (by decide) (s_icne dX5_carLine_128 (by decide) (okX5_carLine_162 hX n) (s_aload_n dX5_carLine_131 rfl (s_cV dX5_carLine_132 lMX5_57 bVX5_advance rfl (CtX5_advance hX n) (Nat.le_of_ble_eq_true rfl) (s_aload_n dX5_carLine_135 rfl (s_iconst dX5_carLine_136 (by decide) (s_bipush dX5_carLine_137 (by decide) (s_cV dX5_carLine_139 lMX5_95 bVX5_takeNumber rfl (CtX5_takeNumber hX n) (Nat.le_of_ble_eq_true rfl) (s_ifne dX5_carLine_142 (by decide) (s_aload_n dX5_carLine_147 rfl (s_gA dX5_carLine_148 lFX5_28 (s_gA dX5_carLine_151 lFX5_129 (s_iload_n dX5_carLine_154 rfl (s_aload_n dX5_carLine_155 rfl (okX5_carLine_156 hX n)))))) (s_iconst dX5_carLine_145 (by decide) (s_rZ dX5_carLine_146 (Nat.le_of_ble_eq_true rfl) (Nat.le_of_ble_eq_true rfl)))) (Nat.le_of_ble_eq_true rfl) (Nat.le_of_ble_eq_true rfl))))) (Nat.le_of_ble_eq_true rfl) (Nat.le_of_ble_eq_true rfl))))))) (Nat.le_of_ble_eq_true rfl) (Nat.le_of_ble_eq_true rfl))))))) (Nat.le_of_ble_eq_true rfl) (Nat.le_of_ble_eq_true rfl))
def kX5_carLine_50 (n : Nat) : mK := i_cst (.int (3)) (i_cV 5 2 (FX5_takeNumber n) (i_c0 (fun x => decide (¬ x = 0)) (i_ldA 0 (i_gA 5 1 (i_gA 4 7 (i_ldI 1 (i_ldA 0 (i_gI 5 7 (i_cS 3 (FX11_set n) (i_ldA 0 (i_cst (.int (20)) (i_cV 5 1 (FX5_take n) (i_c0 (fun x => decide (x = 0)) (kX5_carLine_93 n) (i_ldA 0 (i_cst (.int (0)) (i_cst (.int (99)) (i_cV 5 2 (FX5_takeNumber n) (i_c0 (fun x => decide (¬ x = 0)) (i_ldA 0 (i_gA 5 1 (i_gA 4 8 (i_ldI 1 (i_ldA 0 (kX5_carLine_104 n)))))) (kX5_carLine_93 n))))))))))))))))) (kX5_carLine_57 n)))
set_option maxRecDepth 20000 in
theorem okX5_carLine_50 {E : mE} {X : State → Heap → Prop} {l : Launch} (hX : mXok E X) (n : Nat) : Sd E X l yX5_carLine cX5_carLine 2 (some .boolean) 5 0 0 0 0 50 (kX5_carLine_50 n) := s_iconst dX5_carLine_50 (by decide) (s_cV dX5_carLine_51 lMX5_95 bVX5_takeNumber rfl (CtX5_takeNumber hX n) (Nat.le_of_ble_eq_true rfl) (s_ifne dX5_carLine_54 (by decide) (s_aload_n dX5_carLine_59 rfl (s_gA dX5_carLine_60 lFX5_28 (s_gA dX5_carLine_63 lFX5_118 (s_iload_n dX5_carLine_66 rfl (s_aload_n dX5_carLine_67 rfl (s_gI dX5_carLine_68 lFX5_99 (by decide) (s_cN dX5_carLine_71 lNX5_122 bSX11_set (CtX11_set hX n) (Nat.le_of_ble_eq_true rfl) (s_aload_n dX5_carLine_74 rfl (s_bipush dX5_carLine_75 (by decide) (s_cV dX5_carLine_77 lMX5_105 bVX5_take rfl (CtX5_take hX n) (Nat.le_of_ble_eq_true rfl) (s_ifeq dX5_carLine_80 (by decide) (okX5_carLine_93 hX n) (s_aload_n dX5_carLine_83 rfl (s_iconst dX5_carLine_84 (by decide) (s_bipush dX5_carLine_85 (by decide) (s_cV dX5_carLine_87 lMX5_95 bVX5_takeNumber rfl (CtX5_takeNumber hX n) (Nat.le_of_ble_eq_true rfl) (s_ifne dX5_carLine_90 (by decide) (s_aload_n dX5_carLine_95 rfl (s_gA dX5_carLine_96 lFX5_28 (s_gA dX5_carLine_99 lFX5_126 (s_iload_n dX5_carLine_102 rfl (s_aload_n dX5_carLine_103 rfl (okX5_carLine_104 hX n)))))) (okX5_carLine_93 hX n)) (Nat.le_of_ble_eq_true rfl) (Nat.le_of_ble_eq_true rfl)))))) (Nat.le_of_ble_eq_true rfl) (Nat.le_of_ble_eq_true rfl)))) (Nat.le_of_ble_eq_true rfl) (Nat.le_of_ble_eq_true rfl)))))))) (okX5_carLine_57 hX n)) (Nat.le_of_ble_eq_true rfl) (Nat.le_of_ble_eq_true rfl))
def kX5_carLine_0 (n : Nat) : mK := i_ldA 0 (i_gA 5 1 (i_gI 4 2 (i_stI 1 (i_ldA 0 (i_cV 5 0 (FX5_takeSort n) (i_ldA 0 (i_ldI 1 (i_cV 5 1 (FX5_takeName n) (i_c0 (fun x => decide (x = 0)) (kX5_carLine_37 n) (i_ldA 0 (i_cst (.int (18)) (i_cV 5 1 (FX5_take n) (i_c0 (fun x => decide (x = 0)) (kX5_carLine_37 n) (i_ldA 0 (i_ldI 1 (i_cV 5 1 (FX5_takeCell n) (i_c0 (fun x => decide (¬ x = 0)) (i_ldA 0 (i_cst (.int (19)) (i_cV 5 1 (FX5_take n) (i_c0 (fun x => decide (x = 0)) (kX5_carLine_57 n) (i_ldA 0 (i_cst (.int (0)) (kX5_carLine_50 n))))))) (kX5_carLine_37 n))))))))))))))))))
set_option maxRecDepth 20000 in
theorem okX5_carLine_0 {E : mE} {X : State → Heap → Prop} {l : Launch} (hX : mXok E X) (n : Nat) : Sd E X l yX5_carLine cX5_carLine 2 (some .boolean) 5 0 0 0 0 0 (kX5_carLine_0 n) := s_aload_n dX5_carLine_0 rfl (s_gA dX5_carLine_1 lFX5_28 (s_gI dX5_carLine_4 lFX5_73 (by decide) (s_istore_n dX5_carLine_7 rfl (s_aload_n dX5_carLine_8 rfl (s_cV dX5_carLine_9 lMX5_92 bVX5_takeSort rfl (CtX5_takeSort hX n) (Nat.le_of_ble_eq_true rfl) (s_aload_n dX5_carLine_12 rfl (s_iload_n dX5_carLine_13 rfl (s_cV dX5_carLine_14 lMX5_112 bVX5_takeName rfl (CtX5_takeName hX n) (Nat.le_of_ble_eq_true rfl) (s_ifeq dX5_carLine_17 (by decide) (okX5_carLine_37 hX n) (s_aload_n dX5_carLine_20 rfl (s_bipush dX5_carLine_21 (by decide) (s_cV dX5_carLine_23 lMX5_105 bVX5_take rfl (CtX5_take hX n) (Nat.le_of_ble_eq_true rfl) (s_ifeq dX5_carLine_26 (by decide) (okX5_carLine_37 hX n) (s_aload_n dX5_carLine_29 rfl (s_iload_n dX5_carLine_30 rfl (s_cV dX5_carLine_31 lMX5_115 bVX5_takeCell rfl (CtX5_takeCell hX n) (Nat.le_of_ble_eq_true rfl) (s_ifne dX5_carLine_34 (by decide) (s_aload_n dX5_carLine_39 rfl (s_bipush dX5_carLine_40 (by decide) (s_cV dX5_carLine_42 lMX5_105 bVX5_take rfl (CtX5_take hX n) (Nat.le_of_ble_eq_true rfl) (s_ifeq dX5_carLine_45 (by decide) (okX5_carLine_57 hX n) (s_aload_n dX5_carLine_48 rfl (s_iconst dX5_carLine_49 (by decide) (okX5_carLine_50 hX n)))) (Nat.le_of_ble_eq_true rfl) (Nat.le_of_ble_eq_true rfl)))) (okX5_carLine_37 hX n)) (Nat.le_of_ble_eq_true rfl) (Nat.le_of_ble_eq_true rfl))))) (Nat.le_of_ble_eq_true rfl) (Nat.le_of_ble_eq_true rfl))))) (Nat.le_of_ble_eq_true rfl) (Nat.le_of_ble_eq_true rfl)))) (Nat.le_of_ble_eq_true rfl) (Nat.le_of_ble_eq_true rfl))))))
def FX5_carLine (n : Nat) : List Value → mM → Option mR := mfn 2 (kX5_carLine_0 n)
theorem CtX5_carLine {E : mE} {X : State → Heap → Prop} {l : Launch} (hX : mXok E X) (n : Nat) : Ct E X l yX5_carLine cX5_carLine 2 (some .boolean) 5 0 0 (FX5_carLine n) := Ct_of (by decide) hX (okX5_carLine_0 hX n)
theorem dX8_priceOfAll_0 : decode cX8_priceOfAll 0 = .ok (.iconst 0, 1) := by decide +kernel
theorem dX8_priceOfAll_1 : decode cX8_priceOfAll 1 = .ok (.istore_n 1, 1) := by decide +kernel
theorem dX8_priceOfAll_2 : decode cX8_priceOfAll 2 = .ok (.aload_n 0, 1) := by decide +kernel
theorem dX8_priceOfAll_3 : decode cX8_priceOfAll 3 = .ok (.invokevirtual 97, 3) := by decide +kernel
theorem dX8_priceOfAll_6 : decode cX8_priceOfAll 6 = .ok (.istore_n 2, 1) := by decide +kernel
theorem dX8_priceOfAll_7 : decode cX8_priceOfAll 7 = .ok (.iconst 0, 1) := by decide +kernel
theorem dX8_priceOfAll_8 : decode cX8_priceOfAll 8 = .ok (.istore_n 3, 1) := by decide +kernel
theorem dX8_priceOfAll_9 : decode cX8_priceOfAll 9 = .ok (.iload_n 3, 1) := by decide +kernel
theorem dX8_priceOfAll_10 : decode cX8_priceOfAll 10 = .ok (.bipush 8, 2) := by decide +kernel
theorem dX8_priceOfAll_12 : decode cX8_priceOfAll 12 = .ok (.if_icmp .ge 26, 3) := by decide +kernel
theorem dX8_priceOfAll_15 : decode cX8_priceOfAll 15 = .ok (.aload_n 0, 1) := by decide +kernel
theorem dX8_priceOfAll_16 : decode cX8_priceOfAll 16 = .ok (.iload_n 3, 1) := by decide +kernel
theorem dX8_priceOfAll_17 : decode cX8_priceOfAll 17 = .ok (.invokevirtual 60, 3) := by decide +kernel
theorem dX8_priceOfAll_20 : decode cX8_priceOfAll 20 = .ok (.ifCond .eq 12, 3) := by decide +kernel
theorem dX8_priceOfAll_23 : decode cX8_priceOfAll 23 = .ok (.iload_n 1, 1) := by decide +kernel
theorem dX8_priceOfAll_24 : decode cX8_priceOfAll 24 = .ok (.aload_n 0, 1) := by decide +kernel
theorem dX8_priceOfAll_25 : decode cX8_priceOfAll 25 = .ok (.iload_n 3, 1) := by decide +kernel
theorem dX8_priceOfAll_26 : decode cX8_priceOfAll 26 = .ok (.iload_n 2, 1) := by decide +kernel
theorem dX8_priceOfAll_27 : decode cX8_priceOfAll 27 = .ok (.invokevirtual 100, 3) := by decide +kernel
theorem dX8_priceOfAll_30 : decode cX8_priceOfAll 30 = .ok (.iadd, 1) := by decide +kernel
theorem dX8_priceOfAll_31 : decode cX8_priceOfAll 31 = .ok (.istore_n 1, 1) := by decide +kernel
theorem dX8_priceOfAll_32 : decode cX8_priceOfAll 32 = .ok (.iinc 3 1, 3) := by decide +kernel
theorem dX8_priceOfAll_35 : decode cX8_priceOfAll 35 = .ok (.goto (-26), 3) := by decide +kernel
theorem dX8_priceOfAll_38 : decode cX8_priceOfAll 38 = .ok (.iload_n 1, 1) := by decide +kernel
theorem dX8_priceOfAll_39 : decode cX8_priceOfAll 39 = .ok (.ireturn, 1) := by decide +kernel
def kX8_priceOfAll_32 (n : Nat) (r9 : mK) : mK := i_inc 3 (1) (r9)
set_option maxRecDepth 20000 in
theorem okX8_priceOfAll_32 {E : mE} {X : State → Heap → Prop} {l : Launch} (hX : mXok E X) (n : Nat) {r9 : mK} (h9 : Sd E X l yX8_priceOfAll cX8_priceOfAll 4 (some .int) 5 0 0 0 0 9 r9) : Sd E X l yX8_priceOfAll cX8_priceOfAll 4 (some .int) 5 0 0 0 0 32 (kX8_priceOfAll_32 n r9) := s_iinc dX8_priceOfAll_32 (by decide) (s_goto dX8_priceOfAll_35 (by decide) h9)
def kX8_priceOfAll_9 (n : Nat) (r9 : mK) : mK := i_ldI 3 (i_cst (.int (8)) (i_c2 (fun x y => decide (y ≤ x)) (i_ldI 1 (i_rI)) (i_ldA 0 (i_ldI 3 (i_cV 8 1 (FX8_isIn n) (i_c0 (fun x => decide (x = 0)) (kX8_priceOfAll_32 n r9) (i_ldI 1 (i_ldA 0 (i_ldI 3 (i_ldI 2 (i_cV 8 2 (FX8_worthAmong n) (i_bin (fun x y => x + y) (i_stI 1 (kX8_priceOfAll_32 n r9))))))))))))))
set_option maxRecDepth 20000 in
theorem okX8_priceOfAll_9 {E : mE} {X : State → Heap → Prop} {l : Launch} (hX : mXok E X) (n : Nat) {r9 : mK} (h9 : Sd E X l yX8_priceOfAll cX8_priceOfAll 4 (some .int) 5 0 0 0 0 9 r9) : Sd E X l yX8_priceOfAll cX8_priceOfAll 4 (some .int) 5 0 0 0 0 9 (kX8_priceOfAll_9 n r9) := s_iload_n dX8_priceOfAll_9 rfl (s_bipush dX8_priceOfAll_10 (by decide) (s_icge dX8_priceOfAll_12 (by decide) (s_iload_n dX8_priceOfAll_38 rfl (s_rI dX8_priceOfAll_39 (Nat.le_of_ble_eq_true rfl) (Nat.le_of_ble_eq_true rfl))) (s_aload_n dX8_priceOfAll_15 rfl (s_iload_n dX8_priceOfAll_16 rfl (s_cV dX8_priceOfAll_17 lMX8_60 bVX8_isIn rfl (CtX8_isIn hX n) (Nat.le_of_ble_eq_true rfl) (s_ifeq dX8_priceOfAll_20 (by decide) (okX8_priceOfAll_32 hX n h9) (s_iload_n dX8_priceOfAll_23 rfl (s_aload_n dX8_priceOfAll_24 rfl (s_iload_n dX8_priceOfAll_25 rfl (s_iload_n dX8_priceOfAll_26 rfl (s_cV dX8_priceOfAll_27 lMX8_100 bVX8_worthAmong rfl (CtX8_worthAmong hX n) (Nat.le_of_ble_eq_true rfl) (s_iadd dX8_priceOfAll_30 (s_istore_n dX8_priceOfAll_31 rfl (okX8_priceOfAll_32 hX n h9))) (Nat.le_of_ble_eq_true rfl) (Nat.le_of_ble_eq_true rfl))))))) (Nat.le_of_ble_eq_true rfl) (Nat.le_of_ble_eq_true rfl))))))
def kX8_priceOfAll_0 (n : Nat) : mK := i_cst (.int (0)) (i_stI 1 (i_ldA 0 (i_cV 8 0 (FX8_howMany n) (i_stI 2 (i_cst (.int (0)) (i_stI 3 (mit (kX8_priceOfAll_9 n ) n)))))))
set_option maxRecDepth 20000 in
theorem okX8_priceOfAll_0 {E : mE} {X : State → Heap → Prop} {l : Launch} (hX : mXok E X) (n : Nat) : Sd E X l yX8_priceOfAll cX8_priceOfAll 4 (some .int) 5 0 0 0 0 0 (kX8_priceOfAll_0 n) := s_iconst dX8_priceOfAll_0 (by decide) (s_istore_n dX8_priceOfAll_1 rfl (s_aload_n dX8_priceOfAll_2 rfl (s_cV dX8_priceOfAll_3 lMX8_97 bVX8_howMany rfl (CtX8_howMany hX n) (Nat.le_of_ble_eq_true rfl) (s_istore_n dX8_priceOfAll_6 rfl (s_iconst dX8_priceOfAll_7 (by decide) (s_istore_n dX8_priceOfAll_8 rfl (s_mit (fun _ hk => okX8_priceOfAll_9 hX n hk) n)))) (Nat.le_of_ble_eq_true rfl) (Nat.le_of_ble_eq_true rfl))))
def FX8_priceOfAll (n : Nat) : List Value → mM → Option mR := mfn 4 (kX8_priceOfAll_0 n)
theorem CtX8_priceOfAll {E : mE} {X : State → Heap → Prop} {l : Launch} (hX : mXok E X) (n : Nat) : Ct E X l yX8_priceOfAll cX8_priceOfAll 4 (some .int) 5 0 0 (FX8_priceOfAll n) := Ct_of (by decide) hX (okX8_priceOfAll_0 hX n)
theorem dX8_priceWithout_0 : decode cX8_priceWithout 0 = .ok (.iconst 0, 1) := by decide +kernel
theorem dX8_priceWithout_1 : decode cX8_priceWithout 1 = .ok (.istore_n 2, 1) := by decide +kernel
theorem dX8_priceWithout_2 : decode cX8_priceWithout 2 = .ok (.aload_n 0, 1) := by decide +kernel
theorem dX8_priceWithout_3 : decode cX8_priceWithout 3 = .ok (.invokevirtual 97, 3) := by decide +kernel
theorem dX8_priceWithout_6 : decode cX8_priceWithout 6 = .ok (.iconst 1, 1) := by decide +kernel
theorem dX8_priceWithout_7 : decode cX8_priceWithout 7 = .ok (.isub, 1) := by decide +kernel
theorem dX8_priceWithout_8 : decode cX8_priceWithout 8 = .ok (.istore_n 3, 1) := by decide +kernel
theorem dX8_priceWithout_9 : decode cX8_priceWithout 9 = .ok (.iconst 0, 1) := by decide +kernel
theorem dX8_priceWithout_10 : decode cX8_priceWithout 10 = .ok (.istore 4, 2) := by decide +kernel
theorem dX8_priceWithout_12 : decode cX8_priceWithout 12 = .ok (.iload 4, 2) := by decide +kernel
theorem dX8_priceWithout_14 : decode cX8_priceWithout 14 = .ok (.bipush 8, 2) := by decide +kernel
theorem dX8_priceWithout_16 : decode cX8_priceWithout 16 = .ok (.if_icmp .ge 34, 3) := by decide +kernel
theorem dX8_priceWithout_19 : decode cX8_priceWithout 19 = .ok (.iload 4, 2) := by decide +kernel
theorem dX8_priceWithout_21 : decode cX8_priceWithout 21 = .ok (.iload_n 1, 1) := by decide +kernel
theorem dX8_priceWithout_22 : decode cX8_priceWithout 22 = .ok (.if_icmp .eq 22, 3) := by decide +kernel
theorem dX8_priceWithout_25 : decode cX8_priceWithout 25 = .ok (.aload_n 0, 1) := by decide +kernel
theorem dX8_priceWithout_26 : decode cX8_priceWithout 26 = .ok (.iload 4, 2) := by decide +kernel
theorem dX8_priceWithout_28 : decode cX8_priceWithout 28 = .ok (.invokevirtual 60, 3) := by decide +kernel
theorem dX8_priceWithout_31 : decode cX8_priceWithout 31 = .ok (.ifCond .eq 13, 3) := by decide +kernel
theorem dX8_priceWithout_34 : decode cX8_priceWithout 34 = .ok (.iload_n 2, 1) := by decide +kernel
theorem dX8_priceWithout_35 : decode cX8_priceWithout 35 = .ok (.aload_n 0, 1) := by decide +kernel
theorem dX8_priceWithout_36 : decode cX8_priceWithout 36 = .ok (.iload 4, 2) := by decide +kernel
theorem dX8_priceWithout_38 : decode cX8_priceWithout 38 = .ok (.iload_n 3, 1) := by decide +kernel
theorem dX8_priceWithout_39 : decode cX8_priceWithout 39 = .ok (.invokevirtual 100, 3) := by decide +kernel
theorem dX8_priceWithout_42 : decode cX8_priceWithout 42 = .ok (.iadd, 1) := by decide +kernel
theorem dX8_priceWithout_43 : decode cX8_priceWithout 43 = .ok (.istore_n 2, 1) := by decide +kernel
theorem dX8_priceWithout_44 : decode cX8_priceWithout 44 = .ok (.iinc 4 1, 3) := by decide +kernel
theorem dX8_priceWithout_47 : decode cX8_priceWithout 47 = .ok (.goto (-35), 3) := by decide +kernel
theorem dX8_priceWithout_50 : decode cX8_priceWithout 50 = .ok (.iload_n 2, 1) := by decide +kernel
theorem dX8_priceWithout_51 : decode cX8_priceWithout 51 = .ok (.ireturn, 1) := by decide +kernel
def kX8_priceWithout_44 (n : Nat) (r12 : mK) : mK := i_inc 4 (1) (r12)
set_option maxRecDepth 20000 in
theorem okX8_priceWithout_44 {E : mE} {X : State → Heap → Prop} {l : Launch} (hX : mXok E X) (n : Nat) {r12 : mK} (h12 : Sd E X l yX8_priceWithout cX8_priceWithout 5 (some .int) 5 0 0 0 0 12 r12) : Sd E X l yX8_priceWithout cX8_priceWithout 5 (some .int) 5 0 0 0 0 44 (kX8_priceWithout_44 n r12) := s_iinc dX8_priceWithout_44 (by decide) (s_goto dX8_priceWithout_47 (by decide) h12)
def kX8_priceWithout_12 (n : Nat) (r12 : mK) : mK := i_ldI 4 (i_cst (.int (8)) (i_c2 (fun x y => decide (y ≤ x)) (i_ldI 2 (i_rI)) (i_ldI 4 (i_ldI 1 (i_c2 (fun x y => decide (x = y)) (kX8_priceWithout_44 n r12) (i_ldA 0 (i_ldI 4 (i_cV 8 1 (FX8_isIn n) (i_c0 (fun x => decide (x = 0)) (kX8_priceWithout_44 n r12) (i_ldI 2 (i_ldA 0 (i_ldI 4 (i_ldI 3 (i_cV 8 2 (FX8_worthAmong n) (i_bin (fun x y => x + y) (i_stI 2 (kX8_priceWithout_44 n r12)))))))))))))))))
set_option maxRecDepth 20000 in
theorem okX8_priceWithout_12 {E : mE} {X : State → Heap → Prop} {l : Launch} (hX : mXok E X) (n : Nat) {r12 : mK} (h12 : Sd E X l yX8_priceWithout cX8_priceWithout 5 (some .int) 5 0 0 0 0 12 r12) : Sd E X l yX8_priceWithout cX8_priceWithout 5 (some .int) 5 0 0 0 0 12 (kX8_priceWithout_12 n r12) := s_iload dX8_priceWithout_12 (s_bipush dX8_priceWithout_14 (by decide) (s_icge dX8_priceWithout_16 (by decide) (s_iload_n dX8_priceWithout_50 rfl (s_rI dX8_priceWithout_51 (Nat.le_of_ble_eq_true rfl) (Nat.le_of_ble_eq_true rfl))) (s_iload dX8_priceWithout_19 (s_iload_n dX8_priceWithout_21 rfl (s_iceq dX8_priceWithout_22 (by decide) (okX8_priceWithout_44 hX n h12) (s_aload_n dX8_priceWithout_25 rfl (s_iload dX8_priceWithout_26 (s_cV dX8_priceWithout_28 lMX8_60 bVX8_isIn rfl (CtX8_isIn hX n) (Nat.le_of_ble_eq_true rfl) (s_ifeq dX8_priceWithout_31 (by decide) (okX8_priceWithout_44 hX n h12) (s_iload_n dX8_priceWithout_34 rfl (s_aload_n dX8_priceWithout_35 rfl (s_iload dX8_priceWithout_36 (s_iload_n dX8_priceWithout_38 rfl (s_cV dX8_priceWithout_39 lMX8_100 bVX8_worthAmong rfl (CtX8_worthAmong hX n) (Nat.le_of_ble_eq_true rfl) (s_iadd dX8_priceWithout_42 (s_istore_n dX8_priceWithout_43 rfl (okX8_priceWithout_44 hX n h12))) (Nat.le_of_ble_eq_true rfl) (Nat.le_of_ble_eq_true rfl))))))) (Nat.le_of_ble_eq_true rfl) (Nat.le_of_ble_eq_true rfl)))))))))
def kX8_priceWithout_0 (n : Nat) : mK := i_cst (.int (0)) (i_stI 2 (i_ldA 0 (i_cV 8 0 (FX8_howMany n) (i_cst (.int (1)) (i_bin (fun x y => x - y) (i_stI 3 (i_cst (.int (0)) (i_stI 4 (mit (kX8_priceWithout_12 n ) n)))))))))
set_option maxRecDepth 20000 in
theorem okX8_priceWithout_0 {E : mE} {X : State → Heap → Prop} {l : Launch} (hX : mXok E X) (n : Nat) : Sd E X l yX8_priceWithout cX8_priceWithout 5 (some .int) 5 0 0 0 0 0 (kX8_priceWithout_0 n) := s_iconst dX8_priceWithout_0 (by decide) (s_istore_n dX8_priceWithout_1 rfl (s_aload_n dX8_priceWithout_2 rfl (s_cV dX8_priceWithout_3 lMX8_97 bVX8_howMany rfl (CtX8_howMany hX n) (Nat.le_of_ble_eq_true rfl) (s_iconst dX8_priceWithout_6 (by decide) (s_isub dX8_priceWithout_7 (s_istore_n dX8_priceWithout_8 rfl (s_iconst dX8_priceWithout_9 (by decide) (s_istore dX8_priceWithout_10 (s_mit (fun _ hk => okX8_priceWithout_12 hX n hk) n)))))) (Nat.le_of_ble_eq_true rfl) (Nat.le_of_ble_eq_true rfl))))
def FX8_priceWithout (n : Nat) : List Value → mM → Option mR := mfn 5 (kX8_priceWithout_0 n)
theorem CtX8_priceWithout {E : mE} {X : State → Heap → Prop} {l : Launch} (hX : mXok E X) (n : Nat) : Ct E X l yX8_priceWithout cX8_priceWithout 5 (some .int) 5 0 0 (FX8_priceWithout n) := Ct_of (by decide) hX (okX8_priceWithout_0 hX n)
theorem dX8_soften_0 : decode cX8_soften 0 = .ok (.aload_n 0, 1) := by decide +kernel
theorem dX8_soften_1 : decode cX8_soften 1 = .ok (.invokevirtual 97, 3) := by decide +kernel
theorem dX8_soften_4 : decode cX8_soften 4 = .ok (.istore_n 1, 1) := by decide +kernel
theorem dX8_soften_5 : decode cX8_soften 5 = .ok (.iconst 0, 1) := by decide +kernel
theorem dX8_soften_6 : decode cX8_soften 6 = .ok (.istore_n 2, 1) := by decide +kernel
theorem dX8_soften_7 : decode cX8_soften 7 = .ok (.iload_n 2, 1) := by decide +kernel
theorem dX8_soften_8 : decode cX8_soften 8 = .ok (.bipush 8, 2) := by decide +kernel
theorem dX8_soften_10 : decode cX8_soften 10 = .ok (.if_icmp .ge 40, 3) := by decide +kernel
theorem dX8_soften_13 : decode cX8_soften 13 = .ok (.aload_n 0, 1) := by decide +kernel
theorem dX8_soften_14 : decode cX8_soften 14 = .ok (.iload_n 2, 1) := by decide +kernel
theorem dX8_soften_15 : decode cX8_soften 15 = .ok (.invokevirtual 60, 3) := by decide +kernel
theorem dX8_soften_18 : decode cX8_soften 18 = .ok (.ifCond .eq 26, 3) := by decide +kernel
theorem dX8_soften_21 : decode cX8_soften 21 = .ok (.aload_n 0, 1) := by decide +kernel
theorem dX8_soften_22 : decode cX8_soften 22 = .ok (.getfield 18, 3) := by decide +kernel
theorem dX8_soften_25 : decode cX8_soften 25 = .ok (.iload_n 2, 1) := by decide +kernel
theorem dX8_soften_26 : decode cX8_soften 26 = .ok (.aload_n 0, 1) := by decide +kernel
theorem dX8_soften_27 : decode cX8_soften 27 = .ok (.getfield 18, 3) := by decide +kernel
theorem dX8_soften_30 : decode cX8_soften 30 = .ok (.iload_n 2, 1) := by decide +kernel
theorem dX8_soften_31 : decode cX8_soften 31 = .ok (.invokestatic 48, 3) := by decide +kernel
theorem dX8_soften_34 : decode cX8_soften 34 = .ok (.aload_n 0, 1) := by decide +kernel
theorem dX8_soften_35 : decode cX8_soften 35 = .ok (.iload_n 2, 1) := by decide +kernel
theorem dX8_soften_36 : decode cX8_soften 36 = .ok (.iload_n 1, 1) := by decide +kernel
theorem dX8_soften_37 : decode cX8_soften 37 = .ok (.invokevirtual 104, 3) := by decide +kernel
theorem dX8_soften_40 : decode cX8_soften 40 = .ok (.isub, 1) := by decide +kernel
theorem dX8_soften_41 : decode cX8_soften 41 = .ok (.invokestatic 52, 3) := by decide +kernel
theorem dX8_soften_44 : decode cX8_soften 44 = .ok (.iinc 2 1, 3) := by decide +kernel
theorem dX8_soften_47 : decode cX8_soften 47 = .ok (.goto (-40), 3) := by decide +kernel
theorem dX8_soften_50 : decode cX8_soften 50 = .ok (.return_, 1) := by decide +kernel
def kX8_soften_44 (n : Nat) (r7 : mK) : mK := i_inc 2 (1) (r7)
set_option maxRecDepth 20000 in
theorem okX8_soften_44 {E : mE} {X : State → Heap → Prop} {l : Launch} (hX : mXok E X) (n : Nat) {r7 : mK} (h7 : Sd E X l yX8_soften cX8_soften 3 none 5 0 0 0 0 7 r7) : Sd E X l yX8_soften cX8_soften 3 none 5 0 0 0 0 44 (kX8_soften_44 n r7) := s_iinc dX8_soften_44 (by decide) (s_goto dX8_soften_47 (by decide) h7)
def kX8_soften_7 (n : Nat) (r7 : mK) : mK := i_ldI 2 (i_cst (.int (8)) (i_c2 (fun x y => decide (y ≤ x)) (i_rV) (i_ldA 0 (i_ldI 2 (i_cV 8 1 (FX8_isIn n) (i_c0 (fun x => decide (x = 0)) (kX8_soften_44 n r7) (i_ldA 0 (i_gA 8 3 (i_ldI 2 (i_ldA 0 (i_gA 8 3 (i_ldI 2 (i_cS 2 (FX11_at n) (i_ldA 0 (i_ldI 2 (i_ldI 1 (i_cV 8 2 (FX8_softeningAmong n) (i_bin (fun x y => x - y) (i_cS 3 (FX11_set n) (kX8_soften_44 n r7))))))))))))))))))))
set_option maxRecDepth 20000 in
theorem okX8_soften_7 {E : mE} {X : State → Heap → Prop} {l : Launch} (hX : mXok E X) (n : Nat) {r7 : mK} (h7 : Sd E X l yX8_soften cX8_soften 3 none 5 0 0 0 0 7 r7) : Sd E X l yX8_soften cX8_soften 3 none 5 0 0 0 0 7 (kX8_soften_7 n r7) := s_iload_n dX8_soften_7 rfl (s_bipush dX8_soften_8 (by decide) (s_icge dX8_soften_10 (by decide) (s_rV dX8_soften_50 (Nat.le_of_ble_eq_true rfl) (Nat.le_of_ble_eq_true rfl)) (s_aload_n dX8_soften_13 rfl (s_iload_n dX8_soften_14 rfl (s_cV dX8_soften_15 lMX8_60 bVX8_isIn rfl (CtX8_isIn hX n) (Nat.le_of_ble_eq_true rfl) (s_ifeq dX8_soften_18 (by decide) (okX8_soften_44 hX n h7) (s_aload_n dX8_soften_21 rfl (s_gA dX8_soften_22 lFX8_18 (s_iload_n dX8_soften_25 rfl (s_aload_n dX8_soften_26 rfl (s_gA dX8_soften_27 lFX8_18 (s_iload_n dX8_soften_30 rfl (s_cN dX8_soften_31 lNX8_48 bSX11_at (CtX11_at hX n) (Nat.le_of_ble_eq_true rfl) (s_aload_n dX8_soften_34 rfl (s_iload_n dX8_soften_35 rfl (s_iload_n dX8_soften_36 rfl (s_cV dX8_soften_37 lMX8_104 bVX8_softeningAmong rfl (CtX8_softeningAmong hX n) (Nat.le_of_ble_eq_true rfl) (s_isub dX8_soften_40 (s_cN dX8_soften_41 lNX8_52 bSX11_set (CtX11_set hX n) (Nat.le_of_ble_eq_true rfl) (okX8_soften_44 hX n h7) (Nat.le_of_ble_eq_true rfl) (Nat.le_of_ble_eq_true rfl))) (Nat.le_of_ble_eq_true rfl) (Nat.le_of_ble_eq_true rfl))))) (Nat.le_of_ble_eq_true rfl) (Nat.le_of_ble_eq_true rfl))))))))) (Nat.le_of_ble_eq_true rfl) (Nat.le_of_ble_eq_true rfl))))))
def kX8_soften_0 (n : Nat) : mK := i_ldA 0 (i_cV 8 0 (FX8_howMany n) (i_stI 1 (i_cst (.int (0)) (i_stI 2 (mit (kX8_soften_7 n ) n)))))
set_option maxRecDepth 20000 in
theorem okX8_soften_0 {E : mE} {X : State → Heap → Prop} {l : Launch} (hX : mXok E X) (n : Nat) : Sd E X l yX8_soften cX8_soften 3 none 5 0 0 0 0 0 (kX8_soften_0 n) := s_aload_n dX8_soften_0 rfl (s_cV dX8_soften_1 lMX8_97 bVX8_howMany rfl (CtX8_howMany hX n) (Nat.le_of_ble_eq_true rfl) (s_istore_n dX8_soften_4 rfl (s_iconst dX8_soften_5 (by decide) (s_istore_n dX8_soften_6 rfl (s_mit (fun _ hk => okX8_soften_7 hX n hk) n)))) (Nat.le_of_ble_eq_true rfl) (Nat.le_of_ble_eq_true rfl))
def FX8_soften (n : Nat) : List Value → mM → Option mR := mfn 3 (kX8_soften_0 n)
theorem CtX8_soften {E : mE} {X : State → Heap → Prop} {l : Launch} (hX : mXok E X) (n : Nat) : Ct E X l yX8_soften cX8_soften 3 none 5 0 0 (FX8_soften n) := Ct_of (by decide) hX (okX8_soften_0 hX n)
theorem dX8_whoIsFree_0 : decode cX8_whoIsFree 0 = .ok (.iconst 0, 1) := by decide +kernel
theorem dX8_whoIsFree_1 : decode cX8_whoIsFree 1 = .ok (.istore_n 1, 1) := by decide +kernel
theorem dX8_whoIsFree_2 : decode cX8_whoIsFree 2 = .ok (.iconst 0, 1) := by decide +kernel
theorem dX8_whoIsFree_3 : decode cX8_whoIsFree 3 = .ok (.istore_n 2, 1) := by decide +kernel
theorem dX8_whoIsFree_4 : decode cX8_whoIsFree 4 = .ok (.iload_n 2, 1) := by decide +kernel
theorem dX8_whoIsFree_5 : decode cX8_whoIsFree 5 = .ok (.bipush 8, 2) := by decide +kernel
theorem dX8_whoIsFree_7 : decode cX8_whoIsFree 7 = .ok (.if_icmp .ge 32, 3) := by decide +kernel
theorem dX8_whoIsFree_10 : decode cX8_whoIsFree 10 = .ok (.aload_n 0, 1) := by decide +kernel
theorem dX8_whoIsFree_11 : decode cX8_whoIsFree 11 = .ok (.iload_n 2, 1) := by decide +kernel
theorem dX8_whoIsFree_12 : decode cX8_whoIsFree 12 = .ok (.invokevirtual 60, 3) := by decide +kernel
theorem dX8_whoIsFree_15 : decode cX8_whoIsFree 15 = .ok (.ifCond .eq 18, 3) := by decide +kernel
theorem dX8_whoIsFree_18 : decode cX8_whoIsFree 18 = .ok (.aload_n 0, 1) := by decide +kernel
theorem dX8_whoIsFree_19 : decode cX8_whoIsFree 19 = .ok (.iload_n 2, 1) := by decide +kernel
theorem dX8_whoIsFree_20 : decode cX8_whoIsFree 20 = .ok (.invokevirtual 87, 3) := by decide +kernel
theorem dX8_whoIsFree_23 : decode cX8_whoIsFree 23 = .ok (.ifCond .ne 10, 3) := by decide +kernel
theorem dX8_whoIsFree_26 : decode cX8_whoIsFree 26 = .ok (.iload_n 1, 1) := by decide +kernel
theorem dX8_whoIsFree_27 : decode cX8_whoIsFree 27 = .ok (.iload_n 2, 1) := by decide +kernel
theorem dX8_whoIsFree_28 : decode cX8_whoIsFree 28 = .ok (.invokestatic 63, 3) := by decide +kernel
theorem dX8_whoIsFree_31 : decode cX8_whoIsFree 31 = .ok (.ior, 1) := by decide +kernel
theorem dX8_whoIsFree_32 : decode cX8_whoIsFree 32 = .ok (.istore_n 1, 1) := by decide +kernel
theorem dX8_whoIsFree_33 : decode cX8_whoIsFree 33 = .ok (.iinc 2 1, 3) := by decide +kernel
theorem dX8_whoIsFree_36 : decode cX8_whoIsFree 36 = .ok (.goto (-32), 3) := by decide +kernel
theorem dX8_whoIsFree_39 : decode cX8_whoIsFree 39 = .ok (.iload_n 1, 1) := by decide +kernel
theorem dX8_whoIsFree_40 : decode cX8_whoIsFree 40 = .ok (.ireturn, 1) := by decide +kernel
def kX8_whoIsFree_33 (n : Nat) (r4 : mK) : mK := i_inc 2 (1) (r4)
set_option maxRecDepth 20000 in
theorem okX8_whoIsFree_33 {E : mE} {X : State → Heap → Prop} {l : Launch} (hX : mXok E X) (n : Nat) {r4 : mK} (h4 : Sd E X l yX8_whoIsFree cX8_whoIsFree 3 (some .int) 5 0 0 0 0 4 r4) : Sd E X l yX8_whoIsFree cX8_whoIsFree 3 (some .int) 5 0 0 0 0 33 (kX8_whoIsFree_33 n r4) := s_iinc dX8_whoIsFree_33 (by decide) (s_goto dX8_whoIsFree_36 (by decide) h4)
def kX8_whoIsFree_4 (n : Nat) (r4 : mK) : mK := i_ldI 2 (i_cst (.int (8)) (i_c2 (fun x y => decide (y ≤ x)) (i_ldI 1 (i_rI)) (i_ldA 0 (i_ldI 2 (i_cV 8 1 (FX8_isIn n) (i_c0 (fun x => decide (x = 0)) (kX8_whoIsFree_33 n r4) (i_ldA 0 (i_ldI 2 (i_cV 8 1 (FX8_whoBars n) (i_c0 (fun x => decide (¬ x = 0)) (kX8_whoIsFree_33 n r4) (i_ldI 1 (i_ldI 2 (i_cS 1 (FX11_bit n) (i_bin (fun x y => x ||| y) (i_stI 1 (kX8_whoIsFree_33 n r4))))))))))))))))
set_option maxRecDepth 20000 in
theorem okX8_whoIsFree_4 {E : mE} {X : State → Heap → Prop} {l : Launch} (hX : mXok E X) (n : Nat) {r4 : mK} (h4 : Sd E X l yX8_whoIsFree cX8_whoIsFree 3 (some .int) 5 0 0 0 0 4 r4) : Sd E X l yX8_whoIsFree cX8_whoIsFree 3 (some .int) 5 0 0 0 0 4 (kX8_whoIsFree_4 n r4) := s_iload_n dX8_whoIsFree_4 rfl (s_bipush dX8_whoIsFree_5 (by decide) (s_icge dX8_whoIsFree_7 (by decide) (s_iload_n dX8_whoIsFree_39 rfl (s_rI dX8_whoIsFree_40 (Nat.le_of_ble_eq_true rfl) (Nat.le_of_ble_eq_true rfl))) (s_aload_n dX8_whoIsFree_10 rfl (s_iload_n dX8_whoIsFree_11 rfl (s_cV dX8_whoIsFree_12 lMX8_60 bVX8_isIn rfl (CtX8_isIn hX n) (Nat.le_of_ble_eq_true rfl) (s_ifeq dX8_whoIsFree_15 (by decide) (okX8_whoIsFree_33 hX n h4) (s_aload_n dX8_whoIsFree_18 rfl (s_iload_n dX8_whoIsFree_19 rfl (s_cV dX8_whoIsFree_20 lMX8_87 bVX8_whoBars rfl (CtX8_whoBars hX n) (Nat.le_of_ble_eq_true rfl) (s_ifne dX8_whoIsFree_23 (by decide) (okX8_whoIsFree_33 hX n h4) (s_iload_n dX8_whoIsFree_26 rfl (s_iload_n dX8_whoIsFree_27 rfl (s_cN dX8_whoIsFree_28 lNX8_63 bSX11_bit (CtX11_bit hX n) (Nat.le_of_ble_eq_true rfl) (s_ior dX8_whoIsFree_31 (s_istore_n dX8_whoIsFree_32 rfl (okX8_whoIsFree_33 hX n h4))) (Nat.le_of_ble_eq_true rfl) (Nat.le_of_ble_eq_true rfl))))) (Nat.le_of_ble_eq_true rfl) (Nat.le_of_ble_eq_true rfl))))) (Nat.le_of_ble_eq_true rfl) (Nat.le_of_ble_eq_true rfl))))))
def kX8_whoIsFree_0 (n : Nat) : mK := i_cst (.int (0)) (i_stI 1 (i_cst (.int (0)) (i_stI 2 (mit (kX8_whoIsFree_4 n ) n))))
set_option maxRecDepth 20000 in
theorem okX8_whoIsFree_0 {E : mE} {X : State → Heap → Prop} {l : Launch} (hX : mXok E X) (n : Nat) : Sd E X l yX8_whoIsFree cX8_whoIsFree 3 (some .int) 5 0 0 0 0 0 (kX8_whoIsFree_0 n) := s_iconst dX8_whoIsFree_0 (by decide) (s_istore_n dX8_whoIsFree_1 rfl (s_iconst dX8_whoIsFree_2 (by decide) (s_istore_n dX8_whoIsFree_3 rfl (s_mit (fun _ hk => okX8_whoIsFree_4 hX n hk) n))))
def FX8_whoIsFree (n : Nat) : List Value → mM → Option mR := mfn 3 (kX8_whoIsFree_0 n)
theorem CtX8_whoIsFree {E : mE} {X : State → Heap → Prop} {l : Launch} (hX : mXok E X) (n : Nat) : Ct E X l yX8_whoIsFree cX8_whoIsFree 3 (some .int) 5 0 0 (FX8_whoIsFree n) := Ct_of (by decide) hX (okX8_whoIsFree_0 hX n)
theorem dX9_isWord_0 : decode cX9_isWord 0 = .ok (.iconst 0, 1) := by decide +kernel
theorem dX9_isWord_1 : decode cX9_isWord 1 = .ok (.istore 4, 2) := by decide +kernel
theorem dX9_isWord_3 : decode cX9_isWord 3 = .ok (.iload 4, 2) := by decide +kernel
theorem dX9_isWord_5 : decode cX9_isWord 5 = .ok (.bipush 8, 2) := by decide +kernel
theorem dX9_isWord_7 : decode cX9_isWord 7 = .ok (.if_icmp .ge 78, 3) := by decide +kernel
theorem dX9_isWord_10 : decode cX9_isWord 10 = .ok (.iload_n 1, 1) := by decide +kernel
theorem dX9_isWord_11 : decode cX9_isWord 11 = .ok (.bipush 8, 2) := by decide +kernel
theorem dX9_isWord_13 : decode cX9_isWord 13 = .ok (.imul, 1) := by decide +kernel
theorem dX9_isWord_14 : decode cX9_isWord 14 = .ok (.iload 4, 2) := by decide +kernel
theorem dX9_isWord_16 : decode cX9_isWord 16 = .ok (.iadd, 1) := by decide +kernel
theorem dX9_isWord_17 : decode cX9_isWord 17 = .ok (.istore 5, 2) := by decide +kernel
theorem dX9_isWord_19 : decode cX9_isWord 19 = .ok (.iload 5, 2) := by decide +kernel
theorem dX9_isWord_21 : decode cX9_isWord 21 = .ok (.ifCond .lt 23, 3) := by decide +kernel
theorem dX9_isWord_24 : decode cX9_isWord 24 = .ok (.iload 5, 2) := by decide +kernel
theorem dX9_isWord_26 : decode cX9_isWord 26 = .ok (.ldc 63, 2) := by decide +kernel
theorem dX9_isWord_28 : decode cX9_isWord 28 = .ok (.invokevirtual 65, 3) := by decide +kernel
theorem dX9_isWord_31 : decode cX9_isWord 31 = .ok (.if_icmp .ge 13, 3) := by decide +kernel
theorem dX9_isWord_34 : decode cX9_isWord 34 = .ok (.ldc 63, 2) := by decide +kernel
theorem dX9_isWord_36 : decode cX9_isWord 36 = .ok (.iload 5, 2) := by decide +kernel
theorem dX9_isWord_38 : decode cX9_isWord 38 = .ok (.invokevirtual 73, 3) := by decide +kernel
theorem dX9_isWord_41 : decode cX9_isWord 41 = .ok (.goto 4, 3) := by decide +kernel
theorem dX9_isWord_44 : decode cX9_isWord 44 = .ok (.iconst 0, 1) := by decide +kernel
theorem dX9_isWord_45 : decode cX9_isWord 45 = .ok (.istore 6, 2) := by decide +kernel
theorem dX9_isWord_47 : decode cX9_isWord 47 = .ok (.iload_n 2, 1) := by decide +kernel
theorem dX9_isWord_48 : decode cX9_isWord 48 = .ok (.iload 4, 2) := by decide +kernel
theorem dX9_isWord_50 : decode cX9_isWord 50 = .ok (.iadd, 1) := by decide +kernel
theorem dX9_isWord_51 : decode cX9_isWord 51 = .ok (.iload_n 3, 1) := by decide +kernel
theorem dX9_isWord_52 : decode cX9_isWord 52 = .ok (.if_icmp .ge 14, 3) := by decide +kernel
theorem dX9_isWord_55 : decode cX9_isWord 55 = .ok (.aload_n 0, 1) := by decide +kernel
theorem dX9_isWord_56 : decode cX9_isWord 56 = .ok (.iload_n 2, 1) := by decide +kernel
theorem dX9_isWord_57 : decode cX9_isWord 57 = .ok (.iload 4, 2) := by decide +kernel
theorem dX9_isWord_59 : decode cX9_isWord 59 = .ok (.iadd, 1) := by decide +kernel
theorem dX9_isWord_60 : decode cX9_isWord 60 = .ok (.invokevirtual 43, 3) := by decide +kernel
theorem dX9_isWord_63 : decode cX9_isWord 63 = .ok (.goto 5, 3) := by decide +kernel
theorem dX9_isWord_66 : decode cX9_isWord 66 = .ok (.bipush 32, 2) := by decide +kernel
theorem dX9_isWord_68 : decode cX9_isWord 68 = .ok (.istore 7, 2) := by decide +kernel
theorem dX9_isWord_70 : decode cX9_isWord 70 = .ok (.iload 7, 2) := by decide +kernel
theorem dX9_isWord_72 : decode cX9_isWord 72 = .ok (.iload 6, 2) := by decide +kernel
theorem dX9_isWord_74 : decode cX9_isWord 74 = .ok (.if_icmp .eq 5, 3) := by decide +kernel
theorem dX9_isWord_77 : decode cX9_isWord 77 = .ok (.iconst 0, 1) := by decide +kernel
theorem dX9_isWord_78 : decode cX9_isWord 78 = .ok (.ireturn, 1) := by decide +kernel
theorem dX9_isWord_79 : decode cX9_isWord 79 = .ok (.iinc 4 1, 3) := by decide +kernel
theorem dX9_isWord_82 : decode cX9_isWord 82 = .ok (.goto (-79), 3) := by decide +kernel
theorem dX9_isWord_85 : decode cX9_isWord 85 = .ok (.iconst 1, 1) := by decide +kernel
theorem dX9_isWord_86 : decode cX9_isWord 86 = .ok (.ireturn, 1) := by decide +kernel
def kX9_isWord_68 (n : Nat) (r3 : mK) : mK := i_stI 7 (i_ldI 7 (i_ldI 6 (i_c2 (fun x y => decide (x = y)) (i_inc 4 (1) (r3)) (i_cst (.int (0)) (i_rZ)))))
set_option maxRecDepth 20000 in
theorem okX9_isWord_68 {E : mE} {X : State → Heap → Prop} {l : Launch} (hX : mXok E X) (n : Nat) {r3 : mK} (h3 : Sd E X l yX9_isWord cX9_isWord 8 (some .boolean) 5 0 0 0 0 3 r3) : Sd E X l yX9_isWord cX9_isWord 8 (some .boolean) 5 0 0 0 0 68 (kX9_isWord_68 n r3) := s_istore dX9_isWord_68 (s_iload dX9_isWord_70 (s_iload dX9_isWord_72 (s_iceq dX9_isWord_74 (by decide) (s_iinc dX9_isWord_79 (by decide) (s_goto dX9_isWord_82 (by decide) h3)) (s_iconst dX9_isWord_77 (by decide) (s_rZ dX9_isWord_78 (Nat.le_of_ble_eq_true rfl) (Nat.le_of_ble_eq_true rfl))))))
def kX9_isWord_45 (n : Nat) (r3 : mK) : mK := i_stI 6 (i_ldI 2 (i_ldI 4 (i_bin (fun x y => x + y) (i_ldI 3 (i_c2 (fun x y => decide (y ≤ x)) (i_cst (.int (32)) (kX9_isWord_68 n r3)) (i_ldA 0 (i_ldI 2 (i_ldI 4 (i_bin (fun x y => x + y) (i_cV 9 1 (FX9_byteAt n) ((kX9_isWord_68 n r3))))))))))))
set_option maxRecDepth 20000 in
theorem okX9_isWord_45 {E : mE} {X : State → Heap → Prop} {l : Launch} (hX : mXok E X) (n : Nat) {r3 : mK} (h3 : Sd E X l yX9_isWord cX9_isWord 8 (some .boolean) 5 0 0 0 0 3 r3) : Sd E X l yX9_isWord cX9_isWord 8 (some .boolean) 5 0 0 0 0 45 (kX9_isWord_45 n r3) := s_istore dX9_isWord_45 (s_iload_n dX9_isWord_47 rfl (s_iload dX9_isWord_48 (s_iadd dX9_isWord_50 (s_iload_n dX9_isWord_51 rfl (s_icge dX9_isWord_52 (by decide) (s_bipush dX9_isWord_66 (by decide) (okX9_isWord_68 hX n h3)) (s_aload_n dX9_isWord_55 rfl (s_iload_n dX9_isWord_56 rfl (s_iload dX9_isWord_57 (s_iadd dX9_isWord_59 (s_cV dX9_isWord_60 lMX9_43 bVX9_byteAt rfl (CtX9_byteAt hX n) (Nat.le_of_ble_eq_true rfl) (s_goto dX9_isWord_63 (by decide) (okX9_isWord_68 hX n h3)) (Nat.le_of_ble_eq_true rfl) (Nat.le_of_ble_eq_true rfl)))))))))))
def kX9_isWord_44 (n : Nat) (r3 : mK) : mK := i_cst (.int (0)) (kX9_isWord_45 n r3)
set_option maxRecDepth 20000 in
theorem okX9_isWord_44 {E : mE} {X : State → Heap → Prop} {l : Launch} (hX : mXok E X) (n : Nat) {r3 : mK} (h3 : Sd E X l yX9_isWord cX9_isWord 8 (some .boolean) 5 0 0 0 0 3 r3) : Sd E X l yX9_isWord cX9_isWord 8 (some .boolean) 5 0 0 0 0 44 (kX9_isWord_44 n r3) := s_iconst dX9_isWord_44 (by decide) (okX9_isWord_45 hX n h3)
def kX9_isWord_3 (n : Nat) (r3 : mK) : mK := i_ldI 4 (i_cst (.int (8)) (i_c2 (fun x y => decide (y ≤ x)) (i_cst (.int (1)) (i_rZ)) (i_ldI 1 (i_cst (.int (8)) (i_bin (fun x y => x * y) (i_ldI 4 (i_bin (fun x y => x + y) (i_stI 5 (i_ldI 5 (i_c0 (fun x => decide (x < 0)) (kX9_isWord_44 n r3) (i_ldI 5 (i_cst (.float 2) (i_cX 0 (FJ0_length_8abf5 n) (i_c2 (fun x y => decide (y ≤ x)) (kX9_isWord_44 n r3) (i_cst (.float 2) (i_ldI 5 (i_cX 1 (FJ0_charAt_5068e n) ((kX9_isWord_45 n r3)))))))))))))))))))
set_option maxRecDepth 20000 in
theorem okX9_isWord_3 {E : mE} {X : State → Heap → Prop} {l : Launch} (hX : mXok E X) (n : Nat) {r3 : mK} (h3 : Sd E X l yX9_isWord cX9_isWord 8 (some .boolean) 5 0 0 0 0 3 r3) : Sd E X l yX9_isWord cX9_isWord 8 (some .boolean) 5 0 0 0 0 3 (kX9_isWord_3 n r3) := s_iload dX9_isWord_3 (s_bipush dX9_isWord_5 (by decide) (s_icge dX9_isWord_7 (by decide) (s_iconst dX9_isWord_85 (by decide) (s_rZ dX9_isWord_86 (Nat.le_of_ble_eq_true rfl) (Nat.le_of_ble_eq_true rfl))) (s_iload_n dX9_isWord_10 rfl (s_bipush dX9_isWord_11 (by decide) (s_imul dX9_isWord_13 (s_iload dX9_isWord_14 (s_iadd dX9_isWord_16 (s_istore dX9_isWord_17 (s_iload dX9_isWord_19 (s_iflt dX9_isWord_21 (by decide) (okX9_isWord_44 hX n h3) (s_iload dX9_isWord_24 (s_ldS2 dX9_isWord_26 rfl (s_cX dX9_isWord_28 lMX9_65 bVJ0_length_8abf5 rfl (CtJ0_length_8abf5 hX n) (Nat.le_of_ble_eq_true rfl) (s_icge dX9_isWord_31 (by decide) (okX9_isWord_44 hX n h3) (s_ldS2 dX9_isWord_34 rfl (s_iload dX9_isWord_36 (s_cX dX9_isWord_38 lMX9_73 bVJ0_charAt_5068e rfl (CtJ0_charAt_5068e hX n) (Nat.le_of_ble_eq_true rfl) (s_goto dX9_isWord_41 (by decide) (okX9_isWord_45 hX n h3)) (Nat.le_of_ble_eq_true rfl) (Nat.le_of_ble_eq_true rfl))))) (Nat.le_of_ble_eq_true rfl) (Nat.le_of_ble_eq_true rfl))))))))))))))
def kX9_isWord_0 (n : Nat) : mK := i_cst (.int (0)) (i_stI 4 (mit (kX9_isWord_3 n ) n))
set_option maxRecDepth 20000 in
theorem okX9_isWord_0 {E : mE} {X : State → Heap → Prop} {l : Launch} (hX : mXok E X) (n : Nat) : Sd E X l yX9_isWord cX9_isWord 8 (some .boolean) 5 0 0 0 0 0 (kX9_isWord_0 n) := s_iconst dX9_isWord_0 (by decide) (s_istore dX9_isWord_1 (s_mit (fun _ hk => okX9_isWord_3 hX n hk) n))
def FX9_isWord (n : Nat) : List Value → mM → Option mR := mfn 8 (kX9_isWord_0 n)
theorem CtX9_isWord {E : mE} {X : State → Heap → Prop} {l : Launch} (hX : mXok E X) (n : Nat) : Ct E X l yX9_isWord cX9_isWord 8 (some .boolean) 5 0 0 (FX9_isWord n) := Ct_of (by decide) hX (okX9_isWord_0 hX n)
theorem dX11_ahead_0 : decode cX11_ahead 0 = .ok (.aload_n 0, 1) := by decide +kernel
theorem dX11_ahead_1 : decode cX11_ahead 1 = .ok (.getfield 37, 3) := by decide +kernel
theorem dX11_ahead_4 : decode cX11_ahead 4 = .ok (.iload_n 1, 1) := by decide +kernel
theorem dX11_ahead_5 : decode cX11_ahead 5 = .ok (.invokevirtual 167, 3) := by decide +kernel
theorem dX11_ahead_8 : decode cX11_ahead 8 = .ok (.ifCond .ne 5, 3) := by decide +kernel
theorem dX11_ahead_11 : decode cX11_ahead 11 = .ok (.iconst (-1), 1) := by decide +kernel
theorem dX11_ahead_12 : decode cX11_ahead 12 = .ok (.ireturn, 1) := by decide +kernel
theorem dX11_ahead_13 : decode cX11_ahead 13 = .ok (.aload_n 0, 1) := by decide +kernel
theorem dX11_ahead_14 : decode cX11_ahead 14 = .ok (.getfield 49, 3) := by decide +kernel
theorem dX11_ahead_17 : decode cX11_ahead 17 = .ok (.invokevirtual 213, 3) := by decide +kernel
theorem dX11_ahead_20 : decode cX11_ahead 20 = .ok (.aload_n 0, 1) := by decide +kernel
theorem dX11_ahead_21 : decode cX11_ahead 21 = .ok (.getfield 49, 3) := by decide +kernel
theorem dX11_ahead_24 : decode cX11_ahead 24 = .ok (.iload_n 1, 1) := by decide +kernel
theorem dX11_ahead_25 : decode cX11_ahead 25 = .ok (.invokevirtual 243, 3) := by decide +kernel
theorem dX11_ahead_28 : decode cX11_ahead 28 = .ok (.ireturn, 1) := by decide +kernel
def kX11_ahead_0 (n : Nat) : mK := i_ldA 0 (i_gA 11 5 (i_ldI 1 (i_cV 8 1 (FX8_isIn n) (i_c0 (fun x => decide (¬ x = 0)) (i_ldA 0 (i_gA 11 7 (i_cV 0 0 (FX0_look n) (i_ldA 0 (i_gA 11 7 (i_ldI 1 (i_cV 0 1 (FX0_allAheadOf n) (i_rI)))))))) (i_cst (.int (-1)) (i_rI))))))
set_option maxRecDepth 20000 in
theorem okX11_ahead_0 {E : mE} {X : State → Heap → Prop} {l : Launch} (hX : mXok E X) (n : Nat) : Sd E X l yX11_ahead cX11_ahead 2 (some .int) 6 0 0 0 0 0 (kX11_ahead_0 n) := s_aload_n dX11_ahead_0 rfl (s_gA dX11_ahead_1 lFX11_37 (s_iload_n dX11_ahead_4 rfl (s_cV dX11_ahead_5 lMX11_167 bVX8_isIn rfl (CtX8_isIn hX n) (Nat.le_of_ble_eq_true rfl) (s_ifne dX11_ahead_8 (by decide) (s_aload_n dX11_ahead_13 rfl (s_gA dX11_ahead_14 lFX11_49 (s_cV dX11_ahead_17 lMX11_213 bVX0_look rfl (CtX0_look hX n) (Nat.le_of_ble_eq_true rfl) (s_aload_n dX11_ahead_20 rfl (s_gA dX11_ahead_21 lFX11_49 (s_iload_n dX11_ahead_24 rfl (s_cV dX11_ahead_25 lMX11_243 bVX0_allAheadOf rfl (CtX0_allAheadOf hX n) (Nat.le_of_ble_eq_true rfl) (s_rI dX11_ahead_28 (Nat.le_of_ble_eq_true rfl) (Nat.le_of_ble_eq_true rfl)) (Nat.le_of_ble_eq_true rfl) (Nat.le_of_ble_eq_true rfl))))) (Nat.le_of_ble_eq_true rfl) (Nat.le_of_ble_eq_true rfl)))) (s_iconst dX11_ahead_11 (by decide) (s_rI dX11_ahead_12 (Nat.le_of_ble_eq_true rfl) (Nat.le_of_ble_eq_true rfl)))) (Nat.le_of_ble_eq_true rfl) (Nat.le_of_ble_eq_true rfl))))
def FX11_ahead (n : Nat) : List Value → mM → Option mR := mfn 2 (kX11_ahead_0 n)
theorem CtX11_ahead {E : mE} {X : State → Heap → Prop} {l : Launch} (hX : mXok E X) (n : Nat) : Ct E X l yX11_ahead cX11_ahead 2 (some .int) 6 0 0 (FX11_ahead n) := Ct_of (by decide) hX (okX11_ahead_0 hX n)
theorem dX11_free_0 : decode cX11_free 0 = .ok (.aload_n 0, 1) := by decide +kernel
theorem dX11_free_1 : decode cX11_free 1 = .ok (.getfield 37, 3) := by decide +kernel
theorem dX11_free_4 : decode cX11_free 4 = .ok (.invokevirtual 210, 3) := by decide +kernel
theorem dX11_free_7 : decode cX11_free 7 = .ok (.ireturn, 1) := by decide +kernel
def kX11_free_0 (n : Nat) : mK := i_ldA 0 (i_gA 11 5 (i_cV 8 0 (FX8_whoIsFree n) (i_rI)))
set_option maxRecDepth 20000 in
theorem okX11_free_0 {E : mE} {X : State → Heap → Prop} {l : Launch} (hX : mXok E X) (n : Nat) : Sd E X l yX11_free cX11_free 1 (some .int) 6 0 0 0 0 0 (kX11_free_0 n) := s_aload_n dX11_free_0 rfl (s_gA dX11_free_1 lFX11_37 (s_cV dX11_free_4 lMX11_210 bVX8_whoIsFree rfl (CtX8_whoIsFree hX n) (Nat.le_of_ble_eq_true rfl) (s_rI dX11_free_7 (Nat.le_of_ble_eq_true rfl) (Nat.le_of_ble_eq_true rfl)) (Nat.le_of_ble_eq_true rfl) (Nat.le_of_ble_eq_true rfl)))
def FX11_free (n : Nat) : List Value → mM → Option mR := mfn 1 (kX11_free_0 n)
theorem CtX11_free {E : mE} {X : State → Heap → Prop} {l : Launch} (hX : mXok E X) (n : Nat) : Ct E X l yX11_free cX11_free 1 (some .int) 6 0 0 (FX11_free n) := Ct_of (by decide) hX (okX11_free_0 hX n)
theorem dX11_heir_0 : decode cX11_heir 0 = .ok (.iconst (-1), 1) := by decide +kernel
theorem dX11_heir_1 : decode cX11_heir 1 = .ok (.istore_n 1, 1) := by decide +kernel
theorem dX11_heir_2 : decode cX11_heir 2 = .ok (.iconst 0, 1) := by decide +kernel
theorem dX11_heir_3 : decode cX11_heir 3 = .ok (.istore_n 2, 1) := by decide +kernel
theorem dX11_heir_4 : decode cX11_heir 4 = .ok (.iconst 0, 1) := by decide +kernel
theorem dX11_heir_5 : decode cX11_heir 5 = .ok (.istore_n 3, 1) := by decide +kernel
theorem dX11_heir_6 : decode cX11_heir 6 = .ok (.iload_n 3, 1) := by decide +kernel
theorem dX11_heir_7 : decode cX11_heir 7 = .ok (.bipush 8, 2) := by decide +kernel
theorem dX11_heir_9 : decode cX11_heir 9 = .ok (.if_icmp .ge 46, 3) := by decide +kernel
theorem dX11_heir_12 : decode cX11_heir 12 = .ok (.aload_n 0, 1) := by decide +kernel
theorem dX11_heir_13 : decode cX11_heir 13 = .ok (.getfield 37, 3) := by decide +kernel
theorem dX11_heir_16 : decode cX11_heir 16 = .ok (.iload_n 3, 1) := by decide +kernel
theorem dX11_heir_17 : decode cX11_heir 17 = .ok (.invokevirtual 167, 3) := by decide +kernel
theorem dX11_heir_20 : decode cX11_heir 20 = .ok (.ifCond .eq 29, 3) := by decide +kernel
theorem dX11_heir_23 : decode cX11_heir 23 = .ok (.aload_n 0, 1) := by decide +kernel
theorem dX11_heir_24 : decode cX11_heir 24 = .ok (.getfield 37, 3) := by decide +kernel
theorem dX11_heir_27 : decode cX11_heir 27 = .ok (.iload_n 3, 1) := by decide +kernel
theorem dX11_heir_28 : decode cX11_heir 28 = .ok (.invokevirtual 311, 3) := by decide +kernel
theorem dX11_heir_31 : decode cX11_heir 31 = .ok (.istore 4, 2) := by decide +kernel
theorem dX11_heir_33 : decode cX11_heir 33 = .ok (.iload_n 1, 1) := by decide +kernel
theorem dX11_heir_34 : decode cX11_heir 34 = .ok (.iconst (-1), 1) := by decide +kernel
theorem dX11_heir_35 : decode cX11_heir 35 = .ok (.if_icmp .eq 9, 3) := by decide +kernel
theorem dX11_heir_38 : decode cX11_heir 38 = .ok (.iload 4, 2) := by decide +kernel
theorem dX11_heir_40 : decode cX11_heir 40 = .ok (.iload_n 2, 1) := by decide +kernel
theorem dX11_heir_41 : decode cX11_heir 41 = .ok (.if_icmp .ge 8, 3) := by decide +kernel
theorem dX11_heir_44 : decode cX11_heir 44 = .ok (.iload_n 3, 1) := by decide +kernel
theorem dX11_heir_45 : decode cX11_heir 45 = .ok (.istore_n 1, 1) := by decide +kernel
theorem dX11_heir_46 : decode cX11_heir 46 = .ok (.iload 4, 2) := by decide +kernel
theorem dX11_heir_48 : decode cX11_heir 48 = .ok (.istore_n 2, 1) := by decide +kernel
theorem dX11_heir_49 : decode cX11_heir 49 = .ok (.iinc 3 1, 3) := by decide +kernel
theorem dX11_heir_52 : decode cX11_heir 52 = .ok (.goto (-46), 3) := by decide +kernel
theorem dX11_heir_55 : decode cX11_heir 55 = .ok (.iload_n 1, 1) := by decide +kernel
theorem dX11_heir_56 : decode cX11_heir 56 = .ok (.ireturn, 1) := by decide +kernel
def kX11_heir_49 (n : Nat) (r6 : mK) : mK := i_inc 3 (1) (r6)
set_option maxRecDepth 20000 in
theorem okX11_heir_49 {E : mE} {X : State → Heap → Prop} {l : Launch} (hX : mXok E X) (n : Nat) {r6 : mK} (h6 : Sd E X l yX11_heir cX11_heir 5 (some .int) 6 0 0 0 0 6 r6) : Sd E X l yX11_heir cX11_heir 5 (some .int) 6 0 0 0 0 49 (kX11_heir_49 n r6) := s_iinc dX11_heir_49 (by decide) (s_goto dX11_heir_52 (by decide) h6)
def kX11_heir_44 (n : Nat) (r6 : mK) : mK := i_ldI 3 (i_stI 1 (i_ldI 4 (i_stI 2 (kX11_heir_49 n r6))))
set_option maxRecDepth 20000 in
theorem okX11_heir_44 {E : mE} {X : State → Heap → Prop} {l : Launch} (hX : mXok E X) (n : Nat) {r6 : mK} (h6 : Sd E X l yX11_heir cX11_heir 5 (some .int) 6 0 0 0 0 6 r6) : Sd E X l yX11_heir cX11_heir 5 (some .int) 6 0 0 0 0 44 (kX11_heir_44 n r6) := s_iload_n dX11_heir_44 rfl (s_istore_n dX11_heir_45 rfl (s_iload dX11_heir_46 (s_istore_n dX11_heir_48 rfl (okX11_heir_49 hX n h6))))
def kX11_heir_6 (n : Nat) (r6 : mK) : mK := i_ldI 3 (i_cst (.int (8)) (i_c2 (fun x y => decide (y ≤ x)) (i_ldI 1 (i_rI)) (i_ldA 0 (i_gA 11 5 (i_ldI 3 (i_cV 8 1 (FX8_isIn n) (i_c0 (fun x => decide (x = 0)) (kX11_heir_49 n r6) (i_ldA 0 (i_gA 11 5 (i_ldI 3 (i_cV 8 1 (FX8_priceWithout n) (i_stI 4 (i_ldI 1 (i_cst (.int (-1)) (i_c2 (fun x y => decide (x = y)) (kX11_heir_44 n r6) (i_ldI 4 (i_ldI 2 (i_c2 (fun x y => decide (y ≤ x)) (kX11_heir_49 n r6) (kX11_heir_44 n r6)))))))))))))))))))
set_option maxRecDepth 20000 in
theorem okX11_heir_6 {E : mE} {X : State → Heap → Prop} {l : Launch} (hX : mXok E X) (n : Nat) {r6 : mK} (h6 : Sd E X l yX11_heir cX11_heir 5 (some .int) 6 0 0 0 0 6 r6) : Sd E X l yX11_heir cX11_heir 5 (some .int) 6 0 0 0 0 6 (kX11_heir_6 n r6) := s_iload_n dX11_heir_6 rfl (s_bipush dX11_heir_7 (by decide) (s_icge dX11_heir_9 (by decide) (s_iload_n dX11_heir_55 rfl (s_rI dX11_heir_56 (Nat.le_of_ble_eq_true rfl) (Nat.le_of_ble_eq_true rfl))) (s_aload_n dX11_heir_12 rfl (s_gA dX11_heir_13 lFX11_37 (s_iload_n dX11_heir_16 rfl (s_cV dX11_heir_17 lMX11_167 bVX8_isIn rfl (CtX8_isIn hX n) (Nat.le_of_ble_eq_true rfl) (s_ifeq dX11_heir_20 (by decide) (okX11_heir_49 hX n h6) (s_aload_n dX11_heir_23 rfl (s_gA dX11_heir_24 lFX11_37 (s_iload_n dX11_heir_27 rfl (s_cV dX11_heir_28 lMX11_311 bVX8_priceWithout rfl (CtX8_priceWithout hX n) (Nat.le_of_ble_eq_true rfl) (s_istore dX11_heir_31 (s_iload_n dX11_heir_33 rfl (s_iconst dX11_heir_34 (by decide) (s_iceq dX11_heir_35 (by decide) (okX11_heir_44 hX n h6) (s_iload dX11_heir_38 (s_iload_n dX11_heir_40 rfl (s_icge dX11_heir_41 (by decide) (okX11_heir_49 hX n h6) (okX11_heir_44 hX n h6)))))))) (Nat.le_of_ble_eq_true rfl) (Nat.le_of_ble_eq_true rfl)))))) (Nat.le_of_ble_eq_true rfl) (Nat.le_of_ble_eq_true rfl)))))))
def kX11_heir_0 (n : Nat) : mK := i_cst (.int (-1)) (i_stI 1 (i_cst (.int (0)) (i_stI 2 (i_cst (.int (0)) (i_stI 3 (mit (kX11_heir_6 n ) n))))))
set_option maxRecDepth 20000 in
theorem okX11_heir_0 {E : mE} {X : State → Heap → Prop} {l : Launch} (hX : mXok E X) (n : Nat) : Sd E X l yX11_heir cX11_heir 5 (some .int) 6 0 0 0 0 0 (kX11_heir_0 n) := s_iconst dX11_heir_0 (by decide) (s_istore_n dX11_heir_1 rfl (s_iconst dX11_heir_2 (by decide) (s_istore_n dX11_heir_3 rfl (s_iconst dX11_heir_4 (by decide) (s_istore_n dX11_heir_5 rfl (s_mit (fun _ hk => okX11_heir_6 hX n hk) n))))))
def FX11_heir (n : Nat) : List Value → mM → Option mR := mfn 5 (kX11_heir_0 n)
theorem CtX11_heir {E : mE} {X : State → Heap → Prop} {l : Launch} (hX : mXok E X) (n : Nat) : Ct E X l yX11_heir cX11_heir 5 (some .int) 6 0 0 (FX11_heir n) := Ct_of (by decide) hX (okX11_heir_0 hX n)
theorem dX11_law_0 : decode cX11_law 0 = .ok (.iload_n 1, 1) := by decide +kernel
theorem dX11_law_1 : decode cX11_law 1 = .ok (.invokestatic 194, 3) := by decide +kernel
theorem dX11_law_4 : decode cX11_law 4 = .ok (.ifCond .ne 5, 3) := by decide +kernel
theorem dX11_law_7 : decode cX11_law 7 = .ok (.iconst (-1), 1) := by decide +kernel
theorem dX11_law_8 : decode cX11_law 8 = .ok (.ireturn, 1) := by decide +kernel
theorem dX11_law_9 : decode cX11_law 9 = .ok (.aload_n 0, 1) := by decide +kernel
theorem dX11_law_10 : decode cX11_law 10 = .ok (.getfield 41, 3) := by decide +kernel
theorem dX11_law_13 : decode cX11_law 13 = .ok (.aload_n 0, 1) := by decide +kernel
theorem dX11_law_14 : decode cX11_law 14 = .ok (.getfield 37, 3) := by decide +kernel
theorem dX11_law_17 : decode cX11_law 17 = .ok (.invokevirtual 253, 3) := by decide +kernel
theorem dX11_law_20 : decode cX11_law 20 = .ok (.iconst 0, 1) := by decide +kernel
theorem dX11_law_21 : decode cX11_law 21 = .ok (.istore_n 2, 1) := by decide +kernel
theorem dX11_law_22 : decode cX11_law 22 = .ok (.iload_n 2, 1) := by decide +kernel
theorem dX11_law_23 : decode cX11_law 23 = .ok (.bipush 8, 2) := by decide +kernel
theorem dX11_law_25 : decode cX11_law 25 = .ok (.if_icmp .ge 21, 3) := by decide +kernel
theorem dX11_law_28 : decode cX11_law 28 = .ok (.aload_n 0, 1) := by decide +kernel
theorem dX11_law_29 : decode cX11_law 29 = .ok (.getfield 41, 3) := by decide +kernel
theorem dX11_law_32 : decode cX11_law 32 = .ok (.getfield 148, 3) := by decide +kernel
theorem dX11_law_35 : decode cX11_law 35 = .ok (.iload_n 2, 1) := by decide +kernel
theorem dX11_law_36 : decode cX11_law 36 = .ok (.iload_n 1, 1) := by decide +kernel
theorem dX11_law_37 : decode cX11_law 37 = .ok (.invokestatic 112, 3) := by decide +kernel
theorem dX11_law_40 : decode cX11_law 40 = .ok (.iinc 2 1, 3) := by decide +kernel
theorem dX11_law_43 : decode cX11_law 43 = .ok (.goto (-21), 3) := by decide +kernel
theorem dX11_law_46 : decode cX11_law 46 = .ok (.aload_n 0, 1) := by decide +kernel
theorem dX11_law_47 : decode cX11_law 47 = .ok (.getfield 41, 3) := by decide +kernel
theorem dX11_law_50 : decode cX11_law 50 = .ok (.invokevirtual 210, 3) := by decide +kernel
theorem dX11_law_53 : decode cX11_law 53 = .ok (.invokestatic 229, 3) := by decide +kernel
theorem dX11_law_56 : decode cX11_law 56 = .ok (.ireturn, 1) := by decide +kernel
def kX11_law_22 (n : Nat) (r22 : mK) : mK := i_ldI 2 (i_cst (.int (8)) (i_c2 (fun x y => decide (y ≤ x)) (i_ldA 0 (i_gA 11 6 (i_cV 8 0 (FX8_whoIsFree n) (i_cS 1 (FJ6_bitCount_0f7a4 n) (i_rI))))) (i_ldA 0 (i_gA 11 6 (i_gA 8 2 (i_ldI 2 (i_ldI 1 (i_cS 3 (FX11_set n) (i_inc 2 (1) (r22))))))))))
set_option maxRecDepth 20000 in
theorem okX11_law_22 {E : mE} {X : State → Heap → Prop} {l : Launch} (hX : mXok E X) (n : Nat) {r22 : mK} (h22 : Sd E X l yX11_law cX11_law 3 (some .int) 6 0 0 0 0 22 r22) : Sd E X l yX11_law cX11_law 3 (some .int) 6 0 0 0 0 22 (kX11_law_22 n r22) := s_iload_n dX11_law_22 rfl (s_bipush dX11_law_23 (by decide) (s_icge dX11_law_25 (by decide) (s_aload_n dX11_law_46 rfl (s_gA dX11_law_47 lFX11_41 (s_cV dX11_law_50 lMX11_210 bVX8_whoIsFree rfl (CtX8_whoIsFree hX n) (Nat.le_of_ble_eq_true rfl) (s_cS dX11_law_53 lMX11_229 bSJ6_bitCount_0f7a4 (CtJ6_bitCount_0f7a4 hX n) (Nat.le_of_ble_eq_true rfl) (s_rI dX11_law_56 (Nat.le_of_ble_eq_true rfl) (Nat.le_of_ble_eq_true rfl)) (Nat.le_of_ble_eq_true rfl) (Nat.le_of_ble_eq_true rfl)) (Nat.le_of_ble_eq_true rfl) (Nat.le_of_ble_eq_true rfl)))) (s_aload_n dX11_law_28 rfl (s_gA dX11_law_29 lFX11_41 (s_gA dX11_law_32 lFX11_148 (s_iload_n dX11_law_35 rfl (s_iload_n dX11_law_36 rfl (s_cS dX11_law_37 lMX11_112 bSX11_set (CtX11_set hX n) (Nat.le_of_ble_eq_true rfl) (s_iinc dX11_law_40 (by decide) (s_goto dX11_law_43 (by decide) h22)) (Nat.le_of_ble_eq_true rfl) (Nat.le_of_ble_eq_true rfl)))))))))
def kX11_law_0 (n : Nat) : mK := i_ldI 1 (i_cS 1 (FX11_isHeading n) (i_c0 (fun x => decide (¬ x = 0)) (i_ldA 0 (i_gA 11 6 (i_ldA 0 (i_gA 11 5 (i_cV 8 1 (FX8_copyFrom n) (i_cst (.int (0)) (i_stI 2 (mit (kX11_law_22 n ) n)))))))) (i_cst (.int (-1)) (i_rI))))
set_option maxRecDepth 20000 in
theorem okX11_law_0 {E : mE} {X : State → Heap → Prop} {l : Launch} (hX : mXok E X) (n : Nat) : Sd E X l yX11_law cX11_law 3 (some .int) 6 0 0 0 0 0 (kX11_law_0 n) := s_iload_n dX11_law_0 rfl (s_cS dX11_law_1 lMX11_194 bSX11_isHeading (CtX11_isHeading hX n) (Nat.le_of_ble_eq_true rfl) (s_ifne dX11_law_4 (by decide) (s_aload_n dX11_law_9 rfl (s_gA dX11_law_10 lFX11_41 (s_aload_n dX11_law_13 rfl (s_gA dX11_law_14 lFX11_37 (s_cV dX11_law_17 lMX11_253 bVX8_copyFrom rfl (CtX8_copyFrom hX n) (Nat.le_of_ble_eq_true rfl) (s_iconst dX11_law_20 (by decide) (s_istore_n dX11_law_21 rfl (s_mit (fun _ hk => okX11_law_22 hX n hk) n))) (Nat.le_of_ble_eq_true rfl) (Nat.le_of_ble_eq_true rfl)))))) (s_iconst dX11_law_7 (by decide) (s_rI dX11_law_8 (Nat.le_of_ble_eq_true rfl) (Nat.le_of_ble_eq_true rfl)))) (Nat.le_of_ble_eq_true rfl) (Nat.le_of_ble_eq_true rfl))
def FX11_law (n : Nat) : List Value → mM → Option mR := mfn 3 (kX11_law_0 n)
theorem CtX11_law {E : mE} {X : State → Heap → Prop} {l : Launch} (hX : mXok E X) (n : Nat) : Ct E X l yX11_law cX11_law 3 (some .int) 6 0 0 (FX11_law n) := Ct_of (by decide) hX (okX11_law_0 hX n)
theorem dX11_let_0 : decode cX11_let 0 = .ok (.aload_n 0, 1) := by decide +kernel
theorem dX11_let_1 : decode cX11_let 1 = .ok (.getfield 37, 3) := by decide +kernel
theorem dX11_let_4 : decode cX11_let 4 = .ok (.iload_n 1, 1) := by decide +kernel
theorem dX11_let_5 : decode cX11_let 5 = .ok (.invokevirtual 167, 3) := by decide +kernel
theorem dX11_let_8 : decode cX11_let 8 = .ok (.ifCond .eq 22, 3) := by decide +kernel
theorem dX11_let_11 : decode cX11_let 11 = .ok (.aload_n 0, 1) := by decide +kernel
theorem dX11_let_12 : decode cX11_let 12 = .ok (.getfield 37, 3) := by decide +kernel
theorem dX11_let_15 : decode cX11_let 15 = .ok (.iload_n 1, 1) := by decide +kernel
theorem dX11_let_16 : decode cX11_let 16 = .ok (.invokevirtual 157, 3) := by decide +kernel
theorem dX11_let_19 : decode cX11_let 19 = .ok (.ifCond .ne 11, 3) := by decide +kernel
theorem dX11_let_22 : decode cX11_let 22 = .ok (.aload_n 0, 1) := by decide +kernel
theorem dX11_let_23 : decode cX11_let 23 = .ok (.iload_n 1, 1) := by decide +kernel
theorem dX11_let_24 : decode cX11_let 24 = .ok (.invokevirtual 191, 3) := by decide +kernel
theorem dX11_let_27 : decode cX11_let 27 = .ok (.goto 4, 3) := by decide +kernel
theorem dX11_let_30 : decode cX11_let 30 = .ok (.iconst (-1), 1) := by decide +kernel
theorem dX11_let_31 : decode cX11_let 31 = .ok (.ireturn, 1) := by decide +kernel
def kX11_let_31 (n : Nat) : mK := i_rI
set_option maxRecDepth 20000 in
theorem okX11_let_31 {E : mE} {X : State → Heap → Prop} {l : Launch} (hX : mXok E X) (n : Nat) : Sd E X l yX11_let cX11_let 2 (some .int) 6 0 0 0 0 31 (kX11_let_31 n) := s_rI dX11_let_31 (Nat.le_of_ble_eq_true rfl) (Nat.le_of_ble_eq_true rfl)
def kX11_let_30 (n : Nat) : mK := i_cst (.int (-1)) (kX11_let_31 n)
set_option maxRecDepth 20000 in
theorem okX11_let_30 {E : mE} {X : State → Heap → Prop} {l : Launch} (hX : mXok E X) (n : Nat) : Sd E X l yX11_let cX11_let 2 (some .int) 6 0 0 0 0 30 (kX11_let_30 n) := s_iconst dX11_let_30 (by decide) (okX11_let_31 hX n)
def kX11_let_0 (n : Nat) : mK := i_ldA 0 (i_gA 11 5 (i_ldI 1 (i_cV 8 1 (FX8_isIn n) (i_c0 (fun x => decide (x = 0)) (kX11_let_30 n) (i_ldA 0 (i_gA 11 5 (i_ldI 1 (i_cV 8 1 (FX8_whoBars n) (i_c0 (fun x => decide (¬ x = 0)) (kX11_let_30 n) (i_ldA 0 (i_ldI 1 (i_cV 11 1 (FX11_takeOff n) ((kX11_let_31 n))))))))))))))
set_option maxRecDepth 20000 in
theorem okX11_let_0 {E : mE} {X : State → Heap → Prop} {l : Launch} (hX : mXok E X) (n : Nat) : Sd E X l yX11_let cX11_let 2 (some .int) 6 0 0 0 0 0 (kX11_let_0 n) := s_aload_n dX11_let_0 rfl (s_gA dX11_let_1 lFX11_37 (s_iload_n dX11_let_4 rfl (s_cV dX11_let_5 lMX11_167 bVX8_isIn rfl (CtX8_isIn hX n) (Nat.le_of_ble_eq_true rfl) (s_ifeq dX11_let_8 (by decide) (okX11_let_30 hX n) (s_aload_n dX11_let_11 rfl (s_gA dX11_let_12 lFX11_37 (s_iload_n dX11_let_15 rfl (s_cV dX11_let_16 lMX11_157 bVX8_whoBars rfl (CtX8_whoBars hX n) (Nat.le_of_ble_eq_true rfl) (s_ifne dX11_let_19 (by decide) (okX11_let_30 hX n) (s_aload_n dX11_let_22 rfl (s_iload_n dX11_let_23 rfl (s_cV dX11_let_24 lMX11_191 bVX11_takeOff rfl (CtX11_takeOff hX n) (Nat.le_of_ble_eq_true rfl) (s_goto dX11_let_27 (by decide) (okX11_let_31 hX n)) (Nat.le_of_ble_eq_true rfl) (Nat.le_of_ble_eq_true rfl))))) (Nat.le_of_ble_eq_true rfl) (Nat.le_of_ble_eq_true rfl)))))) (Nat.le_of_ble_eq_true rfl) (Nat.le_of_ble_eq_true rfl))))
def FX11_let (n : Nat) : List Value → mM → Option mR := mfn 2 (kX11_let_0 n)
theorem CtX11_let {E : mE} {X : State → Heap → Prop} {l : Launch} (hX : mXok E X) (n : Nat) : Ct E X l yX11_let cX11_let 2 (some .int) 6 0 0 (FX11_let n) := Ct_of (by decide) hX (okX11_let_0 hX n)
theorem dX11_loose_0 : decode cX11_loose 0 = .ok (.aload_n 0, 1) := by decide +kernel
theorem dX11_loose_1 : decode cX11_loose 1 = .ok (.getfield 49, 3) := by decide +kernel
theorem dX11_loose_4 : decode cX11_loose 4 = .ok (.invokevirtual 213, 3) := by decide +kernel
theorem dX11_loose_7 : decode cX11_loose 7 = .ok (.aload_n 0, 1) := by decide +kernel
theorem dX11_loose_8 : decode cX11_loose 8 = .ok (.getfield 49, 3) := by decide +kernel
theorem dX11_loose_11 : decode cX11_loose 11 = .ok (.getfield 216, 3) := by decide +kernel
theorem dX11_loose_14 : decode cX11_loose 14 = .ok (.invokestatic 229, 3) := by decide +kernel
theorem dX11_loose_17 : decode cX11_loose 17 = .ok (.aload_n 0, 1) := by decide +kernel
theorem dX11_loose_18 : decode cX11_loose 18 = .ok (.getfield 49, 3) := by decide +kernel
theorem dX11_loose_21 : decode cX11_loose 21 = .ok (.aload_n 0, 1) := by decide +kernel
theorem dX11_loose_22 : decode cX11_loose 22 = .ok (.getfield 49, 3) := by decide +kernel
theorem dX11_loose_25 : decode cX11_loose 25 = .ok (.getfield 216, 3) := by decide +kernel
theorem dX11_loose_28 : decode cX11_loose 28 = .ok (.invokevirtual 219, 3) := by decide +kernel
theorem dX11_loose_31 : decode cX11_loose 31 = .ok (.invokestatic 229, 3) := by decide +kernel
theorem dX11_loose_34 : decode cX11_loose 34 = .ok (.isub, 1) := by decide +kernel
theorem dX11_loose_35 : decode cX11_loose 35 = .ok (.ireturn, 1) := by decide +kernel
def kX11_loose_0 (n : Nat) : mK := i_ldA 0 (i_gA 11 7 (i_cV 0 0 (FX0_look n) (i_ldA 0 (i_gA 11 7 (i_gI 0 2 (i_cS 1 (FJ6_bitCount_0f7a4 n) (i_ldA 0 (i_gA 11 7 (i_ldA 0 (i_gA 11 7 (i_gI 0 2 (i_cV 0 1 (FX0_stuckOf n) (i_cS 1 (FJ6_bitCount_0f7a4 n) (i_bin (fun x y => x - y) (i_rI)))))))))))))))
set_option maxRecDepth 20000 in
theorem okX11_loose_0 {E : mE} {X : State → Heap → Prop} {l : Launch} (hX : mXok E X) (n : Nat) : Sd E X l yX11_loose cX11_loose 1 (some .int) 6 0 0 0 0 0 (kX11_loose_0 n) := s_aload_n dX11_loose_0 rfl (s_gA dX11_loose_1 lFX11_49 (s_cV dX11_loose_4 lMX11_213 bVX0_look rfl (CtX0_look hX n) (Nat.le_of_ble_eq_true rfl) (s_aload_n dX11_loose_7 rfl (s_gA dX11_loose_8 lFX11_49 (s_gI dX11_loose_11 lFX11_216 (by decide) (s_cS dX11_loose_14 lMX11_229 bSJ6_bitCount_0f7a4 (CtJ6_bitCount_0f7a4 hX n) (Nat.le_of_ble_eq_true rfl) (s_aload_n dX11_loose_17 rfl (s_gA dX11_loose_18 lFX11_49 (s_aload_n dX11_loose_21 rfl (s_gA dX11_loose_22 lFX11_49 (s_gI dX11_loose_25 lFX11_216 (by decide) (s_cV dX11_loose_28 lMX11_219 bVX0_stuckOf rfl (CtX0_stuckOf hX n) (Nat.le_of_ble_eq_true rfl) (s_cS dX11_loose_31 lMX11_229 bSJ6_bitCount_0f7a4 (CtJ6_bitCount_0f7a4 hX n) (Nat.le_of_ble_eq_true rfl) (s_isub dX11_loose_34 (s_rI dX11_loose_35 (Nat.le_of_ble_eq_true rfl) (Nat.le_of_ble_eq_true rfl))) (Nat.le_of_ble_eq_true rfl) (Nat.le_of_ble_eq_true rfl)) (Nat.le_of_ble_eq_true rfl) (Nat.le_of_ble_eq_true rfl))))))) (Nat.le_of_ble_eq_true rfl) (Nat.le_of_ble_eq_true rfl))))) (Nat.le_of_ble_eq_true rfl) (Nat.le_of_ble_eq_true rfl)))
def FX11_loose (n : Nat) : List Value → mM → Option mR := mfn 1 (kX11_loose_0 n)
theorem CtX11_loose {E : mE} {X : State → Heap → Prop} {l : Launch} (hX : mXok E X) (n : Nat) : Ct E X l yX11_loose cX11_loose 1 (some .int) 6 0 0 (FX11_loose n) := Ct_of (by decide) hX (okX11_loose_0 hX n)
theorem dX11_lot_0 : decode cX11_lot 0 = .ok (.aload_n 0, 1) := by decide +kernel
theorem dX11_lot_1 : decode cX11_lot 1 = .ok (.iload_n 1, 1) := by decide +kernel
theorem dX11_lot_2 : decode cX11_lot 2 = .ok (.invokevirtual 197, 3) := by decide +kernel
theorem dX11_lot_5 : decode cX11_lot 5 = .ok (.ifCond .ne 5, 3) := by decide +kernel
theorem dX11_lot_8 : decode cX11_lot 8 = .ok (.iconst (-1), 1) := by decide +kernel
theorem dX11_lot_9 : decode cX11_lot 9 = .ok (.ireturn, 1) := by decide +kernel
theorem dX11_lot_10 : decode cX11_lot 10 = .ok (.aload_n 0, 1) := by decide +kernel
theorem dX11_lot_11 : decode cX11_lot 11 = .ok (.getfield 41, 3) := by decide +kernel
theorem dX11_lot_14 : decode cX11_lot 14 = .ok (.aload_n 0, 1) := by decide +kernel
theorem dX11_lot_15 : decode cX11_lot 15 = .ok (.getfield 37, 3) := by decide +kernel
theorem dX11_lot_18 : decode cX11_lot 18 = .ok (.invokevirtual 253, 3) := by decide +kernel
theorem dX11_lot_21 : decode cX11_lot 21 = .ok (.iconst (-1), 1) := by decide +kernel
theorem dX11_lot_22 : decode cX11_lot 22 = .ok (.istore_n 2, 1) := by decide +kernel
theorem dX11_lot_23 : decode cX11_lot 23 = .ok (.iconst (-1), 1) := by decide +kernel
theorem dX11_lot_24 : decode cX11_lot 24 = .ok (.istore_n 3, 1) := by decide +kernel
theorem dX11_lot_25 : decode cX11_lot 25 = .ok (.iconst 0, 1) := by decide +kernel
theorem dX11_lot_26 : decode cX11_lot 26 = .ok (.istore 4, 2) := by decide +kernel
theorem dX11_lot_28 : decode cX11_lot 28 = .ok (.iload 4, 2) := by decide +kernel
theorem dX11_lot_30 : decode cX11_lot 30 = .ok (.bipush 64, 2) := by decide +kernel
theorem dX11_lot_32 : decode cX11_lot 32 = .ok (.if_icmp .ge 71, 3) := by decide +kernel
theorem dX11_lot_35 : decode cX11_lot 35 = .ok (.aload_n 0, 1) := by decide +kernel
theorem dX11_lot_36 : decode cX11_lot 36 = .ok (.getfield 16, 3) := by decide +kernel
theorem dX11_lot_39 : decode cX11_lot 39 = .ok (.iload 4, 2) := by decide +kernel
theorem dX11_lot_41 : decode cX11_lot 41 = .ok (.invokevirtual 200, 3) := by decide +kernel
theorem dX11_lot_44 : decode cX11_lot 44 = .ok (.ifCond .eq 53, 3) := by decide +kernel
theorem dX11_lot_47 : decode cX11_lot 47 = .ok (.aload_n 0, 1) := by decide +kernel
theorem dX11_lot_48 : decode cX11_lot 48 = .ok (.getfield 37, 3) := by decide +kernel
theorem dX11_lot_51 : decode cX11_lot 51 = .ok (.iload 4, 2) := by decide +kernel
theorem dX11_lot_53 : decode cX11_lot 53 = .ok (.invokevirtual 164, 3) := by decide +kernel
theorem dX11_lot_56 : decode cX11_lot 56 = .ok (.iconst (-1), 1) := by decide +kernel
theorem dX11_lot_57 : decode cX11_lot 57 = .ok (.if_icmp .ne 40, 3) := by decide +kernel
theorem dX11_lot_60 : decode cX11_lot 60 = .ok (.aload_n 0, 1) := by decide +kernel
theorem dX11_lot_61 : decode cX11_lot 61 = .ok (.getfield 41, 3) := by decide +kernel
theorem dX11_lot_64 : decode cX11_lot 64 = .ok (.getfield 141, 3) := by decide +kernel
theorem dX11_lot_67 : decode cX11_lot 67 = .ok (.iload_n 1, 1) := by decide +kernel
theorem dX11_lot_68 : decode cX11_lot 68 = .ok (.iload 4, 2) := by decide +kernel
theorem dX11_lot_70 : decode cX11_lot 70 = .ok (.invokestatic 112, 3) := by decide +kernel
theorem dX11_lot_73 : decode cX11_lot 73 = .ok (.aload_n 0, 1) := by decide +kernel
theorem dX11_lot_74 : decode cX11_lot 74 = .ok (.getfield 41, 3) := by decide +kernel
theorem dX11_lot_77 : decode cX11_lot 77 = .ok (.invokevirtual 210, 3) := by decide +kernel
theorem dX11_lot_80 : decode cX11_lot 80 = .ok (.invokestatic 229, 3) := by decide +kernel
theorem dX11_lot_83 : decode cX11_lot 83 = .ok (.istore 5, 2) := by decide +kernel
theorem dX11_lot_85 : decode cX11_lot 85 = .ok (.iload 5, 2) := by decide +kernel
theorem dX11_lot_87 : decode cX11_lot 87 = .ok (.iload_n 3, 1) := by decide +kernel
theorem dX11_lot_88 : decode cX11_lot 88 = .ok (.if_icmp .le 9, 3) := by decide +kernel
theorem dX11_lot_91 : decode cX11_lot 91 = .ok (.iload 4, 2) := by decide +kernel
theorem dX11_lot_93 : decode cX11_lot 93 = .ok (.istore_n 2, 1) := by decide +kernel
theorem dX11_lot_94 : decode cX11_lot 94 = .ok (.iload 5, 2) := by decide +kernel
theorem dX11_lot_96 : decode cX11_lot 96 = .ok (.istore_n 3, 1) := by decide +kernel
theorem dX11_lot_97 : decode cX11_lot 97 = .ok (.iinc 4 1, 3) := by decide +kernel
theorem dX11_lot_100 : decode cX11_lot 100 = .ok (.goto (-72), 3) := by decide +kernel
theorem dX11_lot_103 : decode cX11_lot 103 = .ok (.iload_n 2, 1) := by decide +kernel
theorem dX11_lot_104 : decode cX11_lot 104 = .ok (.ireturn, 1) := by decide +kernel
def kX11_lot_97 (n : Nat) (r28 : mK) : mK := i_inc 4 (1) (r28)
set_option maxRecDepth 20000 in
theorem okX11_lot_97 {E : mE} {X : State → Heap → Prop} {l : Launch} (hX : mXok E X) (n : Nat) {r28 : mK} (h28 : Sd E X l yX11_lot cX11_lot 6 (some .int) 6 0 0 0 0 28 r28) : Sd E X l yX11_lot cX11_lot 6 (some .int) 6 0 0 0 0 97 (kX11_lot_97 n r28) := s_iinc dX11_lot_97 (by decide) (s_goto dX11_lot_100 (by decide) h28)
def kX11_lot_83 (n : Nat) (r28 : mK) : mK := i_stI 5 (i_ldI 5 (i_ldI 3 (i_c2 (fun x y => decide (x ≤ y)) (kX11_lot_97 n r28) (i_ldI 4 (i_stI 2 (i_ldI 5 (i_stI 3 (kX11_lot_97 n r28))))))))
set_option maxRecDepth 20000 in
theorem okX11_lot_83 {E : mE} {X : State → Heap → Prop} {l : Launch} (hX : mXok E X) (n : Nat) {r28 : mK} (h28 : Sd E X l yX11_lot cX11_lot 6 (some .int) 6 0 0 0 0 28 r28) : Sd E X l yX11_lot cX11_lot 6 (some .int) 6 0 0 0 0 83 (kX11_lot_83 n r28) := s_istore dX11_lot_83 (s_iload dX11_lot_85 (s_iload_n dX11_lot_87 rfl (s_icle dX11_lot_88 (by decide) (okX11_lot_97 hX n h28) (s_iload dX11_lot_91 (s_istore_n dX11_lot_93 rfl (s_iload dX11_lot_94 (s_istore_n dX11_lot_96 rfl (okX11_lot_97 hX n h28))))))))
def kX11_lot_28 (n : Nat) (r28 : mK) : mK := i_ldI 4 (i_cst (.int (64)) (i_c2 (fun x y => decide (y ≤ x)) (i_ldI 2 (i_rI)) (i_ldA 0 (i_gA 11 2 (i_ldI 4 (i_cV 4 1 (FX4_hasCell n) (i_c0 (fun x => decide (x = 0)) (kX11_lot_97 n r28) (i_ldA 0 (i_gA 11 5 (i_ldI 4 (i_cV 8 1 (FX8_whoIsAt n) (i_cst (.int (-1)) (i_c2 (fun x y => decide (¬ x = y)) (kX11_lot_97 n r28) (i_ldA 0 (i_gA 11 6 (i_gA 8 1 (i_ldI 1 (i_ldI 4 (i_cS 3 (FX11_set n) (i_ldA 0 (i_gA 11 6 (i_cV 8 0 (FX8_whoIsFree n) (i_cS 1 (FJ6_bitCount_0f7a4 n) (kX11_lot_83 n r28))))))))))))))))))))))))
set_option maxRecDepth 20000 in
theorem okX11_lot_28 {E : mE} {X : State → Heap → Prop} {l : Launch} (hX : mXok E X) (n : Nat) {r28 : mK} (h28 : Sd E X l yX11_lot cX11_lot 6 (some .int) 6 0 0 0 0 28 r28) : Sd E X l yX11_lot cX11_lot 6 (some .int) 6 0 0 0 0 28 (kX11_lot_28 n r28) := s_iload dX11_lot_28 (s_bipush dX11_lot_30 (by decide) (s_icge dX11_lot_32 (by decide) (s_iload_n dX11_lot_103 rfl (s_rI dX11_lot_104 (Nat.le_of_ble_eq_true rfl) (Nat.le_of_ble_eq_true rfl))) (s_aload_n dX11_lot_35 rfl (s_gA dX11_lot_36 lFX11_16 (s_iload dX11_lot_39 (s_cV dX11_lot_41 lMX11_200 bVX4_hasCell rfl (CtX4_hasCell hX n) (Nat.le_of_ble_eq_true rfl) (s_ifeq dX11_lot_44 (by decide) (okX11_lot_97 hX n h28) (s_aload_n dX11_lot_47 rfl (s_gA dX11_lot_48 lFX11_37 (s_iload dX11_lot_51 (s_cV dX11_lot_53 lMX11_164 bVX8_whoIsAt rfl (CtX8_whoIsAt hX n) (Nat.le_of_ble_eq_true rfl) (s_iconst dX11_lot_56 (by decide) (s_icne dX11_lot_57 (by decide) (okX11_lot_97 hX n h28) (s_aload_n dX11_lot_60 rfl (s_gA dX11_lot_61 lFX11_41 (s_gA dX11_lot_64 lFX11_141 (s_iload_n dX11_lot_67 rfl (s_iload dX11_lot_68 (s_cS dX11_lot_70 lMX11_112 bSX11_set (CtX11_set hX n) (Nat.le_of_ble_eq_true rfl) (s_aload_n dX11_lot_73 rfl (s_gA dX11_lot_74 lFX11_41 (s_cV dX11_lot_77 lMX11_210 bVX8_whoIsFree rfl (CtX8_whoIsFree hX n) (Nat.le_of_ble_eq_true rfl) (s_cS dX11_lot_80 lMX11_229 bSJ6_bitCount_0f7a4 (CtJ6_bitCount_0f7a4 hX n) (Nat.le_of_ble_eq_true rfl) (okX11_lot_83 hX n h28) (Nat.le_of_ble_eq_true rfl) (Nat.le_of_ble_eq_true rfl)) (Nat.le_of_ble_eq_true rfl) (Nat.le_of_ble_eq_true rfl)))) (Nat.le_of_ble_eq_true rfl) (Nat.le_of_ble_eq_true rfl))))))))) (Nat.le_of_ble_eq_true rfl) (Nat.le_of_ble_eq_true rfl)))))) (Nat.le_of_ble_eq_true rfl) (Nat.le_of_ble_eq_true rfl)))))))
def kX11_lot_0 (n : Nat) : mK := i_ldA 0 (i_ldI 1 (i_cV 11 1 (FX11_isOff n) (i_c0 (fun x => decide (¬ x = 0)) (i_ldA 0 (i_gA 11 6 (i_ldA 0 (i_gA 11 5 (i_cV 8 1 (FX8_copyFrom n) (i_cst (.int (-1)) (i_stI 2 (i_cst (.int (-1)) (i_stI 3 (i_cst (.int (0)) (i_stI 4 (mit (kX11_lot_28 n ) n)))))))))))) (i_cst (.int (-1)) (i_rI)))))
set_option maxRecDepth 20000 in
theorem okX11_lot_0 {E : mE} {X : State → Heap → Prop} {l : Launch} (hX : mXok E X) (n : Nat) : Sd E X l yX11_lot cX11_lot 6 (some .int) 6 0 0 0 0 0 (kX11_lot_0 n) := s_aload_n dX11_lot_0 rfl (s_iload_n dX11_lot_1 rfl (s_cV dX11_lot_2 lMX11_197 bVX11_isOff rfl (CtX11_isOff hX n) (Nat.le_of_ble_eq_true rfl) (s_ifne dX11_lot_5 (by decide) (s_aload_n dX11_lot_10 rfl (s_gA dX11_lot_11 lFX11_41 (s_aload_n dX11_lot_14 rfl (s_gA dX11_lot_15 lFX11_37 (s_cV dX11_lot_18 lMX11_253 bVX8_copyFrom rfl (CtX8_copyFrom hX n) (Nat.le_of_ble_eq_true rfl) (s_iconst dX11_lot_21 (by decide) (s_istore_n dX11_lot_22 rfl (s_iconst dX11_lot_23 (by decide) (s_istore_n dX11_lot_24 rfl (s_iconst dX11_lot_25 (by decide) (s_istore dX11_lot_26 (s_mit (fun _ hk => okX11_lot_28 hX n hk) n))))))) (Nat.le_of_ble_eq_true rfl) (Nat.le_of_ble_eq_true rfl)))))) (s_iconst dX11_lot_8 (by decide) (s_rI dX11_lot_9 (Nat.le_of_ble_eq_true rfl) (Nat.le_of_ble_eq_true rfl)))) (Nat.le_of_ble_eq_true rfl) (Nat.le_of_ble_eq_true rfl)))
def FX11_lot (n : Nat) : List Value → mM → Option mR := mfn 6 (kX11_lot_0 n)
theorem CtX11_lot {E : mE} {X : State → Heap → Prop} {l : Launch} (hX : mXok E X) (n : Nat) : Ct E X l yX11_lot cX11_lot 6 (some .int) 6 0 0 (FX11_lot n) := Ct_of (by decide) hX (okX11_lot_0 hX n)
theorem dX11_order_0 : decode cX11_order 0 = .ok (.aload_n 0, 1) := by decide +kernel
theorem dX11_order_1 : decode cX11_order 1 = .ok (.getfield 84, 3) := by decide +kernel
theorem dX11_order_4 : decode cX11_order 4 = .ok (.invokevirtual 126, 3) := by decide +kernel
theorem dX11_order_7 : decode cX11_order 7 = .ok (.aload_n 0, 1) := by decide +kernel
theorem dX11_order_8 : decode cX11_order 8 = .ok (.getfield 49, 3) := by decide +kernel
theorem dX11_order_11 : decode cX11_order 11 = .ok (.invokevirtual 213, 3) := by decide +kernel
theorem dX11_order_14 : decode cX11_order 14 = .ok (.aload_n 0, 1) := by decide +kernel
theorem dX11_order_15 : decode cX11_order 15 = .ok (.getfield 49, 3) := by decide +kernel
theorem dX11_order_18 : decode cX11_order 18 = .ok (.aload_n 0, 1) := by decide +kernel
theorem dX11_order_19 : decode cX11_order 19 = .ok (.getfield 49, 3) := by decide +kernel
theorem dX11_order_22 : decode cX11_order 22 = .ok (.getfield 216, 3) := by decide +kernel
theorem dX11_order_25 : decode cX11_order 25 = .ok (.invokevirtual 219, 3) := by decide +kernel
theorem dX11_order_28 : decode cX11_order 28 = .ok (.ifCond .eq 5, 3) := by decide +kernel
theorem dX11_order_31 : decode cX11_order 31 = .ok (.iconst (-1), 1) := by decide +kernel
theorem dX11_order_32 : decode cX11_order 32 = .ok (.ireturn, 1) := by decide +kernel
theorem dX11_order_33 : decode cX11_order 33 = .ok (.aload_n 0, 1) := by decide +kernel
theorem dX11_order_34 : decode cX11_order 34 = .ok (.getfield 49, 3) := by decide +kernel
theorem dX11_order_37 : decode cX11_order 37 = .ok (.aload_n 0, 1) := by decide +kernel
theorem dX11_order_38 : decode cX11_order 38 = .ok (.getfield 84, 3) := by decide +kernel
theorem dX11_order_41 : decode cX11_order 41 = .ok (.invokevirtual 222, 3) := by decide +kernel
theorem dX11_order_44 : decode cX11_order 44 = .ok (.aload_n 0, 1) := by decide +kernel
theorem dX11_order_45 : decode cX11_order 45 = .ok (.getfield 84, 3) := by decide +kernel
theorem dX11_order_48 : decode cX11_order 48 = .ok (.getfield 226, 3) := by decide +kernel
theorem dX11_order_51 : decode cX11_order 51 = .ok (.ireturn, 1) := by decide +kernel
def kX11_order_0 (n : Nat) : mK := i_ldA 0 (i_gA 11 12 (i_cV 6 0 (FX6_clear n) (i_ldA 0 (i_gA 11 7 (i_cV 0 0 (FX0_look n) (i_ldA 0 (i_gA 11 7 (i_ldA 0 (i_gA 11 7 (i_gI 0 2 (i_cV 0 1 (FX0_stuckOf n) (i_c0 (fun x => decide (x = 0)) (i_ldA 0 (i_gA 11 7 (i_ldA 0 (i_gA 11 12 (i_cV 0 1 (FX0_layOrder n) (i_ldA 0 (i_gA 11 12 (i_gI 6 1 (i_rI))))))))) (i_cst (.int (-1)) (i_rI))))))))))))))
set_option maxRecDepth 20000 in
theorem okX11_order_0 {E : mE} {X : State → Heap → Prop} {l : Launch} (hX : mXok E X) (n : Nat) : Sd E X l yX11_order cX11_order 1 (some .int) 6 0 0 0 0 0 (kX11_order_0 n) := s_aload_n dX11_order_0 rfl (s_gA dX11_order_1 lFX11_84 (s_cV dX11_order_4 lMX11_126 bVX6_clear rfl (CtX6_clear hX n) (Nat.le_of_ble_eq_true rfl) (s_aload_n dX11_order_7 rfl (s_gA dX11_order_8 lFX11_49 (s_cV dX11_order_11 lMX11_213 bVX0_look rfl (CtX0_look hX n) (Nat.le_of_ble_eq_true rfl) (s_aload_n dX11_order_14 rfl (s_gA dX11_order_15 lFX11_49 (s_aload_n dX11_order_18 rfl (s_gA dX11_order_19 lFX11_49 (s_gI dX11_order_22 lFX11_216 (by decide) (s_cV dX11_order_25 lMX11_219 bVX0_stuckOf rfl (CtX0_stuckOf hX n) (Nat.le_of_ble_eq_true rfl) (s_ifeq dX11_order_28 (by decide) (s_aload_n dX11_order_33 rfl (s_gA dX11_order_34 lFX11_49 (s_aload_n dX11_order_37 rfl (s_gA dX11_order_38 lFX11_84 (s_cV dX11_order_41 lMX11_222 bVX0_layOrder rfl (CtX0_layOrder hX n) (Nat.le_of_ble_eq_true rfl) (s_aload_n dX11_order_44 rfl (s_gA dX11_order_45 lFX11_84 (s_gI dX11_order_48 lFX11_226 (by decide) (s_rI dX11_order_51 (Nat.le_of_ble_eq_true rfl) (Nat.le_of_ble_eq_true rfl))))) (Nat.le_of_ble_eq_true rfl) (Nat.le_of_ble_eq_true rfl)))))) (s_iconst dX11_order_31 (by decide) (s_rI dX11_order_32 (Nat.le_of_ble_eq_true rfl) (Nat.le_of_ble_eq_true rfl)))) (Nat.le_of_ble_eq_true rfl) (Nat.le_of_ble_eq_true rfl))))))) (Nat.le_of_ble_eq_true rfl) (Nat.le_of_ble_eq_true rfl)))) (Nat.le_of_ble_eq_true rfl) (Nat.le_of_ble_eq_true rfl)))
def FX11_order (n : Nat) : List Value → mM → Option mR := mfn 1 (kX11_order_0 n)
theorem CtX11_order {E : mE} {X : State → Heap → Prop} {l : Launch} (hX : mXok E X) (n : Nat) : Ct E X l yX11_order cX11_order 1 (some .int) 6 0 0 (FX11_order n) := Ct_of (by decide) hX (okX11_order_0 hX n)
theorem dX11_price_0 : decode cX11_price 0 = .ok (.aload_n 0, 1) := by decide +kernel
theorem dX11_price_1 : decode cX11_price 1 = .ok (.getfield 37, 3) := by decide +kernel
theorem dX11_price_4 : decode cX11_price 4 = .ok (.invokevirtual 272, 3) := by decide +kernel
theorem dX11_price_7 : decode cX11_price 7 = .ok (.ireturn, 1) := by decide +kernel
def kX11_price_0 (n : Nat) : mK := i_ldA 0 (i_gA 11 5 (i_cV 8 0 (FX8_priceOfAll n) (i_rI)))
set_option maxRecDepth 20000 in
theorem okX11_price_0 {E : mE} {X : State → Heap → Prop} {l : Launch} (hX : mXok E X) (n : Nat) : Sd E X l yX11_price cX11_price 1 (some .int) 6 0 0 0 0 0 (kX11_price_0 n) := s_aload_n dX11_price_0 rfl (s_gA dX11_price_1 lFX11_37 (s_cV dX11_price_4 lMX11_272 bVX8_priceOfAll rfl (CtX8_priceOfAll hX n) (Nat.le_of_ble_eq_true rfl) (s_rI dX11_price_7 (Nat.le_of_ble_eq_true rfl) (Nat.le_of_ble_eq_true rfl)) (Nat.le_of_ble_eq_true rfl) (Nat.le_of_ble_eq_true rfl)))
def FX11_price (n : Nat) : List Value → mM → Option mR := mfn 1 (kX11_price_0 n)
theorem CtX11_price {E : mE} {X : State → Heap → Prop} {l : Launch} (hX : mXok E X) (n : Nat) : Ct E X l yX11_price cX11_price 1 (some .int) 6 0 0 (FX11_price n) := Ct_of (by decide) hX (okX11_price_0 hX n)
theorem dX11_reach_0 : decode cX11_reach 0 = .ok (.aload_n 0, 1) := by decide +kernel
theorem dX11_reach_1 : decode cX11_reach 1 = .ok (.getfield 16, 3) := by decide +kernel
theorem dX11_reach_4 : decode cX11_reach 4 = .ok (.iload_n 1, 1) := by decide +kernel
theorem dX11_reach_5 : decode cX11_reach 5 = .ok (.invokevirtual 200, 3) := by decide +kernel
theorem dX11_reach_8 : decode cX11_reach 8 = .ok (.ifCond .ne 5, 3) := by decide +kernel
theorem dX11_reach_11 : decode cX11_reach 11 = .ok (.iconst (-1), 1) := by decide +kernel
theorem dX11_reach_12 : decode cX11_reach 12 = .ok (.ireturn, 1) := by decide +kernel
theorem dX11_reach_13 : decode cX11_reach 13 = .ok (.aload_n 0, 1) := by decide +kernel
theorem dX11_reach_14 : decode cX11_reach 14 = .ok (.getfield 56, 3) := by decide +kernel
theorem dX11_reach_17 : decode cX11_reach 17 = .ok (.invokevirtual 284, 3) := by decide +kernel
theorem dX11_reach_20 : decode cX11_reach 20 = .ok (.aload_n 0, 1) := by decide +kernel
theorem dX11_reach_21 : decode cX11_reach 21 = .ok (.getfield 56, 3) := by decide +kernel
theorem dX11_reach_24 : decode cX11_reach 24 = .ok (.iload_n 1, 1) := by decide +kernel
theorem dX11_reach_25 : decode cX11_reach 25 = .ok (.invokevirtual 285, 3) := by decide +kernel
theorem dX11_reach_28 : decode cX11_reach 28 = .ok (.aload_n 0, 1) := by decide +kernel
theorem dX11_reach_29 : decode cX11_reach 29 = .ok (.getfield 56, 3) := by decide +kernel
theorem dX11_reach_32 : decode cX11_reach 32 = .ok (.invokevirtual 288, 3) := by decide +kernel
theorem dX11_reach_35 : decode cX11_reach 35 = .ok (.aload_n 0, 1) := by decide +kernel
theorem dX11_reach_36 : decode cX11_reach 36 = .ok (.getfield 56, 3) := by decide +kernel
theorem dX11_reach_39 : decode cX11_reach 39 = .ok (.getfield 301, 3) := by decide +kernel
theorem dX11_reach_42 : decode cX11_reach 42 = .ok (.ireturn, 1) := by decide +kernel
def kX11_reach_0 (n : Nat) : mK := i_ldA 0 (i_gA 11 2 (i_ldI 1 (i_cV 4 1 (FX4_hasCell n) (i_c0 (fun x => decide (¬ x = 0)) (i_ldA 0 (i_gA 11 8 (i_cV 10 0 (FX10_begin n) (i_ldA 0 (i_gA 11 8 (i_ldI 1 (i_cV 10 1 (FX10_startAt n) (i_ldA 0 (i_gA 11 8 (i_cV 10 0 (FX10_spread n) (i_ldA 0 (i_gA 11 8 (i_gI 10 3 (i_rI)))))))))))))) (i_cst (.int (-1)) (i_rI))))))
set_option maxRecDepth 20000 in
theorem okX11_reach_0 {E : mE} {X : State → Heap → Prop} {l : Launch} (hX : mXok E X) (n : Nat) : Sd E X l yX11_reach cX11_reach 2 (some .int) 6 0 0 0 0 0 (kX11_reach_0 n) := s_aload_n dX11_reach_0 rfl (s_gA dX11_reach_1 lFX11_16 (s_iload_n dX11_reach_4 rfl (s_cV dX11_reach_5 lMX11_200 bVX4_hasCell rfl (CtX4_hasCell hX n) (Nat.le_of_ble_eq_true rfl) (s_ifne dX11_reach_8 (by decide) (s_aload_n dX11_reach_13 rfl (s_gA dX11_reach_14 lFX11_56 (s_cV dX11_reach_17 lMX11_284 bVX10_begin rfl (CtX10_begin hX n) (Nat.le_of_ble_eq_true rfl) (s_aload_n dX11_reach_20 rfl (s_gA dX11_reach_21 lFX11_56 (s_iload_n dX11_reach_24 rfl (s_cV dX11_reach_25 lMX11_285 bVX10_startAt rfl (CtX10_startAt hX n) (Nat.le_of_ble_eq_true rfl) (s_aload_n dX11_reach_28 rfl (s_gA dX11_reach_29 lFX11_56 (s_cV dX11_reach_32 lMX11_288 bVX10_spread rfl (CtX10_spread hX n) (Nat.le_of_ble_eq_true rfl) (s_aload_n dX11_reach_35 rfl (s_gA dX11_reach_36 lFX11_56 (s_gI dX11_reach_39 lFX11_301 (by decide) (s_rI dX11_reach_42 (Nat.le_of_ble_eq_true rfl) (Nat.le_of_ble_eq_true rfl))))) (Nat.le_of_ble_eq_true rfl) (Nat.le_of_ble_eq_true rfl)))) (Nat.le_of_ble_eq_true rfl) (Nat.le_of_ble_eq_true rfl))))) (Nat.le_of_ble_eq_true rfl) (Nat.le_of_ble_eq_true rfl)))) (s_iconst dX11_reach_11 (by decide) (s_rI dX11_reach_12 (Nat.le_of_ble_eq_true rfl) (Nat.le_of_ble_eq_true rfl)))) (Nat.le_of_ble_eq_true rfl) (Nat.le_of_ble_eq_true rfl))))
def FX11_reach (n : Nat) : List Value → mM → Option mR := mfn 2 (kX11_reach_0 n)
theorem CtX11_reach {E : mE} {X : State → Heap → Prop} {l : Launch} (hX : mXok E X) (n : Nat) : Ct E X l yX11_reach cX11_reach 2 (some .int) 6 0 0 (FX11_reach n) := Ct_of (by decide) hX (okX11_reach_0 hX n)
theorem dX11_ring_0 : decode cX11_ring 0 = .ok (.aload_n 0, 1) := by decide +kernel
theorem dX11_ring_1 : decode cX11_ring 1 = .ok (.getfield 49, 3) := by decide +kernel
theorem dX11_ring_4 : decode cX11_ring 4 = .ok (.invokevirtual 213, 3) := by decide +kernel
theorem dX11_ring_7 : decode cX11_ring 7 = .ok (.iload_n 1, 1) := by decide +kernel
theorem dX11_ring_8 : decode cX11_ring 8 = .ok (.aload_n 0, 1) := by decide +kernel
theorem dX11_ring_9 : decode cX11_ring 9 = .ok (.getfield 49, 3) := by decide +kernel
theorem dX11_ring_12 : decode cX11_ring 12 = .ok (.invokevirtual 234, 3) := by decide +kernel
theorem dX11_ring_15 : decode cX11_ring 15 = .ok (.invokestatic 237, 3) := by decide +kernel
theorem dX11_ring_18 : decode cX11_ring 18 = .ok (.ireturn, 1) := by decide +kernel
def kX11_ring_0 (n : Nat) : mK := i_ldA 0 (i_gA 11 7 (i_cV 0 0 (FX0_look n) (i_ldI 1 (i_ldA 0 (i_gA 11 7 (i_cV 0 0 (FX0_smallestRing n) (i_cS 2 (FX11_countOrSet n) (i_rI))))))))
set_option maxRecDepth 20000 in
theorem okX11_ring_0 {E : mE} {X : State → Heap → Prop} {l : Launch} (hX : mXok E X) (n : Nat) : Sd E X l yX11_ring cX11_ring 2 (some .int) 6 0 0 0 0 0 (kX11_ring_0 n) := s_aload_n dX11_ring_0 rfl (s_gA dX11_ring_1 lFX11_49 (s_cV dX11_ring_4 lMX11_213 bVX0_look rfl (CtX0_look hX n) (Nat.le_of_ble_eq_true rfl) (s_iload_n dX11_ring_7 rfl (s_aload_n dX11_ring_8 rfl (s_gA dX11_ring_9 lFX11_49 (s_cV dX11_ring_12 lMX11_234 bVX0_smallestRing rfl (CtX0_smallestRing hX n) (Nat.le_of_ble_eq_true rfl) (s_cS dX11_ring_15 lMX11_237 bSX11_countOrSet (CtX11_countOrSet hX n) (Nat.le_of_ble_eq_true rfl) (s_rI dX11_ring_18 (Nat.le_of_ble_eq_true rfl) (Nat.le_of_ble_eq_true rfl)) (Nat.le_of_ble_eq_true rfl) (Nat.le_of_ble_eq_true rfl)) (Nat.le_of_ble_eq_true rfl) (Nat.le_of_ble_eq_true rfl))))) (Nat.le_of_ble_eq_true rfl) (Nat.le_of_ble_eq_true rfl)))
def FX11_ring (n : Nat) : List Value → mM → Option mR := mfn 2 (kX11_ring_0 n)
theorem CtX11_ring {E : mE} {X : State → Heap → Prop} {l : Launch} (hX : mXok E X) (n : Nat) : Ct E X l yX11_ring cX11_ring 2 (some .int) 6 0 0 (FX11_ring n) := Ct_of (by decide) hX (okX11_ring_0 hX n)
theorem dX11_tow_0 : decode cX11_tow 0 = .ok (.aload_n 0, 1) := by decide +kernel
theorem dX11_tow_1 : decode cX11_tow 1 = .ok (.getfield 37, 3) := by decide +kernel
theorem dX11_tow_4 : decode cX11_tow 4 = .ok (.iload_n 1, 1) := by decide +kernel
theorem dX11_tow_5 : decode cX11_tow 5 = .ok (.invokevirtual 167, 3) := by decide +kernel
theorem dX11_tow_8 : decode cX11_tow 8 = .ok (.ifCond .eq 11, 3) := by decide +kernel
theorem dX11_tow_11 : decode cX11_tow 11 = .ok (.aload_n 0, 1) := by decide +kernel
theorem dX11_tow_12 : decode cX11_tow 12 = .ok (.iload_n 1, 1) := by decide +kernel
theorem dX11_tow_13 : decode cX11_tow 13 = .ok (.invokevirtual 191, 3) := by decide +kernel
theorem dX11_tow_16 : decode cX11_tow 16 = .ok (.goto 4, 3) := by decide +kernel
theorem dX11_tow_19 : decode cX11_tow 19 = .ok (.iconst (-1), 1) := by decide +kernel
theorem dX11_tow_20 : decode cX11_tow 20 = .ok (.ireturn, 1) := by decide +kernel
def kX11_tow_20 (n : Nat) : mK := i_rI
set_option maxRecDepth 20000 in
theorem okX11_tow_20 {E : mE} {X : State → Heap → Prop} {l : Launch} (hX : mXok E X) (n : Nat) : Sd E X l yX11_tow cX11_tow 2 (some .int) 6 0 0 0 0 20 (kX11_tow_20 n) := s_rI dX11_tow_20 (Nat.le_of_ble_eq_true rfl) (Nat.le_of_ble_eq_true rfl)
def kX11_tow_0 (n : Nat) : mK := i_ldA 0 (i_gA 11 5 (i_ldI 1 (i_cV 8 1 (FX8_isIn n) (i_c0 (fun x => decide (x = 0)) (i_cst (.int (-1)) (kX11_tow_20 n)) (i_ldA 0 (i_ldI 1 (i_cV 11 1 (FX11_takeOff n) ((kX11_tow_20 n)))))))))
set_option maxRecDepth 20000 in
theorem okX11_tow_0 {E : mE} {X : State → Heap → Prop} {l : Launch} (hX : mXok E X) (n : Nat) : Sd E X l yX11_tow cX11_tow 2 (some .int) 6 0 0 0 0 0 (kX11_tow_0 n) := s_aload_n dX11_tow_0 rfl (s_gA dX11_tow_1 lFX11_37 (s_iload_n dX11_tow_4 rfl (s_cV dX11_tow_5 lMX11_167 bVX8_isIn rfl (CtX8_isIn hX n) (Nat.le_of_ble_eq_true rfl) (s_ifeq dX11_tow_8 (by decide) (s_iconst dX11_tow_19 (by decide) (okX11_tow_20 hX n)) (s_aload_n dX11_tow_11 rfl (s_iload_n dX11_tow_12 rfl (s_cV dX11_tow_13 lMX11_191 bVX11_takeOff rfl (CtX11_takeOff hX n) (Nat.le_of_ble_eq_true rfl) (s_goto dX11_tow_16 (by decide) (okX11_tow_20 hX n)) (Nat.le_of_ble_eq_true rfl) (Nat.le_of_ble_eq_true rfl))))) (Nat.le_of_ble_eq_true rfl) (Nat.le_of_ble_eq_true rfl))))
def FX11_tow (n : Nat) : List Value → mM → Option mR := mfn 2 (kX11_tow_0 n)
theorem CtX11_tow {E : mE} {X : State → Heap → Prop} {l : Launch} (hX : mXok E X) (n : Nat) : Ct E X l yX11_tow cX11_tow 2 (some .int) 6 0 0 (FX11_tow n) := Ct_of (by decide) hX (okX11_tow_0 hX n)
theorem dX11_tows_0 : decode cX11_tows 0 = .ok (.aload_n 0, 1) := by decide +kernel
theorem dX11_tows_1 : decode cX11_tows 1 = .ok (.getfield 49, 3) := by decide +kernel
theorem dX11_tows_4 : decode cX11_tows 4 = .ok (.invokevirtual 213, 3) := by decide +kernel
theorem dX11_tows_7 : decode cX11_tows 7 = .ok (.iload_n 1, 1) := by decide +kernel
theorem dX11_tows_8 : decode cX11_tows 8 = .ok (.aload_n 0, 1) := by decide +kernel
theorem dX11_tows_9 : decode cX11_tows 9 = .ok (.getfield 49, 3) := by decide +kernel
theorem dX11_tows_12 : decode cX11_tows 12 = .ok (.invokevirtual 240, 3) := by decide +kernel
theorem dX11_tows_15 : decode cX11_tows 15 = .ok (.invokestatic 237, 3) := by decide +kernel
theorem dX11_tows_18 : decode cX11_tows 18 = .ok (.ireturn, 1) := by decide +kernel
def kX11_tows_0 (n : Nat) : mK := i_ldA 0 (i_gA 11 7 (i_cV 0 0 (FX0_look n) (i_ldI 1 (i_ldA 0 (i_gA 11 7 (i_cV 0 0 (FX0_fewestTows n) (i_cS 2 (FX11_countOrSet n) (i_rI))))))))
set_option maxRecDepth 20000 in
theorem okX11_tows_0 {E : mE} {X : State → Heap → Prop} {l : Launch} (hX : mXok E X) (n : Nat) : Sd E X l yX11_tows cX11_tows 2 (some .int) 6 0 0 0 0 0 (kX11_tows_0 n) := s_aload_n dX11_tows_0 rfl (s_gA dX11_tows_1 lFX11_49 (s_cV dX11_tows_4 lMX11_213 bVX0_look rfl (CtX0_look hX n) (Nat.le_of_ble_eq_true rfl) (s_iload_n dX11_tows_7 rfl (s_aload_n dX11_tows_8 rfl (s_gA dX11_tows_9 lFX11_49 (s_cV dX11_tows_12 lMX11_240 bVX0_fewestTows rfl (CtX0_fewestTows hX n) (Nat.le_of_ble_eq_true rfl) (s_cS dX11_tows_15 lMX11_237 bSX11_countOrSet (CtX11_countOrSet hX n) (Nat.le_of_ble_eq_true rfl) (s_rI dX11_tows_18 (Nat.le_of_ble_eq_true rfl) (Nat.le_of_ble_eq_true rfl)) (Nat.le_of_ble_eq_true rfl) (Nat.le_of_ble_eq_true rfl)) (Nat.le_of_ble_eq_true rfl) (Nat.le_of_ble_eq_true rfl))))) (Nat.le_of_ble_eq_true rfl) (Nat.le_of_ble_eq_true rfl)))
def FX11_tows (n : Nat) : List Value → mM → Option mR := mfn 2 (kX11_tows_0 n)
theorem CtX11_tows {E : mE} {X : State → Heap → Prop} {l : Launch} (hX : mXok E X) (n : Nat) : Ct E X l yX11_tows cX11_tows 2 (some .int) 6 0 0 (FX11_tows n) := Ct_of (by decide) hX (okX11_tows_0 hX n)
theorem dX11_tryExchange_0 : decode cX11_tryExchange 0 = .ok (.aload_n 0, 1) := by decide +kernel
theorem dX11_tryExchange_1 : decode cX11_tryExchange 1 = .ok (.getfield 37, 3) := by decide +kernel
theorem dX11_tryExchange_4 : decode cX11_tryExchange 4 = .ok (.getfield 141, 3) := by decide +kernel
theorem dX11_tryExchange_7 : decode cX11_tryExchange 7 = .ok (.iload_n 1, 1) := by decide +kernel
theorem dX11_tryExchange_8 : decode cX11_tryExchange 8 = .ok (.invokestatic 144, 3) := by decide +kernel
theorem dX11_tryExchange_11 : decode cX11_tryExchange 11 = .ok (.istore_n 3, 1) := by decide +kernel
theorem dX11_tryExchange_12 : decode cX11_tryExchange 12 = .ok (.aload_n 0, 1) := by decide +kernel
theorem dX11_tryExchange_13 : decode cX11_tryExchange 13 = .ok (.getfield 37, 3) := by decide +kernel
theorem dX11_tryExchange_16 : decode cX11_tryExchange 16 = .ok (.getfield 141, 3) := by decide +kernel
theorem dX11_tryExchange_19 : decode cX11_tryExchange 19 = .ok (.iload_n 2, 1) := by decide +kernel
theorem dX11_tryExchange_20 : decode cX11_tryExchange 20 = .ok (.invokestatic 144, 3) := by decide +kernel
theorem dX11_tryExchange_23 : decode cX11_tryExchange 23 = .ok (.istore 4, 2) := by decide +kernel
theorem dX11_tryExchange_25 : decode cX11_tryExchange 25 = .ok (.aload_n 0, 1) := by decide +kernel
theorem dX11_tryExchange_26 : decode cX11_tryExchange 26 = .ok (.getfield 41, 3) := by decide +kernel
theorem dX11_tryExchange_29 : decode cX11_tryExchange 29 = .ok (.getfield 141, 3) := by decide +kernel
theorem dX11_tryExchange_32 : decode cX11_tryExchange 32 = .ok (.iload_n 1, 1) := by decide +kernel
theorem dX11_tryExchange_33 : decode cX11_tryExchange 33 = .ok (.iload 4, 2) := by decide +kernel
theorem dX11_tryExchange_35 : decode cX11_tryExchange 35 = .ok (.invokestatic 112, 3) := by decide +kernel
theorem dX11_tryExchange_38 : decode cX11_tryExchange 38 = .ok (.aload_n 0, 1) := by decide +kernel
theorem dX11_tryExchange_39 : decode cX11_tryExchange 39 = .ok (.getfield 41, 3) := by decide +kernel
theorem dX11_tryExchange_42 : decode cX11_tryExchange 42 = .ok (.getfield 141, 3) := by decide +kernel
theorem dX11_tryExchange_45 : decode cX11_tryExchange 45 = .ok (.iload_n 2, 1) := by decide +kernel
theorem dX11_tryExchange_46 : decode cX11_tryExchange 46 = .ok (.iload_n 3, 1) := by decide +kernel
theorem dX11_tryExchange_47 : decode cX11_tryExchange 47 = .ok (.invokestatic 112, 3) := by decide +kernel
theorem dX11_tryExchange_50 : decode cX11_tryExchange 50 = .ok (.aload_n 0, 1) := by decide +kernel
theorem dX11_tryExchange_51 : decode cX11_tryExchange 51 = .ok (.getfield 41, 3) := by decide +kernel
theorem dX11_tryExchange_54 : decode cX11_tryExchange 54 = .ok (.invokevirtual 210, 3) := by decide +kernel
theorem dX11_tryExchange_57 : decode cX11_tryExchange 57 = .ok (.invokestatic 229, 3) := by decide +kernel
theorem dX11_tryExchange_60 : decode cX11_tryExchange 60 = .ok (.istore 5, 2) := by decide +kernel
theorem dX11_tryExchange_62 : decode cX11_tryExchange 62 = .ok (.iload 5, 2) := by decide +kernel
theorem dX11_tryExchange_64 : decode cX11_tryExchange 64 = .ok (.aload_n 0, 1) := by decide +kernel
theorem dX11_tryExchange_65 : decode cX11_tryExchange 65 = .ok (.getfield 88, 3) := by decide +kernel
theorem dX11_tryExchange_68 : decode cX11_tryExchange 68 = .ok (.iconst 2, 1) := by decide +kernel
theorem dX11_tryExchange_69 : decode cX11_tryExchange 69 = .ok (.invokestatic 144, 3) := by decide +kernel
theorem dX11_tryExchange_72 : decode cX11_tryExchange 72 = .ok (.if_icmp .le 11, 3) := by decide +kernel
theorem dX11_tryExchange_75 : decode cX11_tryExchange 75 = .ok (.aload_n 0, 1) := by decide +kernel
theorem dX11_tryExchange_76 : decode cX11_tryExchange 76 = .ok (.iload_n 1, 1) := by decide +kernel
theorem dX11_tryExchange_77 : decode cX11_tryExchange 77 = .ok (.iload_n 2, 1) := by decide +kernel
theorem dX11_tryExchange_78 : decode cX11_tryExchange 78 = .ok (.iload 5, 2) := by decide +kernel
theorem dX11_tryExchange_80 : decode cX11_tryExchange 80 = .ok (.invokevirtual 255, 3) := by decide +kernel
theorem dX11_tryExchange_83 : decode cX11_tryExchange 83 = .ok (.aload_n 0, 1) := by decide +kernel
theorem dX11_tryExchange_84 : decode cX11_tryExchange 84 = .ok (.getfield 41, 3) := by decide +kernel
theorem dX11_tryExchange_87 : decode cX11_tryExchange 87 = .ok (.getfield 141, 3) := by decide +kernel
theorem dX11_tryExchange_90 : decode cX11_tryExchange 90 = .ok (.iload_n 1, 1) := by decide +kernel
theorem dX11_tryExchange_91 : decode cX11_tryExchange 91 = .ok (.iload_n 3, 1) := by decide +kernel
theorem dX11_tryExchange_92 : decode cX11_tryExchange 92 = .ok (.invokestatic 112, 3) := by decide +kernel
theorem dX11_tryExchange_95 : decode cX11_tryExchange 95 = .ok (.aload_n 0, 1) := by decide +kernel
theorem dX11_tryExchange_96 : decode cX11_tryExchange 96 = .ok (.getfield 41, 3) := by decide +kernel
theorem dX11_tryExchange_99 : decode cX11_tryExchange 99 = .ok (.getfield 141, 3) := by decide +kernel
theorem dX11_tryExchange_102 : decode cX11_tryExchange 102 = .ok (.iload_n 2, 1) := by decide +kernel
theorem dX11_tryExchange_103 : decode cX11_tryExchange 103 = .ok (.iload 4, 2) := by decide +kernel
theorem dX11_tryExchange_105 : decode cX11_tryExchange 105 = .ok (.invokestatic 112, 3) := by decide +kernel
theorem dX11_tryExchange_108 : decode cX11_tryExchange 108 = .ok (.return_, 1) := by decide +kernel
def kX11_tryExchange_83 (n : Nat) : mK := i_ldA 0 (i_gA 11 6 (i_gA 8 1 (i_ldI 1 (i_ldI 3 (i_cS 3 (FX11_set n) (i_ldA 0 (i_gA 11 6 (i_gA 8 1 (i_ldI 2 (i_ldI 4 (i_cS 3 (FX11_set n) (i_rV))))))))))))
set_option maxRecDepth 20000 in
theorem okX11_tryExchange_83 {E : mE} {X : State → Heap → Prop} {l : Launch} (hX : mXok E X) (n : Nat) : Sd E X l yX11_tryExchange cX11_tryExchange 6 none 6 0 0 0 0 83 (kX11_tryExchange_83 n) := s_aload_n dX11_tryExchange_83 rfl (s_gA dX11_tryExchange_84 lFX11_41 (s_gA dX11_tryExchange_87 lFX11_141 (s_iload_n dX11_tryExchange_90 rfl (s_iload_n dX11_tryExchange_91 rfl (s_cS dX11_tryExchange_92 lMX11_112 bSX11_set (CtX11_set hX n) (Nat.le_of_ble_eq_true rfl) (s_aload_n dX11_tryExchange_95 rfl (s_gA dX11_tryExchange_96 lFX11_41 (s_gA dX11_tryExchange_99 lFX11_141 (s_iload_n dX11_tryExchange_102 rfl (s_iload dX11_tryExchange_103 (s_cS dX11_tryExchange_105 lMX11_112 bSX11_set (CtX11_set hX n) (Nat.le_of_ble_eq_true rfl) (s_rV dX11_tryExchange_108 (Nat.le_of_ble_eq_true rfl) (Nat.le_of_ble_eq_true rfl)) (Nat.le_of_ble_eq_true rfl) (Nat.le_of_ble_eq_true rfl))))))) (Nat.le_of_ble_eq_true rfl) (Nat.le_of_ble_eq_true rfl))))))
def kX11_tryExchange_50 (n : Nat) : mK := i_ldA 0 (i_gA 11 6 (i_cV 8 0 (FX8_whoIsFree n) (i_cS 1 (FJ6_bitCount_0f7a4 n) (i_stI 5 (i_ldI 5 (i_ldA 0 (i_gA 11 13 (i_cst (.int (2)) (i_cS 2 (FX11_at n) (i_c2 (fun x y => decide (x ≤ y)) (kX11_tryExchange_83 n) (i_ldA 0 (i_ldI 1 (i_ldI 2 (i_ldI 5 (i_cV 11 3 (FX11_find n) (kX11_tryExchange_83 n))))))))))))))))
set_option maxRecDepth 20000 in
theorem okX11_tryExchange_50 {E : mE} {X : State → Heap → Prop} {l : Launch} (hX : mXok E X) (n : Nat) : Sd E X l yX11_tryExchange cX11_tryExchange 6 none 6 0 0 0 0 50 (kX11_tryExchange_50 n) := s_aload_n dX11_tryExchange_50 rfl (s_gA dX11_tryExchange_51 lFX11_41 (s_cV dX11_tryExchange_54 lMX11_210 bVX8_whoIsFree rfl (CtX8_whoIsFree hX n) (Nat.le_of_ble_eq_true rfl) (s_cS dX11_tryExchange_57 lMX11_229 bSJ6_bitCount_0f7a4 (CtJ6_bitCount_0f7a4 hX n) (Nat.le_of_ble_eq_true rfl) (s_istore dX11_tryExchange_60 (s_iload dX11_tryExchange_62 (s_aload_n dX11_tryExchange_64 rfl (s_gA dX11_tryExchange_65 lFX11_88 (s_iconst dX11_tryExchange_68 (by decide) (s_cS dX11_tryExchange_69 lMX11_144 bSX11_at (CtX11_at hX n) (Nat.le_of_ble_eq_true rfl) (s_icle dX11_tryExchange_72 (by decide) (okX11_tryExchange_83 hX n) (s_aload_n dX11_tryExchange_75 rfl (s_iload_n dX11_tryExchange_76 rfl (s_iload_n dX11_tryExchange_77 rfl (s_iload dX11_tryExchange_78 (s_cV dX11_tryExchange_80 lMX11_255 bVX11_find rfl (CtX11_find hX n) (Nat.le_of_ble_eq_true rfl) (okX11_tryExchange_83 hX n) (Nat.le_of_ble_eq_true rfl) (Nat.le_of_ble_eq_true rfl))))))) (Nat.le_of_ble_eq_true rfl) (Nat.le_of_ble_eq_true rfl))))))) (Nat.le_of_ble_eq_true rfl) (Nat.le_of_ble_eq_true rfl)) (Nat.le_of_ble_eq_true rfl) (Nat.le_of_ble_eq_true rfl)))
def kX11_tryExchange_0 (n : Nat) : mK := i_ldA 0 (i_gA 11 5 (i_gA 8 1 (i_ldI 1 (i_cS 2 (FX11_at n) (i_stI 3 (i_ldA 0 (i_gA 11 5 (i_gA 8 1 (i_ldI 2 (i_cS 2 (FX11_at n) (i_stI 4 (i_ldA 0 (i_gA 11 6 (i_gA 8 1 (i_ldI 1 (i_ldI 4 (i_cS 3 (FX11_set n) (i_ldA 0 (i_gA 11 6 (i_gA 8 1 (i_ldI 2 (i_ldI 3 (i_cS 3 (FX11_set n) (kX11_tryExchange_50 n))))))))))))))))))))))))
set_option maxRecDepth 20000 in
theorem okX11_tryExchange_0 {E : mE} {X : State → Heap → Prop} {l : Launch} (hX : mXok E X) (n : Nat) : Sd E X l yX11_tryExchange cX11_tryExchange 6 none 6 0 0 0 0 0 (kX11_tryExchange_0 n) := s_aload_n dX11_tryExchange_0 rfl (s_gA dX11_tryExchange_1 lFX11_37 (s_gA dX11_tryExchange_4 lFX11_141 (s_iload_n dX11_tryExchange_7 rfl (s_cS dX11_tryExchange_8 lMX11_144 bSX11_at (CtX11_at hX n) (Nat.le_of_ble_eq_true rfl) (s_istore_n dX11_tryExchange_11 rfl (s_aload_n dX11_tryExchange_12 rfl (s_gA dX11_tryExchange_13 lFX11_37 (s_gA dX11_tryExchange_16 lFX11_141 (s_iload_n dX11_tryExchange_19 rfl (s_cS dX11_tryExchange_20 lMX11_144 bSX11_at (CtX11_at hX n) (Nat.le_of_ble_eq_true rfl) (s_istore dX11_tryExchange_23 (s_aload_n dX11_tryExchange_25 rfl (s_gA dX11_tryExchange_26 lFX11_41 (s_gA dX11_tryExchange_29 lFX11_141 (s_iload_n dX11_tryExchange_32 rfl (s_iload dX11_tryExchange_33 (s_cS dX11_tryExchange_35 lMX11_112 bSX11_set (CtX11_set hX n) (Nat.le_of_ble_eq_true rfl) (s_aload_n dX11_tryExchange_38 rfl (s_gA dX11_tryExchange_39 lFX11_41 (s_gA dX11_tryExchange_42 lFX11_141 (s_iload_n dX11_tryExchange_45 rfl (s_iload_n dX11_tryExchange_46 rfl (s_cS dX11_tryExchange_47 lMX11_112 bSX11_set (CtX11_set hX n) (Nat.le_of_ble_eq_true rfl) (okX11_tryExchange_50 hX n) (Nat.le_of_ble_eq_true rfl) (Nat.le_of_ble_eq_true rfl))))))) (Nat.le_of_ble_eq_true rfl) (Nat.le_of_ble_eq_true rfl)))))))) (Nat.le_of_ble_eq_true rfl) (Nat.le_of_ble_eq_true rfl))))))) (Nat.le_of_ble_eq_true rfl) (Nat.le_of_ble_eq_true rfl)))))
def FX11_tryExchange (n : Nat) : List Value → mM → Option mR := mfn 6 (kX11_tryExchange_0 n)
theorem CtX11_tryExchange {E : mE} {X : State → Heap → Prop} {l : Launch} (hX : mXok E X) (n : Nat) : Ct E X l yX11_tryExchange cX11_tryExchange 6 none 6 0 0 (FX11_tryExchange n) := Ct_of (by decide) hX (okX11_tryExchange_0 hX n)
theorem dX11_tryTurns_0 : decode cX11_tryTurns 0 = .ok (.aload_n 0, 1) := by decide +kernel
theorem dX11_tryTurns_1 : decode cX11_tryTurns 1 = .ok (.getfield 37, 3) := by decide +kernel
theorem dX11_tryTurns_4 : decode cX11_tryTurns 4 = .ok (.getfield 148, 3) := by decide +kernel
theorem dX11_tryTurns_7 : decode cX11_tryTurns 7 = .ok (.iload_n 1, 1) := by decide +kernel
theorem dX11_tryTurns_8 : decode cX11_tryTurns 8 = .ok (.invokestatic 144, 3) := by decide +kernel
theorem dX11_tryTurns_11 : decode cX11_tryTurns 11 = .ok (.istore_n 2, 1) := by decide +kernel
theorem dX11_tryTurns_12 : decode cX11_tryTurns 12 = .ok (.iconst 0, 1) := by decide +kernel
theorem dX11_tryTurns_13 : decode cX11_tryTurns 13 = .ok (.istore_n 3, 1) := by decide +kernel
theorem dX11_tryTurns_14 : decode cX11_tryTurns 14 = .ok (.iload_n 3, 1) := by decide +kernel
theorem dX11_tryTurns_15 : decode cX11_tryTurns 15 = .ok (.iconst 4, 1) := by decide +kernel
theorem dX11_tryTurns_16 : decode cX11_tryTurns 16 = .ok (.if_icmp .ge 59, 3) := by decide +kernel
theorem dX11_tryTurns_19 : decode cX11_tryTurns 19 = .ok (.aload_n 0, 1) := by decide +kernel
theorem dX11_tryTurns_20 : decode cX11_tryTurns 20 = .ok (.getfield 41, 3) := by decide +kernel
theorem dX11_tryTurns_23 : decode cX11_tryTurns 23 = .ok (.getfield 148, 3) := by decide +kernel
theorem dX11_tryTurns_26 : decode cX11_tryTurns 26 = .ok (.iload_n 1, 1) := by decide +kernel
theorem dX11_tryTurns_27 : decode cX11_tryTurns 27 = .ok (.iload_n 3, 1) := by decide +kernel
theorem dX11_tryTurns_28 : decode cX11_tryTurns 28 = .ok (.invokestatic 112, 3) := by decide +kernel
theorem dX11_tryTurns_31 : decode cX11_tryTurns 31 = .ok (.aload_n 0, 1) := by decide +kernel
theorem dX11_tryTurns_32 : decode cX11_tryTurns 32 = .ok (.getfield 41, 3) := by decide +kernel
theorem dX11_tryTurns_35 : decode cX11_tryTurns 35 = .ok (.invokevirtual 210, 3) := by decide +kernel
theorem dX11_tryTurns_38 : decode cX11_tryTurns 38 = .ok (.invokestatic 229, 3) := by decide +kernel
theorem dX11_tryTurns_41 : decode cX11_tryTurns 41 = .ok (.istore 4, 2) := by decide +kernel
theorem dX11_tryTurns_43 : decode cX11_tryTurns 43 = .ok (.iload_n 3, 1) := by decide +kernel
theorem dX11_tryTurns_44 : decode cX11_tryTurns 44 = .ok (.iload_n 2, 1) := by decide +kernel
theorem dX11_tryTurns_45 : decode cX11_tryTurns 45 = .ok (.if_icmp .eq 24, 3) := by decide +kernel
theorem dX11_tryTurns_48 : decode cX11_tryTurns 48 = .ok (.iload 4, 2) := by decide +kernel
theorem dX11_tryTurns_50 : decode cX11_tryTurns 50 = .ok (.aload_n 0, 1) := by decide +kernel
theorem dX11_tryTurns_51 : decode cX11_tryTurns 51 = .ok (.getfield 88, 3) := by decide +kernel
theorem dX11_tryTurns_54 : decode cX11_tryTurns 54 = .ok (.iconst 2, 1) := by decide +kernel
theorem dX11_tryTurns_55 : decode cX11_tryTurns 55 = .ok (.invokestatic 144, 3) := by decide +kernel
theorem dX11_tryTurns_58 : decode cX11_tryTurns 58 = .ok (.if_icmp .le 11, 3) := by decide +kernel
theorem dX11_tryTurns_61 : decode cX11_tryTurns 61 = .ok (.aload_n 0, 1) := by decide +kernel
theorem dX11_tryTurns_62 : decode cX11_tryTurns 62 = .ok (.iload_n 1, 1) := by decide +kernel
theorem dX11_tryTurns_63 : decode cX11_tryTurns 63 = .ok (.iload_n 3, 1) := by decide +kernel
theorem dX11_tryTurns_64 : decode cX11_tryTurns 64 = .ok (.iload 4, 2) := by decide +kernel
theorem dX11_tryTurns_66 : decode cX11_tryTurns 66 = .ok (.invokevirtual 255, 3) := by decide +kernel
theorem dX11_tryTurns_69 : decode cX11_tryTurns 69 = .ok (.iinc 3 1, 3) := by decide +kernel
theorem dX11_tryTurns_72 : decode cX11_tryTurns 72 = .ok (.goto (-58), 3) := by decide +kernel
theorem dX11_tryTurns_75 : decode cX11_tryTurns 75 = .ok (.aload_n 0, 1) := by decide +kernel
theorem dX11_tryTurns_76 : decode cX11_tryTurns 76 = .ok (.getfield 41, 3) := by decide +kernel
theorem dX11_tryTurns_79 : decode cX11_tryTurns 79 = .ok (.getfield 148, 3) := by decide +kernel
theorem dX11_tryTurns_82 : decode cX11_tryTurns 82 = .ok (.iload_n 1, 1) := by decide +kernel
theorem dX11_tryTurns_83 : decode cX11_tryTurns 83 = .ok (.iload_n 2, 1) := by decide +kernel
theorem dX11_tryTurns_84 : decode cX11_tryTurns 84 = .ok (.invokestatic 112, 3) := by decide +kernel
theorem dX11_tryTurns_87 : decode cX11_tryTurns 87 = .ok (.return_, 1) := by decide +kernel
def kX11_tryTurns_69 (n : Nat) (r14 : mK) : mK := i_inc 3 (1) (r14)
set_option maxRecDepth 20000 in
theorem okX11_tryTurns_69 {E : mE} {X : State → Heap → Prop} {l : Launch} (hX : mXok E X) (n : Nat) {r14 : mK} (h14 : Sd E X l yX11_tryTurns cX11_tryTurns 5 none 6 0 0 0 0 14 r14) : Sd E X l yX11_tryTurns cX11_tryTurns 5 none 6 0 0 0 0 69 (kX11_tryTurns_69 n r14) := s_iinc dX11_tryTurns_69 (by decide) (s_goto dX11_tryTurns_72 (by decide) h14)
def kX11_tryTurns_62 (n : Nat) (r14 : mK) : mK := i_ldI 1 (i_ldI 3 (i_ldI 4 (i_cV 11 3 (FX11_find n) (kX11_tryTurns_69 n r14))))
set_option maxRecDepth 20000 in
theorem okX11_tryTurns_62 {E : mE} {X : State → Heap → Prop} {l : Launch} (hX : mXok E X) (n : Nat) {r14 : mK} (h14 : Sd E X l yX11_tryTurns cX11_tryTurns 5 none 6 0 0 0 0 14 r14) : Sd E X l yX11_tryTurns cX11_tryTurns 5 none 6 0 0 0 0 62 (kX11_tryTurns_62 n r14) := s_iload_n dX11_tryTurns_62 rfl (s_iload_n dX11_tryTurns_63 rfl (s_iload dX11_tryTurns_64 (s_cV dX11_tryTurns_66 lMX11_255 bVX11_find rfl (CtX11_find hX n) (Nat.le_of_ble_eq_true rfl) (okX11_tryTurns_69 hX n h14) (Nat.le_of_ble_eq_true rfl) (Nat.le_of_ble_eq_true rfl))))
def kX11_tryTurns_14 (n : Nat) (r14 : mK) : mK := i_ldI 3 (i_cst (.int (4)) (i_c2 (fun x y => decide (y ≤ x)) (i_ldA 0 (i_gA 11 6 (i_gA 8 2 (i_ldI 1 (i_ldI 2 (i_cS 3 (FX11_set n) (i_rV))))))) (i_ldA 0 (i_gA 11 6 (i_gA 8 2 (i_ldI 1 (i_ldI 3 (i_cS 3 (FX11_set n) (i_ldA 0 (i_gA 11 6 (i_cV 8 0 (FX8_whoIsFree n) (i_cS 1 (FJ6_bitCount_0f7a4 n) (i_stI 4 (i_ldI 3 (i_ldI 2 (i_c2 (fun x y => decide (x = y)) (kX11_tryTurns_69 n r14) (i_ldI 4 (i_ldA 0 (i_gA 11 13 (i_cst (.int (2)) (i_cS 2 (FX11_at n) (i_c2 (fun x y => decide (x ≤ y)) (kX11_tryTurns_69 n r14) (i_ldA 0 (kX11_tryTurns_62 n r14))))))))))))))))))))))))
set_option maxRecDepth 20000 in
theorem okX11_tryTurns_14 {E : mE} {X : State → Heap → Prop} {l : Launch} (hX : mXok E X) (n : Nat) {r14 : mK} (h14 : Sd E X l yX11_tryTurns cX11_tryTurns 5 none 6 0 0 0 0 14 r14) : Sd E X l yX11_tryTurns cX11_tryTurns 5 none 6 0 0 0 0 14 (kX11_tryTurns_14 n r14) := s_iload_n dX11_tryTurns_14 rfl (s_iconst dX11_tryTurns_15 (by decide) (s_icge dX11_tryTurns_16 (by decide) (s_aload_n dX11_tryTurns_75 rfl (s_gA dX11_tryTurns_76 lFX11_41 (s_gA dX11_tryTurns_79 lFX11_148 (s_iload_n dX11_tryTurns_82 rfl (s_iload_n dX11_tryTurns_83 rfl (s_cS dX11_tryTurns_84 lMX11_112 bSX11_set (CtX11_set hX n) (Nat.le_of_ble_eq_true rfl) (s_rV dX11_tryTurns_87 (Nat.le_of_ble_eq_true rfl) (Nat.le_of_ble_eq_true rfl)) (Nat.le_of_ble_eq_true rfl) (Nat.le_of_ble_eq_true rfl))))))) (s_aload_n dX11_tryTurns_19 rfl (s_gA dX11_tryTurns_20 lFX11_41 (s_gA dX11_tryTurns_23 lFX11_148 (s_iload_n dX11_tryTurns_26 rfl (s_iload_n dX11_tryTurns_27 rfl (s_cS dX11_tryTurns_28 lMX11_112 bSX11_set (CtX11_set hX n) (Nat.le_of_ble_eq_true rfl) (s_aload_n dX11_tryTurns_31 rfl (s_gA dX11_tryTurns_32 lFX11_41 (s_cV dX11_tryTurns_35 lMX11_210 bVX8_whoIsFree rfl (CtX8_whoIsFree hX n) (Nat.le_of_ble_eq_true rfl) (s_cS dX11_tryTurns_38 lMX11_229 bSJ6_bitCount_0f7a4 (CtJ6_bitCount_0f7a4 hX n) (Nat.le_of_ble_eq_true rfl) (s_istore dX11_tryTurns_41 (s_iload_n dX11_tryTurns_43 rfl (s_iload_n dX11_tryTurns_44 rfl (s_iceq dX11_tryTurns_45 (by decide) (okX11_tryTurns_69 hX n h14) (s_iload dX11_tryTurns_48 (s_aload_n dX11_tryTurns_50 rfl (s_gA dX11_tryTurns_51 lFX11_88 (s_iconst dX11_tryTurns_54 (by decide) (s_cS dX11_tryTurns_55 lMX11_144 bSX11_at (CtX11_at hX n) (Nat.le_of_ble_eq_true rfl) (s_icle dX11_tryTurns_58 (by decide) (okX11_tryTurns_69 hX n h14) (s_aload_n dX11_tryTurns_61 rfl (okX11_tryTurns_62 hX n h14))) (Nat.le_of_ble_eq_true rfl) (Nat.le_of_ble_eq_true rfl)))))))))) (Nat.le_of_ble_eq_true rfl) (Nat.le_of_ble_eq_true rfl)) (Nat.le_of_ble_eq_true rfl) (Nat.le_of_ble_eq_true rfl)))) (Nat.le_of_ble_eq_true rfl) (Nat.le_of_ble_eq_true rfl)))))))))
def kX11_tryTurns_0 (n : Nat) : mK := i_ldA 0 (i_gA 11 5 (i_gA 8 2 (i_ldI 1 (i_cS 2 (FX11_at n) (i_stI 2 (i_cst (.int (0)) (i_stI 3 (mit (kX11_tryTurns_14 n ) n))))))))
set_option maxRecDepth 20000 in
theorem okX11_tryTurns_0 {E : mE} {X : State → Heap → Prop} {l : Launch} (hX : mXok E X) (n : Nat) : Sd E X l yX11_tryTurns cX11_tryTurns 5 none 6 0 0 0 0 0 (kX11_tryTurns_0 n) := s_aload_n dX11_tryTurns_0 rfl (s_gA dX11_tryTurns_1 lFX11_37 (s_gA dX11_tryTurns_4 lFX11_148 (s_iload_n dX11_tryTurns_7 rfl (s_cS dX11_tryTurns_8 lMX11_144 bSX11_at (CtX11_at hX n) (Nat.le_of_ble_eq_true rfl) (s_istore_n dX11_tryTurns_11 rfl (s_iconst dX11_tryTurns_12 (by decide) (s_istore_n dX11_tryTurns_13 rfl (s_mit (fun _ hk => okX11_tryTurns_14 hX n hk) n)))) (Nat.le_of_ble_eq_true rfl) (Nat.le_of_ble_eq_true rfl)))))
def FX11_tryTurns (n : Nat) : List Value → mM → Option mR := mfn 5 (kX11_tryTurns_0 n)
theorem CtX11_tryTurns {E : mE} {X : State → Heap → Prop} {l : Launch} (hX : mXok E X) (n : Nat) : Ct E X l yX11_tryTurns cX11_tryTurns 5 none 6 0 0 (FX11_tryTurns n) := Ct_of (by decide) hX (okX11_tryTurns_0 hX n)
