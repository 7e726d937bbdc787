theorem dX12_lines_0 : decode cX12_lines 0 = .ok (.aload_n 0, 1) := by decide +kernel
theorem dX12_lines_1 : decode cX12_lines 1 = .ok (.iload_n 1, 1) := by decide +kernel
theorem dX12_lines_2 : decode cX12_lines 2 = .ok (.invokevirtual 390, 3) := by decide +kernel
theorem dX12_lines_5 : decode cX12_lines 5 = .ok (.ifCond .ne 5, 3) := by decide +kernel
theorem dX12_lines_8 : decode cX12_lines 8 = .ok (.iconst (-1), 1) := by decide +kernel
theorem dX12_lines_9 : decode cX12_lines 9 = .ok (.ireturn, 1) := by decide +kernel
theorem dX12_lines_10 : decode cX12_lines 10 = .ok (.iconst 0, 1) := by decide +kernel
theorem dX12_lines_11 : decode cX12_lines 11 = .ok (.istore_n 2, 1) := by decide +kernel
theorem dX12_lines_12 : decode cX12_lines 12 = .ok (.iconst 0, 1) := by decide +kernel
theorem dX12_lines_13 : decode cX12_lines 13 = .ok (.istore_n 3, 1) := by decide +kernel
theorem dX12_lines_14 : decode cX12_lines 14 = .ok (.iload_n 3, 1) := by decide +kernel
theorem dX12_lines_15 : decode cX12_lines 15 = .ok (.aload_n 0, 1) := by decide +kernel
theorem dX12_lines_16 : decode cX12_lines 16 = .ok (.invokevirtual 341, 3) := by decide +kernel
theorem dX12_lines_19 : decode cX12_lines 19 = .ok (.if_icmp .ge 37, 3) := by decide +kernel
theorem dX12_lines_22 : decode cX12_lines 22 = .ok (.iload_n 2, 1) := by decide +kernel
theorem dX12_lines_23 : decode cX12_lines 23 = .ok (.aload_n 0, 1) := by decide +kernel
theorem dX12_lines_24 : decode cX12_lines 24 = .ok (.getfield 82, 3) := by decide +kernel
theorem dX12_lines_27 : decode cX12_lines 27 = .ok (.iconst 0, 1) := by decide +kernel
theorem dX12_lines_28 : decode cX12_lines 28 = .ok (.iload_n 3, 1) := by decide +kernel
theorem dX12_lines_29 : decode cX12_lines 29 = .ok (.iadd, 1) := by decide +kernel
theorem dX12_lines_30 : decode cX12_lines 30 = .ok (.iaload, 1) := by decide +kernel
theorem dX12_lines_31 : decode cX12_lines 31 = .ok (.ifCond .lt 16, 3) := by decide +kernel
theorem dX12_lines_34 : decode cX12_lines 34 = .ok (.aload_n 0, 1) := by decide +kernel
theorem dX12_lines_35 : decode cX12_lines 35 = .ok (.iload_n 3, 1) := by decide +kernel
theorem dX12_lines_36 : decode cX12_lines 36 = .ok (.iload_n 1, 1) := by decide +kernel
theorem dX12_lines_37 : decode cX12_lines 37 = .ok (.invokevirtual 369, 3) := by decide +kernel
theorem dX12_lines_40 : decode cX12_lines 40 = .ok (.ifCond .eq 7, 3) := by decide +kernel
theorem dX12_lines_43 : decode cX12_lines 43 = .ok (.iconst 1, 1) := by decide +kernel
theorem dX12_lines_44 : decode cX12_lines 44 = .ok (.goto 4, 3) := by decide +kernel
theorem dX12_lines_47 : decode cX12_lines 47 = .ok (.iconst 0, 1) := by decide +kernel
theorem dX12_lines_48 : decode cX12_lines 48 = .ok (.iadd, 1) := by decide +kernel
theorem dX12_lines_49 : decode cX12_lines 49 = .ok (.istore_n 2, 1) := by decide +kernel
theorem dX12_lines_50 : decode cX12_lines 50 = .ok (.iinc 3 1, 3) := by decide +kernel
theorem dX12_lines_53 : decode cX12_lines 53 = .ok (.goto (-39), 3) := by decide +kernel
theorem dX12_lines_56 : decode cX12_lines 56 = .ok (.iload_n 2, 1) := by decide +kernel
theorem dX12_lines_57 : decode cX12_lines 57 = .ok (.ireturn, 1) := by decide +kernel
def kX12_lines_48 (n : Nat) (r14 : mK) : mK := i_bin (fun x y => x + y) (i_stI 2 (i_inc 3 (1) (r14)))
set_option maxRecDepth 20000 in
theorem okX12_lines_48 {E : mE} {X : State → Heap → Prop} {l : Launch} (hX : mXok E X) (n : Nat) {r14 : mK} (h14 : Sd E X l yX12_lines cX12_lines 4 (some .int) 3 0 0 0 0 14 r14) : Sd E X l yX12_lines cX12_lines 4 (some .int) 3 0 0 0 0 48 (kX12_lines_48 n r14) := s_iadd dX12_lines_48 (s_istore_n dX12_lines_49 rfl (s_iinc dX12_lines_50 (by decide) (s_goto dX12_lines_53 (by decide) h14)))
def kX12_lines_47 (n : Nat) (r14 : mK) : mK := i_cst (.int (0)) (kX12_lines_48 n r14)
set_option maxRecDepth 20000 in
theorem okX12_lines_47 {E : mE} {X : State → Heap → Prop} {l : Launch} (hX : mXok E X) (n : Nat) {r14 : mK} (h14 : Sd E X l yX12_lines cX12_lines 4 (some .int) 3 0 0 0 0 14 r14) : Sd E X l yX12_lines cX12_lines 4 (some .int) 3 0 0 0 0 47 (kX12_lines_47 n r14) := s_iconst dX12_lines_47 (by decide) (okX12_lines_48 hX n h14)
def kX12_lines_14 (n : Nat) (r14 : mK) : mK := i_ldI 3 (i_ldA 0 (i_cV 12 0 (FX12_many n) (i_c2 (fun x y => decide (y ≤ x)) (i_ldI 2 (i_rI)) (i_ldI 2 (i_ldA 0 (i_gA 12 39 (i_cst (.int (0)) (i_ldI 3 (i_bin (fun x y => x + y) (i_al 0 (i_c0 (fun x => decide (x < 0)) (kX12_lines_47 n r14) (i_ldA 0 (i_ldI 3 (i_ldI 1 (i_cV 12 2 (FX12_isOnLine n) (i_c0 (fun x => decide (x = 0)) (kX12_lines_47 n r14) (i_cst (.int (1)) ((kX12_lines_48 n r14)))))))))))))))))))
set_option maxRecDepth 20000 in
theorem okX12_lines_14 {E : mE} {X : State → Heap → Prop} {l : Launch} (hX : mXok E X) (n : Nat) {r14 : mK} (h14 : Sd E X l yX12_lines cX12_lines 4 (some .int) 3 0 0 0 0 14 r14) : Sd E X l yX12_lines cX12_lines 4 (some .int) 3 0 0 0 0 14 (kX12_lines_14 n r14) := s_iload_n dX12_lines_14 rfl (s_aload_n dX12_lines_15 rfl (s_cV dX12_lines_16 lMX12_341 bVX12_many rfl (CtX12_many hX n) (Nat.le_of_ble_eq_true rfl) (s_icge dX12_lines_19 (by decide) (s_iload_n dX12_lines_56 rfl (s_rI dX12_lines_57 (Nat.le_of_ble_eq_true rfl) (Nat.le_of_ble_eq_true rfl))) (s_iload_n dX12_lines_22 rfl (s_aload_n dX12_lines_23 rfl (s_gA dX12_lines_24 lFX12_82 (s_iconst dX12_lines_27 (by decide) (s_iload_n dX12_lines_28 rfl (s_iadd dX12_lines_29 (s_iald dX12_lines_30 (s_iflt dX12_lines_31 (by decide) (okX12_lines_47 hX n h14) (s_aload_n dX12_lines_34 rfl (s_iload_n dX12_lines_35 rfl (s_iload_n dX12_lines_36 rfl (s_cV dX12_lines_37 lMX12_369 bVX12_isOnLine rfl (CtX12_isOnLine hX n) (Nat.le_of_ble_eq_true rfl) (s_ifeq dX12_lines_40 (by decide) (okX12_lines_47 hX n h14) (s_iconst dX12_lines_43 (by decide) (s_goto dX12_lines_44 (by decide) (okX12_lines_48 hX n h14)))) (Nat.le_of_ble_eq_true rfl) (Nat.le_of_ble_eq_true rfl)))))))))))))) (Nat.le_of_ble_eq_true rfl) (Nat.le_of_ble_eq_true rfl)))
def kX12_lines_0 (n : Nat) : mK := i_ldA 0 (i_ldI 1 (i_cV 12 1 (FX12_isSpot n) (i_c0 (fun x => decide (¬ x = 0)) (i_cst (.int (0)) (i_stI 2 (i_cst (.int (0)) (i_stI 3 (mit (kX12_lines_14 n ) n))))) (i_cst (.int (-1)) (i_rI)))))
set_option maxRecDepth 20000 in
theorem okX12_lines_0 {E : mE} {X : State → Heap → Prop} {l : Launch} (hX : mXok E X) (n : Nat) : Sd E X l yX12_lines cX12_lines 4 (some .int) 3 0 0 0 0 0 (kX12_lines_0 n) := s_aload_n dX12_lines_0 rfl (s_iload_n dX12_lines_1 rfl (s_cV dX12_lines_2 lMX12_390 bVX12_isSpot rfl (CtX12_isSpot hX n) (Nat.le_of_ble_eq_true rfl) (s_ifne dX12_lines_5 (by decide) (s_iconst dX12_lines_10 (by decide) (s_istore_n dX12_lines_11 rfl (s_iconst dX12_lines_12 (by decide) (s_istore_n dX12_lines_13 rfl (s_mit (fun _ hk => okX12_lines_14 hX n hk) n))))) (s_iconst dX12_lines_8 (by decide) (s_rI dX12_lines_9 (Nat.le_of_ble_eq_true rfl) (Nat.le_of_ble_eq_true rfl)))) (Nat.le_of_ble_eq_true rfl) (Nat.le_of_ble_eq_true rfl)))
def FX12_lines (n : Nat) : List Value → mM → Option mR := mfn 4 (kX12_lines_0 n)
theorem CtX12_lines {E : mE} {X : State → Heap → Prop} {l : Launch} (hX : mXok E X) (n : Nat) : Ct E X l yX12_lines cX12_lines 4 (some .int) 3 0 0 (FX12_lines n) := Ct_of (by decide) hX (okX12_lines_0 hX n)
theorem dX12_must_0 : decode cX12_must 0 = .ok (.aload_n 0, 1) := by decide +kernel
theorem dX12_must_1 : decode cX12_must 1 = .ok (.invokevirtual 225, 3) := by decide +kernel
theorem dX12_must_4 : decode cX12_must 4 = .ok (.ifCond .ne 4, 3) := by decide +kernel
theorem dX12_must_7 : decode cX12_must 7 = .ok (.return_, 1) := by decide +kernel
theorem dX12_must_8 : decode cX12_must 8 = .ok (.iload_n 1, 1) := by decide +kernel
theorem dX12_must_9 : decode cX12_must 9 = .ok (.ifCond .eq 10, 3) := by decide +kernel
theorem dX12_must_12 : decode cX12_must 12 = .ok (.aload_n 0, 1) := by decide +kernel
theorem dX12_must_13 : decode cX12_must 13 = .ok (.invokevirtual 229, 3) := by decide +kernel
theorem dX12_must_16 : decode cX12_must 16 = .ok (.goto 7, 3) := by decide +kernel
theorem dX12_must_19 : decode cX12_must 19 = .ok (.aload_n 0, 1) := by decide +kernel
theorem dX12_must_20 : decode cX12_must 20 = .ok (.invokevirtual 232, 3) := by decide +kernel
theorem dX12_must_23 : decode cX12_must 23 = .ok (.return_, 1) := by decide +kernel
def kX12_must_23 (n : Nat) : mK := i_rV
set_option maxRecDepth 20000 in
theorem okX12_must_23 {E : mE} {X : State → Heap → Prop} {l : Launch} (hX : mXok E X) (n : Nat) : Sd E X l yX12_must cX12_must 2 none 3 0 0 0 0 23 (kX12_must_23 n) := s_rV dX12_must_23 (Nat.le_of_ble_eq_true rfl) (Nat.le_of_ble_eq_true rfl)
def kX12_must_0 (n : Nat) : mK := i_ldA 0 (i_cV 12 0 (FX12_isGood n) (i_c0 (fun x => decide (¬ x = 0)) (i_ldI 1 (i_c0 (fun x => decide (x = 0)) (i_ldA 0 (i_cV 12 0 (FX12_misplaced n) (kX12_must_23 n))) (i_ldA 0 (i_cV 12 0 (FX12_goOn n) ((kX12_must_23 n)))))) (i_rV)))
set_option maxRecDepth 20000 in
theorem okX12_must_0 {E : mE} {X : State → Heap → Prop} {l : Launch} (hX : mXok E X) (n : Nat) : Sd E X l yX12_must cX12_must 2 none 3 0 0 0 0 0 (kX12_must_0 n) := s_aload_n dX12_must_0 rfl (s_cV dX12_must_1 lMX12_225 bVX12_isGood rfl (CtX12_isGood hX n) (Nat.le_of_ble_eq_true rfl) (s_ifne dX12_must_4 (by decide) (s_iload_n dX12_must_8 rfl (s_ifeq dX12_must_9 (by decide) (s_aload_n dX12_must_19 rfl (s_cV dX12_must_20 lMX12_232 bVX12_misplaced rfl (CtX12_misplaced hX n) (Nat.le_of_ble_eq_true rfl) (okX12_must_23 hX n) (Nat.le_of_ble_eq_true rfl) (Nat.le_of_ble_eq_true rfl))) (s_aload_n dX12_must_12 rfl (s_cV dX12_must_13 lMX12_229 bVX12_goOn rfl (CtX12_goOn hX n) (Nat.le_of_ble_eq_true rfl) (s_goto dX12_must_16 (by decide) (okX12_must_23 hX n)) (Nat.le_of_ble_eq_true rfl) (Nat.le_of_ble_eq_true rfl))))) (s_rV dX12_must_7 (Nat.le_of_ble_eq_true rfl) (Nat.le_of_ble_eq_true rfl))) (Nat.le_of_ble_eq_true rfl) (Nat.le_of_ble_eq_true rfl))
def FX12_must (n : Nat) : List Value → mM → Option mR := mfn 2 (kX12_must_0 n)
theorem CtX12_must {E : mE} {X : State → Heap → Prop} {l : Launch} (hX : mXok E X) (n : Nat) : Ct E X l yX12_must cX12_must 2 none 3 0 0 (FX12_must n) := Ct_of (by decide) hX (okX12_must_0 hX n)
theorem dX12_noise_0 : decode cX12_noise 0 = .ok (.aload_n 0, 1) := by decide +kernel
theorem dX12_noise_1 : decode cX12_noise 1 = .ok (.invokevirtual 403, 3) := by decide +kernel
theorem dX12_noise_4 : decode cX12_noise 4 = .ok (.ireturn, 1) := by decide +kernel
def kX12_noise_0 (n : Nat) : mK := i_ldA 0 (i_cV 12 0 (FX12_noiseNow n) (i_rI))
set_option maxRecDepth 20000 in
theorem okX12_noise_0 {E : mE} {X : State → Heap → Prop} {l : Launch} (hX : mXok E X) (n : Nat) : Sd E X l yX12_noise cX12_noise 1 (some .int) 3 0 0 0 0 0 (kX12_noise_0 n) := s_aload_n dX12_noise_0 rfl (s_cV dX12_noise_1 lMX12_403 bVX12_noiseNow rfl (CtX12_noiseNow hX n) (Nat.le_of_ble_eq_true rfl) (s_rI dX12_noise_4 (Nat.le_of_ble_eq_true rfl) (Nat.le_of_ble_eq_true rfl)) (Nat.le_of_ble_eq_true rfl) (Nat.le_of_ble_eq_true rfl))
def FX12_noise (n : Nat) : List Value → mM → Option mR := mfn 1 (kX12_noise_0 n)
theorem CtX12_noise {E : mE} {X : State → Heap → Prop} {l : Launch} (hX : mXok E X) (n : Nat) : Ct E X l yX12_noise cX12_noise 1 (some .int) 3 0 0 (FX12_noise n) := Ct_of (by decide) hX (okX12_noise_0 hX n)
theorem dX12_numeral_0 : decode cX12_numeral 0 = .ok (.aload_n 0, 1) := by decide +kernel
theorem dX12_numeral_1 : decode cX12_numeral 1 = .ok (.invokevirtual 225, 3) := by decide +kernel
theorem dX12_numeral_4 : decode cX12_numeral 4 = .ok (.ifCond .ne 5, 3) := by decide +kernel
theorem dX12_numeral_7 : decode cX12_numeral 7 = .ok (.iload_n 1, 1) := by decide +kernel
theorem dX12_numeral_8 : decode cX12_numeral 8 = .ok (.ireturn, 1) := by decide +kernel
theorem dX12_numeral_9 : decode cX12_numeral 9 = .ok (.aload_n 0, 1) := by decide +kernel
theorem dX12_numeral_10 : decode cX12_numeral 10 = .ok (.getfield 197, 3) := by decide +kernel
theorem dX12_numeral_13 : decode cX12_numeral 13 = .ok (.iconst 4, 1) := by decide +kernel
theorem dX12_numeral_14 : decode cX12_numeral 14 = .ok (.if_icmp .eq 7, 3) := by decide +kernel
theorem dX12_numeral_17 : decode cX12_numeral 17 = .ok (.aload_n 0, 1) := by decide +kernel
theorem dX12_numeral_18 : decode cX12_numeral 18 = .ok (.invokevirtual 232, 3) := by decide +kernel
theorem dX12_numeral_21 : decode cX12_numeral 21 = .ok (.aload_n 0, 1) := by decide +kernel
theorem dX12_numeral_22 : decode cX12_numeral 22 = .ok (.invokevirtual 225, 3) := by decide +kernel
theorem dX12_numeral_25 : decode cX12_numeral 25 = .ok (.ifCond .eq 28, 3) := by decide +kernel
theorem dX12_numeral_28 : decode cX12_numeral 28 = .ok (.aload_n 0, 1) := by decide +kernel
theorem dX12_numeral_29 : decode cX12_numeral 29 = .ok (.getfield 215, 3) := by decide +kernel
theorem dX12_numeral_32 : decode cX12_numeral 32 = .ok (.iload_n 1, 1) := by decide +kernel
theorem dX12_numeral_33 : decode cX12_numeral 33 = .ok (.if_icmp .lt 11, 3) := by decide +kernel
theorem dX12_numeral_36 : decode cX12_numeral 36 = .ok (.aload_n 0, 1) := by decide +kernel
theorem dX12_numeral_37 : decode cX12_numeral 37 = .ok (.getfield 215, 3) := by decide +kernel
theorem dX12_numeral_40 : decode cX12_numeral 40 = .ok (.iload_n 2, 1) := by decide +kernel
theorem dX12_numeral_41 : decode cX12_numeral 41 = .ok (.if_icmp .le 12, 3) := by decide +kernel
theorem dX12_numeral_44 : decode cX12_numeral 44 = .ok (.aload_n 0, 1) := by decide +kernel
theorem dX12_numeral_45 : decode cX12_numeral 45 = .ok (.iconst 4, 1) := by decide +kernel
theorem dX12_numeral_46 : decode cX12_numeral 46 = .ok (.aload_n 0, 1) := by decide +kernel
theorem dX12_numeral_47 : decode cX12_numeral 47 = .ok (.getfield 190, 3) := by decide +kernel
theorem dX12_numeral_50 : decode cX12_numeral 50 = .ok (.invokevirtual 221, 3) := by decide +kernel
theorem dX12_numeral_53 : decode cX12_numeral 53 = .ok (.aload_n 0, 1) := by decide +kernel
theorem dX12_numeral_54 : decode cX12_numeral 54 = .ok (.getfield 215, 3) := by decide +kernel
theorem dX12_numeral_57 : decode cX12_numeral 57 = .ok (.istore_n 3, 1) := by decide +kernel
theorem dX12_numeral_58 : decode cX12_numeral 58 = .ok (.aload_n 0, 1) := by decide +kernel
theorem dX12_numeral_59 : decode cX12_numeral 59 = .ok (.invokevirtual 225, 3) := by decide +kernel
theorem dX12_numeral_62 : decode cX12_numeral 62 = .ok (.ifCond .eq 7, 3) := by decide +kernel
theorem dX12_numeral_65 : decode cX12_numeral 65 = .ok (.aload_n 0, 1) := by decide +kernel
theorem dX12_numeral_66 : decode cX12_numeral 66 = .ok (.invokevirtual 229, 3) := by decide +kernel
theorem dX12_numeral_69 : decode cX12_numeral 69 = .ok (.aload_n 0, 1) := by decide +kernel
theorem dX12_numeral_70 : decode cX12_numeral 70 = .ok (.invokevirtual 225, 3) := by decide +kernel
theorem dX12_numeral_73 : decode cX12_numeral 73 = .ok (.ifCond .eq 7, 3) := by decide +kernel
theorem dX12_numeral_76 : decode cX12_numeral 76 = .ok (.iload_n 3, 1) := by decide +kernel
theorem dX12_numeral_77 : decode cX12_numeral 77 = .ok (.goto 4, 3) := by decide +kernel
theorem dX12_numeral_80 : decode cX12_numeral 80 = .ok (.iload_n 1, 1) := by decide +kernel
theorem dX12_numeral_81 : decode cX12_numeral 81 = .ok (.ireturn, 1) := by decide +kernel
def kX12_numeral_81 (n : Nat) : mK := i_rI
set_option maxRecDepth 20000 in
theorem okX12_numeral_81 {E : mE} {X : State → Heap → Prop} {l : Launch} (hX : mXok E X) (n : Nat) : Sd E X l yX12_numeral cX12_numeral 4 (some .int) 3 0 0 0 0 81 (kX12_numeral_81 n) := s_rI dX12_numeral_81 (Nat.le_of_ble_eq_true rfl) (Nat.le_of_ble_eq_true rfl)
def kX12_numeral_69 (n : Nat) : mK := i_ldA 0 (i_cV 12 0 (FX12_isGood n) (i_c0 (fun x => decide (x = 0)) (i_ldI 1 (kX12_numeral_81 n)) (i_ldI 3 ((kX12_numeral_81 n)))))
set_option maxRecDepth 20000 in
theorem okX12_numeral_69 {E : mE} {X : State → Heap → Prop} {l : Launch} (hX : mXok E X) (n : Nat) : Sd E X l yX12_numeral cX12_numeral 4 (some .int) 3 0 0 0 0 69 (kX12_numeral_69 n) := s_aload_n dX12_numeral_69 rfl (s_cV dX12_numeral_70 lMX12_225 bVX12_isGood rfl (CtX12_isGood hX n) (Nat.le_of_ble_eq_true rfl) (s_ifeq dX12_numeral_73 (by decide) (s_iload_n dX12_numeral_80 rfl (okX12_numeral_81 hX n)) (s_iload_n dX12_numeral_76 rfl (s_goto dX12_numeral_77 (by decide) (okX12_numeral_81 hX n)))) (Nat.le_of_ble_eq_true rfl) (Nat.le_of_ble_eq_true rfl))
def kX12_numeral_53 (n : Nat) : mK := i_ldA 0 (i_gI 12 9 (i_stI 3 (i_ldA 0 (i_cV 12 0 (FX12_isGood n) (i_c0 (fun x => decide (x = 0)) (kX12_numeral_69 n) (i_ldA 0 (i_cV 12 0 (FX12_goOn n) (kX12_numeral_69 n))))))))
set_option maxRecDepth 20000 in
theorem okX12_numeral_53 {E : mE} {X : State → Heap → Prop} {l : Launch} (hX : mXok E X) (n : Nat) : Sd E X l yX12_numeral cX12_numeral 4 (some .int) 3 0 0 0 0 53 (kX12_numeral_53 n) := s_aload_n dX12_numeral_53 rfl (s_gI dX12_numeral_54 lFX12_215 (by decide) (s_istore_n dX12_numeral_57 rfl (s_aload_n dX12_numeral_58 rfl (s_cV dX12_numeral_59 lMX12_225 bVX12_isGood rfl (CtX12_isGood hX n) (Nat.le_of_ble_eq_true rfl) (s_ifeq dX12_numeral_62 (by decide) (okX12_numeral_69 hX n) (s_aload_n dX12_numeral_65 rfl (s_cV dX12_numeral_66 lMX12_229 bVX12_goOn rfl (CtX12_goOn hX n) (Nat.le_of_ble_eq_true rfl) (okX12_numeral_69 hX n) (Nat.le_of_ble_eq_true rfl) (Nat.le_of_ble_eq_true rfl)))) (Nat.le_of_ble_eq_true rfl) (Nat.le_of_ble_eq_true rfl)))))
def kX12_numeral_44 (n : Nat) : mK := i_ldA 0 (i_cst (.int (4)) (i_ldA 0 (i_gI 12 6 (i_cV 12 2 (FX12_fails n) (kX12_numeral_53 n)))))
set_option maxRecDepth 20000 in
theorem okX12_numeral_44 {E : mE} {X : State → Heap → Prop} {l : Launch} (hX : mXok E X) (n : Nat) : Sd E X l yX12_numeral cX12_numeral 4 (some .int) 3 0 0 0 0 44 (kX12_numeral_44 n) := s_aload_n dX12_numeral_44 rfl (s_iconst dX12_numeral_45 (by decide) (s_aload_n dX12_numeral_46 rfl (s_gI dX12_numeral_47 lFX12_190 (by decide) (s_cV dX12_numeral_50 lMX12_221 bVX12_fails rfl (CtX12_fails hX n) (Nat.le_of_ble_eq_true rfl) (okX12_numeral_53 hX n) (Nat.le_of_ble_eq_true rfl) (Nat.le_of_ble_eq_true rfl)))))
def kX12_numeral_21 (n : Nat) : mK := i_ldA 0 (i_cV 12 0 (FX12_isGood n) (i_c0 (fun x => decide (x = 0)) (kX12_numeral_53 n) (i_ldA 0 (i_gI 12 9 (i_ldI 1 (i_c2 (fun x y => decide (x < y)) (kX12_numeral_44 n) (i_ldA 0 (i_gI 12 9 (i_ldI 2 (i_c2 (fun x y => decide (x ≤ y)) (kX12_numeral_53 n) (kX12_numeral_44 n)))))))))))
set_option maxRecDepth 20000 in
theorem okX12_numeral_21 {E : mE} {X : State → Heap → Prop} {l : Launch} (hX : mXok E X) (n : Nat) : Sd E X l yX12_numeral cX12_numeral 4 (some .int) 3 0 0 0 0 21 (kX12_numeral_21 n) := s_aload_n dX12_numeral_21 rfl (s_cV dX12_numeral_22 lMX12_225 bVX12_isGood rfl (CtX12_isGood hX n) (Nat.le_of_ble_eq_true rfl) (s_ifeq dX12_numeral_25 (by decide) (okX12_numeral_53 hX n) (s_aload_n dX12_numeral_28 rfl (s_gI dX12_numeral_29 lFX12_215 (by decide) (s_iload_n dX12_numeral_32 rfl (s_iclt dX12_numeral_33 (by decide) (okX12_numeral_44 hX n) (s_aload_n dX12_numeral_36 rfl (s_gI dX12_numeral_37 lFX12_215 (by decide) (s_iload_n dX12_numeral_40 rfl (s_icle dX12_numeral_41 (by decide) (okX12_numeral_53 hX n) (okX12_numeral_44 hX n)))))))))) (Nat.le_of_ble_eq_true rfl) (Nat.le_of_ble_eq_true rfl))
def kX12_numeral_0 (n : Nat) : mK := i_ldA 0 (i_cV 12 0 (FX12_isGood n) (i_c0 (fun x => decide (¬ x = 0)) (i_ldA 0 (i_gI 12 8 (i_cst (.int (4)) (i_c2 (fun x y => decide (x = y)) (kX12_numeral_21 n) (i_ldA 0 (i_cV 12 0 (FX12_misplaced n) (kX12_numeral_21 n))))))) (i_ldI 1 (i_rI))))
set_option maxRecDepth 20000 in
theorem okX12_numeral_0 {E : mE} {X : State → Heap → Prop} {l : Launch} (hX : mXok E X) (n : Nat) : Sd E X l yX12_numeral cX12_numeral 4 (some .int) 3 0 0 0 0 0 (kX12_numeral_0 n) := s_aload_n dX12_numeral_0 rfl (s_cV dX12_numeral_1 lMX12_225 bVX12_isGood rfl (CtX12_isGood hX n) (Nat.le_of_ble_eq_true rfl) (s_ifne dX12_numeral_4 (by decide) (s_aload_n dX12_numeral_9 rfl (s_gI dX12_numeral_10 lFX12_197 (by decide) (s_iconst dX12_numeral_13 (by decide) (s_iceq dX12_numeral_14 (by decide) (okX12_numeral_21 hX n) (s_aload_n dX12_numeral_17 rfl (s_cV dX12_numeral_18 lMX12_232 bVX12_misplaced rfl (CtX12_misplaced hX n) (Nat.le_of_ble_eq_true rfl) (okX12_numeral_21 hX n) (Nat.le_of_ble_eq_true rfl) (Nat.le_of_ble_eq_true rfl))))))) (s_iload_n dX12_numeral_7 rfl (s_rI dX12_numeral_8 (Nat.le_of_ble_eq_true rfl) (Nat.le_of_ble_eq_true rfl)))) (Nat.le_of_ble_eq_true rfl) (Nat.le_of_ble_eq_true rfl))
def FX12_numeral (n : Nat) : List Value → mM → Option mR := mfn 4 (kX12_numeral_0 n)
theorem CtX12_numeral {E : mE} {X : State → Heap → Prop} {l : Launch} (hX : mXok E X) (n : Nat) : Ct E X l yX12_numeral cX12_numeral 4 (some .int) 3 0 0 (FX12_numeral n) := Ct_of (by decide) hX (okX12_numeral_0 hX n)
theorem dX12_offOf_0 : decode cX12_offOf 0 = .ok (.iconst 0, 1) := by decide +kernel
theorem dX12_offOf_1 : decode cX12_offOf 1 = .ok (.istore_n 2, 1) := by decide +kernel
theorem dX12_offOf_2 : decode cX12_offOf 2 = .ok (.iload_n 2, 1) := by decide +kernel
theorem dX12_offOf_3 : decode cX12_offOf 3 = .ok (.bipush 16, 2) := by decide +kernel
theorem dX12_offOf_5 : decode cX12_offOf 5 = .ok (.if_icmp .ge 21, 3) := by decide +kernel
theorem dX12_offOf_8 : decode cX12_offOf 8 = .ok (.aload_n 0, 1) := by decide +kernel
theorem dX12_offOf_9 : decode cX12_offOf 9 = .ok (.getfield 103, 3) := by decide +kernel
theorem dX12_offOf_12 : decode cX12_offOf 12 = .ok (.iload_n 2, 1) := by decide +kernel
theorem dX12_offOf_13 : decode cX12_offOf 13 = .ok (.aload_n 0, 1) := by decide +kernel
theorem dX12_offOf_14 : decode cX12_offOf 14 = .ok (.getfield 97, 3) := by decide +kernel
theorem dX12_offOf_17 : decode cX12_offOf 17 = .ok (.iload_n 2, 1) := by decide +kernel
theorem dX12_offOf_18 : decode cX12_offOf 18 = .ok (.iaload, 1) := by decide +kernel
theorem dX12_offOf_19 : decode cX12_offOf 19 = .ok (.iastore, 1) := by decide +kernel
theorem dX12_offOf_20 : decode cX12_offOf 20 = .ok (.iinc 2 1, 3) := by decide +kernel
theorem dX12_offOf_23 : decode cX12_offOf 23 = .ok (.goto (-21), 3) := by decide +kernel
theorem dX12_offOf_26 : decode cX12_offOf 26 = .ok (.aload_n 0, 1) := by decide +kernel
theorem dX12_offOf_27 : decode cX12_offOf 27 = .ok (.iload_n 1, 1) := by decide +kernel
theorem dX12_offOf_28 : decode cX12_offOf 28 = .ok (.invokevirtual 427, 3) := by decide +kernel
theorem dX12_offOf_31 : decode cX12_offOf 31 = .ok (.istore_n 2, 1) := by decide +kernel
theorem dX12_offOf_32 : decode cX12_offOf 32 = .ok (.iconst 0, 1) := by decide +kernel
theorem dX12_offOf_33 : decode cX12_offOf 33 = .ok (.istore_n 3, 1) := by decide +kernel
theorem dX12_offOf_34 : decode cX12_offOf 34 = .ok (.iload_n 3, 1) := by decide +kernel
theorem dX12_offOf_35 : decode cX12_offOf 35 = .ok (.bipush 16, 2) := by decide +kernel
theorem dX12_offOf_37 : decode cX12_offOf 37 = .ok (.if_icmp .ge 21, 3) := by decide +kernel
theorem dX12_offOf_40 : decode cX12_offOf 40 = .ok (.aload_n 0, 1) := by decide +kernel
theorem dX12_offOf_41 : decode cX12_offOf 41 = .ok (.getfield 97, 3) := by decide +kernel
theorem dX12_offOf_44 : decode cX12_offOf 44 = .ok (.iload_n 3, 1) := by decide +kernel
theorem dX12_offOf_45 : decode cX12_offOf 45 = .ok (.aload_n 0, 1) := by decide +kernel
theorem dX12_offOf_46 : decode cX12_offOf 46 = .ok (.getfield 103, 3) := by decide +kernel
theorem dX12_offOf_49 : decode cX12_offOf 49 = .ok (.iload_n 3, 1) := by decide +kernel
theorem dX12_offOf_50 : decode cX12_offOf 50 = .ok (.iaload, 1) := by decide +kernel
theorem dX12_offOf_51 : decode cX12_offOf 51 = .ok (.iastore, 1) := by decide +kernel
theorem dX12_offOf_52 : decode cX12_offOf 52 = .ok (.iinc 3 1, 3) := by decide +kernel
theorem dX12_offOf_55 : decode cX12_offOf 55 = .ok (.goto (-21), 3) := by decide +kernel
theorem dX12_offOf_58 : decode cX12_offOf 58 = .ok (.iload_n 2, 1) := by decide +kernel
theorem dX12_offOf_59 : decode cX12_offOf 59 = .ok (.ireturn, 1) := by decide +kernel
def kX12_offOf_34 (n : Nat) (r34 : mK) : mK := i_ldI 3 (i_cst (.int (16)) (i_c2 (fun x y => decide (y ≤ x)) (i_ldI 2 (i_rI)) (i_ldA 0 (i_gA 12 46 (i_ldI 3 (i_ldA 0 (i_gA 12 49 (i_ldI 3 (i_al 0 (i_as 0 (i_inc 3 (1) (r34))))))))))))
set_option maxRecDepth 20000 in
theorem okX12_offOf_34 {E : mE} {X : State → Heap → Prop} {l : Launch} (hX : mXok E X) (n : Nat) {r34 : mK} (h34 : Sd E X l yX12_offOf cX12_offOf 4 (some .int) 3 0 0 0 0 34 r34) : Sd E X l yX12_offOf cX12_offOf 4 (some .int) 3 0 0 0 0 34 (kX12_offOf_34 n r34) := s_iload_n dX12_offOf_34 rfl (s_bipush dX12_offOf_35 (by decide) (s_icge dX12_offOf_37 (by decide) (s_iload_n dX12_offOf_58 rfl (s_rI dX12_offOf_59 (Nat.le_of_ble_eq_true rfl) (Nat.le_of_ble_eq_true rfl))) (s_aload_n dX12_offOf_40 rfl (s_gA dX12_offOf_41 lFX12_97 (s_iload_n dX12_offOf_44 rfl (s_aload_n dX12_offOf_45 rfl (s_gA dX12_offOf_46 lFX12_103 (s_iload_n dX12_offOf_49 rfl (s_iald dX12_offOf_50 (s_iast dX12_offOf_51 (s_iinc dX12_offOf_52 (by decide) (s_goto dX12_offOf_55 (by decide) h34))))))))))))
def kX12_offOf_2 (n : Nat) (r2 : mK) : mK := i_ldI 2 (i_cst (.int (16)) (i_c2 (fun x y => decide (y ≤ x)) (i_ldA 0 (i_ldI 1 (i_cV 12 1 (FX12_comeOff n) (i_stI 2 (i_cst (.int (0)) (i_stI 3 (mit (kX12_offOf_34 n ) n))))))) (i_ldA 0 (i_gA 12 49 (i_ldI 2 (i_ldA 0 (i_gA 12 46 (i_ldI 2 (i_al 0 (i_as 0 (i_inc 2 (1) (r2))))))))))))
set_option maxRecDepth 20000 in
theorem okX12_offOf_2 {E : mE} {X : State → Heap → Prop} {l : Launch} (hX : mXok E X) (n : Nat) {r2 : mK} (h2 : Sd E X l yX12_offOf cX12_offOf 4 (some .int) 3 0 0 0 0 2 r2) : Sd E X l yX12_offOf cX12_offOf 4 (some .int) 3 0 0 0 0 2 (kX12_offOf_2 n r2) := s_iload_n dX12_offOf_2 rfl (s_bipush dX12_offOf_3 (by decide) (s_icge dX12_offOf_5 (by decide) (s_aload_n dX12_offOf_26 rfl (s_iload_n dX12_offOf_27 rfl (s_cV dX12_offOf_28 lMX12_427 bVX12_comeOff rfl (CtX12_comeOff hX n) (Nat.le_of_ble_eq_true rfl) (s_istore_n dX12_offOf_31 rfl (s_iconst dX12_offOf_32 (by decide) (s_istore_n dX12_offOf_33 rfl (s_mit (fun _ hk => okX12_offOf_34 hX n hk) n)))) (Nat.le_of_ble_eq_true rfl) (Nat.le_of_ble_eq_true rfl)))) (s_aload_n dX12_offOf_8 rfl (s_gA dX12_offOf_9 lFX12_103 (s_iload_n dX12_offOf_12 rfl (s_aload_n dX12_offOf_13 rfl (s_gA dX12_offOf_14 lFX12_97 (s_iload_n dX12_offOf_17 rfl (s_iald dX12_offOf_18 (s_iast dX12_offOf_19 (s_iinc dX12_offOf_20 (by decide) (s_goto dX12_offOf_23 (by decide) h2))))))))))))
def kX12_offOf_0 (n : Nat) : mK := i_cst (.int (0)) (i_stI 2 (mit (kX12_offOf_2 n ) n))
set_option maxRecDepth 20000 in
theorem okX12_offOf_0 {E : mE} {X : State → Heap → Prop} {l : Launch} (hX : mXok E X) (n : Nat) : Sd E X l yX12_offOf cX12_offOf 4 (some .int) 3 0 0 0 0 0 (kX12_offOf_0 n) := s_iconst dX12_offOf_0 (by decide) (s_istore_n dX12_offOf_1 rfl (s_mit (fun _ hk => okX12_offOf_2 hX n hk) n))
def FX12_offOf (n : Nat) : List Value → mM → Option mR := mfn 4 (kX12_offOf_0 n)
theorem CtX12_offOf {E : mE} {X : State → Heap → Prop} {l : Launch} (hX : mXok E X) (n : Nat) : Ct E X l yX12_offOf cX12_offOf 4 (some .int) 3 0 0 (FX12_offOf n) := Ct_of (by decide) hX (okX12_offOf_0 hX n)
theorem dX12_rankHere_0 : decode cX12_rankHere 0 = .ok (.aload_n 0, 1) := by decide +kernel
theorem dX12_rankHere_1 : decode cX12_rankHere 1 = .ok (.ldc2_w 183, 3) := by decide +kernel
theorem dX12_rankHere_4 : decode cX12_rankHere 4 = .ok (.invokevirtual 235, 3) := by decide +kernel
theorem dX12_rankHere_7 : decode cX12_rankHere 7 = .ok (.ifCond .eq 5, 3) := by decide +kernel
theorem dX12_rankHere_10 : decode cX12_rankHere 10 = .ok (.iconst 2, 1) := by decide +kernel
theorem dX12_rankHere_11 : decode cX12_rankHere 11 = .ok (.ireturn, 1) := by decide +kernel
theorem dX12_rankHere_12 : decode cX12_rankHere 12 = .ok (.aload_n 0, 1) := by decide +kernel
theorem dX12_rankHere_13 : decode cX12_rankHere 13 = .ok (.ldc2_w 181, 3) := by decide +kernel
theorem dX12_rankHere_16 : decode cX12_rankHere 16 = .ok (.invokevirtual 235, 3) := by decide +kernel
theorem dX12_rankHere_19 : decode cX12_rankHere 19 = .ok (.ifCond .eq 5, 3) := by decide +kernel
theorem dX12_rankHere_22 : decode cX12_rankHere 22 = .ok (.iconst 1, 1) := by decide +kernel
theorem dX12_rankHere_23 : decode cX12_rankHere 23 = .ok (.ireturn, 1) := by decide +kernel
theorem dX12_rankHere_24 : decode cX12_rankHere 24 = .ok (.aload_n 0, 1) := by decide +kernel
theorem dX12_rankHere_25 : decode cX12_rankHere 25 = .ok (.bipush 60, 2) := by decide +kernel
theorem dX12_rankHere_27 : decode cX12_rankHere 27 = .ok (.invokevirtual 279, 3) := by decide +kernel
theorem dX12_rankHere_30 : decode cX12_rankHere 30 = .ok (.ifCond .ne 21, 3) := by decide +kernel
theorem dX12_rankHere_33 : decode cX12_rankHere 33 = .ok (.aload_n 0, 1) := by decide +kernel
theorem dX12_rankHere_34 : decode cX12_rankHere 34 = .ok (.bipush 62, 2) := by decide +kernel
theorem dX12_rankHere_36 : decode cX12_rankHere 36 = .ok (.invokevirtual 279, 3) := by decide +kernel
theorem dX12_rankHere_39 : decode cX12_rankHere 39 = .ok (.ifCond .ne 12, 3) := by decide +kernel
theorem dX12_rankHere_42 : decode cX12_rankHere 42 = .ok (.aload_n 0, 1) := by decide +kernel
theorem dX12_rankHere_43 : decode cX12_rankHere 43 = .ok (.bipush 61, 2) := by decide +kernel
theorem dX12_rankHere_45 : decode cX12_rankHere 45 = .ok (.invokevirtual 279, 3) := by decide +kernel
theorem dX12_rankHere_48 : decode cX12_rankHere 48 = .ok (.ifCond .eq 5, 3) := by decide +kernel
theorem dX12_rankHere_51 : decode cX12_rankHere 51 = .ok (.iconst 4, 1) := by decide +kernel
theorem dX12_rankHere_52 : decode cX12_rankHere 52 = .ok (.ireturn, 1) := by decide +kernel
theorem dX12_rankHere_53 : decode cX12_rankHere 53 = .ok (.aload_n 0, 1) := by decide +kernel
theorem dX12_rankHere_54 : decode cX12_rankHere 54 = .ok (.bipush 43, 2) := by decide +kernel
theorem dX12_rankHere_56 : decode cX12_rankHere 56 = .ok (.invokevirtual 279, 3) := by decide +kernel
theorem dX12_rankHere_59 : decode cX12_rankHere 59 = .ok (.ifCond .ne 12, 3) := by decide +kernel
theorem dX12_rankHere_62 : decode cX12_rankHere 62 = .ok (.aload_n 0, 1) := by decide +kernel
theorem dX12_rankHere_63 : decode cX12_rankHere 63 = .ok (.bipush 45, 2) := by decide +kernel
theorem dX12_rankHere_65 : decode cX12_rankHere 65 = .ok (.invokevirtual 279, 3) := by decide +kernel
theorem dX12_rankHere_68 : decode cX12_rankHere 68 = .ok (.ifCond .eq 5, 3) := by decide +kernel
theorem dX12_rankHere_71 : decode cX12_rankHere 71 = .ok (.iconst 5, 1) := by decide +kernel
theorem dX12_rankHere_72 : decode cX12_rankHere 72 = .ok (.ireturn, 1) := by decide +kernel
theorem dX12_rankHere_73 : decode cX12_rankHere 73 = .ok (.aload_n 0, 1) := by decide +kernel
theorem dX12_rankHere_74 : decode cX12_rankHere 74 = .ok (.bipush 42, 2) := by decide +kernel
theorem dX12_rankHere_76 : decode cX12_rankHere 76 = .ok (.invokevirtual 279, 3) := by decide +kernel
theorem dX12_rankHere_79 : decode cX12_rankHere 79 = .ok (.ifCond .ne 21, 3) := by decide +kernel
theorem dX12_rankHere_82 : decode cX12_rankHere 82 = .ok (.aload_n 0, 1) := by decide +kernel
theorem dX12_rankHere_83 : decode cX12_rankHere 83 = .ok (.bipush 47, 2) := by decide +kernel
theorem dX12_rankHere_85 : decode cX12_rankHere 85 = .ok (.invokevirtual 279, 3) := by decide +kernel
theorem dX12_rankHere_88 : decode cX12_rankHere 88 = .ok (.ifCond .ne 12, 3) := by decide +kernel
theorem dX12_rankHere_91 : decode cX12_rankHere 91 = .ok (.aload_n 0, 1) := by decide +kernel
theorem dX12_rankHere_92 : decode cX12_rankHere 92 = .ok (.bipush 37, 2) := by decide +kernel
theorem dX12_rankHere_94 : decode cX12_rankHere 94 = .ok (.invokevirtual 279, 3) := by decide +kernel
theorem dX12_rankHere_97 : decode cX12_rankHere 97 = .ok (.ifCond .eq 8, 3) := by decide +kernel
theorem dX12_rankHere_100 : decode cX12_rankHere 100 = .ok (.bipush 6, 2) := by decide +kernel
theorem dX12_rankHere_102 : decode cX12_rankHere 102 = .ok (.goto 4, 3) := by decide +kernel
theorem dX12_rankHere_105 : decode cX12_rankHere 105 = .ok (.iconst 0, 1) := by decide +kernel
theorem dX12_rankHere_106 : decode cX12_rankHere 106 = .ok (.ireturn, 1) := by decide +kernel
def kX12_rankHere_51 (n : Nat) : mK := i_cst (.int (4)) (i_rI)
set_option maxRecDepth 20000 in
theorem okX12_rankHere_51 {E : mE} {X : State → Heap → Prop} {l : Launch} (hX : mXok E X) (n : Nat) : Sd E X l yX12_rankHere cX12_rankHere 1 (some .int) 3 0 0 0 0 51 (kX12_rankHere_51 n) := s_iconst dX12_rankHere_51 (by decide) (s_rI dX12_rankHere_52 (Nat.le_of_ble_eq_true rfl) (Nat.le_of_ble_eq_true rfl))
def kX12_rankHere_71 (n : Nat) : mK := i_cst (.int (5)) (i_rI)
set_option maxRecDepth 20000 in
theorem okX12_rankHere_71 {E : mE} {X : State → Heap → Prop} {l : Launch} (hX : mXok E X) (n : Nat) : Sd E X l yX12_rankHere cX12_rankHere 1 (some .int) 3 0 0 0 0 71 (kX12_rankHere_71 n) := s_iconst dX12_rankHere_71 (by decide) (s_rI dX12_rankHere_72 (Nat.le_of_ble_eq_true rfl) (Nat.le_of_ble_eq_true rfl))
def kX12_rankHere_106 (n : Nat) : mK := i_rI
set_option maxRecDepth 20000 in
theorem okX12_rankHere_106 {E : mE} {X : State → Heap → Prop} {l : Launch} (hX : mXok E X) (n : Nat) : Sd E X l yX12_rankHere cX12_rankHere 1 (some .int) 3 0 0 0 0 106 (kX12_rankHere_106 n) := s_rI dX12_rankHere_106 (Nat.le_of_ble_eq_true rfl) (Nat.le_of_ble_eq_true rfl)
def kX12_rankHere_100 (n : Nat) : mK := i_cst (.int (6)) ((kX12_rankHere_106 n))
set_option maxRecDepth 20000 in
theorem okX12_rankHere_100 {E : mE} {X : State → Heap → Prop} {l : Launch} (hX : mXok E X) (n : Nat) : Sd E X l yX12_rankHere cX12_rankHere 1 (some .int) 3 0 0 0 0 100 (kX12_rankHere_100 n) := s_bipush dX12_rankHere_100 (by decide) (s_goto dX12_rankHere_102 (by decide) (okX12_rankHere_106 hX n))
def kX12_rankHere_62 (n : Nat) : mK := i_ldA 0 (i_cst (.int (45)) (i_cV 12 1 (FX12_isSignHere n) (i_c0 (fun x => decide (x = 0)) (i_ldA 0 (i_cst (.int (42)) (i_cV 12 1 (FX12_isSignHere n) (i_c0 (fun x => decide (¬ x = 0)) (kX12_rankHere_100 n) (i_ldA 0 (i_cst (.int (47)) (i_cV 12 1 (FX12_isSignHere n) (i_c0 (fun x => decide (¬ x = 0)) (kX12_rankHere_100 n) (i_ldA 0 (i_cst (.int (37)) (i_cV 12 1 (FX12_isSignHere n) (i_c0 (fun x => decide (x = 0)) (i_cst (.int (0)) (kX12_rankHere_106 n)) (kX12_rankHere_100 n))))))))))))) (kX12_rankHere_71 n))))
set_option maxRecDepth 20000 in
theorem okX12_rankHere_62 {E : mE} {X : State → Heap → Prop} {l : Launch} (hX : mXok E X) (n : Nat) : Sd E X l yX12_rankHere cX12_rankHere 1 (some .int) 3 0 0 0 0 62 (kX12_rankHere_62 n) := s_aload_n dX12_rankHere_62 rfl (s_bipush dX12_rankHere_63 (by decide) (s_cV dX12_rankHere_65 lMX12_279 bVX12_isSignHere rfl (CtX12_isSignHere hX n) (Nat.le_of_ble_eq_true rfl) (s_ifeq dX12_rankHere_68 (by decide) (s_aload_n dX12_rankHere_73 rfl (s_bipush dX12_rankHere_74 (by decide) (s_cV dX12_rankHere_76 lMX12_279 bVX12_isSignHere rfl (CtX12_isSignHere hX n) (Nat.le_of_ble_eq_true rfl) (s_ifne dX12_rankHere_79 (by decide) (okX12_rankHere_100 hX n) (s_aload_n dX12_rankHere_82 rfl (s_bipush dX12_rankHere_83 (by decide) (s_cV dX12_rankHere_85 lMX12_279 bVX12_isSignHere rfl (CtX12_isSignHere hX n) (Nat.le_of_ble_eq_true rfl) (s_ifne dX12_rankHere_88 (by decide) (okX12_rankHere_100 hX n) (s_aload_n dX12_rankHere_91 rfl (s_bipush dX12_rankHere_92 (by decide) (s_cV dX12_rankHere_94 lMX12_279 bVX12_isSignHere rfl (CtX12_isSignHere hX n) (Nat.le_of_ble_eq_true rfl) (s_ifeq dX12_rankHere_97 (by decide) (s_iconst dX12_rankHere_105 (by decide) (okX12_rankHere_106 hX n)) (okX12_rankHere_100 hX n)) (Nat.le_of_ble_eq_true rfl) (Nat.le_of_ble_eq_true rfl))))) (Nat.le_of_ble_eq_true rfl) (Nat.le_of_ble_eq_true rfl))))) (Nat.le_of_ble_eq_true rfl) (Nat.le_of_ble_eq_true rfl)))) (okX12_rankHere_71 hX n)) (Nat.le_of_ble_eq_true rfl) (Nat.le_of_ble_eq_true rfl)))
def kX12_rankHere_0 (n : Nat) : mK := i_ldA 0 (i_cst (.long (6385252)) (i_cV 12 1 (FX12_isWord n) (i_c0 (fun x => decide (x = 0)) (i_ldA 0 (i_cst (.long (28530)) (i_cV 12 1 (FX12_isWord n) (i_c0 (fun x => decide (x = 0)) (i_ldA 0 (i_cst (.int (60)) (i_cV 12 1 (FX12_isSignHere n) (i_c0 (fun x => decide (¬ x = 0)) (kX12_rankHere_51 n) (i_ldA 0 (i_cst (.int (62)) (i_cV 12 1 (FX12_isSignHere n) (i_c0 (fun x => decide (¬ x = 0)) (kX12_rankHere_51 n) (i_ldA 0 (i_cst (.int (61)) (i_cV 12 1 (FX12_isSignHere n) (i_c0 (fun x => decide (x = 0)) (i_ldA 0 (i_cst (.int (43)) (i_cV 12 1 (FX12_isSignHere n) (i_c0 (fun x => decide (¬ x = 0)) (kX12_rankHere_71 n) (kX12_rankHere_62 n))))) (kX12_rankHere_51 n))))))))))))) (i_cst (.int (1)) (i_rI)))))) (i_cst (.int (2)) (i_rI)))))
set_option maxRecDepth 20000 in
theorem okX12_rankHere_0 {E : mE} {X : State → Heap → Prop} {l : Launch} (hX : mXok E X) (n : Nat) : Sd E X l yX12_rankHere cX12_rankHere 1 (some .int) 3 0 0 0 0 0 (kX12_rankHere_0 n) := s_aload_n dX12_rankHere_0 rfl (s_ldc2 dX12_rankHere_1 lCX12_183 (s_cV dX12_rankHere_4 lMX12_235 bVX12_isWord rfl (CtX12_isWord hX n) (Nat.le_of_ble_eq_true rfl) (s_ifeq dX12_rankHere_7 (by decide) (s_aload_n dX12_rankHere_12 rfl (s_ldc2 dX12_rankHere_13 lCX12_181 (s_cV dX12_rankHere_16 lMX12_235 bVX12_isWord rfl (CtX12_isWord hX n) (Nat.le_of_ble_eq_true rfl) (s_ifeq dX12_rankHere_19 (by decide) (s_aload_n dX12_rankHere_24 rfl (s_bipush dX12_rankHere_25 (by decide) (s_cV dX12_rankHere_27 lMX12_279 bVX12_isSignHere rfl (CtX12_isSignHere hX n) (Nat.le_of_ble_eq_true rfl) (s_ifne dX12_rankHere_30 (by decide) (okX12_rankHere_51 hX n) (s_aload_n dX12_rankHere_33 rfl (s_bipush dX12_rankHere_34 (by decide) (s_cV dX12_rankHere_36 lMX12_279 bVX12_isSignHere rfl (CtX12_isSignHere hX n) (Nat.le_of_ble_eq_true rfl) (s_ifne dX12_rankHere_39 (by decide) (okX12_rankHere_51 hX n) (s_aload_n dX12_rankHere_42 rfl (s_bipush dX12_rankHere_43 (by decide) (s_cV dX12_rankHere_45 lMX12_279 bVX12_isSignHere rfl (CtX12_isSignHere hX n) (Nat.le_of_ble_eq_true rfl) (s_ifeq dX12_rankHere_48 (by decide) (s_aload_n dX12_rankHere_53 rfl (s_bipush dX12_rankHere_54 (by decide) (s_cV dX12_rankHere_56 lMX12_279 bVX12_isSignHere rfl (CtX12_isSignHere hX n) (Nat.le_of_ble_eq_true rfl) (s_ifne dX12_rankHere_59 (by decide) (okX12_rankHere_71 hX n) (okX12_rankHere_62 hX n)) (Nat.le_of_ble_eq_true rfl) (Nat.le_of_ble_eq_true rfl)))) (okX12_rankHere_51 hX n)) (Nat.le_of_ble_eq_true rfl) (Nat.le_of_ble_eq_true rfl))))) (Nat.le_of_ble_eq_true rfl) (Nat.le_of_ble_eq_true rfl))))) (Nat.le_of_ble_eq_true rfl) (Nat.le_of_ble_eq_true rfl)))) (s_iconst dX12_rankHere_22 (by decide) (s_rI dX12_rankHere_23 (Nat.le_of_ble_eq_true rfl) (Nat.le_of_ble_eq_true rfl)))) (Nat.le_of_ble_eq_true rfl) (Nat.le_of_ble_eq_true rfl)))) (s_iconst dX12_rankHere_10 (by decide) (s_rI dX12_rankHere_11 (Nat.le_of_ble_eq_true rfl) (Nat.le_of_ble_eq_true rfl)))) (Nat.le_of_ble_eq_true rfl) (Nat.le_of_ble_eq_true rfl)))
def FX12_rankHere (n : Nat) : List Value → mM → Option mR := mfn 1 (kX12_rankHere_0 n)
theorem CtX12_rankHere {E : mE} {X : State → Heap → Prop} {l : Launch} (hX : mXok E X) (n : Nat) : Ct E X l yX12_rankHere cX12_rankHere 1 (some .int) 3 0 0 (FX12_rankHere n) := Ct_of (by decide) hX (okX12_rankHere_0 hX n)
theorem dX12_spot_0 : decode cX12_spot 0 = .ok (.aload_n 0, 1) := by decide +kernel
theorem dX12_spot_1 : decode cX12_spot 1 = .ok (.iload_n 1, 1) := by decide +kernel
theorem dX12_spot_2 : decode cX12_spot 2 = .ok (.invokevirtual 390, 3) := by decide +kernel
theorem dX12_spot_5 : decode cX12_spot 5 = .ok (.ifCond .eq 11, 3) := by decide +kernel
theorem dX12_spot_8 : decode cX12_spot 8 = .ok (.aload_n 0, 1) := by decide +kernel
theorem dX12_spot_9 : decode cX12_spot 9 = .ok (.iload_n 1, 1) := by decide +kernel
theorem dX12_spot_10 : decode cX12_spot 10 = .ok (.invokevirtual 393, 3) := by decide +kernel
theorem dX12_spot_13 : decode cX12_spot 13 = .ok (.goto 4, 3) := by decide +kernel
theorem dX12_spot_16 : decode cX12_spot 16 = .ok (.iconst (-1), 1) := by decide +kernel
theorem dX12_spot_17 : decode cX12_spot 17 = .ok (.ireturn, 1) := by decide +kernel
def kX12_spot_17 (n : Nat) : mK := i_rI
set_option maxRecDepth 20000 in
theorem okX12_spot_17 {E : mE} {X : State → Heap → Prop} {l : Launch} (hX : mXok E X) (n : Nat) : Sd E X l yX12_spot cX12_spot 2 (some .int) 3 0 0 0 0 17 (kX12_spot_17 n) := s_rI dX12_spot_17 (Nat.le_of_ble_eq_true rfl) (Nat.le_of_ble_eq_true rfl)
def kX12_spot_0 (n : Nat) : mK := i_ldA 0 (i_ldI 1 (i_cV 12 1 (FX12_isSpot n) (i_c0 (fun x => decide (x = 0)) (i_cst (.int (-1)) (kX12_spot_17 n)) (i_ldA 0 (i_ldI 1 (i_cV 12 1 (FX12_whoAt n) ((kX12_spot_17 n))))))))
set_option maxRecDepth 20000 in
theorem okX12_spot_0 {E : mE} {X : State → Heap → Prop} {l : Launch} (hX : mXok E X) (n : Nat) : Sd E X l yX12_spot cX12_spot 2 (some .int) 3 0 0 0 0 0 (kX12_spot_0 n) := s_aload_n dX12_spot_0 rfl (s_iload_n dX12_spot_1 rfl (s_cV dX12_spot_2 lMX12_390 bVX12_isSpot rfl (CtX12_isSpot hX n) (Nat.le_of_ble_eq_true rfl) (s_ifeq dX12_spot_5 (by decide) (s_iconst dX12_spot_16 (by decide) (okX12_spot_17 hX n)) (s_aload_n dX12_spot_8 rfl (s_iload_n dX12_spot_9 rfl (s_cV dX12_spot_10 lMX12_393 bVX12_whoAt rfl (CtX12_whoAt hX n) (Nat.le_of_ble_eq_true rfl) (s_goto dX12_spot_13 (by decide) (okX12_spot_17 hX n)) (Nat.le_of_ble_eq_true rfl) (Nat.le_of_ble_eq_true rfl))))) (Nat.le_of_ble_eq_true rfl) (Nat.le_of_ble_eq_true rfl)))
def FX12_spot (n : Nat) : List Value → mM → Option mR := mfn 2 (kX12_spot_0 n)
theorem CtX12_spot {E : mE} {X : State → Heap → Prop} {l : Launch} (hX : mXok E X) (n : Nat) : Ct E X l yX12_spot cX12_spot 2 (some .int) 3 0 0 (FX12_spot n) := Ct_of (by decide) hX (okX12_spot_0 hX n)
theorem dX12_startAnew_0 : decode cX12_startAnew 0 = .ok (.aload_n 0, 1) := by decide +kernel
theorem dX12_startAnew_1 : decode cX12_startAnew 1 = .ok (.invokevirtual 354, 3) := by decide +kernel
theorem dX12_startAnew_4 : decode cX12_startAnew 4 = .ok (.aload_n 0, 1) := by decide +kernel
theorem dX12_startAnew_5 : decode cX12_startAnew 5 = .ok (.iconst 0, 1) := by decide +kernel
theorem dX12_startAnew_6 : decode cX12_startAnew 6 = .ok (.putfield 357, 3) := by decide +kernel
theorem dX12_startAnew_9 : decode cX12_startAnew 9 = .ok (.aload_n 0, 1) := by decide +kernel
theorem dX12_startAnew_10 : decode cX12_startAnew 10 = .ok (.iconst 0, 1) := by decide +kernel
theorem dX12_startAnew_11 : decode cX12_startAnew 11 = .ok (.putfield 360, 3) := by decide +kernel
theorem dX12_startAnew_14 : decode cX12_startAnew 14 = .ok (.aload_n 0, 1) := by decide +kernel
theorem dX12_startAnew_15 : decode cX12_startAnew 15 = .ok (.iconst 0, 1) := by decide +kernel
theorem dX12_startAnew_16 : decode cX12_startAnew 16 = .ok (.putfield 363, 3) := by decide +kernel
theorem dX12_startAnew_19 : decode cX12_startAnew 19 = .ok (.aload_n 0, 1) := by decide +kernel
theorem dX12_startAnew_20 : decode cX12_startAnew 20 = .ok (.iconst 0, 1) := by decide +kernel
theorem dX12_startAnew_21 : decode cX12_startAnew 21 = .ok (.putfield 366, 3) := by decide +kernel
theorem dX12_startAnew_24 : decode cX12_startAnew 24 = .ok (.iconst 0, 1) := by decide +kernel
theorem dX12_startAnew_25 : decode cX12_startAnew 25 = .ok (.istore_n 1, 1) := by decide +kernel
theorem dX12_startAnew_26 : decode cX12_startAnew 26 = .ok (.iload_n 1, 1) := by decide +kernel
theorem dX12_startAnew_27 : decode cX12_startAnew 27 = .ok (.iconst 3, 1) := by decide +kernel
theorem dX12_startAnew_28 : decode cX12_startAnew 28 = .ok (.if_icmp .ge 16, 3) := by decide +kernel
theorem dX12_startAnew_31 : decode cX12_startAnew 31 = .ok (.aload_n 0, 1) := by decide +kernel
theorem dX12_startAnew_32 : decode cX12_startAnew 32 = .ok (.getfield 133, 3) := by decide +kernel
theorem dX12_startAnew_35 : decode cX12_startAnew 35 = .ok (.iload_n 1, 1) := by decide +kernel
theorem dX12_startAnew_36 : decode cX12_startAnew 36 = .ok (.iconst 0, 1) := by decide +kernel
theorem dX12_startAnew_37 : decode cX12_startAnew 37 = .ok (.bastore, 1) := by decide +kernel
theorem dX12_startAnew_38 : decode cX12_startAnew 38 = .ok (.iinc 1 1, 3) := by decide +kernel
theorem dX12_startAnew_41 : decode cX12_startAnew 41 = .ok (.goto (-15), 3) := by decide +kernel
theorem dX12_startAnew_44 : decode cX12_startAnew 44 = .ok (.return_, 1) := by decide +kernel
def kX12_startAnew_26 (n : Nat) (r26 : mK) : mK := i_ldI 1 (i_cst (.int (3)) (i_c2 (fun x y => decide (y ≤ x)) (i_rV) (i_ldA 0 (i_gA 12 62 (i_ldI 1 (i_cst (.int (0)) (i_as 2 (i_inc 1 (1) (r26)))))))))
set_option maxRecDepth 20000 in
theorem okX12_startAnew_26 {E : mE} {X : State → Heap → Prop} {l : Launch} (hX : mXok E X) (n : Nat) {r26 : mK} (h26 : Sd E X l yX12_startAnew cX12_startAnew 2 none 3 0 0 0 0 26 r26) : Sd E X l yX12_startAnew cX12_startAnew 2 none 3 0 0 0 0 26 (kX12_startAnew_26 n r26) := s_iload_n dX12_startAnew_26 rfl (s_iconst dX12_startAnew_27 (by decide) (s_icge dX12_startAnew_28 (by decide) (s_rV dX12_startAnew_44 (Nat.le_of_ble_eq_true rfl) (Nat.le_of_ble_eq_true rfl)) (s_aload_n dX12_startAnew_31 rfl (s_gA dX12_startAnew_32 lFX12_133 (s_iload_n dX12_startAnew_35 rfl (s_iconst dX12_startAnew_36 (by decide) (s_zast dX12_startAnew_37 (s_iinc dX12_startAnew_38 (by decide) (s_goto dX12_startAnew_41 (by decide) h26)))))))))
def kX12_startAnew_0 (n : Nat) : mK := i_ldA 0 (i_cV 12 0 (FX12_layTold n) (i_ldA 0 (i_cst (.int (0)) (i_pI 12 43 (i_ldA 0 (i_cst (.int (0)) (i_pI 12 44 (i_ldA 0 (i_cst (.int (0)) (i_pI 12 57 (i_ldA 0 (i_cst (.int (0)) (i_pI 12 48 (i_cst (.int (0)) (i_stI 1 (mit (kX12_startAnew_26 n ) n))))))))))))))))
set_option maxRecDepth 20000 in
theorem okX12_startAnew_0 {E : mE} {X : State → Heap → Prop} {l : Launch} (hX : mXok E X) (n : Nat) : Sd E X l yX12_startAnew cX12_startAnew 2 none 3 0 0 0 0 0 (kX12_startAnew_0 n) := s_aload_n dX12_startAnew_0 rfl (s_cV dX12_startAnew_1 lMX12_354 bVX12_layTold rfl (CtX12_layTold hX n) (Nat.le_of_ble_eq_true rfl) (s_aload_n dX12_startAnew_4 rfl (s_iconst dX12_startAnew_5 (by decide) (s_pI dX12_startAnew_6 lFX12_357 (s_aload_n dX12_startAnew_9 rfl (s_iconst dX12_startAnew_10 (by decide) (s_pI dX12_startAnew_11 lFX12_360 (s_aload_n dX12_startAnew_14 rfl (s_iconst dX12_startAnew_15 (by decide) (s_pI dX12_startAnew_16 lFX12_363 (s_aload_n dX12_startAnew_19 rfl (s_iconst dX12_startAnew_20 (by decide) (s_pI dX12_startAnew_21 lFX12_366 (s_iconst dX12_startAnew_24 (by decide) (s_istore_n dX12_startAnew_25 rfl (s_mit (fun _ hk => okX12_startAnew_26 hX n hk) n))))))))))))))) (Nat.le_of_ble_eq_true rfl) (Nat.le_of_ble_eq_true rfl))
def FX12_startAnew (n : Nat) : List Value → mM → Option mR := mfn 2 (kX12_startAnew_0 n)
theorem CtX12_startAnew {E : mE} {X : State → Heap → Prop} {l : Launch} (hX : mXok E X) (n : Nat) : Ct E X l yX12_startAnew cX12_startAnew 2 none 3 0 0 (FX12_startAnew n) := Ct_of (by decide) hX (okX12_startAnew_0 hX n)
theorem dX12_unit_0 : decode cX12_unit 0 = .ok (.aload_n 0, 1) := by decide +kernel
theorem dX12_unit_1 : decode cX12_unit 1 = .ok (.getfield 73, 3) := by decide +kernel
theorem dX12_unit_4 : decode cX12_unit 4 = .ok (.aload_n 0, 1) := by decide +kernel
theorem dX12_unit_5 : decode cX12_unit 5 = .ok (.getfield 295, 3) := by decide +kernel
theorem dX12_unit_8 : decode cX12_unit 8 = .ok (.iconst 1, 1) := by decide +kernel
theorem dX12_unit_9 : decode cX12_unit 9 = .ok (.isub, 1) := by decide +kernel
theorem dX12_unit_10 : decode cX12_unit 10 = .ok (.iaload, 1) := by decide +kernel
theorem dX12_unit_11 : decode cX12_unit 11 = .ok (.iconst 3, 1) := by decide +kernel
theorem dX12_unit_12 : decode cX12_unit 12 = .ok (.if_icmp .le 19, 3) := by decide +kernel
theorem dX12_unit_15 : decode cX12_unit 15 = .ok (.aload_n 0, 1) := by decide +kernel
theorem dX12_unit_16 : decode cX12_unit 16 = .ok (.getfield 73, 3) := by decide +kernel
theorem dX12_unit_19 : decode cX12_unit 19 = .ok (.aload_n 0, 1) := by decide +kernel
theorem dX12_unit_20 : decode cX12_unit 20 = .ok (.getfield 295, 3) := by decide +kernel
theorem dX12_unit_23 : decode cX12_unit 23 = .ok (.iconst 1, 1) := by decide +kernel
theorem dX12_unit_24 : decode cX12_unit 24 = .ok (.isub, 1) := by decide +kernel
theorem dX12_unit_25 : decode cX12_unit 25 = .ok (.iaload, 1) := by decide +kernel
theorem dX12_unit_26 : decode cX12_unit 26 = .ok (.bipush 7, 2) := by decide +kernel
theorem dX12_unit_28 : decode cX12_unit 28 = .ok (.if_icmp .lt 7, 3) := by decide +kernel
theorem dX12_unit_31 : decode cX12_unit 31 = .ok (.iconst 1, 1) := by decide +kernel
theorem dX12_unit_32 : decode cX12_unit 32 = .ok (.goto 4, 3) := by decide +kernel
theorem dX12_unit_35 : decode cX12_unit 35 = .ok (.iconst 0, 1) := by decide +kernel
theorem dX12_unit_36 : decode cX12_unit 36 = .ok (.istore_n 1, 1) := by decide +kernel
theorem dX12_unit_37 : decode cX12_unit 37 = .ok (.iload_n 1, 1) := by decide +kernel
theorem dX12_unit_38 : decode cX12_unit 38 = .ok (.ifCond .eq 17, 3) := by decide +kernel
theorem dX12_unit_41 : decode cX12_unit 41 = .ok (.aload_n 0, 1) := by decide +kernel
theorem dX12_unit_42 : decode cX12_unit 42 = .ok (.ldc2_w 185, 3) := by decide +kernel
theorem dX12_unit_45 : decode cX12_unit 45 = .ok (.invokevirtual 235, 3) := by decide +kernel
theorem dX12_unit_48 : decode cX12_unit 48 = .ok (.ifCond .eq 7, 3) := by decide +kernel
theorem dX12_unit_51 : decode cX12_unit 51 = .ok (.iconst 1, 1) := by decide +kernel
theorem dX12_unit_52 : decode cX12_unit 52 = .ok (.goto 4, 3) := by decide +kernel
theorem dX12_unit_55 : decode cX12_unit 55 = .ok (.iconst 0, 1) := by decide +kernel
theorem dX12_unit_56 : decode cX12_unit 56 = .ok (.istore_n 2, 1) := by decide +kernel
theorem dX12_unit_57 : decode cX12_unit 57 = .ok (.aload_n 0, 1) := by decide +kernel
theorem dX12_unit_58 : decode cX12_unit 58 = .ok (.bipush 40, 2) := by decide +kernel
theorem dX12_unit_60 : decode cX12_unit 60 = .ok (.invokevirtual 279, 3) := by decide +kernel
theorem dX12_unit_63 : decode cX12_unit 63 = .ok (.istore_n 3, 1) := by decide +kernel
theorem dX12_unit_64 : decode cX12_unit 64 = .ok (.aload_n 0, 1) := by decide +kernel
theorem dX12_unit_65 : decode cX12_unit 65 = .ok (.invokevirtual 310, 3) := by decide +kernel
theorem dX12_unit_68 : decode cX12_unit 68 = .ok (.istore 4, 2) := by decide +kernel
theorem dX12_unit_70 : decode cX12_unit 70 = .ok (.aload_n 0, 1) := by decide +kernel
theorem dX12_unit_71 : decode cX12_unit 71 = .ok (.getfield 33, 3) := by decide +kernel
theorem dX12_unit_74 : decode cX12_unit 74 = .ok (.aload_n 0, 1) := by decide +kernel
theorem dX12_unit_75 : decode cX12_unit 75 = .ok (.getfield 246, 3) := by decide +kernel
theorem dX12_unit_78 : decode cX12_unit 78 = .ok (.iaload, 1) := by decide +kernel
theorem dX12_unit_79 : decode cX12_unit 79 = .ok (.bipush 60, 2) := by decide +kernel
theorem dX12_unit_81 : decode cX12_unit 81 = .ok (.if_icmp .eq 12, 3) := by decide +kernel
theorem dX12_unit_84 : decode cX12_unit 84 = .ok (.aload_n 0, 1) := by decide +kernel
theorem dX12_unit_85 : decode cX12_unit 85 = .ok (.getfield 289, 3) := by decide +kernel
theorem dX12_unit_88 : decode cX12_unit 88 = .ok (.bipush 30, 2) := by decide +kernel
theorem dX12_unit_90 : decode cX12_unit 90 = .ok (.if_icmp .ne 7, 3) := by decide +kernel
theorem dX12_unit_93 : decode cX12_unit 93 = .ok (.iconst 1, 1) := by decide +kernel
theorem dX12_unit_94 : decode cX12_unit 94 = .ok (.goto 4, 3) := by decide +kernel
theorem dX12_unit_97 : decode cX12_unit 97 = .ok (.iconst 0, 1) := by decide +kernel
theorem dX12_unit_98 : decode cX12_unit 98 = .ok (.istore 5, 2) := by decide +kernel
theorem dX12_unit_100 : decode cX12_unit 100 = .ok (.iload_n 2, 1) := by decide +kernel
theorem dX12_unit_101 : decode cX12_unit 101 = .ok (.ifCond .ne 25, 3) := by decide +kernel
theorem dX12_unit_104 : decode cX12_unit 104 = .ok (.iload 4, 2) := by decide +kernel
theorem dX12_unit_106 : decode cX12_unit 106 = .ok (.ifCond .ne 15, 3) := by decide +kernel
theorem dX12_unit_109 : decode cX12_unit 109 = .ok (.aload_n 0, 1) := by decide +kernel
theorem dX12_unit_110 : decode cX12_unit 110 = .ok (.getfield 197, 3) := by decide +kernel
theorem dX12_unit_113 : decode cX12_unit 113 = .ok (.iconst 4, 1) := by decide +kernel
theorem dX12_unit_114 : decode cX12_unit 114 = .ok (.if_icmp .eq 7, 3) := by decide +kernel
theorem dX12_unit_117 : decode cX12_unit 117 = .ok (.iload_n 3, 1) := by decide +kernel
theorem dX12_unit_118 : decode cX12_unit 118 = .ok (.ifCond .eq 25, 3) := by decide +kernel
theorem dX12_unit_121 : decode cX12_unit 121 = .ok (.iload 5, 2) := by decide +kernel
theorem dX12_unit_123 : decode cX12_unit 123 = .ok (.ifCond .ne 20, 3) := by decide +kernel
theorem dX12_unit_126 : decode cX12_unit 126 = .ok (.iload_n 2, 1) := by decide +kernel
theorem dX12_unit_127 : decode cX12_unit 127 = .ok (.ifCond .ne 7, 3) := by decide +kernel
theorem dX12_unit_130 : decode cX12_unit 130 = .ok (.iload_n 3, 1) := by decide +kernel
theorem dX12_unit_131 : decode cX12_unit 131 = .ok (.ifCond .eq 16, 3) := by decide +kernel
theorem dX12_unit_134 : decode cX12_unit 134 = .ok (.aload_n 0, 1) := by decide +kernel
theorem dX12_unit_135 : decode cX12_unit 135 = .ok (.getfield 298, 3) := by decide +kernel
theorem dX12_unit_138 : decode cX12_unit 138 = .ok (.bipush 7, 2) := by decide +kernel
theorem dX12_unit_140 : decode cX12_unit 140 = .ok (.if_icmp .ne 7, 3) := by decide +kernel
theorem dX12_unit_143 : decode cX12_unit 143 = .ok (.aload_n 0, 1) := by decide +kernel
theorem dX12_unit_144 : decode cX12_unit 144 = .ok (.invokevirtual 232, 3) := by decide +kernel
theorem dX12_unit_147 : decode cX12_unit 147 = .ok (.aload_n 0, 1) := by decide +kernel
theorem dX12_unit_148 : decode cX12_unit 148 = .ok (.invokevirtual 225, 3) := by decide +kernel
theorem dX12_unit_151 : decode cX12_unit 151 = .ok (.ifCond .ne 5, 3) := by decide +kernel
theorem dX12_unit_154 : decode cX12_unit 154 = .ok (.iconst 1, 1) := by decide +kernel
theorem dX12_unit_155 : decode cX12_unit 155 = .ok (.ireturn, 1) := by decide +kernel
theorem dX12_unit_156 : decode cX12_unit 156 = .ok (.aload_n 0, 1) := by decide +kernel
theorem dX12_unit_157 : decode cX12_unit 157 = .ok (.getfield 33, 3) := by decide +kernel
theorem dX12_unit_160 : decode cX12_unit 160 = .ok (.aload_n 0, 1) := by decide +kernel
theorem dX12_unit_161 : decode cX12_unit 161 = .ok (.getfield 246, 3) := by decide +kernel
theorem dX12_unit_164 : decode cX12_unit 164 = .ok (.dup2, 1) := by decide +kernel
theorem dX12_unit_165 : decode cX12_unit 165 = .ok (.iaload, 1) := by decide +kernel
theorem dX12_unit_166 : decode cX12_unit 166 = .ok (.iload_n 2, 1) := by decide +kernel
theorem dX12_unit_167 : decode cX12_unit 167 = .ok (.ifCond .eq 7, 3) := by decide +kernel
theorem dX12_unit_170 : decode cX12_unit 170 = .ok (.iconst 0, 1) := by decide +kernel
theorem dX12_unit_171 : decode cX12_unit 171 = .ok (.goto 4, 3) := by decide +kernel
theorem dX12_unit_174 : decode cX12_unit 174 = .ok (.iconst 1, 1) := by decide +kernel
theorem dX12_unit_175 : decode cX12_unit 175 = .ok (.iadd, 1) := by decide +kernel
theorem dX12_unit_176 : decode cX12_unit 176 = .ok (.iastore, 1) := by decide +kernel
theorem dX12_unit_177 : decode cX12_unit 177 = .ok (.aload_n 0, 1) := by decide +kernel
theorem dX12_unit_178 : decode cX12_unit 178 = .ok (.dup, 1) := by decide +kernel
theorem dX12_unit_179 : decode cX12_unit 179 = .ok (.getfield 289, 3) := by decide +kernel
theorem dX12_unit_182 : decode cX12_unit 182 = .ok (.iload_n 2, 1) := by decide +kernel
theorem dX12_unit_183 : decode cX12_unit 183 = .ok (.ifCond .eq 7, 3) := by decide +kernel
theorem dX12_unit_186 : decode cX12_unit 186 = .ok (.iconst 0, 1) := by decide +kernel
theorem dX12_unit_187 : decode cX12_unit 187 = .ok (.goto 4, 3) := by decide +kernel
theorem dX12_unit_190 : decode cX12_unit 190 = .ok (.iconst 1, 1) := by decide +kernel
theorem dX12_unit_191 : decode cX12_unit 191 = .ok (.iadd, 1) := by decide +kernel
theorem dX12_unit_192 : decode cX12_unit 192 = .ok (.putfield 289, 3) := by decide +kernel
theorem dX12_unit_195 : decode cX12_unit 195 = .ok (.iload 4, 2) := by decide +kernel
theorem dX12_unit_197 : decode cX12_unit 197 = .ok (.ifCond .ne 10, 3) := by decide +kernel
theorem dX12_unit_200 : decode cX12_unit 200 = .ok (.aload_n 0, 1) := by decide +kernel
theorem dX12_unit_201 : decode cX12_unit 201 = .ok (.getfield 215, 3) := by decide +kernel
theorem dX12_unit_204 : decode cX12_unit 204 = .ok (.goto 4, 3) := by decide +kernel
theorem dX12_unit_207 : decode cX12_unit 207 = .ok (.iconst 0, 1) := by decide +kernel
theorem dX12_unit_208 : decode cX12_unit 208 = .ok (.istore 6, 2) := by decide +kernel
theorem dX12_unit_210 : decode cX12_unit 210 = .ok (.aload_n 0, 1) := by decide +kernel
theorem dX12_unit_211 : decode cX12_unit 211 = .ok (.invokevirtual 229, 3) := by decide +kernel
theorem dX12_unit_214 : decode cX12_unit 214 = .ok (.iload_n 2, 1) := by decide +kernel
theorem dX12_unit_215 : decode cX12_unit 215 = .ok (.ifCond .ne 7, 3) := by decide +kernel
theorem dX12_unit_218 : decode cX12_unit 218 = .ok (.iload_n 3, 1) := by decide +kernel
theorem dX12_unit_219 : decode cX12_unit 219 = .ok (.ifCond .eq 31, 3) := by decide +kernel
theorem dX12_unit_222 : decode cX12_unit 222 = .ok (.aload_n 0, 1) := by decide +kernel
theorem dX12_unit_223 : decode cX12_unit 223 = .ok (.iload_n 2, 1) := by decide +kernel
theorem dX12_unit_224 : decode cX12_unit 224 = .ok (.ifCond .eq 7, 3) := by decide +kernel
theorem dX12_unit_227 : decode cX12_unit 227 = .ok (.iconst 3, 1) := by decide +kernel
theorem dX12_unit_228 : decode cX12_unit 228 = .ok (.goto 5, 3) := by decide +kernel
theorem dX12_unit_231 : decode cX12_unit 231 = .ok (.bipush 7, 2) := by decide +kernel
theorem dX12_unit_233 : decode cX12_unit 233 = .ok (.bipush 126, 2) := by decide +kernel
theorem dX12_unit_235 : decode cX12_unit 235 = .ok (.invokevirtual 301, 3) := by decide +kernel
theorem dX12_unit_238 : decode cX12_unit 238 = .ok (.aload_n 0, 1) := by decide +kernel
theorem dX12_unit_239 : decode cX12_unit 239 = .ok (.dup, 1) := by decide +kernel
theorem dX12_unit_240 : decode cX12_unit 240 = .ok (.getfield 298, 3) := by decide +kernel
theorem dX12_unit_243 : decode cX12_unit 243 = .ok (.iconst 1, 1) := by decide +kernel
theorem dX12_unit_244 : decode cX12_unit 244 = .ok (.iadd, 1) := by decide +kernel
theorem dX12_unit_245 : decode cX12_unit 245 = .ok (.putfield 298, 3) := by decide +kernel
theorem dX12_unit_248 : decode cX12_unit 248 = .ok (.iconst 1, 1) := by decide +kernel
theorem dX12_unit_249 : decode cX12_unit 249 = .ok (.ireturn, 1) := by decide +kernel
theorem dX12_unit_250 : decode cX12_unit 250 = .ok (.aload_n 0, 1) := by decide +kernel
theorem dX12_unit_251 : decode cX12_unit 251 = .ok (.iload 4, 2) := by decide +kernel
theorem dX12_unit_253 : decode cX12_unit 253 = .ok (.ifCond .ne 8, 3) := by decide +kernel
theorem dX12_unit_256 : decode cX12_unit 256 = .ok (.bipush 110, 2) := by decide +kernel
theorem dX12_unit_258 : decode cX12_unit 258 = .ok (.goto 5, 3) := by decide +kernel
theorem dX12_unit_261 : decode cX12_unit 261 = .ok (.iload 4, 2) := by decide +kernel
theorem dX12_unit_263 : decode cX12_unit 263 = .ok (.iload 6, 2) := by decide +kernel
theorem dX12_unit_265 : decode cX12_unit 265 = .ok (.invokevirtual 313, 3) := by decide +kernel
theorem dX12_unit_268 : decode cX12_unit 268 = .ok (.iconst 0, 1) := by decide +kernel
theorem dX12_unit_269 : decode cX12_unit 269 = .ok (.ireturn, 1) := by decide +kernel
def kX12_unit_233 (n : Nat) : mK := i_cst (.int (126)) (i_cV 12 2 (FX12_pushE n) (i_ldA 0 (i_dup (i_gI 12 34 (i_cst (.int (1)) (i_bin (fun x y => x + y) (i_pI 12 34 (i_cst (.int (1)) (i_rZ)))))))))
set_option maxRecDepth 20000 in
theorem okX12_unit_233 {E : mE} {X : State → Heap → Prop} {l : Launch} (hX : mXok E X) (n : Nat) : Sd E X l yX12_unit cX12_unit 7 (some .boolean) 3 0 0 0 0 233 (kX12_unit_233 n) := s_bipush dX12_unit_233 (by decide) (s_cV dX12_unit_235 lMX12_301 bVX12_pushE rfl (CtX12_pushE hX n) (Nat.le_of_ble_eq_true rfl) (s_aload_n dX12_unit_238 rfl (s_dup dX12_unit_239 (s_gI dX12_unit_240 lFX12_298 (by decide) (s_iconst dX12_unit_243 (by decide) (s_iadd dX12_unit_244 (s_pI dX12_unit_245 lFX12_298 (s_iconst dX12_unit_248 (by decide) (s_rZ dX12_unit_249 (Nat.le_of_ble_eq_true rfl) (Nat.le_of_ble_eq_true rfl))))))))) (Nat.le_of_ble_eq_true rfl) (Nat.le_of_ble_eq_true rfl))
def kX12_unit_222 (n : Nat) : mK := i_ldA 0 (i_ldI 2 (i_c0 (fun x => decide (x = 0)) (i_cst (.int (7)) (kX12_unit_233 n)) (i_cst (.int (3)) ((kX12_unit_233 n)))))
set_option maxRecDepth 20000 in
theorem okX12_unit_222 {E : mE} {X : State → Heap → Prop} {l : Launch} (hX : mXok E X) (n : Nat) : Sd E X l yX12_unit cX12_unit 7 (some .boolean) 3 0 0 0 0 222 (kX12_unit_222 n) := s_aload_n dX12_unit_222 rfl (s_iload_n dX12_unit_223 rfl (s_ifeq dX12_unit_224 (by decide) (s_bipush dX12_unit_231 (by decide) (okX12_unit_233 hX n)) (s_iconst dX12_unit_227 (by decide) (s_goto dX12_unit_228 (by decide) (okX12_unit_233 hX n)))))
def kX12_unit_263 (n : Nat) : mK := i_ldI 6 (i_cV 12 2 (FX12_emit n) (i_cst (.int (0)) (i_rZ)))
set_option maxRecDepth 20000 in
theorem okX12_unit_263 {E : mE} {X : State → Heap → Prop} {l : Launch} (hX : mXok E X) (n : Nat) : Sd E X l yX12_unit cX12_unit 7 (some .boolean) 3 0 0 0 0 263 (kX12_unit_263 n) := s_iload dX12_unit_263 (s_cV dX12_unit_265 lMX12_313 bVX12_emit rfl (CtX12_emit hX n) (Nat.le_of_ble_eq_true rfl) (s_iconst dX12_unit_268 (by decide) (s_rZ dX12_unit_269 (Nat.le_of_ble_eq_true rfl) (Nat.le_of_ble_eq_true rfl))) (Nat.le_of_ble_eq_true rfl) (Nat.le_of_ble_eq_true rfl))
def kX12_unit_208 (n : Nat) : mK := i_stI 6 (i_ldA 0 (i_cV 12 0 (FX12_goOn n) (i_ldI 2 (i_c0 (fun x => decide (¬ x = 0)) (kX12_unit_222 n) (i_ldI 3 (i_c0 (fun x => decide (x = 0)) (i_ldA 0 (i_ldI 4 (i_c0 (fun x => decide (¬ x = 0)) (i_ldI 4 (kX12_unit_263 n)) (i_cst (.int (110)) ((kX12_unit_263 n)))))) (kX12_unit_222 n)))))))
set_option maxRecDepth 20000 in
theorem okX12_unit_208 {E : mE} {X : State → Heap → Prop} {l : Launch} (hX : mXok E X) (n : Nat) : Sd E X l yX12_unit cX12_unit 7 (some .boolean) 3 0 0 0 0 208 (kX12_unit_208 n) := s_istore dX12_unit_208 (s_aload_n dX12_unit_210 rfl (s_cV dX12_unit_211 lMX12_229 bVX12_goOn rfl (CtX12_goOn hX n) (Nat.le_of_ble_eq_true rfl) (s_iload_n dX12_unit_214 rfl (s_ifne dX12_unit_215 (by decide) (okX12_unit_222 hX n) (s_iload_n dX12_unit_218 rfl (s_ifeq dX12_unit_219 (by decide) (s_aload_n dX12_unit_250 rfl (s_iload dX12_unit_251 (s_ifne dX12_unit_253 (by decide) (s_iload dX12_unit_261 (okX12_unit_263 hX n)) (s_bipush dX12_unit_256 (by decide) (s_goto dX12_unit_258 (by decide) (okX12_unit_263 hX n)))))) (okX12_unit_222 hX n))))) (Nat.le_of_ble_eq_true rfl) (Nat.le_of_ble_eq_true rfl)))
def kX12_unit_191 (n : Nat) : mK := i_bin (fun x y => x + y) (i_pI 12 36 (i_ldI 4 (i_c0 (fun x => decide (¬ x = 0)) (i_cst (.int (0)) (kX12_unit_208 n)) (i_ldA 0 (i_gI 12 9 ((kX12_unit_208 n)))))))
set_option maxRecDepth 20000 in
theorem okX12_unit_191 {E : mE} {X : State → Heap → Prop} {l : Launch} (hX : mXok E X) (n : Nat) : Sd E X l yX12_unit cX12_unit 7 (some .boolean) 3 0 0 0 0 191 (kX12_unit_191 n) := s_iadd dX12_unit_191 (s_pI dX12_unit_192 lFX12_289 (s_iload dX12_unit_195 (s_ifne dX12_unit_197 (by decide) (s_iconst dX12_unit_207 (by decide) (okX12_unit_208 hX n)) (s_aload_n dX12_unit_200 rfl (s_gI dX12_unit_201 lFX12_215 (by decide) (s_goto dX12_unit_204 (by decide) (okX12_unit_208 hX n)))))))
def kX12_unit_175 (n : Nat) : mK := i_bin (fun x y => x + y) (i_as 0 (i_ldA 0 (i_dup (i_gI 12 36 (i_ldI 2 (i_c0 (fun x => decide (x = 0)) (i_cst (.int (1)) (kX12_unit_191 n)) (i_cst (.int (0)) ((kX12_unit_191 n)))))))))
set_option maxRecDepth 20000 in
theorem okX12_unit_175 {E : mE} {X : State → Heap → Prop} {l : Launch} (hX : mXok E X) (n : Nat) : Sd E X l yX12_unit cX12_unit 7 (some .boolean) 3 0 0 0 0 175 (kX12_unit_175 n) := s_iadd dX12_unit_175 (s_iast dX12_unit_176 (s_aload_n dX12_unit_177 rfl (s_dup dX12_unit_178 (s_gI dX12_unit_179 lFX12_289 (by decide) (s_iload_n dX12_unit_182 rfl (s_ifeq dX12_unit_183 (by decide) (s_iconst dX12_unit_190 (by decide) (okX12_unit_191 hX n)) (s_iconst dX12_unit_186 (by decide) (s_goto dX12_unit_187 (by decide) (okX12_unit_191 hX n)))))))))
def kX12_unit_147 (n : Nat) : mK := i_ldA 0 (i_cV 12 0 (FX12_isGood n) (i_c0 (fun x => decide (¬ x = 0)) (i_ldA 0 (i_gA 12 15 (i_ldA 0 (i_gI 12 32 (i_dp2 (i_al 0 (i_ldI 2 (i_c0 (fun x => decide (x = 0)) (i_cst (.int (1)) (kX12_unit_175 n)) (i_cst (.int (0)) ((kX12_unit_175 n))))))))))) (i_cst (.int (1)) (i_rZ))))
set_option maxRecDepth 20000 in
theorem okX12_unit_147 {E : mE} {X : State → Heap → Prop} {l : Launch} (hX : mXok E X) (n : Nat) : Sd E X l yX12_unit cX12_unit 7 (some .boolean) 3 0 0 0 0 147 (kX12_unit_147 n) := s_aload_n dX12_unit_147 rfl (s_cV dX12_unit_148 lMX12_225 bVX12_isGood rfl (CtX12_isGood hX n) (Nat.le_of_ble_eq_true rfl) (s_ifne dX12_unit_151 (by decide) (s_aload_n dX12_unit_156 rfl (s_gA dX12_unit_157 lFX12_33 (s_aload_n dX12_unit_160 rfl (s_gI dX12_unit_161 lFX12_246 (by decide) (s_dup2 dX12_unit_164 (s_iald dX12_unit_165 (s_iload_n dX12_unit_166 rfl (s_ifeq dX12_unit_167 (by decide) (s_iconst dX12_unit_174 (by decide) (okX12_unit_175 hX n)) (s_iconst dX12_unit_170 (by decide) (s_goto dX12_unit_171 (by decide) (okX12_unit_175 hX n))))))))))) (s_iconst dX12_unit_154 (by decide) (s_rZ dX12_unit_155 (Nat.le_of_ble_eq_true rfl) (Nat.le_of_ble_eq_true rfl)))) (Nat.le_of_ble_eq_true rfl) (Nat.le_of_ble_eq_true rfl))
def kX12_unit_143 (n : Nat) : mK := i_ldA 0 (i_cV 12 0 (FX12_misplaced n) (kX12_unit_147 n))
set_option maxRecDepth 20000 in
theorem okX12_unit_143 {E : mE} {X : State → Heap → Prop} {l : Launch} (hX : mXok E X) (n : Nat) : Sd E X l yX12_unit cX12_unit 7 (some .boolean) 3 0 0 0 0 143 (kX12_unit_143 n) := s_aload_n dX12_unit_143 rfl (s_cV dX12_unit_144 lMX12_232 bVX12_misplaced rfl (CtX12_misplaced hX n) (Nat.le_of_ble_eq_true rfl) (okX12_unit_147 hX n) (Nat.le_of_ble_eq_true rfl) (Nat.le_of_ble_eq_true rfl))
def kX12_unit_134 (n : Nat) : mK := i_ldA 0 (i_gI 12 34 (i_cst (.int (7)) (i_c2 (fun x y => decide (¬ x = y)) (kX12_unit_147 n) (kX12_unit_143 n))))
set_option maxRecDepth 20000 in
theorem okX12_unit_134 {E : mE} {X : State → Heap → Prop} {l : Launch} (hX : mXok E X) (n : Nat) : Sd E X l yX12_unit cX12_unit 7 (some .boolean) 3 0 0 0 0 134 (kX12_unit_134 n) := s_aload_n dX12_unit_134 rfl (s_gI dX12_unit_135 lFX12_298 (by decide) (s_bipush dX12_unit_138 (by decide) (s_icne dX12_unit_140 (by decide) (okX12_unit_147 hX n) (okX12_unit_143 hX n))))
def kX12_unit_126 (n : Nat) : mK := i_ldI 2 (i_c0 (fun x => decide (¬ x = 0)) (kX12_unit_134 n) (i_ldI 3 (i_c0 (fun x => decide (x = 0)) (kX12_unit_147 n) (kX12_unit_134 n))))
set_option maxRecDepth 20000 in
theorem okX12_unit_126 {E : mE} {X : State → Heap → Prop} {l : Launch} (hX : mXok E X) (n : Nat) : Sd E X l yX12_unit cX12_unit 7 (some .boolean) 3 0 0 0 0 126 (kX12_unit_126 n) := s_iload_n dX12_unit_126 rfl (s_ifne dX12_unit_127 (by decide) (okX12_unit_134 hX n) (s_iload_n dX12_unit_130 rfl (s_ifeq dX12_unit_131 (by decide) (okX12_unit_147 hX n) (okX12_unit_134 hX n))))
def kX12_unit_121 (n : Nat) : mK := i_ldI 5 (i_c0 (fun x => decide (¬ x = 0)) (kX12_unit_143 n) (kX12_unit_126 n))
set_option maxRecDepth 20000 in
theorem okX12_unit_121 {E : mE} {X : State → Heap → Prop} {l : Launch} (hX : mXok E X) (n : Nat) : Sd E X l yX12_unit cX12_unit 7 (some .boolean) 3 0 0 0 0 121 (kX12_unit_121 n) := s_iload dX12_unit_121 (s_ifne dX12_unit_123 (by decide) (okX12_unit_143 hX n) (okX12_unit_126 hX n))
def kX12_unit_98 (n : Nat) : mK := i_stI 5 (i_ldI 2 (i_c0 (fun x => decide (¬ x = 0)) (kX12_unit_126 n) (i_ldI 4 (i_c0 (fun x => decide (¬ x = 0)) (kX12_unit_121 n) (i_ldA 0 (i_gI 12 8 (i_cst (.int (4)) (i_c2 (fun x y => decide (x = y)) (kX12_unit_121 n) (i_ldI 3 (i_c0 (fun x => decide (x = 0)) (kX12_unit_143 n) (kX12_unit_121 n)))))))))))
set_option maxRecDepth 20000 in
theorem okX12_unit_98 {E : mE} {X : State → Heap → Prop} {l : Launch} (hX : mXok E X) (n : Nat) : Sd E X l yX12_unit cX12_unit 7 (some .boolean) 3 0 0 0 0 98 (kX12_unit_98 n) := s_istore dX12_unit_98 (s_iload_n dX12_unit_100 rfl (s_ifne dX12_unit_101 (by decide) (okX12_unit_126 hX n) (s_iload dX12_unit_104 (s_ifne dX12_unit_106 (by decide) (okX12_unit_121 hX n) (s_aload_n dX12_unit_109 rfl (s_gI dX12_unit_110 lFX12_197 (by decide) (s_iconst dX12_unit_113 (by decide) (s_iceq dX12_unit_114 (by decide) (okX12_unit_121 hX n) (s_iload_n dX12_unit_117 rfl (s_ifeq dX12_unit_118 (by decide) (okX12_unit_143 hX n) (okX12_unit_121 hX n)))))))))))
def kX12_unit_93 (n : Nat) : mK := i_cst (.int (1)) ((kX12_unit_98 n))
set_option maxRecDepth 20000 in
theorem okX12_unit_93 {E : mE} {X : State → Heap → Prop} {l : Launch} (hX : mXok E X) (n : Nat) : Sd E X l yX12_unit cX12_unit 7 (some .boolean) 3 0 0 0 0 93 (kX12_unit_93 n) := s_iconst dX12_unit_93 (by decide) (s_goto dX12_unit_94 (by decide) (okX12_unit_98 hX n))
def kX12_unit_56 (n : Nat) : mK := i_stI 2 (i_ldA 0 (i_cst (.int (40)) (i_cV 12 1 (FX12_isSignHere n) (i_stI 3 (i_ldA 0 (i_cV 12 0 (FX12_wordHere n) (i_stI 4 (i_ldA 0 (i_gA 12 15 (i_ldA 0 (i_gI 12 32 (i_al 0 (i_cst (.int (60)) (i_c2 (fun x y => decide (x = y)) (kX12_unit_93 n) (i_ldA 0 (i_gI 12 36 (i_cst (.int (30)) (i_c2 (fun x y => decide (¬ x = y)) (i_cst (.int (0)) (kX12_unit_98 n)) (kX12_unit_93 n)))))))))))))))))))
set_option maxRecDepth 20000 in
theorem okX12_unit_56 {E : mE} {X : State → Heap → Prop} {l : Launch} (hX : mXok E X) (n : Nat) : Sd E X l yX12_unit cX12_unit 7 (some .boolean) 3 0 0 0 0 56 (kX12_unit_56 n) := s_istore_n dX12_unit_56 rfl (s_aload_n dX12_unit_57 rfl (s_bipush dX12_unit_58 (by decide) (s_cV dX12_unit_60 lMX12_279 bVX12_isSignHere rfl (CtX12_isSignHere hX n) (Nat.le_of_ble_eq_true rfl) (s_istore_n dX12_unit_63 rfl (s_aload_n dX12_unit_64 rfl (s_cV dX12_unit_65 lMX12_310 bVX12_wordHere rfl (CtX12_wordHere hX n) (Nat.le_of_ble_eq_true rfl) (s_istore dX12_unit_68 (s_aload_n dX12_unit_70 rfl (s_gA dX12_unit_71 lFX12_33 (s_aload_n dX12_unit_74 rfl (s_gI dX12_unit_75 lFX12_246 (by decide) (s_iald dX12_unit_78 (s_bipush dX12_unit_79 (by decide) (s_iceq dX12_unit_81 (by decide) (okX12_unit_93 hX n) (s_aload_n dX12_unit_84 rfl (s_gI dX12_unit_85 lFX12_289 (by decide) (s_bipush dX12_unit_88 (by decide) (s_icne dX12_unit_90 (by decide) (s_iconst dX12_unit_97 (by decide) (okX12_unit_98 hX n)) (okX12_unit_93 hX n))))))))))))) (Nat.le_of_ble_eq_true rfl) (Nat.le_of_ble_eq_true rfl)))) (Nat.le_of_ble_eq_true rfl) (Nat.le_of_ble_eq_true rfl))))
def kX12_unit_55 (n : Nat) : mK := i_cst (.int (0)) (kX12_unit_56 n)
set_option maxRecDepth 20000 in
theorem okX12_unit_55 {E : mE} {X : State → Heap → Prop} {l : Launch} (hX : mXok E X) (n : Nat) : Sd E X l yX12_unit cX12_unit 7 (some .boolean) 3 0 0 0 0 55 (kX12_unit_55 n) := s_iconst dX12_unit_55 (by decide) (okX12_unit_56 hX n)
def kX12_unit_36 (n : Nat) : mK := i_stI 1 (i_ldI 1 (i_c0 (fun x => decide (x = 0)) (kX12_unit_55 n) (i_ldA 0 (i_cst (.long (7237492)) (i_cV 12 1 (FX12_isWord n) (i_c0 (fun x => decide (x = 0)) (kX12_unit_55 n) (i_cst (.int (1)) ((kX12_unit_56 n)))))))))
set_option maxRecDepth 20000 in
theorem okX12_unit_36 {E : mE} {X : State → Heap → Prop} {l : Launch} (hX : mXok E X) (n : Nat) : Sd E X l yX12_unit cX12_unit 7 (some .boolean) 3 0 0 0 0 36 (kX12_unit_36 n) := s_istore_n dX12_unit_36 rfl (s_iload_n dX12_unit_37 rfl (s_ifeq dX12_unit_38 (by decide) (okX12_unit_55 hX n) (s_aload_n dX12_unit_41 rfl (s_ldc2 dX12_unit_42 lCX12_185 (s_cV dX12_unit_45 lMX12_235 bVX12_isWord rfl (CtX12_isWord hX n) (Nat.le_of_ble_eq_true rfl) (s_ifeq dX12_unit_48 (by decide) (okX12_unit_55 hX n) (s_iconst dX12_unit_51 (by decide) (s_goto dX12_unit_52 (by decide) (okX12_unit_56 hX n)))) (Nat.le_of_ble_eq_true rfl) (Nat.le_of_ble_eq_true rfl))))))
def kX12_unit_31 (n : Nat) : mK := i_cst (.int (1)) ((kX12_unit_36 n))
set_option maxRecDepth 20000 in
theorem okX12_unit_31 {E : mE} {X : State → Heap → Prop} {l : Launch} (hX : mXok E X) (n : Nat) : Sd E X l yX12_unit cX12_unit 7 (some .boolean) 3 0 0 0 0 31 (kX12_unit_31 n) := s_iconst dX12_unit_31 (by decide) (s_goto dX12_unit_32 (by decide) (okX12_unit_36 hX n))
def kX12_unit_0 (n : Nat) : mK := i_ldA 0 (i_gA 12 28 (i_ldA 0 (i_gI 12 35 (i_cst (.int (1)) (i_bin (fun x y => x - y) (i_al 0 (i_cst (.int (3)) (i_c2 (fun x y => decide (x ≤ y)) (kX12_unit_31 n) (i_ldA 0 (i_gA 12 28 (i_ldA 0 (i_gI 12 35 (i_cst (.int (1)) (i_bin (fun x y => x - y) (i_al 0 (i_cst (.int (7)) (i_c2 (fun x y => decide (x < y)) (i_cst (.int (0)) (kX12_unit_36 n)) (kX12_unit_31 n))))))))))))))))))
set_option maxRecDepth 20000 in
theorem okX12_unit_0 {E : mE} {X : State → Heap → Prop} {l : Launch} (hX : mXok E X) (n : Nat) : Sd E X l yX12_unit cX12_unit 7 (some .boolean) 3 0 0 0 0 0 (kX12_unit_0 n) := s_aload_n dX12_unit_0 rfl (s_gA dX12_unit_1 lFX12_73 (s_aload_n dX12_unit_4 rfl (s_gI dX12_unit_5 lFX12_295 (by decide) (s_iconst dX12_unit_8 (by decide) (s_isub dX12_unit_9 (s_iald dX12_unit_10 (s_iconst dX12_unit_11 (by decide) (s_icle dX12_unit_12 (by decide) (okX12_unit_31 hX n) (s_aload_n dX12_unit_15 rfl (s_gA dX12_unit_16 lFX12_73 (s_aload_n dX12_unit_19 rfl (s_gI dX12_unit_20 lFX12_295 (by decide) (s_iconst dX12_unit_23 (by decide) (s_isub dX12_unit_24 (s_iald dX12_unit_25 (s_bipush dX12_unit_26 (by decide) (s_iclt dX12_unit_28 (by decide) (s_iconst dX12_unit_35 (by decide) (okX12_unit_36 hX n)) (okX12_unit_31 hX n))))))))))))))))))
def FX12_unit (n : Nat) : List Value → mM → Option mR := mfn 7 (kX12_unit_0 n)
theorem CtX12_unit {E : mE} {X : State → Heap → Prop} {l : Launch} (hX : mXok E X) (n : Nat) : Ct E X l yX12_unit cX12_unit 7 (some .boolean) 3 0 0 (FX12_unit n) := Ct_of (by decide) hX (okX12_unit_0 hX n)
theorem dX2_fitsAll_0 : decode cX2_fitsAll 0 = .ok (.iconst 0, 1) := by decide +kernel
theorem dX2_fitsAll_1 : decode cX2_fitsAll 1 = .ok (.istore_n 3, 1) := by decide +kernel
theorem dX2_fitsAll_2 : decode cX2_fitsAll 2 = .ok (.iload_n 3, 1) := by decide +kernel
theorem dX2_fitsAll_3 : decode cX2_fitsAll 3 = .ok (.aload_n 0, 1) := by decide +kernel
theorem dX2_fitsAll_4 : decode cX2_fitsAll 4 = .ok (.getfield 38, 3) := by decide +kernel
theorem dX2_fitsAll_7 : decode cX2_fitsAll 7 = .ok (.if_icmp .ge 71, 3) := by decide +kernel
theorem dX2_fitsAll_10 : decode cX2_fitsAll 10 = .ok (.iload_n 3, 1) := by decide +kernel
theorem dX2_fitsAll_11 : decode cX2_fitsAll 11 = .ok (.aload_n 0, 1) := by decide +kernel
theorem dX2_fitsAll_12 : decode cX2_fitsAll 12 = .ok (.getfield 18, 3) := by decide +kernel
theorem dX2_fitsAll_15 : decode cX2_fitsAll 15 = .ok (.arraylength, 1) := by decide +kernel
theorem dX2_fitsAll_16 : decode cX2_fitsAll 16 = .ok (.if_icmp .ge 62, 3) := by decide +kernel
theorem dX2_fitsAll_19 : decode cX2_fitsAll 19 = .ok (.aload_n 0, 1) := by decide +kernel
theorem dX2_fitsAll_20 : decode cX2_fitsAll 20 = .ok (.aload_n 0, 1) := by decide +kernel
theorem dX2_fitsAll_21 : decode cX2_fitsAll 21 = .ok (.getfield 11, 3) := by decide +kernel
theorem dX2_fitsAll_24 : decode cX2_fitsAll 24 = .ok (.iload_n 3, 1) := by decide +kernel
theorem dX2_fitsAll_25 : decode cX2_fitsAll 25 = .ok (.invokestatic 56, 3) := by decide +kernel
theorem dX2_fitsAll_28 : decode cX2_fitsAll 28 = .ok (.iload_n 1, 1) := by decide +kernel
theorem dX2_fitsAll_29 : decode cX2_fitsAll 29 = .ok (.invokevirtual 71, 3) := by decide +kernel
theorem dX2_fitsAll_32 : decode cX2_fitsAll 32 = .ok (.aload_n 0, 1) := by decide +kernel
theorem dX2_fitsAll_33 : decode cX2_fitsAll 33 = .ok (.getfield 15, 3) := by decide +kernel
theorem dX2_fitsAll_36 : decode cX2_fitsAll 36 = .ok (.iload_n 3, 1) := by decide +kernel
theorem dX2_fitsAll_37 : decode cX2_fitsAll 37 = .ok (.invokestatic 56, 3) := by decide +kernel
theorem dX2_fitsAll_40 : decode cX2_fitsAll 40 = .ok (.if_icmp .lt 7, 3) := by decide +kernel
theorem dX2_fitsAll_43 : decode cX2_fitsAll 43 = .ok (.iconst 1, 1) := by decide +kernel
theorem dX2_fitsAll_44 : decode cX2_fitsAll 44 = .ok (.goto 4, 3) := by decide +kernel
theorem dX2_fitsAll_47 : decode cX2_fitsAll 47 = .ok (.iconst 0, 1) := by decide +kernel
theorem dX2_fitsAll_48 : decode cX2_fitsAll 48 = .ok (.istore 4, 2) := by decide +kernel
theorem dX2_fitsAll_50 : decode cX2_fitsAll 50 = .ok (.iload 4, 2) := by decide +kernel
theorem dX2_fitsAll_52 : decode cX2_fitsAll 52 = .ok (.aload_n 0, 1) := by decide +kernel
theorem dX2_fitsAll_53 : decode cX2_fitsAll 53 = .ok (.getfield 18, 3) := by decide +kernel
theorem dX2_fitsAll_56 : decode cX2_fitsAll 56 = .ok (.iload_n 3, 1) := by decide +kernel
theorem dX2_fitsAll_57 : decode cX2_fitsAll 57 = .ok (.baload, 1) := by decide +kernel
theorem dX2_fitsAll_58 : decode cX2_fitsAll 58 = .ok (.if_icmp .eq 14, 3) := by decide +kernel
theorem dX2_fitsAll_61 : decode cX2_fitsAll 61 = .ok (.aload_n 0, 1) := by decide +kernel
theorem dX2_fitsAll_62 : decode cX2_fitsAll 62 = .ok (.iload_n 3, 1) := by decide +kernel
theorem dX2_fitsAll_63 : decode cX2_fitsAll 63 = .ok (.iload_n 2, 1) := by decide +kernel
theorem dX2_fitsAll_64 : decode cX2_fitsAll 64 = .ok (.invokevirtual 75, 3) := by decide +kernel
theorem dX2_fitsAll_67 : decode cX2_fitsAll 67 = .ok (.ifCond .eq 5, 3) := by decide +kernel
theorem dX2_fitsAll_70 : decode cX2_fitsAll 70 = .ok (.iconst 0, 1) := by decide +kernel
theorem dX2_fitsAll_71 : decode cX2_fitsAll 71 = .ok (.ireturn, 1) := by decide +kernel
theorem dX2_fitsAll_72 : decode cX2_fitsAll 72 = .ok (.iinc 3 1, 3) := by decide +kernel
theorem dX2_fitsAll_75 : decode cX2_fitsAll 75 = .ok (.goto (-73), 3) := by decide +kernel
theorem dX2_fitsAll_78 : decode cX2_fitsAll 78 = .ok (.iconst 1, 1) := by decide +kernel
theorem dX2_fitsAll_79 : decode cX2_fitsAll 79 = .ok (.ireturn, 1) := by decide +kernel
def kX2_fitsAll_78 (n : Nat) : mK := i_cst (.int (1)) (i_rZ)
set_option maxRecDepth 20000 in
theorem okX2_fitsAll_78 {E : mE} {X : State → Heap → Prop} {l : Launch} (hX : mXok E X) (n : Nat) : Sd E X l yX2_fitsAll cX2_fitsAll 5 (some .boolean) 3 0 0 0 0 78 (kX2_fitsAll_78 n) := s_iconst dX2_fitsAll_78 (by decide) (s_rZ dX2_fitsAll_79 (Nat.le_of_ble_eq_true rfl) (Nat.le_of_ble_eq_true rfl))
def kX2_fitsAll_72 (n : Nat) (r2 : mK) : mK := i_inc 3 (1) (r2)
set_option maxRecDepth 20000 in
theorem okX2_fitsAll_72 {E : mE} {X : State → Heap → Prop} {l : Launch} (hX : mXok E X) (n : Nat) {r2 : mK} (h2 : Sd E X l yX2_fitsAll cX2_fitsAll 5 (some .boolean) 3 0 0 0 0 2 r2) : Sd E X l yX2_fitsAll cX2_fitsAll 5 (some .boolean) 3 0 0 0 0 72 (kX2_fitsAll_72 n r2) := s_iinc dX2_fitsAll_72 (by decide) (s_goto dX2_fitsAll_75 (by decide) h2)
def kX2_fitsAll_48 (n : Nat) (r2 : mK) : mK := i_stI 4 (i_ldI 4 (i_ldA 0 (i_gA 2 3 (i_ldI 3 (i_al 2 (i_c2 (fun x y => decide (x = y)) (kX2_fitsAll_72 n r2) (i_ldA 0 (i_ldI 3 (i_ldI 2 (i_cV 2 2 (FX2_countsAt n) (i_c0 (fun x => decide (x = 0)) (kX2_fitsAll_72 n r2) (i_cst (.int (0)) (i_rZ)))))))))))))
set_option maxRecDepth 20000 in
theorem okX2_fitsAll_48 {E : mE} {X : State → Heap → Prop} {l : Launch} (hX : mXok E X) (n : Nat) {r2 : mK} (h2 : Sd E X l yX2_fitsAll cX2_fitsAll 5 (some .boolean) 3 0 0 0 0 2 r2) : Sd E X l yX2_fitsAll cX2_fitsAll 5 (some .boolean) 3 0 0 0 0 48 (kX2_fitsAll_48 n r2) := s_istore dX2_fitsAll_48 (s_iload dX2_fitsAll_50 (s_aload_n dX2_fitsAll_52 rfl (s_gA dX2_fitsAll_53 lFX2_18 (s_iload_n dX2_fitsAll_56 rfl (s_zald dX2_fitsAll_57 (s_iceq dX2_fitsAll_58 (by decide) (okX2_fitsAll_72 hX n h2) (s_aload_n dX2_fitsAll_61 rfl (s_iload_n dX2_fitsAll_62 rfl (s_iload_n dX2_fitsAll_63 rfl (s_cV dX2_fitsAll_64 lMX2_75 bVX2_countsAt rfl (CtX2_countsAt hX n) (Nat.le_of_ble_eq_true rfl) (s_ifeq dX2_fitsAll_67 (by decide) (okX2_fitsAll_72 hX n h2) (s_iconst dX2_fitsAll_70 (by decide) (s_rZ dX2_fitsAll_71 (Nat.le_of_ble_eq_true rfl) (Nat.le_of_ble_eq_true rfl)))) (Nat.le_of_ble_eq_true rfl) (Nat.le_of_ble_eq_true rfl)))))))))))
def kX2_fitsAll_2 (n : Nat) (r2 : mK) : mK := i_ldI 3 (i_ldA 0 (i_gI 2 6 (i_c2 (fun x y => decide (y ≤ x)) (kX2_fitsAll_78 n) (i_ldI 3 (i_ldA 0 (i_gA 2 3 (i_len (i_c2 (fun x y => decide (y ≤ x)) (kX2_fitsAll_78 n) (i_ldA 0 (i_ldA 0 (i_gA 2 1 (i_ldI 3 (i_cS 2 (FX11_at n) (i_ldI 1 (i_cV 2 2 (FX2_worthBehind n) (i_ldA 0 (i_gA 2 2 (i_ldI 3 (i_cS 2 (FX11_at n) (i_c2 (fun x y => decide (x < y)) (i_cst (.int (0)) (kX2_fitsAll_48 n r2)) (i_cst (.int (1)) ((kX2_fitsAll_48 n r2)))))))))))))))))))))))
set_option maxRecDepth 20000 in
theorem okX2_fitsAll_2 {E : mE} {X : State → Heap → Prop} {l : Launch} (hX : mXok E X) (n : Nat) {r2 : mK} (h2 : Sd E X l yX2_fitsAll cX2_fitsAll 5 (some .boolean) 3 0 0 0 0 2 r2) : Sd E X l yX2_fitsAll cX2_fitsAll 5 (some .boolean) 3 0 0 0 0 2 (kX2_fitsAll_2 n r2) := s_iload_n dX2_fitsAll_2 rfl (s_aload_n dX2_fitsAll_3 rfl (s_gI dX2_fitsAll_4 lFX2_38 (by decide) (s_icge dX2_fitsAll_7 (by decide) (okX2_fitsAll_78 hX n) (s_iload_n dX2_fitsAll_10 rfl (s_aload_n dX2_fitsAll_11 rfl (s_gA dX2_fitsAll_12 lFX2_18 (s_len dX2_fitsAll_15 (s_icge dX2_fitsAll_16 (by decide) (okX2_fitsAll_78 hX n) (s_aload_n dX2_fitsAll_19 rfl (s_aload_n dX2_fitsAll_20 rfl (s_gA dX2_fitsAll_21 lFX2_11 (s_iload_n dX2_fitsAll_24 rfl (s_cN dX2_fitsAll_25 lNX2_56 bSX11_at (CtX11_at hX n) (Nat.le_of_ble_eq_true rfl) (s_iload_n dX2_fitsAll_28 rfl (s_cV dX2_fitsAll_29 lMX2_71 bVX2_worthBehind rfl (CtX2_worthBehind hX n) (Nat.le_of_ble_eq_true rfl) (s_aload_n dX2_fitsAll_32 rfl (s_gA dX2_fitsAll_33 lFX2_15 (s_iload_n dX2_fitsAll_36 rfl (s_cN dX2_fitsAll_37 lNX2_56 bSX11_at (CtX11_at hX n) (Nat.le_of_ble_eq_true rfl) (s_iclt dX2_fitsAll_40 (by decide) (s_iconst dX2_fitsAll_47 (by decide) (okX2_fitsAll_48 hX n h2)) (s_iconst dX2_fitsAll_43 (by decide) (s_goto dX2_fitsAll_44 (by decide) (okX2_fitsAll_48 hX n h2)))) (Nat.le_of_ble_eq_true rfl) (Nat.le_of_ble_eq_true rfl))))) (Nat.le_of_ble_eq_true rfl) (Nat.le_of_ble_eq_true rfl))) (Nat.le_of_ble_eq_true rfl) (Nat.le_of_ble_eq_true rfl))))))))))))))
def kX2_fitsAll_0 (n : Nat) : mK := i_cst (.int (0)) (i_stI 3 (mit (kX2_fitsAll_2 n ) n))
set_option maxRecDepth 20000 in
theorem okX2_fitsAll_0 {E : mE} {X : State → Heap → Prop} {l : Launch} (hX : mXok E X) (n : Nat) : Sd E X l yX2_fitsAll cX2_fitsAll 5 (some .boolean) 3 0 0 0 0 0 (kX2_fitsAll_0 n) := s_iconst dX2_fitsAll_0 (by decide) (s_istore_n dX2_fitsAll_1 rfl (s_mit (fun _ hk => okX2_fitsAll_2 hX n hk) n))
def FX2_fitsAll (n : Nat) : List Value → mM → Option mR := mfn 5 (kX2_fitsAll_0 n)
theorem CtX2_fitsAll {E : mE} {X : State → Heap → Prop} {l : Launch} (hX : mXok E X) (n : Nat) : Ct E X l yX2_fitsAll cX2_fitsAll 5 (some .boolean) 3 0 0 (FX2_fitsAll n) := Ct_of (by decide) hX (okX2_fitsAll_0 hX n)
theorem dX2_mostAlike_0 : decode cX2_mostAlike 0 = .ok (.iconst 0, 1) := by decide +kernel
theorem dX2_mostAlike_1 : decode cX2_mostAlike 1 = .ok (.istore_n 2, 1) := by decide +kernel
theorem dX2_mostAlike_2 : decode cX2_mostAlike 2 = .ok (.iconst 0, 1) := by decide +kernel
theorem dX2_mostAlike_3 : decode cX2_mostAlike 3 = .ok (.istore_n 3, 1) := by decide +kernel
theorem dX2_mostAlike_4 : decode cX2_mostAlike 4 = .ok (.iload_n 3, 1) := by decide +kernel
theorem dX2_mostAlike_5 : decode cX2_mostAlike 5 = .ok (.aload_n 0, 1) := by decide +kernel
theorem dX2_mostAlike_6 : decode cX2_mostAlike 6 = .ok (.getfield 61, 3) := by decide +kernel
theorem dX2_mostAlike_9 : decode cX2_mostAlike 9 = .ok (.if_icmp .ge 82, 3) := by decide +kernel
theorem dX2_mostAlike_12 : decode cX2_mostAlike 12 = .ok (.iload_n 2, 1) := by decide +kernel
theorem dX2_mostAlike_13 : decode cX2_mostAlike 13 = .ok (.aload_n 0, 1) := by decide +kernel
theorem dX2_mostAlike_14 : decode cX2_mostAlike 14 = .ok (.getfield 102, 3) := by decide +kernel
theorem dX2_mostAlike_17 : decode cX2_mostAlike 17 = .ok (.if_icmp .ge 74, 3) := by decide +kernel
theorem dX2_mostAlike_20 : decode cX2_mostAlike 20 = .ok (.aload_n 0, 1) := by decide +kernel
theorem dX2_mostAlike_21 : decode cX2_mostAlike 21 = .ok (.iload_n 1, 1) := by decide +kernel
theorem dX2_mostAlike_22 : decode cX2_mostAlike 22 = .ok (.aload_n 0, 1) := by decide +kernel
theorem dX2_mostAlike_23 : decode cX2_mostAlike 23 = .ok (.getfield 31, 3) := by decide +kernel
theorem dX2_mostAlike_26 : decode cX2_mostAlike 26 = .ok (.iload_n 3, 1) := by decide +kernel
theorem dX2_mostAlike_27 : decode cX2_mostAlike 27 = .ok (.invokestatic 56, 3) := by decide +kernel
theorem dX2_mostAlike_30 : decode cX2_mostAlike 30 = .ok (.invokevirtual 71, 3) := by decide +kernel
theorem dX2_mostAlike_33 : decode cX2_mostAlike 33 = .ok (.istore 4, 2) := by decide +kernel
theorem dX2_mostAlike_35 : decode cX2_mostAlike 35 = .ok (.iconst 0, 1) := by decide +kernel
theorem dX2_mostAlike_36 : decode cX2_mostAlike 36 = .ok (.istore 5, 2) := by decide +kernel
theorem dX2_mostAlike_38 : decode cX2_mostAlike 38 = .ok (.iload_n 3, 1) := by decide +kernel
theorem dX2_mostAlike_39 : decode cX2_mostAlike 39 = .ok (.istore 6, 2) := by decide +kernel
theorem dX2_mostAlike_41 : decode cX2_mostAlike 41 = .ok (.iload 6, 2) := by decide +kernel
theorem dX2_mostAlike_43 : decode cX2_mostAlike 43 = .ok (.aload_n 0, 1) := by decide +kernel
theorem dX2_mostAlike_44 : decode cX2_mostAlike 44 = .ok (.getfield 61, 3) := by decide +kernel
theorem dX2_mostAlike_47 : decode cX2_mostAlike 47 = .ok (.if_icmp .ge 31, 3) := by decide +kernel
theorem dX2_mostAlike_50 : decode cX2_mostAlike 50 = .ok (.aload_n 0, 1) := by decide +kernel
theorem dX2_mostAlike_51 : decode cX2_mostAlike 51 = .ok (.iload_n 1, 1) := by decide +kernel
theorem dX2_mostAlike_52 : decode cX2_mostAlike 52 = .ok (.aload_n 0, 1) := by decide +kernel
theorem dX2_mostAlike_53 : decode cX2_mostAlike 53 = .ok (.getfield 31, 3) := by decide +kernel
theorem dX2_mostAlike_56 : decode cX2_mostAlike 56 = .ok (.iload 6, 2) := by decide +kernel
theorem dX2_mostAlike_58 : decode cX2_mostAlike 58 = .ok (.invokestatic 56, 3) := by decide +kernel
theorem dX2_mostAlike_61 : decode cX2_mostAlike 61 = .ok (.invokevirtual 71, 3) := by decide +kernel
theorem dX2_mostAlike_64 : decode cX2_mostAlike 64 = .ok (.iload 4, 2) := by decide +kernel
theorem dX2_mostAlike_66 : decode cX2_mostAlike 66 = .ok (.if_icmp .ne 6, 3) := by decide +kernel
theorem dX2_mostAlike_69 : decode cX2_mostAlike 69 = .ok (.iinc 5 1, 3) := by decide +kernel
theorem dX2_mostAlike_72 : decode cX2_mostAlike 72 = .ok (.iinc 6 1, 3) := by decide +kernel
theorem dX2_mostAlike_75 : decode cX2_mostAlike 75 = .ok (.goto (-34), 3) := by decide +kernel
theorem dX2_mostAlike_78 : decode cX2_mostAlike 78 = .ok (.iload_n 2, 1) := by decide +kernel
theorem dX2_mostAlike_79 : decode cX2_mostAlike 79 = .ok (.iload 5, 2) := by decide +kernel
theorem dX2_mostAlike_81 : decode cX2_mostAlike 81 = .ok (.invokestatic 108, 3) := by decide +kernel
theorem dX2_mostAlike_84 : decode cX2_mostAlike 84 = .ok (.istore_n 2, 1) := by decide +kernel
theorem dX2_mostAlike_85 : decode cX2_mostAlike 85 = .ok (.iinc 3 1, 3) := by decide +kernel
theorem dX2_mostAlike_88 : decode cX2_mostAlike 88 = .ok (.goto (-84), 3) := by decide +kernel
theorem dX2_mostAlike_91 : decode cX2_mostAlike 91 = .ok (.iload_n 2, 1) := by decide +kernel
theorem dX2_mostAlike_92 : decode cX2_mostAlike 92 = .ok (.ireturn, 1) := by decide +kernel
def kX2_mostAlike_91 (n : Nat) : mK := i_ldI 2 (i_rI)
set_option maxRecDepth 20000 in
theorem okX2_mostAlike_91 {E : mE} {X : State → Heap → Prop} {l : Launch} (hX : mXok E X) (n : Nat) : Sd E X l yX2_mostAlike cX2_mostAlike 7 (some .int) 3 0 0 0 0 91 (kX2_mostAlike_91 n) := s_iload_n dX2_mostAlike_91 rfl (s_rI dX2_mostAlike_92 (Nat.le_of_ble_eq_true rfl) (Nat.le_of_ble_eq_true rfl))
def kX2_mostAlike_72 (n : Nat) (r4 : mK) (r41 : mK) : mK := i_inc 6 (1) (r41)
set_option maxRecDepth 20000 in
theorem okX2_mostAlike_72 {E : mE} {X : State → Heap → Prop} {l : Launch} (hX : mXok E X) (n : Nat) {r4 : mK} (h4 : Sd E X l yX2_mostAlike cX2_mostAlike 7 (some .int) 3 0 0 0 0 4 r4) {r41 : mK} (h41 : Sd E X l yX2_mostAlike cX2_mostAlike 7 (some .int) 3 0 0 0 0 41 r41) : Sd E X l yX2_mostAlike cX2_mostAlike 7 (some .int) 3 0 0 0 0 72 (kX2_mostAlike_72 n r4 r41) := s_iinc dX2_mostAlike_72 (by decide) (s_goto dX2_mostAlike_75 (by decide) h41)
def kX2_mostAlike_41 (n : Nat) (r4 : mK) (r41 : mK) : mK := i_ldI 6 (i_ldA 0 (i_gI 2 11 (i_c2 (fun x y => decide (y ≤ x)) (i_ldI 2 (i_ldI 5 (i_mm (fun x y => if x < y then y else x) (i_stI 2 (i_inc 3 (1) (r4)))))) (i_ldA 0 (i_ldI 1 (i_ldA 0 (i_gA 2 10 (i_ldI 6 (i_cS 2 (FX11_at n) (i_cV 2 2 (FX2_worthBehind n) (i_ldI 4 (i_c2 (fun x y => decide (¬ x = y)) (kX2_mostAlike_72 n r4 r41) (i_inc 5 (1) (kX2_mostAlike_72 n r4 r41))))))))))))))
set_option maxRecDepth 20000 in
theorem okX2_mostAlike_41 {E : mE} {X : State → Heap → Prop} {l : Launch} (hX : mXok E X) (n : Nat) {r4 : mK} (h4 : Sd E X l yX2_mostAlike cX2_mostAlike 7 (some .int) 3 0 0 0 0 4 r4) {r41 : mK} (h41 : Sd E X l yX2_mostAlike cX2_mostAlike 7 (some .int) 3 0 0 0 0 41 r41) : Sd E X l yX2_mostAlike cX2_mostAlike 7 (some .int) 3 0 0 0 0 41 (kX2_mostAlike_41 n r4 r41) := s_iload dX2_mostAlike_41 (s_aload_n dX2_mostAlike_43 rfl (s_gI dX2_mostAlike_44 lFX2_61 (by decide) (s_icge dX2_mostAlike_47 (by decide) (s_iload_n dX2_mostAlike_78 rfl (s_iload dX2_mostAlike_79 (s_max dX2_mostAlike_81 lMX2_108 lmax1 lMath0 lmax2 (Nat.le_of_ble_eq_true rfl) (s_istore_n dX2_mostAlike_84 rfl (s_iinc dX2_mostAlike_85 (by decide) (s_goto dX2_mostAlike_88 (by decide) h4))) (Nat.le_of_ble_eq_true rfl) (Nat.le_of_ble_eq_true rfl)))) (s_aload_n dX2_mostAlike_50 rfl (s_iload_n dX2_mostAlike_51 rfl (s_aload_n dX2_mostAlike_52 rfl (s_gA dX2_mostAlike_53 lFX2_31 (s_iload dX2_mostAlike_56 (s_cN dX2_mostAlike_58 lNX2_56 bSX11_at (CtX11_at hX n) (Nat.le_of_ble_eq_true rfl) (s_cV dX2_mostAlike_61 lMX2_71 bVX2_worthBehind rfl (CtX2_worthBehind hX n) (Nat.le_of_ble_eq_true rfl) (s_iload dX2_mostAlike_64 (s_icne dX2_mostAlike_66 (by decide) (okX2_mostAlike_72 hX n h4 h41) (s_iinc dX2_mostAlike_69 (by decide) (okX2_mostAlike_72 hX n h4 h41)))) (Nat.le_of_ble_eq_true rfl) (Nat.le_of_ble_eq_true rfl)) (Nat.le_of_ble_eq_true rfl) (Nat.le_of_ble_eq_true rfl))))))))))
def kX2_mostAlike_4 (n : Nat) (r4 : mK) : mK := i_ldI 3 (i_ldA 0 (i_gI 2 11 (i_c2 (fun x y => decide (y ≤ x)) (kX2_mostAlike_91 n) (i_ldI 2 (i_ldA 0 (i_gI 2 13 (i_c2 (fun x y => decide (y ≤ x)) (kX2_mostAlike_91 n) (i_ldA 0 (i_ldI 1 (i_ldA 0 (i_gA 2 10 (i_ldI 3 (i_cS 2 (FX11_at n) (i_cV 2 2 (FX2_worthBehind n) (i_stI 4 (i_cst (.int (0)) (i_stI 5 (i_ldI 3 (i_stI 6 (mit (kX2_mostAlike_41 n r4) n))))))))))))))))))))
set_option maxRecDepth 20000 in
theorem okX2_mostAlike_4 {E : mE} {X : State → Heap → Prop} {l : Launch} (hX : mXok E X) (n : Nat) {r4 : mK} (h4 : Sd E X l yX2_mostAlike cX2_mostAlike 7 (some .int) 3 0 0 0 0 4 r4) : Sd E X l yX2_mostAlike cX2_mostAlike 7 (some .int) 3 0 0 0 0 4 (kX2_mostAlike_4 n r4) := s_iload_n dX2_mostAlike_4 rfl (s_aload_n dX2_mostAlike_5 rfl (s_gI dX2_mostAlike_6 lFX2_61 (by decide) (s_icge dX2_mostAlike_9 (by decide) (okX2_mostAlike_91 hX n) (s_iload_n dX2_mostAlike_12 rfl (s_aload_n dX2_mostAlike_13 rfl (s_gI dX2_mostAlike_14 lFX2_102 (by decide) (s_icge dX2_mostAlike_17 (by decide) (okX2_mostAlike_91 hX n) (s_aload_n dX2_mostAlike_20 rfl (s_iload_n dX2_mostAlike_21 rfl (s_aload_n dX2_mostAlike_22 rfl (s_gA dX2_mostAlike_23 lFX2_31 (s_iload_n dX2_mostAlike_26 rfl (s_cN dX2_mostAlike_27 lNX2_56 bSX11_at (CtX11_at hX n) (Nat.le_of_ble_eq_true rfl) (s_cV dX2_mostAlike_30 lMX2_71 bVX2_worthBehind rfl (CtX2_worthBehind hX n) (Nat.le_of_ble_eq_true rfl) (s_istore dX2_mostAlike_33 (s_iconst dX2_mostAlike_35 (by decide) (s_istore dX2_mostAlike_36 (s_iload_n dX2_mostAlike_38 rfl (s_istore dX2_mostAlike_39 (s_mit (fun _ hk => okX2_mostAlike_41 hX n h4 hk) n)))))) (Nat.le_of_ble_eq_true rfl) (Nat.le_of_ble_eq_true rfl)) (Nat.le_of_ble_eq_true rfl) (Nat.le_of_ble_eq_true rfl))))))))))))))
def kX2_mostAlike_0 (n : Nat) : mK := i_cst (.int (0)) (i_stI 2 (i_cst (.int (0)) (i_stI 3 (mit (kX2_mostAlike_4 n ) n))))
set_option maxRecDepth 20000 in
theorem okX2_mostAlike_0 {E : mE} {X : State → Heap → Prop} {l : Launch} (hX : mXok E X) (n : Nat) : Sd E X l yX2_mostAlike cX2_mostAlike 7 (some .int) 3 0 0 0 0 0 (kX2_mostAlike_0 n) := s_iconst dX2_mostAlike_0 (by decide) (s_istore_n dX2_mostAlike_1 rfl (s_iconst dX2_mostAlike_2 (by decide) (s_istore_n dX2_mostAlike_3 rfl (s_mit (fun _ hk => okX2_mostAlike_4 hX n hk) n))))
def FX2_mostAlike (n : Nat) : List Value → mM → Option mR := mfn 7 (kX2_mostAlike_0 n)
theorem CtX2_mostAlike {E : mE} {X : State → Heap → Prop} {l : Launch} (hX : mXok E X) (n : Nat) : Ct E X l yX2_mostAlike cX2_mostAlike 7 (some .int) 3 0 0 (FX2_mostAlike n) := Ct_of (by decide) hX (okX2_mostAlike_0 hX n)
theorem dX3_begin_0 : decode cX3_begin 0 = .ok (.aload_n 0, 1) := by decide +kernel
theorem dX3_begin_1 : decode cX3_begin 1 = .ok (.iconst 0, 1) := by decide +kernel
theorem dX3_begin_2 : decode cX3_begin 2 = .ok (.putfield 19, 3) := by decide +kernel
theorem dX3_begin_5 : decode cX3_begin 5 = .ok (.aload_n 0, 1) := by decide +kernel
theorem dX3_begin_6 : decode cX3_begin 6 = .ok (.iconst 0, 1) := by decide +kernel
theorem dX3_begin_7 : decode cX3_begin 7 = .ok (.putfield 23, 3) := by decide +kernel
theorem dX3_begin_10 : decode cX3_begin 10 = .ok (.aload_n 0, 1) := by decide +kernel
theorem dX3_begin_11 : decode cX3_begin 11 = .ok (.getfield 15, 3) := by decide +kernel
theorem dX3_begin_14 : decode cX3_begin 14 = .ok (.aload_n 0, 1) := by decide +kernel
theorem dX3_begin_15 : decode cX3_begin 15 = .ok (.getfield 11, 3) := by decide +kernel
theorem dX3_begin_18 : decode cX3_begin 18 = .ok (.iconst 0, 1) := by decide +kernel
theorem dX3_begin_19 : decode cX3_begin 19 = .ok (.invokevirtual 26, 3) := by decide +kernel
theorem dX3_begin_22 : decode cX3_begin 22 = .ok (.return_, 1) := by decide +kernel
def kX3_begin_0 (n : Nat) : mK := i_ldA 0 (i_cst (.int (0)) (i_pI 3 2 (i_ldA 0 (i_cst (.int (0)) (i_pI 3 3 (i_ldA 0 (i_gA 3 0 (i_ldA 0 (i_gA 3 1 (i_cst (.int (0)) (i_cV 8 2 (FX8_save n) (i_rV))))))))))))
set_option maxRecDepth 20000 in
theorem okX3_begin_0 {E : mE} {X : State → Heap → Prop} {l : Launch} (hX : mXok E X) (n : Nat) : Sd E X l yX3_begin cX3_begin 1 none 3 0 0 0 0 0 (kX3_begin_0 n) := s_aload_n dX3_begin_0 rfl (s_iconst dX3_begin_1 (by decide) (s_pI dX3_begin_2 lFX3_19 (s_aload_n dX3_begin_5 rfl (s_iconst dX3_begin_6 (by decide) (s_pI dX3_begin_7 lFX3_23 (s_aload_n dX3_begin_10 rfl (s_gA dX3_begin_11 lFX3_15 (s_aload_n dX3_begin_14 rfl (s_gA dX3_begin_15 lFX3_11 (s_iconst dX3_begin_18 (by decide) (s_cV dX3_begin_19 lMX3_26 bVX8_save rfl (CtX8_save hX n) (Nat.le_of_ble_eq_true rfl) (s_rV dX3_begin_22 (Nat.le_of_ble_eq_true rfl) (Nat.le_of_ble_eq_true rfl)) (Nat.le_of_ble_eq_true rfl) (Nat.le_of_ble_eq_true rfl))))))))))))
def FX3_begin (n : Nat) : List Value → mM → Option mR := mfn 1 (kX3_begin_0 n)
theorem CtX3_begin {E : mE} {X : State → Heap → Prop} {l : Launch} (hX : mXok E X) (n : Nat) : Ct E X l yX3_begin cX3_begin 1 none 3 0 0 (FX3_begin n) := Ct_of (by decide) hX (okX3_begin_0 hX n)
theorem dX3_keep_0 : decode cX3_keep 0 = .ok (.aload_n 0, 1) := by decide +kernel
theorem dX3_keep_1 : decode cX3_keep 1 = .ok (.getfield 19, 3) := by decide +kernel
theorem dX3_keep_4 : decode cX3_keep 4 = .ok (.bipush 40, 2) := by decide +kernel
theorem dX3_keep_6 : decode cX3_keep 6 = .ok (.if_icmp .lt 7, 3) := by decide +kernel
theorem dX3_keep_9 : decode cX3_keep 9 = .ok (.aload_n 0, 1) := by decide +kernel
theorem dX3_keep_10 : decode cX3_keep 10 = .ok (.invokevirtual 32, 3) := by decide +kernel
theorem dX3_keep_13 : decode cX3_keep 13 = .ok (.aload_n 0, 1) := by decide +kernel
theorem dX3_keep_14 : decode cX3_keep 14 = .ok (.dup, 1) := by decide +kernel
theorem dX3_keep_15 : decode cX3_keep 15 = .ok (.getfield 19, 3) := by decide +kernel
theorem dX3_keep_18 : decode cX3_keep 18 = .ok (.iconst 1, 1) := by decide +kernel
theorem dX3_keep_19 : decode cX3_keep 19 = .ok (.iadd, 1) := by decide +kernel
theorem dX3_keep_20 : decode cX3_keep 20 = .ok (.putfield 19, 3) := by decide +kernel
theorem dX3_keep_23 : decode cX3_keep 23 = .ok (.aload_n 0, 1) := by decide +kernel
theorem dX3_keep_24 : decode cX3_keep 24 = .ok (.aload_n 0, 1) := by decide +kernel
theorem dX3_keep_25 : decode cX3_keep 25 = .ok (.getfield 19, 3) := by decide +kernel
theorem dX3_keep_28 : decode cX3_keep 28 = .ok (.putfield 23, 3) := by decide +kernel
theorem dX3_keep_31 : decode cX3_keep 31 = .ok (.aload_n 0, 1) := by decide +kernel
theorem dX3_keep_32 : decode cX3_keep 32 = .ok (.getfield 15, 3) := by decide +kernel
theorem dX3_keep_35 : decode cX3_keep 35 = .ok (.aload_n 0, 1) := by decide +kernel
theorem dX3_keep_36 : decode cX3_keep 36 = .ok (.getfield 11, 3) := by decide +kernel
theorem dX3_keep_39 : decode cX3_keep 39 = .ok (.aload_n 0, 1) := by decide +kernel
theorem dX3_keep_40 : decode cX3_keep 40 = .ok (.getfield 19, 3) := by decide +kernel
theorem dX3_keep_43 : decode cX3_keep 43 = .ok (.bipush 34, 2) := by decide +kernel
theorem dX3_keep_45 : decode cX3_keep 45 = .ok (.imul, 1) := by decide +kernel
theorem dX3_keep_46 : decode cX3_keep 46 = .ok (.invokevirtual 26, 3) := by decide +kernel
theorem dX3_keep_49 : decode cX3_keep 49 = .ok (.return_, 1) := by decide +kernel
def kX3_keep_13 (n : Nat) : mK := i_ldA 0 (i_dup (i_gI 3 2 (i_cst (.int (1)) (i_bin (fun x y => x + y) (i_pI 3 2 (i_ldA 0 (i_ldA 0 (i_gI 3 2 (i_pI 3 3 (i_ldA 0 (i_gA 3 0 (i_ldA 0 (i_gA 3 1 (i_ldA 0 (i_gI 3 2 (i_cst (.int (34)) (i_bin (fun x y => x * y) (i_cV 8 2 (FX8_save n) (i_rV)))))))))))))))))))
set_option maxRecDepth 20000 in
theorem okX3_keep_13 {E : mE} {X : State → Heap → Prop} {l : Launch} (hX : mXok E X) (n : Nat) : Sd E X l yX3_keep cX3_keep 1 none 3 0 0 0 0 13 (kX3_keep_13 n) := s_aload_n dX3_keep_13 rfl (s_dup dX3_keep_14 (s_gI dX3_keep_15 lFX3_19 (by decide) (s_iconst dX3_keep_18 (by decide) (s_iadd dX3_keep_19 (s_pI dX3_keep_20 lFX3_19 (s_aload_n dX3_keep_23 rfl (s_aload_n dX3_keep_24 rfl (s_gI dX3_keep_25 lFX3_19 (by decide) (s_pI dX3_keep_28 lFX3_23 (s_aload_n dX3_keep_31 rfl (s_gA dX3_keep_32 lFX3_15 (s_aload_n dX3_keep_35 rfl (s_gA dX3_keep_36 lFX3_11 (s_aload_n dX3_keep_39 rfl (s_gI dX3_keep_40 lFX3_19 (by decide) (s_bipush dX3_keep_43 (by decide) (s_imul dX3_keep_45 (s_cV dX3_keep_46 lMX3_26 bVX8_save rfl (CtX8_save hX n) (Nat.le_of_ble_eq_true rfl) (s_rV dX3_keep_49 (Nat.le_of_ble_eq_true rfl) (Nat.le_of_ble_eq_true rfl)) (Nat.le_of_ble_eq_true rfl) (Nat.le_of_ble_eq_true rfl)))))))))))))))))))
def kX3_keep_0 (n : Nat) : mK := i_ldA 0 (i_gI 3 2 (i_cst (.int (40)) (i_c2 (fun x y => decide (x < y)) (kX3_keep_13 n) (i_ldA 0 (i_cV 3 0 (FX3_dropOldest n) (kX3_keep_13 n))))))
set_option maxRecDepth 20000 in
theorem okX3_keep_0 {E : mE} {X : State → Heap → Prop} {l : Launch} (hX : mXok E X) (n : Nat) : Sd E X l yX3_keep cX3_keep 1 none 3 0 0 0 0 0 (kX3_keep_0 n) := s_aload_n dX3_keep_0 rfl (s_gI dX3_keep_1 lFX3_19 (by decide) (s_bipush dX3_keep_4 (by decide) (s_iclt dX3_keep_6 (by decide) (okX3_keep_13 hX n) (s_aload_n dX3_keep_9 rfl (s_cV dX3_keep_10 lMX3_32 bVX3_dropOldest rfl (CtX3_dropOldest hX n) (Nat.le_of_ble_eq_true rfl) (okX3_keep_13 hX n) (Nat.le_of_ble_eq_true rfl) (Nat.le_of_ble_eq_true rfl))))))
def FX3_keep (n : Nat) : List Value → mM → Option mR := mfn 1 (kX3_keep_0 n)
theorem CtX3_keep {E : mE} {X : State → Heap → Prop} {l : Launch} (hX : mXok E X) (n : Nat) : Ct E X l yX3_keep cX3_keep 1 none 3 0 0 (FX3_keep n) := Ct_of (by decide) hX (okX3_keep_0 hX n)
theorem dX3_stepBack_0 : decode cX3_stepBack 0 = .ok (.aload_n 0, 1) := by decide +kernel
theorem dX3_stepBack_1 : decode cX3_stepBack 1 = .ok (.getfield 19, 3) := by decide +kernel
theorem dX3_stepBack_4 : decode cX3_stepBack 4 = .ok (.ifCond .gt 5, 3) := by decide +kernel
theorem dX3_stepBack_7 : decode cX3_stepBack 7 = .ok (.iconst 0, 1) := by decide +kernel
theorem dX3_stepBack_8 : decode cX3_stepBack 8 = .ok (.ireturn, 1) := by decide +kernel
theorem dX3_stepBack_9 : decode cX3_stepBack 9 = .ok (.aload_n 0, 1) := by decide +kernel
theorem dX3_stepBack_10 : decode cX3_stepBack 10 = .ok (.dup, 1) := by decide +kernel
theorem dX3_stepBack_11 : decode cX3_stepBack 11 = .ok (.getfield 19, 3) := by decide +kernel
theorem dX3_stepBack_14 : decode cX3_stepBack 14 = .ok (.iconst 1, 1) := by decide +kernel
theorem dX3_stepBack_15 : decode cX3_stepBack 15 = .ok (.isub, 1) := by decide +kernel
theorem dX3_stepBack_16 : decode cX3_stepBack 16 = .ok (.putfield 19, 3) := by decide +kernel
theorem dX3_stepBack_19 : decode cX3_stepBack 19 = .ok (.aload_n 0, 1) := by decide +kernel
theorem dX3_stepBack_20 : decode cX3_stepBack 20 = .ok (.getfield 15, 3) := by decide +kernel
theorem dX3_stepBack_23 : decode cX3_stepBack 23 = .ok (.aload_n 0, 1) := by decide +kernel
theorem dX3_stepBack_24 : decode cX3_stepBack 24 = .ok (.getfield 11, 3) := by decide +kernel
theorem dX3_stepBack_27 : decode cX3_stepBack 27 = .ok (.aload_n 0, 1) := by decide +kernel
theorem dX3_stepBack_28 : decode cX3_stepBack 28 = .ok (.getfield 19, 3) := by decide +kernel
theorem dX3_stepBack_31 : decode cX3_stepBack 31 = .ok (.bipush 34, 2) := by decide +kernel
theorem dX3_stepBack_33 : decode cX3_stepBack 33 = .ok (.imul, 1) := by decide +kernel
theorem dX3_stepBack_34 : decode cX3_stepBack 34 = .ok (.invokevirtual 35, 3) := by decide +kernel
theorem dX3_stepBack_37 : decode cX3_stepBack 37 = .ok (.iconst 1, 1) := by decide +kernel
theorem dX3_stepBack_38 : decode cX3_stepBack 38 = .ok (.ireturn, 1) := by decide +kernel
def kX3_stepBack_0 (n : Nat) : mK := i_ldA 0 (i_gI 3 2 (i_c0 (fun x => decide (0 < x)) (i_ldA 0 (i_dup (i_gI 3 2 (i_cst (.int (1)) (i_bin (fun x y => x - y) (i_pI 3 2 (i_ldA 0 (i_gA 3 0 (i_ldA 0 (i_gA 3 1 (i_ldA 0 (i_gI 3 2 (i_cst (.int (34)) (i_bin (fun x y => x * y) (i_cV 8 2 (FX8_load n) (i_cst (.int (1)) (i_rZ))))))))))))))))) (i_cst (.int (0)) (i_rZ))))
set_option maxRecDepth 20000 in
theorem okX3_stepBack_0 {E : mE} {X : State → Heap → Prop} {l : Launch} (hX : mXok E X) (n : Nat) : Sd E X l yX3_stepBack cX3_stepBack 1 (some .boolean) 3 0 0 0 0 0 (kX3_stepBack_0 n) := s_aload_n dX3_stepBack_0 rfl (s_gI dX3_stepBack_1 lFX3_19 (by decide) (s_ifgt dX3_stepBack_4 (by decide) (s_aload_n dX3_stepBack_9 rfl (s_dup dX3_stepBack_10 (s_gI dX3_stepBack_11 lFX3_19 (by decide) (s_iconst dX3_stepBack_14 (by decide) (s_isub dX3_stepBack_15 (s_pI dX3_stepBack_16 lFX3_19 (s_aload_n dX3_stepBack_19 rfl (s_gA dX3_stepBack_20 lFX3_15 (s_aload_n dX3_stepBack_23 rfl (s_gA dX3_stepBack_24 lFX3_11 (s_aload_n dX3_stepBack_27 rfl (s_gI dX3_stepBack_28 lFX3_19 (by decide) (s_bipush dX3_stepBack_31 (by decide) (s_imul dX3_stepBack_33 (s_cV dX3_stepBack_34 lMX3_35 bVX8_load rfl (CtX8_load hX n) (Nat.le_of_ble_eq_true rfl) (s_iconst dX3_stepBack_37 (by decide) (s_rZ dX3_stepBack_38 (Nat.le_of_ble_eq_true rfl) (Nat.le_of_ble_eq_true rfl))) (Nat.le_of_ble_eq_true rfl) (Nat.le_of_ble_eq_true rfl)))))))))))))))) (s_iconst dX3_stepBack_7 (by decide) (s_rZ dX3_stepBack_8 (Nat.le_of_ble_eq_true rfl) (Nat.le_of_ble_eq_true rfl)))))
def FX3_stepBack (n : Nat) : List Value → mM → Option mR := mfn 1 (kX3_stepBack_0 n)
theorem CtX3_stepBack {E : mE} {X : State → Heap → Prop} {l : Launch} (hX : mXok E X) (n : Nat) : Ct E X l yX3_stepBack cX3_stepBack 1 (some .boolean) 3 0 0 (FX3_stepBack n) := Ct_of (by decide) hX (okX3_stepBack_0 hX n)
theorem dX3_stepOn_0 : decode cX3_stepOn 0 = .ok (.aload_n 0, 1) := by decide +kernel
theorem dX3_stepOn_1 : decode cX3_stepOn 1 = .ok (.getfield 19, 3) := by decide +kernel
theorem dX3_stepOn_4 : decode cX3_stepOn 4 = .ok (.aload_n 0, 1) := by decide +kernel
theorem dX3_stepOn_5 : decode cX3_stepOn 5 = .ok (.getfield 23, 3) := by decide +kernel
theorem dX3_stepOn_8 : decode cX3_stepOn 8 = .ok (.if_icmp .lt 5, 3) := by decide +kernel
theorem dX3_stepOn_11 : decode cX3_stepOn 11 = .ok (.iconst 0, 1) := by decide +kernel
theorem dX3_stepOn_12 : decode cX3_stepOn 12 = .ok (.ireturn, 1) := by decide +kernel
theorem dX3_stepOn_13 : decode cX3_stepOn 13 = .ok (.aload_n 0, 1) := by decide +kernel
theorem dX3_stepOn_14 : decode cX3_stepOn 14 = .ok (.dup, 1) := by decide +kernel
theorem dX3_stepOn_15 : decode cX3_stepOn 15 = .ok (.getfield 19, 3) := by decide +kernel
theorem dX3_stepOn_18 : decode cX3_stepOn 18 = .ok (.iconst 1, 1) := by decide +kernel
theorem dX3_stepOn_19 : decode cX3_stepOn 19 = .ok (.iadd, 1) := by decide +kernel
theorem dX3_stepOn_20 : decode cX3_stepOn 20 = .ok (.putfield 19, 3) := by decide +kernel
theorem dX3_stepOn_23 : decode cX3_stepOn 23 = .ok (.aload_n 0, 1) := by decide +kernel
theorem dX3_stepOn_24 : decode cX3_stepOn 24 = .ok (.getfield 15, 3) := by decide +kernel
theorem dX3_stepOn_27 : decode cX3_stepOn 27 = .ok (.aload_n 0, 1) := by decide +kernel
theorem dX3_stepOn_28 : decode cX3_stepOn 28 = .ok (.getfield 11, 3) := by decide +kernel
theorem dX3_stepOn_31 : decode cX3_stepOn 31 = .ok (.aload_n 0, 1) := by decide +kernel
theorem dX3_stepOn_32 : decode cX3_stepOn 32 = .ok (.getfield 19, 3) := by decide +kernel
theorem dX3_stepOn_35 : decode cX3_stepOn 35 = .ok (.bipush 34, 2) := by decide +kernel
theorem dX3_stepOn_37 : decode cX3_stepOn 37 = .ok (.imul, 1) := by decide +kernel
theorem dX3_stepOn_38 : decode cX3_stepOn 38 = .ok (.invokevirtual 35, 3) := by decide +kernel
theorem dX3_stepOn_41 : decode cX3_stepOn 41 = .ok (.iconst 1, 1) := by decide +kernel
theorem dX3_stepOn_42 : decode cX3_stepOn 42 = .ok (.ireturn, 1) := by decide +kernel
def kX3_stepOn_0 (n : Nat) : mK := i_ldA 0 (i_gI 3 2 (i_ldA 0 (i_gI 3 3 (i_c2 (fun x y => decide (x < y)) (i_ldA 0 (i_dup (i_gI 3 2 (i_cst (.int (1)) (i_bin (fun x y => x + y) (i_pI 3 2 (i_ldA 0 (i_gA 3 0 (i_ldA 0 (i_gA 3 1 (i_ldA 0 (i_gI 3 2 (i_cst (.int (34)) (i_bin (fun x y => x * y) (i_cV 8 2 (FX8_load n) (i_cst (.int (1)) (i_rZ))))))))))))))))) (i_cst (.int (0)) (i_rZ))))))
set_option maxRecDepth 20000 in
theorem okX3_stepOn_0 {E : mE} {X : State → Heap → Prop} {l : Launch} (hX : mXok E X) (n : Nat) : Sd E X l yX3_stepOn cX3_stepOn 1 (some .boolean) 3 0 0 0 0 0 (kX3_stepOn_0 n) := s_aload_n dX3_stepOn_0 rfl (s_gI dX3_stepOn_1 lFX3_19 (by decide) (s_aload_n dX3_stepOn_4 rfl (s_gI dX3_stepOn_5 lFX3_23 (by decide) (s_iclt dX3_stepOn_8 (by decide) (s_aload_n dX3_stepOn_13 rfl (s_dup dX3_stepOn_14 (s_gI dX3_stepOn_15 lFX3_19 (by decide) (s_iconst dX3_stepOn_18 (by decide) (s_iadd dX3_stepOn_19 (s_pI dX3_stepOn_20 lFX3_19 (s_aload_n dX3_stepOn_23 rfl (s_gA dX3_stepOn_24 lFX3_15 (s_aload_n dX3_stepOn_27 rfl (s_gA dX3_stepOn_28 lFX3_11 (s_aload_n dX3_stepOn_31 rfl (s_gI dX3_stepOn_32 lFX3_19 (by decide) (s_bipush dX3_stepOn_35 (by decide) (s_imul dX3_stepOn_37 (s_cV dX3_stepOn_38 lMX3_35 bVX8_load rfl (CtX8_load hX n) (Nat.le_of_ble_eq_true rfl) (s_iconst dX3_stepOn_41 (by decide) (s_rZ dX3_stepOn_42 (Nat.le_of_ble_eq_true rfl) (Nat.le_of_ble_eq_true rfl))) (Nat.le_of_ble_eq_true rfl) (Nat.le_of_ble_eq_true rfl)))))))))))))))) (s_iconst dX3_stepOn_11 (by decide) (s_rZ dX3_stepOn_12 (Nat.le_of_ble_eq_true rfl) (Nat.le_of_ble_eq_true rfl)))))))
def FX3_stepOn (n : Nat) : List Value → mM → Option mR := mfn 1 (kX3_stepOn_0 n)
theorem CtX3_stepOn {E : mE} {X : State → Heap → Prop} {l : Launch} (hX : mXok E X) (n : Nat) : Ct E X l yX3_stepOn cX3_stepOn 1 (some .boolean) 3 0 0 (FX3_stepOn n) := Ct_of (by decide) hX (okX3_stepOn_0 hX n)
theorem dX4_copyFrom_0 : decode cX4_copyFrom 0 = .ok (.aload_n 0, 1) := by decide +kernel
theorem dX4_copyFrom_1 : decode cX4_copyFrom 1 = .ok (.aload_n 1, 1) := by decide +kernel
theorem dX4_copyFrom_2 : decode cX4_copyFrom 2 = .ok (.getfield 37, 3) := by decide +kernel
theorem dX4_copyFrom_5 : decode cX4_copyFrom 5 = .ok (.putfield 37, 3) := by decide +kernel
theorem dX4_copyFrom_8 : decode cX4_copyFrom 8 = .ok (.aload_n 0, 1) := by decide +kernel
theorem dX4_copyFrom_9 : decode cX4_copyFrom 9 = .ok (.aload_n 1, 1) := by decide +kernel
theorem dX4_copyFrom_10 : decode cX4_copyFrom 10 = .ok (.getfield 41, 3) := by decide +kernel
theorem dX4_copyFrom_13 : decode cX4_copyFrom 13 = .ok (.putfield 41, 3) := by decide +kernel
theorem dX4_copyFrom_16 : decode cX4_copyFrom 16 = .ok (.aload_n 0, 1) := by decide +kernel
theorem dX4_copyFrom_17 : decode cX4_copyFrom 17 = .ok (.aload_n 1, 1) := by decide +kernel
theorem dX4_copyFrom_18 : decode cX4_copyFrom 18 = .ok (.getfield 44, 3) := by decide +kernel
theorem dX4_copyFrom_21 : decode cX4_copyFrom 21 = .ok (.putfield 44, 3) := by decide +kernel
theorem dX4_copyFrom_24 : decode cX4_copyFrom 24 = .ok (.aload_n 0, 1) := by decide +kernel
theorem dX4_copyFrom_25 : decode cX4_copyFrom 25 = .ok (.aload_n 1, 1) := by decide +kernel
theorem dX4_copyFrom_26 : decode cX4_copyFrom 26 = .ok (.getfield 47, 3) := by decide +kernel
theorem dX4_copyFrom_29 : decode cX4_copyFrom 29 = .ok (.putfield 47, 3) := by decide +kernel
theorem dX4_copyFrom_32 : decode cX4_copyFrom 32 = .ok (.aload_n 0, 1) := by decide +kernel
theorem dX4_copyFrom_33 : decode cX4_copyFrom 33 = .ok (.aload_n 1, 1) := by decide +kernel
theorem dX4_copyFrom_34 : decode cX4_copyFrom 34 = .ok (.getfield 50, 3) := by decide +kernel
theorem dX4_copyFrom_37 : decode cX4_copyFrom 37 = .ok (.putfield 50, 3) := by decide +kernel
theorem dX4_copyFrom_40 : decode cX4_copyFrom 40 = .ok (.aload_n 0, 1) := by decide +kernel
theorem dX4_copyFrom_41 : decode cX4_copyFrom 41 = .ok (.aload_n 1, 1) := by decide +kernel
theorem dX4_copyFrom_42 : decode cX4_copyFrom 42 = .ok (.getfield 53, 3) := by decide +kernel
theorem dX4_copyFrom_45 : decode cX4_copyFrom 45 = .ok (.putfield 53, 3) := by decide +kernel
theorem dX4_copyFrom_48 : decode cX4_copyFrom 48 = .ok (.aload_n 1, 1) := by decide +kernel
theorem dX4_copyFrom_49 : decode cX4_copyFrom 49 = .ok (.getfield 9, 3) := by decide +kernel
theorem dX4_copyFrom_52 : decode cX4_copyFrom 52 = .ok (.aload_n 0, 1) := by decide +kernel
theorem dX4_copyFrom_53 : decode cX4_copyFrom 53 = .ok (.getfield 9, 3) := by decide +kernel
theorem dX4_copyFrom_56 : decode cX4_copyFrom 56 = .ok (.invokestatic 57, 3) := by decide +kernel
theorem dX4_copyFrom_59 : decode cX4_copyFrom 59 = .ok (.aload_n 1, 1) := by decide +kernel
theorem dX4_copyFrom_60 : decode cX4_copyFrom 60 = .ok (.getfield 15, 3) := by decide +kernel
theorem dX4_copyFrom_63 : decode cX4_copyFrom 63 = .ok (.aload_n 0, 1) := by decide +kernel
theorem dX4_copyFrom_64 : decode cX4_copyFrom 64 = .ok (.getfield 15, 3) := by decide +kernel
theorem dX4_copyFrom_67 : decode cX4_copyFrom 67 = .ok (.invokestatic 57, 3) := by decide +kernel
theorem dX4_copyFrom_70 : decode cX4_copyFrom 70 = .ok (.aload_n 1, 1) := by decide +kernel
theorem dX4_copyFrom_71 : decode cX4_copyFrom 71 = .ok (.getfield 18, 3) := by decide +kernel
theorem dX4_copyFrom_74 : decode cX4_copyFrom 74 = .ok (.aload_n 0, 1) := by decide +kernel
theorem dX4_copyFrom_75 : decode cX4_copyFrom 75 = .ok (.getfield 18, 3) := by decide +kernel
theorem dX4_copyFrom_78 : decode cX4_copyFrom 78 = .ok (.invokestatic 57, 3) := by decide +kernel
theorem dX4_copyFrom_81 : decode cX4_copyFrom 81 = .ok (.aload_n 1, 1) := by decide +kernel
theorem dX4_copyFrom_82 : decode cX4_copyFrom 82 = .ok (.getfield 21, 3) := by decide +kernel
theorem dX4_copyFrom_85 : decode cX4_copyFrom 85 = .ok (.aload_n 0, 1) := by decide +kernel
theorem dX4_copyFrom_86 : decode cX4_copyFrom 86 = .ok (.getfield 21, 3) := by decide +kernel
theorem dX4_copyFrom_89 : decode cX4_copyFrom 89 = .ok (.invokestatic 57, 3) := by decide +kernel
theorem dX4_copyFrom_92 : decode cX4_copyFrom 92 = .ok (.aload_n 0, 1) := by decide +kernel
theorem dX4_copyFrom_93 : decode cX4_copyFrom 93 = .ok (.getfield 27, 3) := by decide +kernel
theorem dX4_copyFrom_96 : decode cX4_copyFrom 96 = .ok (.aload_n 1, 1) := by decide +kernel
theorem dX4_copyFrom_97 : decode cX4_copyFrom 97 = .ok (.getfield 27, 3) := by decide +kernel
theorem dX4_copyFrom_100 : decode cX4_copyFrom 100 = .ok (.invokevirtual 61, 3) := by decide +kernel
theorem dX4_copyFrom_103 : decode cX4_copyFrom 103 = .ok (.aload_n 0, 1) := by decide +kernel
theorem dX4_copyFrom_104 : decode cX4_copyFrom 104 = .ok (.getfield 31, 3) := by decide +kernel
theorem dX4_copyFrom_107 : decode cX4_copyFrom 107 = .ok (.aload_n 1, 1) := by decide +kernel
theorem dX4_copyFrom_108 : decode cX4_copyFrom 108 = .ok (.getfield 31, 3) := by decide +kernel
theorem dX4_copyFrom_111 : decode cX4_copyFrom 111 = .ok (.invokevirtual 61, 3) := by decide +kernel
theorem dX4_copyFrom_114 : decode cX4_copyFrom 114 = .ok (.return_, 1) := by decide +kernel
def kX4_copyFrom_100 (n : Nat) : mK := i_cV 1 1 (FX1_copyFrom n) (i_ldA 0 (i_gA 4 11 (i_ldA 1 (i_gA 4 11 (i_cV 1 1 (FX1_copyFrom n) (i_rV))))))
set_option maxRecDepth 20000 in
theorem okX4_copyFrom_100 {E : mE} {X : State → Heap → Prop} {l : Launch} (hX : mXok E X) (n : Nat) : Sd E X l yX4_copyFrom cX4_copyFrom 2 none 3 0 0 0 0 100 (kX4_copyFrom_100 n) := s_cV dX4_copyFrom_100 lMX4_61 bVX1_copyFrom rfl (CtX1_copyFrom hX n) (Nat.le_of_ble_eq_true rfl) (s_aload_n dX4_copyFrom_103 rfl (s_gA dX4_copyFrom_104 lFX4_31 (s_aload_n dX4_copyFrom_107 rfl (s_gA dX4_copyFrom_108 lFX4_31 (s_cV dX4_copyFrom_111 lMX4_61 bVX1_copyFrom rfl (CtX1_copyFrom hX n) (Nat.le_of_ble_eq_true rfl) (s_rV dX4_copyFrom_114 (Nat.le_of_ble_eq_true rfl) (Nat.le_of_ble_eq_true rfl)) (Nat.le_of_ble_eq_true rfl) (Nat.le_of_ble_eq_true rfl)))))) (Nat.le_of_ble_eq_true rfl) (Nat.le_of_ble_eq_true rfl)
def kX4_copyFrom_48 (n : Nat) : mK := i_ldA 1 (i_gA 4 6 (i_ldA 0 (i_gA 4 6 (i_cS 2 (FX11_copyRow n) (i_ldA 1 (i_gA 4 7 (i_ldA 0 (i_gA 4 7 (i_cS 2 (FX11_copyRow n) (i_ldA 1 (i_gA 4 8 (i_ldA 0 (i_gA 4 8 (i_cS 2 (FX11_copyRow n) (i_ldA 1 (i_gA 4 9 (i_ldA 0 (i_gA 4 9 (i_cS 2 (FX11_copyRow n) (i_ldA 0 (i_gA 4 10 (i_ldA 1 (i_gA 4 10 (kX4_copyFrom_100 n))))))))))))))))))))))))
set_option maxRecDepth 20000 in
theorem okX4_copyFrom_48 {E : mE} {X : State → Heap → Prop} {l : Launch} (hX : mXok E X) (n : Nat) : Sd E X l yX4_copyFrom cX4_copyFrom 2 none 3 0 0 0 0 48 (kX4_copyFrom_48 n) := s_aload_n dX4_copyFrom_48 rfl (s_gA dX4_copyFrom_49 lFX4_9 (s_aload_n dX4_copyFrom_52 rfl (s_gA dX4_copyFrom_53 lFX4_9 (s_cN dX4_copyFrom_56 lNX4_57 bSX11_copyRow (CtX11_copyRow hX n) (Nat.le_of_ble_eq_true rfl) (s_aload_n dX4_copyFrom_59 rfl (s_gA dX4_copyFrom_60 lFX4_15 (s_aload_n dX4_copyFrom_63 rfl (s_gA dX4_copyFrom_64 lFX4_15 (s_cN dX4_copyFrom_67 lNX4_57 bSX11_copyRow (CtX11_copyRow hX n) (Nat.le_of_ble_eq_true rfl) (s_aload_n dX4_copyFrom_70 rfl (s_gA dX4_copyFrom_71 lFX4_18 (s_aload_n dX4_copyFrom_74 rfl (s_gA dX4_copyFrom_75 lFX4_18 (s_cN dX4_copyFrom_78 lNX4_57 bSX11_copyRow (CtX11_copyRow hX n) (Nat.le_of_ble_eq_true rfl) (s_aload_n dX4_copyFrom_81 rfl (s_gA dX4_copyFrom_82 lFX4_21 (s_aload_n dX4_copyFrom_85 rfl (s_gA dX4_copyFrom_86 lFX4_21 (s_cN dX4_copyFrom_89 lNX4_57 bSX11_copyRow (CtX11_copyRow hX n) (Nat.le_of_ble_eq_true rfl) (s_aload_n dX4_copyFrom_92 rfl (s_gA dX4_copyFrom_93 lFX4_27 (s_aload_n dX4_copyFrom_96 rfl (s_gA dX4_copyFrom_97 lFX4_27 (okX4_copyFrom_100 hX n))))) (Nat.le_of_ble_eq_true rfl) (Nat.le_of_ble_eq_true rfl)))))) (Nat.le_of_ble_eq_true rfl) (Nat.le_of_ble_eq_true rfl)))))) (Nat.le_of_ble_eq_true rfl) (Nat.le_of_ble_eq_true rfl)))))) (Nat.le_of_ble_eq_true rfl) (Nat.le_of_ble_eq_true rfl)))))
def kX4_copyFrom_0 (n : Nat) : mK := i_ldA 0 (i_ldA 1 (i_gI 4 0 (i_pI 4 0 (i_ldA 0 (i_ldA 1 (i_gI 4 1 (i_pI 4 1 (i_ldA 0 (i_ldA 1 (i_gI 4 2 (i_pI 4 2 (i_ldA 0 (i_ldA 1 (i_gI 4 3 (i_pI 4 3 (i_ldA 0 (i_ldA 1 (i_gI 4 4 (i_pI 4 4 (i_ldA 0 (i_ldA 1 (i_gI 4 5 (i_pI 4 5 (kX4_copyFrom_48 n))))))))))))))))))))))))
set_option maxRecDepth 20000 in
theorem okX4_copyFrom_0 {E : mE} {X : State → Heap → Prop} {l : Launch} (hX : mXok E X) (n : Nat) : Sd E X l yX4_copyFrom cX4_copyFrom 2 none 3 0 0 0 0 0 (kX4_copyFrom_0 n) := s_aload_n dX4_copyFrom_0 rfl (s_aload_n dX4_copyFrom_1 rfl (s_gI dX4_copyFrom_2 lFX4_37 (by decide) (s_pI dX4_copyFrom_5 lFX4_37 (s_aload_n dX4_copyFrom_8 rfl (s_aload_n dX4_copyFrom_9 rfl (s_gI dX4_copyFrom_10 lFX4_41 (by decide) (s_pI dX4_copyFrom_13 lFX4_41 (s_aload_n dX4_copyFrom_16 rfl (s_aload_n dX4_copyFrom_17 rfl (s_gI dX4_copyFrom_18 lFX4_44 (by decide) (s_pI dX4_copyFrom_21 lFX4_44 (s_aload_n dX4_copyFrom_24 rfl (s_aload_n dX4_copyFrom_25 rfl (s_gI dX4_copyFrom_26 lFX4_47 (by decide) (s_pI dX4_copyFrom_29 lFX4_47 (s_aload_n dX4_copyFrom_32 rfl (s_aload_n dX4_copyFrom_33 rfl (s_gI dX4_copyFrom_34 lFX4_50 (by decide) (s_pI dX4_copyFrom_37 lFX4_50 (s_aload_n dX4_copyFrom_40 rfl (s_aload_n dX4_copyFrom_41 rfl (s_gI dX4_copyFrom_42 lFX4_53 (by decide) (s_pI dX4_copyFrom_45 lFX4_53 (okX4_copyFrom_48 hX n))))))))))))))))))))))))
def FX4_copyFrom (n : Nat) : List Value → mM → Option mR := mfn 2 (kX4_copyFrom_0 n)
theorem CtX4_copyFrom {E : mE} {X : State → Heap → Prop} {l : Launch} (hX : mXok E X) (n : Nat) : Ct E X l yX4_copyFrom cX4_copyFrom 2 none 3 0 0 (FX4_copyFrom n) := Ct_of (by decide) hX (okX4_copyFrom_0 hX n)
theorem dX4_init_0 : decode cX4_init 0 = .ok (.aload_n 0, 1) := by decide +kernel
theorem dX4_init_1 : decode cX4_init 1 = .ok (.invokespecial 3, 3) := by decide +kernel
theorem dX4_init_4 : decode cX4_init 4 = .ok (.aload_n 0, 1) := by decide +kernel
theorem dX4_init_5 : decode cX4_init 5 = .ok (.bipush 8, 2) := by decide +kernel
theorem dX4_init_7 : decode cX4_init 7 = .ok (.newarray .int, 2) := by decide +kernel
theorem dX4_init_9 : decode cX4_init 9 = .ok (.putfield 9, 3) := by decide +kernel
theorem dX4_init_12 : decode cX4_init 12 = .ok (.aload_n 0, 1) := by decide +kernel
theorem dX4_init_13 : decode cX4_init 13 = .ok (.bipush 8, 2) := by decide +kernel
theorem dX4_init_15 : decode cX4_init 15 = .ok (.newarray .int, 2) := by decide +kernel
theorem dX4_init_17 : decode cX4_init 17 = .ok (.putfield 15, 3) := by decide +kernel
theorem dX4_init_20 : decode cX4_init 20 = .ok (.aload_n 0, 1) := by decide +kernel
theorem dX4_init_21 : decode cX4_init 21 = .ok (.bipush 8, 2) := by decide +kernel
theorem dX4_init_23 : decode cX4_init 23 = .ok (.newarray .int, 2) := by decide +kernel
theorem dX4_init_25 : decode cX4_init 25 = .ok (.putfield 18, 3) := by decide +kernel
theorem dX4_init_28 : decode cX4_init 28 = .ok (.aload_n 0, 1) := by decide +kernel
theorem dX4_init_29 : decode cX4_init 29 = .ok (.bipush 8, 2) := by decide +kernel
theorem dX4_init_31 : decode cX4_init 31 = .ok (.newarray .int, 2) := by decide +kernel
theorem dX4_init_33 : decode cX4_init 33 = .ok (.putfield 21, 3) := by decide +kernel
theorem dX4_init_36 : decode cX4_init 36 = .ok (.aload_n 0, 1) := by decide +kernel
theorem dX4_init_37 : decode cX4_init 37 = .ok (.new 24, 3) := by decide +kernel
theorem dX4_init_40 : decode cX4_init 40 = .ok (.dup, 1) := by decide +kernel
theorem dX4_init_41 : decode cX4_init 41 = .ok (.invokespecial 26, 3) := by decide +kernel
theorem dX4_init_44 : decode cX4_init 44 = .ok (.putfield 27, 3) := by decide +kernel
theorem dX4_init_47 : decode cX4_init 47 = .ok (.aload_n 0, 1) := by decide +kernel
theorem dX4_init_48 : decode cX4_init 48 = .ok (.new 24, 3) := by decide +kernel
theorem dX4_init_51 : decode cX4_init 51 = .ok (.dup, 1) := by decide +kernel
theorem dX4_init_52 : decode cX4_init 52 = .ok (.invokespecial 26, 3) := by decide +kernel
theorem dX4_init_55 : decode cX4_init 55 = .ok (.putfield 31, 3) := by decide +kernel
theorem dX4_init_58 : decode cX4_init 58 = .ok (.aload_n 0, 1) := by decide +kernel
theorem dX4_init_59 : decode cX4_init 59 = .ok (.invokevirtual 34, 3) := by decide +kernel
theorem dX4_init_62 : decode cX4_init 62 = .ok (.return_, 1) := by decide +kernel
def kX4_init_48 (n : Nat) : mK := i_new 1 (i_dup (i_cI 0 2 (FX1_init n) (i_pA 4 11 (i_ldA 0 (i_cV 4 0 (FX4_clear n) (i_rV))))))
set_option maxRecDepth 20000 in
theorem okX4_init_48 {E : mE} {X : State → Heap → Prop} {l : Launch} (hX : mXok E X) (n : Nat) : Sd E X l yX4_init cX4_init 1 none 3 10 702 7 367 48 (kX4_init_48 n) := s_new dX4_init_48 rfl lKX4_24 lIX1 lJX1 (by decide) (Nat.le_of_ble_eq_true rfl) (Nat.le_of_ble_eq_true rfl) (s_dup dX4_init_51 (s_cJ dX4_init_52 lNX4_26 bIX1_init (CtX1_init hX n) (Nat.le_of_ble_eq_true rfl) (Nat.le_of_ble_eq_true rfl) (Nat.le_of_ble_eq_true rfl) (s_pF dX4_init_55 lFX4_31 rfl rfl (s_aload_n dX4_init_58 rfl (s_cV dX4_init_59 lMX4_34 bVX4_clear rfl (CtX4_clear hX n) (Nat.le_of_ble_eq_true rfl) (s_rV dX4_init_62 (Nat.le_of_ble_eq_true rfl) (Nat.le_of_ble_eq_true rfl)) (Nat.le_of_ble_eq_true rfl) (Nat.le_of_ble_eq_true rfl))))))
def kX4_init_0 (n : Nat) : mK := i_ldA 0 (i_obj (i_ldA 0 (i_cst (.int (8)) (i_na 0 8 (i_pA 4 6 (i_ldA 0 (i_cst (.int (8)) (i_na 0 8 (i_pA 4 7 (i_ldA 0 (i_cst (.int (8)) (i_na 0 8 (i_pA 4 8 (i_ldA 0 (i_cst (.int (8)) (i_na 0 8 (i_pA 4 9 (i_ldA 0 (i_new 1 (i_dup (i_cI 0 2 (FX1_init n) (i_pA 4 10 (i_ldA 0 (kX4_init_48 n))))))))))))))))))))))))
set_option maxRecDepth 20000 in
theorem okX4_init_0 {E : mE} {X : State → Heap → Prop} {l : Launch} (hX : mXok E X) (n : Nat) : Sd E X l yX4_init cX4_init 1 none 3 10 702 0 0 0 (kX4_init_0 n) := s_aload_n dX4_init_0 rfl (s_obj dX4_init_1 lMX4_3 lObj1 lObj2 (Nat.le_of_ble_eq_true rfl) (s_aload_n dX4_init_4 rfl (s_bipush dX4_init_5 (by decide) (s_na dX4_init_7 rfl (by decide) lA_0 (Nat.le_of_ble_eq_true rfl) (Nat.le_of_ble_eq_true rfl) (Nat.le_of_ble_eq_true rfl) (s_pF dX4_init_9 lFX4_9 rfl rfl (s_aload_n dX4_init_12 rfl (s_bipush dX4_init_13 (by decide) (s_na dX4_init_15 rfl (by decide) lA_0 (Nat.le_of_ble_eq_true rfl) (Nat.le_of_ble_eq_true rfl) (Nat.le_of_ble_eq_true rfl) (s_pF dX4_init_17 lFX4_15 rfl rfl (s_aload_n dX4_init_20 rfl (s_bipush dX4_init_21 (by decide) (s_na dX4_init_23 rfl (by decide) lA_0 (Nat.le_of_ble_eq_true rfl) (Nat.le_of_ble_eq_true rfl) (Nat.le_of_ble_eq_true rfl) (s_pF dX4_init_25 lFX4_18 rfl rfl (s_aload_n dX4_init_28 rfl (s_bipush dX4_init_29 (by decide) (s_na dX4_init_31 rfl (by decide) lA_0 (Nat.le_of_ble_eq_true rfl) (Nat.le_of_ble_eq_true rfl) (Nat.le_of_ble_eq_true rfl) (s_pF dX4_init_33 lFX4_21 rfl rfl (s_aload_n dX4_init_36 rfl (s_new dX4_init_37 rfl lKX4_24 lIX1 lJX1 (by decide) (Nat.le_of_ble_eq_true rfl) (Nat.le_of_ble_eq_true rfl) (s_dup dX4_init_40 (s_cJ dX4_init_41 lNX4_26 bIX1_init (CtX1_init hX n) (Nat.le_of_ble_eq_true rfl) (Nat.le_of_ble_eq_true rfl) (Nat.le_of_ble_eq_true rfl) (s_pF dX4_init_44 lFX4_27 rfl rfl (s_aload_n dX4_init_47 rfl (okX4_init_48 hX n))))))))))))))))))))))))
def FX4_init (n : Nat) : List Value → mM → Option mR := mfn 1 (kX4_init_0 n)
theorem CtX4_init {E : mE} {X : State → Heap → Prop} {l : Launch} (hX : mXok E X) (n : Nat) : Ct E X l yX4_init cX4_init 1 none 3 10 702 (FX4_init n) := Ct_of (by decide) hX (okX4_init_0 hX n)
theorem dX4_softeningBy_0 : decode cX4_softeningBy 0 = .ok (.aload_n 0, 1) := by decide +kernel
theorem dX4_softeningBy_1 : decode cX4_softeningBy 1 = .ok (.getfield 27, 3) := by decide +kernel
theorem dX4_softeningBy_4 : decode cX4_softeningBy 4 = .ok (.invokevirtual 72, 3) := by decide +kernel
theorem dX4_softeningBy_7 : decode cX4_softeningBy 7 = .ok (.ifCond .eq 20, 3) := by decide +kernel
theorem dX4_softeningBy_10 : decode cX4_softeningBy 10 = .ok (.aload_n 0, 1) := by decide +kernel
theorem dX4_softeningBy_11 : decode cX4_softeningBy 11 = .ok (.getfield 27, 3) := by decide +kernel
theorem dX4_softeningBy_14 : decode cX4_softeningBy 14 = .ok (.iload_n 1, 1) := by decide +kernel
theorem dX4_softeningBy_15 : decode cX4_softeningBy 15 = .ok (.iload_n 2, 1) := by decide +kernel
theorem dX4_softeningBy_16 : decode cX4_softeningBy 16 = .ok (.iload_n 3, 1) := by decide +kernel
theorem dX4_softeningBy_17 : decode cX4_softeningBy 17 = .ok (.iload 4, 2) := by decide +kernel
theorem dX4_softeningBy_19 : decode cX4_softeningBy 19 = .ok (.iload 5, 2) := by decide +kernel
theorem dX4_softeningBy_21 : decode cX4_softeningBy 21 = .ok (.invokevirtual 76, 3) := by decide +kernel
theorem dX4_softeningBy_24 : decode cX4_softeningBy 24 = .ok (.goto 4, 3) := by decide +kernel
theorem dX4_softeningBy_27 : decode cX4_softeningBy 27 = .ok (.iconst 1, 1) := by decide +kernel
theorem dX4_softeningBy_28 : decode cX4_softeningBy 28 = .ok (.istore 6, 2) := by decide +kernel
theorem dX4_softeningBy_30 : decode cX4_softeningBy 30 = .ok (.iconst 0, 1) := by decide +kernel
theorem dX4_softeningBy_31 : decode cX4_softeningBy 31 = .ok (.iload_n 1, 1) := by decide +kernel
theorem dX4_softeningBy_32 : decode cX4_softeningBy 32 = .ok (.iload 6, 2) := by decide +kernel
theorem dX4_softeningBy_34 : decode cX4_softeningBy 34 = .ok (.invokestatic 80, 3) := by decide +kernel
theorem dX4_softeningBy_37 : decode cX4_softeningBy 37 = .ok (.invokestatic 86, 3) := by decide +kernel
theorem dX4_softeningBy_40 : decode cX4_softeningBy 40 = .ok (.ireturn, 1) := by decide +kernel
def kX4_softeningBy_28 (n : Nat) : mK := i_stI 6 (i_cst (.int (0)) (i_ldI 1 (i_ldI 6 (i_mm (fun x y => if y < x then y else x) (i_mm (fun x y => if x < y then y else x) (i_rI))))))
set_option maxRecDepth 20000 in
theorem okX4_softeningBy_28 {E : mE} {X : State → Heap → Prop} {l : Launch} (hX : mXok E X) (n : Nat) : Sd E X l yX4_softeningBy cX4_softeningBy 7 (some .int) 3 0 0 0 0 28 (kX4_softeningBy_28 n) := s_istore dX4_softeningBy_28 (s_iconst dX4_softeningBy_30 (by decide) (s_iload_n dX4_softeningBy_31 rfl (s_iload dX4_softeningBy_32 (s_min dX4_softeningBy_34 lMX4_80 lmin1 lMath0 lmin2 (Nat.le_of_ble_eq_true rfl) (s_max dX4_softeningBy_37 lMX4_86 lmax1 lMath0 lmax2 (Nat.le_of_ble_eq_true rfl) (s_rI dX4_softeningBy_40 (Nat.le_of_ble_eq_true rfl) (Nat.le_of_ble_eq_true rfl)) (Nat.le_of_ble_eq_true rfl) (Nat.le_of_ble_eq_true rfl)) (Nat.le_of_ble_eq_true rfl) (Nat.le_of_ble_eq_true rfl)))))
def kX4_softeningBy_0 (n : Nat) : mK := i_ldA 0 (i_gA 4 10 (i_cV 1 0 (FX1_isTold n) (i_c0 (fun x => decide (x = 0)) (i_cst (.int (1)) (kX4_softeningBy_28 n)) (i_ldA 0 (i_gA 4 10 (i_ldI 1 (i_ldI 2 (i_ldI 3 (i_ldI 4 (i_ldI 5 (i_cV 1 5 (FX1_valueBy n) ((kX4_softeningBy_28 n)))))))))))))
set_option maxRecDepth 20000 in
theorem okX4_softeningBy_0 {E : mE} {X : State → Heap → Prop} {l : Launch} (hX : mXok E X) (n : Nat) : Sd E X l yX4_softeningBy cX4_softeningBy 7 (some .int) 3 0 0 0 0 0 (kX4_softeningBy_0 n) := s_aload_n dX4_softeningBy_0 rfl (s_gA dX4_softeningBy_1 lFX4_27 (s_cV dX4_softeningBy_4 lMX4_72 bVX1_isTold rfl (CtX1_isTold hX n) (Nat.le_of_ble_eq_true rfl) (s_ifeq dX4_softeningBy_7 (by decide) (s_iconst dX4_softeningBy_27 (by decide) (okX4_softeningBy_28 hX n)) (s_aload_n dX4_softeningBy_10 rfl (s_gA dX4_softeningBy_11 lFX4_27 (s_iload_n dX4_softeningBy_14 rfl (s_iload_n dX4_softeningBy_15 rfl (s_iload_n dX4_softeningBy_16 rfl (s_iload dX4_softeningBy_17 (s_iload dX4_softeningBy_19 (s_cV dX4_softeningBy_21 lMX4_76 bVX1_valueBy rfl (CtX1_valueBy hX n) (Nat.le_of_ble_eq_true rfl) (s_goto dX4_softeningBy_24 (by decide) (okX4_softeningBy_28 hX n)) (Nat.le_of_ble_eq_true rfl) (Nat.le_of_ble_eq_true rfl)))))))))) (Nat.le_of_ble_eq_true rfl) (Nat.le_of_ble_eq_true rfl)))
def FX4_softeningBy (n : Nat) : List Value → mM → Option mR := mfn 7 (kX4_softeningBy_0 n)
theorem CtX4_softeningBy {E : mE} {X : State → Heap → Prop} {l : Launch} (hX : mXok E X) (n : Nat) : Ct E X l yX4_softeningBy cX4_softeningBy 7 (some .int) 3 0 0 (FX4_softeningBy n) := Ct_of (by decide) hX (okX4_softeningBy_0 hX n)
theorem dX4_worthBy_0 : decode cX4_worthBy 0 = .ok (.aload_n 0, 1) := by decide +kernel
theorem dX4_worthBy_1 : decode cX4_worthBy 1 = .ok (.getfield 31, 3) := by decide +kernel
theorem dX4_worthBy_4 : decode cX4_worthBy 4 = .ok (.invokevirtual 72, 3) := by decide +kernel
theorem dX4_worthBy_7 : decode cX4_worthBy 7 = .ok (.ifCond .eq 20, 3) := by decide +kernel
theorem dX4_worthBy_10 : decode cX4_worthBy 10 = .ok (.aload_n 0, 1) := by decide +kernel
theorem dX4_worthBy_11 : decode cX4_worthBy 11 = .ok (.getfield 31, 3) := by decide +kernel
theorem dX4_worthBy_14 : decode cX4_worthBy 14 = .ok (.iload_n 1, 1) := by decide +kernel
theorem dX4_worthBy_15 : decode cX4_worthBy 15 = .ok (.iload_n 2, 1) := by decide +kernel
theorem dX4_worthBy_16 : decode cX4_worthBy 16 = .ok (.iload_n 3, 1) := by decide +kernel
theorem dX4_worthBy_17 : decode cX4_worthBy 17 = .ok (.iload 4, 2) := by decide +kernel
theorem dX4_worthBy_19 : decode cX4_worthBy 19 = .ok (.iload 5, 2) := by decide +kernel
theorem dX4_worthBy_21 : decode cX4_worthBy 21 = .ok (.invokevirtual 76, 3) := by decide +kernel
theorem dX4_worthBy_24 : decode cX4_worthBy 24 = .ok (.goto 9, 3) := by decide +kernel
theorem dX4_worthBy_27 : decode cX4_worthBy 27 = .ok (.iload_n 2, 1) := by decide +kernel
theorem dX4_worthBy_28 : decode cX4_worthBy 28 = .ok (.iload 5, 2) := by decide +kernel
theorem dX4_worthBy_30 : decode cX4_worthBy 30 = .ok (.imul, 1) := by decide +kernel
theorem dX4_worthBy_31 : decode cX4_worthBy 31 = .ok (.iload_n 1, 1) := by decide +kernel
theorem dX4_worthBy_32 : decode cX4_worthBy 32 = .ok (.isub, 1) := by decide +kernel
theorem dX4_worthBy_33 : decode cX4_worthBy 33 = .ok (.istore 6, 2) := by decide +kernel
theorem dX4_worthBy_35 : decode cX4_worthBy 35 = .ok (.sipush (-9999), 3) := by decide +kernel
theorem dX4_worthBy_38 : decode cX4_worthBy 38 = .ok (.sipush 9999, 3) := by decide +kernel
theorem dX4_worthBy_41 : decode cX4_worthBy 41 = .ok (.iload 6, 2) := by decide +kernel
theorem dX4_worthBy_43 : decode cX4_worthBy 43 = .ok (.invokestatic 80, 3) := by decide +kernel
theorem dX4_worthBy_46 : decode cX4_worthBy 46 = .ok (.invokestatic 86, 3) := by decide +kernel
theorem dX4_worthBy_49 : decode cX4_worthBy 49 = .ok (.ireturn, 1) := by decide +kernel
def kX4_worthBy_33 (n : Nat) : mK := i_stI 6 (i_cst (.int (-9999)) (i_cst (.int (9999)) (i_ldI 6 (i_mm (fun x y => if y < x then y else x) (i_mm (fun x y => if x < y then y else x) (i_rI))))))
set_option maxRecDepth 20000 in
theorem okX4_worthBy_33 {E : mE} {X : State → Heap → Prop} {l : Launch} (hX : mXok E X) (n : Nat) : Sd E X l yX4_worthBy cX4_worthBy 7 (some .int) 3 0 0 0 0 33 (kX4_worthBy_33 n) := s_istore dX4_worthBy_33 (s_sipush dX4_worthBy_35 (by decide) (s_sipush dX4_worthBy_38 (by decide) (s_iload dX4_worthBy_41 (s_min dX4_worthBy_43 lMX4_80 lmin1 lMath0 lmin2 (Nat.le_of_ble_eq_true rfl) (s_max dX4_worthBy_46 lMX4_86 lmax1 lMath0 lmax2 (Nat.le_of_ble_eq_true rfl) (s_rI dX4_worthBy_49 (Nat.le_of_ble_eq_true rfl) (Nat.le_of_ble_eq_true rfl)) (Nat.le_of_ble_eq_true rfl) (Nat.le_of_ble_eq_true rfl)) (Nat.le_of_ble_eq_true rfl) (Nat.le_of_ble_eq_true rfl)))))
def kX4_worthBy_0 (n : Nat) : mK := i_ldA 0 (i_gA 4 11 (i_cV 1 0 (FX1_isTold n) (i_c0 (fun x => decide (x = 0)) (i_ldI 2 (i_ldI 5 (i_bin (fun x y => x * y) (i_ldI 1 (i_bin (fun x y => x - y) (kX4_worthBy_33 n)))))) (i_ldA 0 (i_gA 4 11 (i_ldI 1 (i_ldI 2 (i_ldI 3 (i_ldI 4 (i_ldI 5 (i_cV 1 5 (FX1_valueBy n) ((kX4_worthBy_33 n)))))))))))))
set_option maxRecDepth 20000 in
theorem okX4_worthBy_0 {E : mE} {X : State → Heap → Prop} {l : Launch} (hX : mXok E X) (n : Nat) : Sd E X l yX4_worthBy cX4_worthBy 7 (some .int) 3 0 0 0 0 0 (kX4_worthBy_0 n) := s_aload_n dX4_worthBy_0 rfl (s_gA dX4_worthBy_1 lFX4_31 (s_cV dX4_worthBy_4 lMX4_72 bVX1_isTold rfl (CtX1_isTold hX n) (Nat.le_of_ble_eq_true rfl) (s_ifeq dX4_worthBy_7 (by decide) (s_iload_n dX4_worthBy_27 rfl (s_iload dX4_worthBy_28 (s_imul dX4_worthBy_30 (s_iload_n dX4_worthBy_31 rfl (s_isub dX4_worthBy_32 (okX4_worthBy_33 hX n)))))) (s_aload_n dX4_worthBy_10 rfl (s_gA dX4_worthBy_11 lFX4_31 (s_iload_n dX4_worthBy_14 rfl (s_iload_n dX4_worthBy_15 rfl (s_iload_n dX4_worthBy_16 rfl (s_iload dX4_worthBy_17 (s_iload dX4_worthBy_19 (s_cV dX4_worthBy_21 lMX4_76 bVX1_valueBy rfl (CtX1_valueBy hX n) (Nat.le_of_ble_eq_true rfl) (s_goto dX4_worthBy_24 (by decide) (okX4_worthBy_33 hX n)) (Nat.le_of_ble_eq_true rfl) (Nat.le_of_ble_eq_true rfl)))))))))) (Nat.le_of_ble_eq_true rfl) (Nat.le_of_ble_eq_true rfl)))
def FX4_worthBy (n : Nat) : List Value → mM → Option mR := mfn 7 (kX4_worthBy_0 n)
theorem CtX4_worthBy {E : mE} {X : State → Heap → Prop} {l : Launch} (hX : mXok E X) (n : Nat) : Ct E X l yX4_worthBy cX4_worthBy 7 (some .int) 3 0 0 (FX4_worthBy n) := Ct_of (by decide) hX (okX4_worthBy_0 hX n)
theorem dX5_takeNumber_0 : decode cX5_takeNumber 0 = .ok (.aload_n 0, 1) := by decide +kernel
theorem dX5_takeNumber_1 : decode cX5_takeNumber 1 = .ok (.getfield 60, 3) := by decide +kernel
theorem dX5_takeNumber_4 : decode cX5_takeNumber 4 = .ok (.iconst 2, 1) := by decide +kernel
theorem dX5_takeNumber_5 : decode cX5_takeNumber 5 = .ok (.if_icmp .eq 8, 3) := by decide +kernel
theorem dX5_takeNumber_8 : decode cX5_takeNumber 8 = .ok (.aload_n 0, 1) := by decide +kernel
theorem dX5_takeNumber_9 : decode cX5_takeNumber 9 = .ok (.invokevirtual 70, 3) := by decide +kernel
theorem dX5_takeNumber_12 : decode cX5_takeNumber 12 = .ok (.ireturn, 1) := by decide +kernel
theorem dX5_takeNumber_13 : decode cX5_takeNumber 13 = .ok (.aload_n 0, 1) := by decide +kernel
theorem dX5_takeNumber_14 : decode cX5_takeNumber 14 = .ok (.aload_n 0, 1) := by decide +kernel
theorem dX5_takeNumber_15 : decode cX5_takeNumber 15 = .ok (.getfield 24, 3) := by decide +kernel
theorem dX5_takeNumber_18 : decode cX5_takeNumber 18 = .ok (.aload_n 0, 1) := by decide +kernel
theorem dX5_takeNumber_19 : decode cX5_takeNumber 19 = .ok (.getfield 132, 3) := by decide +kernel
theorem dX5_takeNumber_22 : decode cX5_takeNumber 22 = .ok (.invokevirtual 185, 3) := by decide +kernel
theorem dX5_takeNumber_25 : decode cX5_takeNumber 25 = .ok (.putfield 99, 3) := by decide +kernel
theorem dX5_takeNumber_28 : decode cX5_takeNumber 28 = .ok (.aload_n 0, 1) := by decide +kernel
theorem dX5_takeNumber_29 : decode cX5_takeNumber 29 = .ok (.aload_n 0, 1) := by decide +kernel
theorem dX5_takeNumber_30 : decode cX5_takeNumber 30 = .ok (.getfield 132, 3) := by decide +kernel
theorem dX5_takeNumber_33 : decode cX5_takeNumber 33 = .ok (.putfield 149, 3) := by decide +kernel
theorem dX5_takeNumber_36 : decode cX5_takeNumber 36 = .ok (.aload_n 0, 1) := by decide +kernel
theorem dX5_takeNumber_37 : decode cX5_takeNumber 37 = .ok (.getfield 99, 3) := by decide +kernel
theorem dX5_takeNumber_40 : decode cX5_takeNumber 40 = .ok (.iload_n 1, 1) := by decide +kernel
theorem dX5_takeNumber_41 : decode cX5_takeNumber 41 = .ok (.if_icmp .lt 11, 3) := by decide +kernel
theorem dX5_takeNumber_44 : decode cX5_takeNumber 44 = .ok (.aload_n 0, 1) := by decide +kernel
theorem dX5_takeNumber_45 : decode cX5_takeNumber 45 = .ok (.getfield 99, 3) := by decide +kernel
theorem dX5_takeNumber_48 : decode cX5_takeNumber 48 = .ok (.iload_n 2, 1) := by decide +kernel
theorem dX5_takeNumber_49 : decode cX5_takeNumber 49 = .ok (.if_icmp .le 13, 3) := by decide +kernel
theorem dX5_takeNumber_52 : decode cX5_takeNumber 52 = .ok (.aload_n 0, 1) := by decide +kernel
theorem dX5_takeNumber_53 : decode cX5_takeNumber 53 = .ok (.iconst 4, 1) := by decide +kernel
theorem dX5_takeNumber_54 : decode cX5_takeNumber 54 = .ok (.aload_n 0, 1) := by decide +kernel
theorem dX5_takeNumber_55 : decode cX5_takeNumber 55 = .ok (.getfield 132, 3) := by decide +kernel
theorem dX5_takeNumber_58 : decode cX5_takeNumber 58 = .ok (.invokevirtual 139, 3) := by decide +kernel
theorem dX5_takeNumber_61 : decode cX5_takeNumber 61 = .ok (.ireturn, 1) := by decide +kernel
theorem dX5_takeNumber_62 : decode cX5_takeNumber 62 = .ok (.aload_n 0, 1) := by decide +kernel
theorem dX5_takeNumber_63 : decode cX5_takeNumber 63 = .ok (.invokevirtual 57, 3) := by decide +kernel
theorem dX5_takeNumber_66 : decode cX5_takeNumber 66 = .ok (.iconst 1, 1) := by decide +kernel
theorem dX5_takeNumber_67 : decode cX5_takeNumber 67 = .ok (.ireturn, 1) := by decide +kernel
def kX5_takeNumber_52 (n : Nat) : mK := i_ldA 0 (i_cst (.int (4)) (i_ldA 0 (i_gI 5 6 (i_cV 5 2 (FX5_fail n) (i_rZ)))))
set_option maxRecDepth 20000 in
theorem okX5_takeNumber_52 {E : mE} {X : State → Heap → Prop} {l : Launch} (hX : mXok E X) (n : Nat) : Sd E X l yX5_takeNumber cX5_takeNumber 3 (some .boolean) 3 0 0 0 0 52 (kX5_takeNumber_52 n) := s_aload_n dX5_takeNumber_52 rfl (s_iconst dX5_takeNumber_53 (by decide) (s_aload_n dX5_takeNumber_54 rfl (s_gI dX5_takeNumber_55 lFX5_132 (by decide) (s_cV dX5_takeNumber_58 lMX5_139 bVX5_fail rfl (CtX5_fail hX n) (Nat.le_of_ble_eq_true rfl) (s_rZ dX5_takeNumber_61 (Nat.le_of_ble_eq_true rfl) (Nat.le_of_ble_eq_true rfl)) (Nat.le_of_ble_eq_true rfl) (Nat.le_of_ble_eq_true rfl)))))
def kX5_takeNumber_63 (n : Nat) : mK := i_cV 5 0 (FX5_advance n) (i_cst (.int (1)) (i_rZ))
set_option maxRecDepth 20000 in
theorem okX5_takeNumber_63 {E : mE} {X : State → Heap → Prop} {l : Launch} (hX : mXok E X) (n : Nat) : Sd E X l yX5_takeNumber cX5_takeNumber 3 (some .boolean) 3 0 0 0 0 63 (kX5_takeNumber_63 n) := s_cV dX5_takeNumber_63 lMX5_57 bVX5_advance rfl (CtX5_advance hX n) (Nat.le_of_ble_eq_true rfl) (s_iconst dX5_takeNumber_66 (by decide) (s_rZ dX5_takeNumber_67 (Nat.le_of_ble_eq_true rfl) (Nat.le_of_ble_eq_true rfl))) (Nat.le_of_ble_eq_true rfl) (Nat.le_of_ble_eq_true rfl)
def kX5_takeNumber_0 (n : Nat) : mK := i_ldA 0 (i_gI 5 5 (i_cst (.int (2)) (i_c2 (fun x y => decide (x = y)) (i_ldA 0 (i_ldA 0 (i_gA 5 0 (i_ldA 0 (i_gI 5 6 (i_cV 9 1 (FX9_numberFrom n) (i_pI 5 7 (i_ldA 0 (i_ldA 0 (i_gI 5 6 (i_pI 5 8 (i_ldA 0 (i_gI 5 7 (i_ldI 1 (i_c2 (fun x y => decide (x < y)) (kX5_takeNumber_52 n) (i_ldA 0 (i_gI 5 7 (i_ldI 2 (i_c2 (fun x y => decide (x ≤ y)) (i_ldA 0 (kX5_takeNumber_63 n)) (kX5_takeNumber_52 n)))))))))))))))))))) (i_ldA 0 (i_cV 5 0 (FX5_refuse n) (i_rZ))))))
set_option maxRecDepth 20000 in
theorem okX5_takeNumber_0 {E : mE} {X : State → Heap → Prop} {l : Launch} (hX : mXok E X) (n : Nat) : Sd E X l yX5_takeNumber cX5_takeNumber 3 (some .boolean) 3 0 0 0 0 0 (kX5_takeNumber_0 n) := s_aload_n dX5_takeNumber_0 rfl (s_gI dX5_takeNumber_1 lFX5_60 (by decide) (s_iconst dX5_takeNumber_4 (by decide) (s_iceq dX5_takeNumber_5 (by decide) (s_aload_n dX5_takeNumber_13 rfl (s_aload_n dX5_takeNumber_14 rfl (s_gA dX5_takeNumber_15 lFX5_24 (s_aload_n dX5_takeNumber_18 rfl (s_gI dX5_takeNumber_19 lFX5_132 (by decide) (s_cV dX5_takeNumber_22 lMX5_185 bVX9_numberFrom rfl (CtX9_numberFrom hX n) (Nat.le_of_ble_eq_true rfl) (s_pI dX5_takeNumber_25 lFX5_99 (s_aload_n dX5_takeNumber_28 rfl (s_aload_n dX5_takeNumber_29 rfl (s_gI dX5_takeNumber_30 lFX5_132 (by decide) (s_pI dX5_takeNumber_33 lFX5_149 (s_aload_n dX5_takeNumber_36 rfl (s_gI dX5_takeNumber_37 lFX5_99 (by decide) (s_iload_n dX5_takeNumber_40 rfl (s_iclt dX5_takeNumber_41 (by decide) (okX5_takeNumber_52 hX n) (s_aload_n dX5_takeNumber_44 rfl (s_gI dX5_takeNumber_45 lFX5_99 (by decide) (s_iload_n dX5_takeNumber_48 rfl (s_icle dX5_takeNumber_49 (by decide) (s_aload_n dX5_takeNumber_62 rfl (okX5_takeNumber_63 hX n)) (okX5_takeNumber_52 hX n)))))))))))))) (Nat.le_of_ble_eq_true rfl) (Nat.le_of_ble_eq_true rfl))))))) (s_aload_n dX5_takeNumber_8 rfl (s_cV dX5_takeNumber_9 lMX5_70 bVX5_refuse rfl (CtX5_refuse hX n) (Nat.le_of_ble_eq_true rfl) (s_rZ dX5_takeNumber_12 (Nat.le_of_ble_eq_true rfl) (Nat.le_of_ble_eq_true rfl)) (Nat.le_of_ble_eq_true rfl) (Nat.le_of_ble_eq_true rfl))))))
def FX5_takeNumber (n : Nat) : List Value → mM → Option mR := mfn 3 (kX5_takeNumber_0 n)
theorem CtX5_takeNumber {E : mE} {X : State → Heap → Prop} {l : Launch} (hX : mXok E X) (n : Nat) : Ct E X l yX5_takeNumber cX5_takeNumber 3 (some .boolean) 3 0 0 (FX5_takeNumber n) := Ct_of (by decide) hX (okX5_takeNumber_0 hX n)
