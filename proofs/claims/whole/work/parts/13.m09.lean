theorem dX12_ring_0 : decode cX12_ring 0 = .ok (.iload_n 1, 1) := by decide +kernel
theorem dX12_ring_1 : decode cX12_ring 1 = .ok (.iconst 0, 1) := by decide +kernel
theorem dX12_ring_2 : decode cX12_ring 2 = .ok (.iconst 1, 1) := by decide +kernel
theorem dX12_ring_3 : decode cX12_ring 3 = .ok (.invokestatic 344, 3) := by decide +kernel
theorem dX12_ring_6 : decode cX12_ring 6 = .ok (.ifCond .ne 5, 3) := by decide +kernel
theorem dX12_ring_9 : decode cX12_ring 9 = .ok (.iconst (-1), 1) := by decide +kernel
theorem dX12_ring_10 : decode cX12_ring 10 = .ok (.ireturn, 1) := by decide +kernel
theorem dX12_ring_11 : decode cX12_ring 11 = .ok (.aload_n 0, 1) := by decide +kernel
theorem dX12_ring_12 : decode cX12_ring 12 = .ok (.invokevirtual 424, 3) := by decide +kernel
theorem dX12_ring_15 : decode cX12_ring 15 = .ok (.iconst (-1), 1) := by decide +kernel
theorem dX12_ring_16 : decode cX12_ring 16 = .ok (.istore_n 2, 1) := by decide +kernel
theorem dX12_ring_17 : decode cX12_ring 17 = .ok (.iconst 1, 1) := by decide +kernel
theorem dX12_ring_18 : decode cX12_ring 18 = .ok (.istore_n 3, 1) := by decide +kernel
theorem dX12_ring_19 : decode cX12_ring 19 = .ok (.iload_n 3, 1) := by decide +kernel
theorem dX12_ring_20 : decode cX12_ring 20 = .ok (.aload_n 0, 1) := by decide +kernel
theorem dX12_ring_21 : decode cX12_ring 21 = .ok (.invokevirtual 328, 3) := by decide +kernel
theorem dX12_ring_24 : decode cX12_ring 24 = .ok (.if_icmp .gt 45, 3) := by decide +kernel
theorem dX12_ring_27 : decode cX12_ring 27 = .ok (.iload_n 3, 1) := by decide +kernel
theorem dX12_ring_28 : decode cX12_ring 28 = .ok (.aload_n 0, 1) := by decide +kernel
theorem dX12_ring_29 : decode cX12_ring 29 = .ok (.invokevirtual 328, 3) := by decide +kernel
theorem dX12_ring_32 : decode cX12_ring 32 = .ok (.iconst (-1), 1) := by decide +kernel
theorem dX12_ring_33 : decode cX12_ring 33 = .ok (.ixor, 1) := by decide +kernel
theorem dX12_ring_34 : decode cX12_ring 34 = .ok (.iand, 1) := by decide +kernel
theorem dX12_ring_35 : decode cX12_ring 35 = .ok (.ifCond .ne 28, 3) := by decide +kernel
theorem dX12_ring_38 : decode cX12_ring 38 = .ok (.iload_n 2, 1) := by decide +kernel
theorem dX12_ring_39 : decode cX12_ring 39 = .ok (.ifCond .lt 14, 3) := by decide +kernel
theorem dX12_ring_42 : decode cX12_ring 42 = .ok (.iload_n 3, 1) := by decide +kernel
theorem dX12_ring_43 : decode cX12_ring 43 = .ok (.invokestatic 331, 3) := by decide +kernel
theorem dX12_ring_46 : decode cX12_ring 46 = .ok (.iload_n 2, 1) := by decide +kernel
theorem dX12_ring_47 : decode cX12_ring 47 = .ok (.invokestatic 331, 3) := by decide +kernel
theorem dX12_ring_50 : decode cX12_ring 50 = .ok (.if_icmp .ge 13, 3) := by decide +kernel
theorem dX12_ring_53 : decode cX12_ring 53 = .ok (.aload_n 0, 1) := by decide +kernel
theorem dX12_ring_54 : decode cX12_ring 54 = .ok (.iload_n 3, 1) := by decide +kernel
theorem dX12_ring_55 : decode cX12_ring 55 = .ok (.invokevirtual 433, 3) := by decide +kernel
theorem dX12_ring_58 : decode cX12_ring 58 = .ok (.ifCond .eq 5, 3) := by decide +kernel
theorem dX12_ring_61 : decode cX12_ring 61 = .ok (.iload_n 3, 1) := by decide +kernel
theorem dX12_ring_62 : decode cX12_ring 62 = .ok (.istore_n 2, 1) := by decide +kernel
theorem dX12_ring_63 : decode cX12_ring 63 = .ok (.iinc 3 1, 3) := by decide +kernel
theorem dX12_ring_66 : decode cX12_ring 66 = .ok (.goto (-47), 3) := by decide +kernel
theorem dX12_ring_69 : decode cX12_ring 69 = .ok (.iload_n 2, 1) := by decide +kernel
theorem dX12_ring_70 : decode cX12_ring 70 = .ok (.ifCond .ge 7, 3) := by decide +kernel
theorem dX12_ring_73 : decode cX12_ring 73 = .ok (.iconst (-1), 1) := by decide +kernel
theorem dX12_ring_74 : decode cX12_ring 74 = .ok (.goto 15, 3) := by decide +kernel
theorem dX12_ring_77 : decode cX12_ring 77 = .ok (.iload_n 1, 1) := by decide +kernel
theorem dX12_ring_78 : decode cX12_ring 78 = .ok (.ifCond .ne 10, 3) := by decide +kernel
theorem dX12_ring_81 : decode cX12_ring 81 = .ok (.iload_n 2, 1) := by decide +kernel
theorem dX12_ring_82 : decode cX12_ring 82 = .ok (.invokestatic 331, 3) := by decide +kernel
theorem dX12_ring_85 : decode cX12_ring 85 = .ok (.goto 4, 3) := by decide +kernel
theorem dX12_ring_88 : decode cX12_ring 88 = .ok (.iload_n 2, 1) := by decide +kernel
theorem dX12_ring_89 : decode cX12_ring 89 = .ok (.ireturn, 1) := by decide +kernel
def kX12_ring_63 (n : Nat) (r19 : mK) : mK := i_inc 3 (1) (r19)
set_option maxRecDepth 20000 in
theorem okX12_ring_63 {E : mE} {X : State → Heap → Prop} {l : Launch} (hX : mXok E X) (n : Nat) {r19 : mK} (h19 : Sd E X l yX12_ring cX12_ring 4 (some .int) 4 0 0 0 0 19 r19) : Sd E X l yX12_ring cX12_ring 4 (some .int) 4 0 0 0 0 63 (kX12_ring_63 n r19) := s_iinc dX12_ring_63 (by decide) (s_goto dX12_ring_66 (by decide) h19)
def kX12_ring_53 (n : Nat) (r19 : mK) : mK := i_ldA 0 (i_ldI 3 (i_cV 12 1 (FX12_isRing n) (i_c0 (fun x => decide (x = 0)) (kX12_ring_63 n r19) (i_ldI 3 (i_stI 2 (kX12_ring_63 n r19))))))
set_option maxRecDepth 20000 in
theorem okX12_ring_53 {E : mE} {X : State → Heap → Prop} {l : Launch} (hX : mXok E X) (n : Nat) {r19 : mK} (h19 : Sd E X l yX12_ring cX12_ring 4 (some .int) 4 0 0 0 0 19 r19) : Sd E X l yX12_ring cX12_ring 4 (some .int) 4 0 0 0 0 53 (kX12_ring_53 n r19) := s_aload_n dX12_ring_53 rfl (s_iload_n dX12_ring_54 rfl (s_cV dX12_ring_55 lMX12_433 bVX12_isRing rfl (CtX12_isRing hX n) (Nat.le_of_ble_eq_true rfl) (s_ifeq dX12_ring_58 (by decide) (okX12_ring_63 hX n h19) (s_iload_n dX12_ring_61 rfl (s_istore_n dX12_ring_62 rfl (okX12_ring_63 hX n h19)))) (Nat.le_of_ble_eq_true rfl) (Nat.le_of_ble_eq_true rfl)))
def kX12_ring_89 (n : Nat) : mK := i_rI
set_option maxRecDepth 20000 in
theorem okX12_ring_89 {E : mE} {X : State → Heap → Prop} {l : Launch} (hX : mXok E X) (n : Nat) : Sd E X l yX12_ring cX12_ring 4 (some .int) 4 0 0 0 0 89 (kX12_ring_89 n) := s_rI dX12_ring_89 (Nat.le_of_ble_eq_true rfl) (Nat.le_of_ble_eq_true rfl)
def kX12_ring_19 (n : Nat) (r19 : mK) : mK := i_ldI 3 (i_ldA 0 (i_cV 12 0 (FX12_those n) (i_c2 (fun x y => decide (y < x)) (i_ldI 2 (i_c0 (fun x => decide (0 ≤ x)) (i_ldI 1 (i_c0 (fun x => decide (¬ x = 0)) (i_ldI 2 (kX12_ring_89 n)) (i_ldI 2 (i_cS 1 (FX12_bitsOf n) ((kX12_ring_89 n)))))) (i_cst (.int (-1)) ((kX12_ring_89 n))))) (i_ldI 3 (i_ldA 0 (i_cV 12 0 (FX12_those n) (i_cst (.int (-1)) (i_bin (fun x y => x ^^^ y) (i_bin (fun x y => x &&& y) (i_c0 (fun x => decide (¬ x = 0)) (kX12_ring_63 n r19) (i_ldI 2 (i_c0 (fun x => decide (x < 0)) (kX12_ring_53 n r19) (i_ldI 3 (i_cS 1 (FX12_bitsOf n) (i_ldI 2 (i_cS 1 (FX12_bitsOf n) (i_c2 (fun x y => decide (y ≤ x)) (kX12_ring_63 n r19) (kX12_ring_53 n r19))))))))))))))))))
set_option maxRecDepth 20000 in
theorem okX12_ring_19 {E : mE} {X : State → Heap → Prop} {l : Launch} (hX : mXok E X) (n : Nat) {r19 : mK} (h19 : Sd E X l yX12_ring cX12_ring 4 (some .int) 4 0 0 0 0 19 r19) : Sd E X l yX12_ring cX12_ring 4 (some .int) 4 0 0 0 0 19 (kX12_ring_19 n r19) := s_iload_n dX12_ring_19 rfl (s_aload_n dX12_ring_20 rfl (s_cV dX12_ring_21 lMX12_328 bVX12_those rfl (CtX12_those hX n) (Nat.le_of_ble_eq_true rfl) (s_icgt dX12_ring_24 (by decide) (s_iload_n dX12_ring_69 rfl (s_ifge dX12_ring_70 (by decide) (s_iload_n dX12_ring_77 rfl (s_ifne dX12_ring_78 (by decide) (s_iload_n dX12_ring_88 rfl (okX12_ring_89 hX n)) (s_iload_n dX12_ring_81 rfl (s_cS dX12_ring_82 lMX12_331 bSX12_bitsOf (CtX12_bitsOf hX n) (Nat.le_of_ble_eq_true rfl) (s_goto dX12_ring_85 (by decide) (okX12_ring_89 hX n)) (Nat.le_of_ble_eq_true rfl) (Nat.le_of_ble_eq_true rfl))))) (s_iconst dX12_ring_73 (by decide) (s_goto dX12_ring_74 (by decide) (okX12_ring_89 hX n))))) (s_iload_n dX12_ring_27 rfl (s_aload_n dX12_ring_28 rfl (s_cV dX12_ring_29 lMX12_328 bVX12_those rfl (CtX12_those hX n) (Nat.le_of_ble_eq_true rfl) (s_iconst dX12_ring_32 (by decide) (s_ixor dX12_ring_33 (s_iand dX12_ring_34 (s_ifne dX12_ring_35 (by decide) (okX12_ring_63 hX n h19) (s_iload_n dX12_ring_38 rfl (s_iflt dX12_ring_39 (by decide) (okX12_ring_53 hX n h19) (s_iload_n dX12_ring_42 rfl (s_cS dX12_ring_43 lMX12_331 bSX12_bitsOf (CtX12_bitsOf hX n) (Nat.le_of_ble_eq_true rfl) (s_iload_n dX12_ring_46 rfl (s_cS dX12_ring_47 lMX12_331 bSX12_bitsOf (CtX12_bitsOf hX n) (Nat.le_of_ble_eq_true rfl) (s_icge dX12_ring_50 (by decide) (okX12_ring_63 hX n h19) (okX12_ring_53 hX n h19)) (Nat.le_of_ble_eq_true rfl) (Nat.le_of_ble_eq_true rfl))) (Nat.le_of_ble_eq_true rfl) (Nat.le_of_ble_eq_true rfl))))))))) (Nat.le_of_ble_eq_true rfl) (Nat.le_of_ble_eq_true rfl))))) (Nat.le_of_ble_eq_true rfl) (Nat.le_of_ble_eq_true rfl)))
def kX12_ring_0 (n : Nat) : mK := i_ldI 1 (i_cst (.int (0)) (i_cst (.int (1)) (i_cS 3 (FX12_isIn n) (i_c0 (fun x => decide (¬ x = 0)) (i_ldA 0 (i_cV 12 0 (FX12_layBars n) (i_cst (.int (-1)) (i_stI 2 (i_cst (.int (1)) (i_stI 3 (mit (kX12_ring_19 n ) n))))))) (i_cst (.int (-1)) (i_rI))))))
set_option maxRecDepth 20000 in
theorem okX12_ring_0 {E : mE} {X : State → Heap → Prop} {l : Launch} (hX : mXok E X) (n : Nat) : Sd E X l yX12_ring cX12_ring 4 (some .int) 4 0 0 0 0 0 (kX12_ring_0 n) := s_iload_n dX12_ring_0 rfl (s_iconst dX12_ring_1 (by decide) (s_iconst dX12_ring_2 (by decide) (s_cS dX12_ring_3 lMX12_344 bSX12_isIn (CtX12_isIn hX n) (Nat.le_of_ble_eq_true rfl) (s_ifne dX12_ring_6 (by decide) (s_aload_n dX12_ring_11 rfl (s_cV dX12_ring_12 lMX12_424 bVX12_layBars rfl (CtX12_layBars hX n) (Nat.le_of_ble_eq_true rfl) (s_iconst dX12_ring_15 (by decide) (s_istore_n dX12_ring_16 rfl (s_iconst dX12_ring_17 (by decide) (s_istore_n dX12_ring_18 rfl (s_mit (fun _ hk => okX12_ring_19 hX n hk) n))))) (Nat.le_of_ble_eq_true rfl) (Nat.le_of_ble_eq_true rfl))) (s_iconst dX12_ring_9 (by decide) (s_rI dX12_ring_10 (Nat.le_of_ble_eq_true rfl) (Nat.le_of_ble_eq_true rfl)))) (Nat.le_of_ble_eq_true rfl) (Nat.le_of_ble_eq_true rfl))))
def FX12_ring (n : Nat) : List Value → mM → Option mR := mfn 4 (kX12_ring_0 n)
theorem CtX12_ring {E : mE} {X : State → Heap → Prop} {l : Launch} (hX : mXok E X) (n : Nat) : Ct E X l yX12_ring cX12_ring 4 (some .int) 4 0 0 (FX12_ring n) := Ct_of (by decide) hX (okX12_ring_0 hX n)
theorem dX12_softerOf_0 : decode cX12_softerOf 0 = .ok (.aload_n 0, 1) := by decide +kernel
theorem dX12_softerOf_1 : decode cX12_softerOf 1 = .ok (.getfield 42, 3) := by decide +kernel
theorem dX12_softerOf_4 : decode cX12_softerOf 4 = .ok (.aload_n 0, 1) := by decide +kernel
theorem dX12_softerOf_5 : decode cX12_softerOf 5 = .ok (.getfield 255, 3) := by decide +kernel
theorem dX12_softerOf_8 : decode cX12_softerOf 8 = .ok (.iaload, 1) := by decide +kernel
theorem dX12_softerOf_9 : decode cX12_softerOf 9 = .ok (.iconst 0, 1) := by decide +kernel
theorem dX12_softerOf_10 : decode cX12_softerOf 10 = .ok (.invokestatic 261, 3) := by decide +kernel
theorem dX12_softerOf_13 : decode cX12_softerOf 13 = .ok (.ifCond .eq 12, 3) := by decide +kernel
theorem dX12_softerOf_16 : decode cX12_softerOf 16 = .ok (.aload_n 0, 1) := by decide +kernel
theorem dX12_softerOf_17 : decode cX12_softerOf 17 = .ok (.iconst 0, 1) := by decide +kernel
theorem dX12_softerOf_18 : decode cX12_softerOf 18 = .ok (.iload_n 1, 1) := by decide +kernel
theorem dX12_softerOf_19 : decode cX12_softerOf 19 = .ok (.invokevirtual 375, 3) := by decide +kernel
theorem dX12_softerOf_22 : decode cX12_softerOf 22 = .ok (.goto 4, 3) := by decide +kernel
theorem dX12_softerOf_25 : decode cX12_softerOf 25 = .ok (.iconst 1, 1) := by decide +kernel
theorem dX12_softerOf_26 : decode cX12_softerOf 26 = .ok (.iconst 0, 1) := by decide +kernel
theorem dX12_softerOf_27 : decode cX12_softerOf 27 = .ok (.aload_n 0, 1) := by decide +kernel
theorem dX12_softerOf_28 : decode cX12_softerOf 28 = .ok (.getfield 82, 3) := by decide +kernel
theorem dX12_softerOf_31 : decode cX12_softerOf 31 = .ok (.bipush 16, 2) := by decide +kernel
theorem dX12_softerOf_33 : decode cX12_softerOf 33 = .ok (.iload_n 1, 1) := by decide +kernel
theorem dX12_softerOf_34 : decode cX12_softerOf 34 = .ok (.iadd, 1) := by decide +kernel
theorem dX12_softerOf_35 : decode cX12_softerOf 35 = .ok (.iaload, 1) := by decide +kernel
theorem dX12_softerOf_36 : decode cX12_softerOf 36 = .ok (.invokestatic 378, 3) := by decide +kernel
theorem dX12_softerOf_39 : decode cX12_softerOf 39 = .ok (.ireturn, 1) := by decide +kernel
def kX12_softerOf_26 (n : Nat) : mK := i_cst (.int (0)) (i_ldA 0 (i_gA 12 39 (i_cst (.int (16)) (i_ldI 1 (i_bin (fun x y => x + y) (i_al 0 (i_cS 3 (FX12_held n) (i_rI))))))))
set_option maxRecDepth 20000 in
theorem okX12_softerOf_26 {E : mE} {X : State → Heap → Prop} {l : Launch} (hX : mXok E X) (n : Nat) : Sd E X l yX12_softerOf cX12_softerOf 2 (some .int) 4 0 0 0 0 26 (kX12_softerOf_26 n) := s_iconst dX12_softerOf_26 (by decide) (s_aload_n dX12_softerOf_27 rfl (s_gA dX12_softerOf_28 lFX12_82 (s_bipush dX12_softerOf_31 (by decide) (s_iload_n dX12_softerOf_33 rfl (s_iadd dX12_softerOf_34 (s_iald dX12_softerOf_35 (s_cS dX12_softerOf_36 lMX12_378 bSX12_held (CtX12_held hX n) (Nat.le_of_ble_eq_true rfl) (s_rI dX12_softerOf_39 (Nat.le_of_ble_eq_true rfl) (Nat.le_of_ble_eq_true rfl)) (Nat.le_of_ble_eq_true rfl) (Nat.le_of_ble_eq_true rfl))))))))
def kX12_softerOf_0 (n : Nat) : mK := i_ldA 0 (i_gA 12 18 (i_ldA 0 (i_gI 12 31 (i_al 0 (i_cst (.int (0)) (i_cS 2 (FX12_bit n) (i_c0 (fun x => decide (x = 0)) (i_cst (.int (1)) (kX12_softerOf_26 n)) (i_ldA 0 (i_cst (.int (0)) (i_ldI 1 (i_cV 12 2 (FX12_comes n) ((kX12_softerOf_26 n)))))))))))))
set_option maxRecDepth 20000 in
theorem okX12_softerOf_0 {E : mE} {X : State → Heap → Prop} {l : Launch} (hX : mXok E X) (n : Nat) : Sd E X l yX12_softerOf cX12_softerOf 2 (some .int) 4 0 0 0 0 0 (kX12_softerOf_0 n) := s_aload_n dX12_softerOf_0 rfl (s_gA dX12_softerOf_1 lFX12_42 (s_aload_n dX12_softerOf_4 rfl (s_gI dX12_softerOf_5 lFX12_255 (by decide) (s_iald dX12_softerOf_8 (s_iconst dX12_softerOf_9 (by decide) (s_cS dX12_softerOf_10 lMX12_261 bSX12_bit (CtX12_bit hX n) (Nat.le_of_ble_eq_true rfl) (s_ifeq dX12_softerOf_13 (by decide) (s_iconst dX12_softerOf_25 (by decide) (okX12_softerOf_26 hX n)) (s_aload_n dX12_softerOf_16 rfl (s_iconst dX12_softerOf_17 (by decide) (s_iload_n dX12_softerOf_18 rfl (s_cV dX12_softerOf_19 lMX12_375 bVX12_comes rfl (CtX12_comes hX n) (Nat.le_of_ble_eq_true rfl) (s_goto dX12_softerOf_22 (by decide) (okX12_softerOf_26 hX n)) (Nat.le_of_ble_eq_true rfl) (Nat.le_of_ble_eq_true rfl)))))) (Nat.le_of_ble_eq_true rfl) (Nat.le_of_ble_eq_true rfl)))))))
def FX12_softerOf (n : Nat) : List Value → mM → Option mR := mfn 2 (kX12_softerOf_0 n)
theorem CtX12_softerOf {E : mE} {X : State → Heap → Prop} {l : Launch} (hX : mXok E X) (n : Nat) : Ct E X l yX12_softerOf cX12_softerOf 2 (some .int) 4 0 0 (FX12_softerOf n) := Ct_of (by decide) hX (okX12_softerOf_0 hX n)
theorem dX12_steer_0 : decode cX12_steer 0 = .ok (.aload_n 0, 1) := by decide +kernel
theorem dX12_steer_1 : decode cX12_steer 1 = .ok (.iload_n 1, 1) := by decide +kernel
theorem dX12_steer_2 : decode cX12_steer 2 = .ok (.invokevirtual 396, 3) := by decide +kernel
theorem dX12_steer_5 : decode cX12_steer 5 = .ok (.ifCond .eq 25, 3) := by decide +kernel
theorem dX12_steer_8 : decode cX12_steer 8 = .ok (.iload_n 2, 1) := by decide +kernel
theorem dX12_steer_9 : decode cX12_steer 9 = .ok (.iconst 0, 1) := by decide +kernel
theorem dX12_steer_10 : decode cX12_steer 10 = .ok (.iconst 3, 1) := by decide +kernel
theorem dX12_steer_11 : decode cX12_steer 11 = .ok (.invokestatic 344, 3) := by decide +kernel
theorem dX12_steer_14 : decode cX12_steer 14 = .ok (.ifCond .eq 16, 3) := by decide +kernel
theorem dX12_steer_17 : decode cX12_steer 17 = .ok (.aload_n 0, 1) := by decide +kernel
theorem dX12_steer_18 : decode cX12_steer 18 = .ok (.getfield 82, 3) := by decide +kernel
theorem dX12_steer_21 : decode cX12_steer 21 = .ok (.bipush 8, 2) := by decide +kernel
theorem dX12_steer_23 : decode cX12_steer 23 = .ok (.iload_n 1, 1) := by decide +kernel
theorem dX12_steer_24 : decode cX12_steer 24 = .ok (.iadd, 1) := by decide +kernel
theorem dX12_steer_25 : decode cX12_steer 25 = .ok (.iaload, 1) := by decide +kernel
theorem dX12_steer_26 : decode cX12_steer 26 = .ok (.iload_n 2, 1) := by decide +kernel
theorem dX12_steer_27 : decode cX12_steer 27 = .ok (.if_icmp .ne 5, 3) := by decide +kernel
theorem dX12_steer_30 : decode cX12_steer 30 = .ok (.iconst (-1), 1) := by decide +kernel
theorem dX12_steer_31 : decode cX12_steer 31 = .ok (.ireturn, 1) := by decide +kernel
theorem dX12_steer_32 : decode cX12_steer 32 = .ok (.aload_n 0, 1) := by decide +kernel
theorem dX12_steer_33 : decode cX12_steer 33 = .ok (.invokevirtual 412, 3) := by decide +kernel
theorem dX12_steer_36 : decode cX12_steer 36 = .ok (.aload_n 0, 1) := by decide +kernel
theorem dX12_steer_37 : decode cX12_steer 37 = .ok (.getfield 82, 3) := by decide +kernel
theorem dX12_steer_40 : decode cX12_steer 40 = .ok (.bipush 8, 2) := by decide +kernel
theorem dX12_steer_42 : decode cX12_steer 42 = .ok (.iload_n 1, 1) := by decide +kernel
theorem dX12_steer_43 : decode cX12_steer 43 = .ok (.iadd, 1) := by decide +kernel
theorem dX12_steer_44 : decode cX12_steer 44 = .ok (.iload_n 2, 1) := by decide +kernel
theorem dX12_steer_45 : decode cX12_steer 45 = .ok (.iastore, 1) := by decide +kernel
theorem dX12_steer_46 : decode cX12_steer 46 = .ok (.aload_n 0, 1) := by decide +kernel
theorem dX12_steer_47 : decode cX12_steer 47 = .ok (.iload_n 1, 1) := by decide +kernel
theorem dX12_steer_48 : decode cX12_steer 48 = .ok (.invokevirtual 372, 3) := by decide +kernel
theorem dX12_steer_51 : decode cX12_steer 51 = .ok (.ireturn, 1) := by decide +kernel
def kX12_steer_30 (n : Nat) : mK := i_cst (.int (-1)) (i_rI)
set_option maxRecDepth 20000 in
theorem okX12_steer_30 {E : mE} {X : State → Heap → Prop} {l : Launch} (hX : mXok E X) (n : Nat) : Sd E X l yX12_steer cX12_steer 3 (some .int) 4 0 0 0 0 30 (kX12_steer_30 n) := s_iconst dX12_steer_30 (by decide) (s_rI dX12_steer_31 (Nat.le_of_ble_eq_true rfl) (Nat.le_of_ble_eq_true rfl))
def kX12_steer_44 (n : Nat) : mK := i_ldI 2 (i_as 0 (i_ldA 0 (i_ldI 1 (i_cV 12 1 (FX12_barsOf n) (i_rI)))))
set_option maxRecDepth 20000 in
theorem okX12_steer_44 {E : mE} {X : State → Heap → Prop} {l : Launch} (hX : mXok E X) (n : Nat) : Sd E X l yX12_steer cX12_steer 3 (some .int) 4 0 0 0 0 44 (kX12_steer_44 n) := s_iload_n dX12_steer_44 rfl (s_iast dX12_steer_45 (s_aload_n dX12_steer_46 rfl (s_iload_n dX12_steer_47 rfl (s_cV dX12_steer_48 lMX12_372 bVX12_barsOf rfl (CtX12_barsOf hX n) (Nat.le_of_ble_eq_true rfl) (s_rI dX12_steer_51 (Nat.le_of_ble_eq_true rfl) (Nat.le_of_ble_eq_true rfl)) (Nat.le_of_ble_eq_true rfl) (Nat.le_of_ble_eq_true rfl)))))
def kX12_steer_0 (n : Nat) : mK := i_ldA 0 (i_ldI 1 (i_cV 12 1 (FX12_isHere n) (i_c0 (fun x => decide (x = 0)) (kX12_steer_30 n) (i_ldI 2 (i_cst (.int (0)) (i_cst (.int (3)) (i_cS 3 (FX12_isIn n) (i_c0 (fun x => decide (x = 0)) (kX12_steer_30 n) (i_ldA 0 (i_gA 12 39 (i_cst (.int (8)) (i_ldI 1 (i_bin (fun x y => x + y) (i_al 0 (i_ldI 2 (i_c2 (fun x y => decide (¬ x = y)) (i_ldA 0 (i_cV 12 0 (FX12_keepAct n) (i_ldA 0 (i_gA 12 39 (i_cst (.int (8)) (i_ldI 1 (i_bin (fun x y => x + y) (kX12_steer_44 n)))))))) (kX12_steer_30 n)))))))))))))))))
set_option maxRecDepth 20000 in
theorem okX12_steer_0 {E : mE} {X : State → Heap → Prop} {l : Launch} (hX : mXok E X) (n : Nat) : Sd E X l yX12_steer cX12_steer 3 (some .int) 4 0 0 0 0 0 (kX12_steer_0 n) := s_aload_n dX12_steer_0 rfl (s_iload_n dX12_steer_1 rfl (s_cV dX12_steer_2 lMX12_396 bVX12_isHere rfl (CtX12_isHere hX n) (Nat.le_of_ble_eq_true rfl) (s_ifeq dX12_steer_5 (by decide) (okX12_steer_30 hX n) (s_iload_n dX12_steer_8 rfl (s_iconst dX12_steer_9 (by decide) (s_iconst dX12_steer_10 (by decide) (s_cS dX12_steer_11 lMX12_344 bSX12_isIn (CtX12_isIn hX n) (Nat.le_of_ble_eq_true rfl) (s_ifeq dX12_steer_14 (by decide) (okX12_steer_30 hX n) (s_aload_n dX12_steer_17 rfl (s_gA dX12_steer_18 lFX12_82 (s_bipush dX12_steer_21 (by decide) (s_iload_n dX12_steer_23 rfl (s_iadd dX12_steer_24 (s_iald dX12_steer_25 (s_iload_n dX12_steer_26 rfl (s_icne dX12_steer_27 (by decide) (s_aload_n dX12_steer_32 rfl (s_cV dX12_steer_33 lMX12_412 bVX12_keepAct rfl (CtX12_keepAct hX n) (Nat.le_of_ble_eq_true rfl) (s_aload_n dX12_steer_36 rfl (s_gA dX12_steer_37 lFX12_82 (s_bipush dX12_steer_40 (by decide) (s_iload_n dX12_steer_42 rfl (s_iadd dX12_steer_43 (okX12_steer_44 hX n)))))) (Nat.le_of_ble_eq_true rfl) (Nat.le_of_ble_eq_true rfl))) (okX12_steer_30 hX n)))))))))) (Nat.le_of_ble_eq_true rfl) (Nat.le_of_ble_eq_true rfl)))))) (Nat.le_of_ble_eq_true rfl) (Nat.le_of_ble_eq_true rfl)))
def FX12_steer (n : Nat) : List Value → mM → Option mR := mfn 3 (kX12_steer_0 n)
theorem CtX12_steer {E : mE} {X : State → Heap → Prop} {l : Launch} (hX : mXok E X) (n : Nat) : Ct E X l yX12_steer cX12_steer 3 (some .int) 4 0 0 (FX12_steer n) := Ct_of (by decide) hX (okX12_steer_0 hX n)
theorem dX12_tow_0 : decode cX12_tow 0 = .ok (.aload_n 0, 1) := by decide +kernel
theorem dX12_tow_1 : decode cX12_tow 1 = .ok (.iload_n 1, 1) := by decide +kernel
theorem dX12_tow_2 : decode cX12_tow 2 = .ok (.invokevirtual 396, 3) := by decide +kernel
theorem dX12_tow_5 : decode cX12_tow 5 = .ok (.ifCond .eq 11, 3) := by decide +kernel
theorem dX12_tow_8 : decode cX12_tow 8 = .ok (.aload_n 0, 1) := by decide +kernel
theorem dX12_tow_9 : decode cX12_tow 9 = .ok (.iload_n 1, 1) := by decide +kernel
theorem dX12_tow_10 : decode cX12_tow 10 = .ok (.invokevirtual 418, 3) := by decide +kernel
theorem dX12_tow_13 : decode cX12_tow 13 = .ok (.goto 4, 3) := by decide +kernel
theorem dX12_tow_16 : decode cX12_tow 16 = .ok (.iconst (-1), 1) := by decide +kernel
theorem dX12_tow_17 : decode cX12_tow 17 = .ok (.ireturn, 1) := by decide +kernel
def kX12_tow_17 (n : Nat) : mK := i_rI
set_option maxRecDepth 20000 in
theorem okX12_tow_17 {E : mE} {X : State → Heap → Prop} {l : Launch} (hX : mXok E X) (n : Nat) : Sd E X l yX12_tow cX12_tow 2 (some .int) 4 0 0 0 0 17 (kX12_tow_17 n) := s_rI dX12_tow_17 (Nat.le_of_ble_eq_true rfl) (Nat.le_of_ble_eq_true rfl)
def kX12_tow_0 (n : Nat) : mK := i_ldA 0 (i_ldI 1 (i_cV 12 1 (FX12_isHere n) (i_c0 (fun x => decide (x = 0)) (i_cst (.int (-1)) (kX12_tow_17 n)) (i_ldA 0 (i_ldI 1 (i_cV 12 1 (FX12_goOff n) ((kX12_tow_17 n))))))))
set_option maxRecDepth 20000 in
theorem okX12_tow_0 {E : mE} {X : State → Heap → Prop} {l : Launch} (hX : mXok E X) (n : Nat) : Sd E X l yX12_tow cX12_tow 2 (some .int) 4 0 0 0 0 0 (kX12_tow_0 n) := s_aload_n dX12_tow_0 rfl (s_iload_n dX12_tow_1 rfl (s_cV dX12_tow_2 lMX12_396 bVX12_isHere rfl (CtX12_isHere hX n) (Nat.le_of_ble_eq_true rfl) (s_ifeq dX12_tow_5 (by decide) (s_iconst dX12_tow_16 (by decide) (okX12_tow_17 hX n)) (s_aload_n dX12_tow_8 rfl (s_iload_n dX12_tow_9 rfl (s_cV dX12_tow_10 lMX12_418 bVX12_goOff rfl (CtX12_goOff hX n) (Nat.le_of_ble_eq_true rfl) (s_goto dX12_tow_13 (by decide) (okX12_tow_17 hX n)) (Nat.le_of_ble_eq_true rfl) (Nat.le_of_ble_eq_true rfl))))) (Nat.le_of_ble_eq_true rfl) (Nat.le_of_ble_eq_true rfl)))
def FX12_tow (n : Nat) : List Value → mM → Option mR := mfn 2 (kX12_tow_0 n)
theorem CtX12_tow {E : mE} {X : State → Heap → Prop} {l : Launch} (hX : mXok E X) (n : Nat) : Ct E X l yX12_tow cX12_tow 2 (some .int) 4 0 0 (FX12_tow n) := Ct_of (by decide) hX (okX12_tow_0 hX n)
theorem dX12_tows_0 : decode cX12_tows 0 = .ok (.iload_n 1, 1) := by decide +kernel
theorem dX12_tows_1 : decode cX12_tows 1 = .ok (.iconst 0, 1) := by decide +kernel
theorem dX12_tows_2 : decode cX12_tows 2 = .ok (.iconst 1, 1) := by decide +kernel
theorem dX12_tows_3 : decode cX12_tows 3 = .ok (.invokestatic 344, 3) := by decide +kernel
theorem dX12_tows_6 : decode cX12_tows 6 = .ok (.ifCond .ne 5, 3) := by decide +kernel
theorem dX12_tows_9 : decode cX12_tows 9 = .ok (.iconst (-1), 1) := by decide +kernel
theorem dX12_tows_10 : decode cX12_tows 10 = .ok (.ireturn, 1) := by decide +kernel
theorem dX12_tows_11 : decode cX12_tows 11 = .ok (.aload_n 0, 1) := by decide +kernel
theorem dX12_tows_12 : decode cX12_tows 12 = .ok (.invokevirtual 424, 3) := by decide +kernel
theorem dX12_tows_15 : decode cX12_tows 15 = .ok (.iconst (-1), 1) := by decide +kernel
theorem dX12_tows_16 : decode cX12_tows 16 = .ok (.istore_n 2, 1) := by decide +kernel
theorem dX12_tows_17 : decode cX12_tows 17 = .ok (.iconst 0, 1) := by decide +kernel
theorem dX12_tows_18 : decode cX12_tows 18 = .ok (.istore_n 3, 1) := by decide +kernel
theorem dX12_tows_19 : decode cX12_tows 19 = .ok (.iload_n 3, 1) := by decide +kernel
theorem dX12_tows_20 : decode cX12_tows 20 = .ok (.aload_n 0, 1) := by decide +kernel
theorem dX12_tows_21 : decode cX12_tows 21 = .ok (.invokevirtual 328, 3) := by decide +kernel
theorem dX12_tows_24 : decode cX12_tows 24 = .ok (.if_icmp .gt 66, 3) := by decide +kernel
theorem dX12_tows_27 : decode cX12_tows 27 = .ok (.iload_n 3, 1) := by decide +kernel
theorem dX12_tows_28 : decode cX12_tows 28 = .ok (.aload_n 0, 1) := by decide +kernel
theorem dX12_tows_29 : decode cX12_tows 29 = .ok (.invokevirtual 328, 3) := by decide +kernel
theorem dX12_tows_32 : decode cX12_tows 32 = .ok (.iconst (-1), 1) := by decide +kernel
theorem dX12_tows_33 : decode cX12_tows 33 = .ok (.ixor, 1) := by decide +kernel
theorem dX12_tows_34 : decode cX12_tows 34 = .ok (.iand, 1) := by decide +kernel
theorem dX12_tows_35 : decode cX12_tows 35 = .ok (.ifCond .ne 49, 3) := by decide +kernel
theorem dX12_tows_38 : decode cX12_tows 38 = .ok (.iload_n 2, 1) := by decide +kernel
theorem dX12_tows_39 : decode cX12_tows 39 = .ok (.ifCond .lt 17, 3) := by decide +kernel
theorem dX12_tows_42 : decode cX12_tows 42 = .ok (.iload_n 3, 1) := by decide +kernel
theorem dX12_tows_43 : decode cX12_tows 43 = .ok (.invokestatic 331, 3) := by decide +kernel
theorem dX12_tows_46 : decode cX12_tows 46 = .ok (.iload_n 2, 1) := by decide +kernel
theorem dX12_tows_47 : decode cX12_tows 47 = .ok (.invokestatic 331, 3) := by decide +kernel
theorem dX12_tows_50 : decode cX12_tows 50 = .ok (.if_icmp .lt 6, 3) := by decide +kernel
theorem dX12_tows_53 : decode cX12_tows 53 = .ok (.goto 31, 3) := by decide +kernel
theorem dX12_tows_56 : decode cX12_tows 56 = .ok (.aload_n 0, 1) := by decide +kernel
theorem dX12_tows_57 : decode cX12_tows 57 = .ok (.aload_n 0, 1) := by decide +kernel
theorem dX12_tows_58 : decode cX12_tows 58 = .ok (.invokevirtual 328, 3) := by decide +kernel
theorem dX12_tows_61 : decode cX12_tows 61 = .ok (.iload_n 3, 1) := by decide +kernel
theorem dX12_tows_62 : decode cX12_tows 62 = .ok (.iconst (-1), 1) := by decide +kernel
theorem dX12_tows_63 : decode cX12_tows 63 = .ok (.ixor, 1) := by decide +kernel
theorem dX12_tows_64 : decode cX12_tows 64 = .ok (.iand, 1) := by decide +kernel
theorem dX12_tows_65 : decode cX12_tows 65 = .ok (.invokevirtual 430, 3) := by decide +kernel
theorem dX12_tows_68 : decode cX12_tows 68 = .ok (.aload_n 0, 1) := by decide +kernel
theorem dX12_tows_69 : decode cX12_tows 69 = .ok (.invokevirtual 328, 3) := by decide +kernel
theorem dX12_tows_72 : decode cX12_tows 72 = .ok (.iload_n 3, 1) := by decide +kernel
theorem dX12_tows_73 : decode cX12_tows 73 = .ok (.iconst (-1), 1) := by decide +kernel
theorem dX12_tows_74 : decode cX12_tows 74 = .ok (.ixor, 1) := by decide +kernel
theorem dX12_tows_75 : decode cX12_tows 75 = .ok (.iand, 1) := by decide +kernel
theorem dX12_tows_76 : decode cX12_tows 76 = .ok (.invokestatic 331, 3) := by decide +kernel
theorem dX12_tows_79 : decode cX12_tows 79 = .ok (.if_icmp .ne 5, 3) := by decide +kernel
theorem dX12_tows_82 : decode cX12_tows 82 = .ok (.iload_n 3, 1) := by decide +kernel
theorem dX12_tows_83 : decode cX12_tows 83 = .ok (.istore_n 2, 1) := by decide +kernel
theorem dX12_tows_84 : decode cX12_tows 84 = .ok (.iinc 3 1, 3) := by decide +kernel
theorem dX12_tows_87 : decode cX12_tows 87 = .ok (.goto (-68), 3) := by decide +kernel
theorem dX12_tows_90 : decode cX12_tows 90 = .ok (.iload_n 1, 1) := by decide +kernel
theorem dX12_tows_91 : decode cX12_tows 91 = .ok (.ifCond .ne 10, 3) := by decide +kernel
theorem dX12_tows_94 : decode cX12_tows 94 = .ok (.iload_n 2, 1) := by decide +kernel
theorem dX12_tows_95 : decode cX12_tows 95 = .ok (.invokestatic 331, 3) := by decide +kernel
theorem dX12_tows_98 : decode cX12_tows 98 = .ok (.goto 4, 3) := by decide +kernel
theorem dX12_tows_101 : decode cX12_tows 101 = .ok (.iload_n 2, 1) := by decide +kernel
theorem dX12_tows_102 : decode cX12_tows 102 = .ok (.ireturn, 1) := by decide +kernel
def kX12_tows_84 (n : Nat) (r19 : mK) : mK := i_inc 3 (1) (r19)
set_option maxRecDepth 20000 in
theorem okX12_tows_84 {E : mE} {X : State → Heap → Prop} {l : Launch} (hX : mXok E X) (n : Nat) {r19 : mK} (h19 : Sd E X l yX12_tows cX12_tows 4 (some .int) 4 0 0 0 0 19 r19) : Sd E X l yX12_tows cX12_tows 4 (some .int) 4 0 0 0 0 84 (kX12_tows_84 n r19) := s_iinc dX12_tows_84 (by decide) (s_goto dX12_tows_87 (by decide) h19)
def kX12_tows_56 (n : Nat) (r19 : mK) : mK := i_ldA 0 (i_ldA 0 (i_cV 12 0 (FX12_those n) (i_ldI 3 (i_cst (.int (-1)) (i_bin (fun x y => x ^^^ y) (i_bin (fun x y => x &&& y) (i_cV 12 1 (FX12_offOf n) (i_ldA 0 (i_cV 12 0 (FX12_those n) (i_ldI 3 (i_cst (.int (-1)) (i_bin (fun x y => x ^^^ y) (i_bin (fun x y => x &&& y) (i_cS 1 (FX12_bitsOf n) (i_c2 (fun x y => decide (¬ x = y)) (kX12_tows_84 n r19) (i_ldI 3 (i_stI 2 (kX12_tows_84 n r19))))))))))))))))))
set_option maxRecDepth 20000 in
theorem okX12_tows_56 {E : mE} {X : State → Heap → Prop} {l : Launch} (hX : mXok E X) (n : Nat) {r19 : mK} (h19 : Sd E X l yX12_tows cX12_tows 4 (some .int) 4 0 0 0 0 19 r19) : Sd E X l yX12_tows cX12_tows 4 (some .int) 4 0 0 0 0 56 (kX12_tows_56 n r19) := s_aload_n dX12_tows_56 rfl (s_aload_n dX12_tows_57 rfl (s_cV dX12_tows_58 lMX12_328 bVX12_those rfl (CtX12_those hX n) (Nat.le_of_ble_eq_true rfl) (s_iload_n dX12_tows_61 rfl (s_iconst dX12_tows_62 (by decide) (s_ixor dX12_tows_63 (s_iand dX12_tows_64 (s_cV dX12_tows_65 lMX12_430 bVX12_offOf rfl (CtX12_offOf hX n) (Nat.le_of_ble_eq_true rfl) (s_aload_n dX12_tows_68 rfl (s_cV dX12_tows_69 lMX12_328 bVX12_those rfl (CtX12_those hX n) (Nat.le_of_ble_eq_true rfl) (s_iload_n dX12_tows_72 rfl (s_iconst dX12_tows_73 (by decide) (s_ixor dX12_tows_74 (s_iand dX12_tows_75 (s_cS dX12_tows_76 lMX12_331 bSX12_bitsOf (CtX12_bitsOf hX n) (Nat.le_of_ble_eq_true rfl) (s_icne dX12_tows_79 (by decide) (okX12_tows_84 hX n h19) (s_iload_n dX12_tows_82 rfl (s_istore_n dX12_tows_83 rfl (okX12_tows_84 hX n h19)))) (Nat.le_of_ble_eq_true rfl) (Nat.le_of_ble_eq_true rfl)))))) (Nat.le_of_ble_eq_true rfl) (Nat.le_of_ble_eq_true rfl))) (Nat.le_of_ble_eq_true rfl) (Nat.le_of_ble_eq_true rfl)))))) (Nat.le_of_ble_eq_true rfl) (Nat.le_of_ble_eq_true rfl)))
def kX12_tows_102 (n : Nat) : mK := i_rI
set_option maxRecDepth 20000 in
theorem okX12_tows_102 {E : mE} {X : State → Heap → Prop} {l : Launch} (hX : mXok E X) (n : Nat) : Sd E X l yX12_tows cX12_tows 4 (some .int) 4 0 0 0 0 102 (kX12_tows_102 n) := s_rI dX12_tows_102 (Nat.le_of_ble_eq_true rfl) (Nat.le_of_ble_eq_true rfl)
def kX12_tows_19 (n : Nat) (r19 : mK) : mK := i_ldI 3 (i_ldA 0 (i_cV 12 0 (FX12_those n) (i_c2 (fun x y => decide (y < x)) (i_ldI 1 (i_c0 (fun x => decide (¬ x = 0)) (i_ldI 2 (kX12_tows_102 n)) (i_ldI 2 (i_cS 1 (FX12_bitsOf n) ((kX12_tows_102 n)))))) (i_ldI 3 (i_ldA 0 (i_cV 12 0 (FX12_those n) (i_cst (.int (-1)) (i_bin (fun x y => x ^^^ y) (i_bin (fun x y => x &&& y) (i_c0 (fun x => decide (¬ x = 0)) (kX12_tows_84 n r19) (i_ldI 2 (i_c0 (fun x => decide (x < 0)) (kX12_tows_56 n r19) (i_ldI 3 (i_cS 1 (FX12_bitsOf n) (i_ldI 2 (i_cS 1 (FX12_bitsOf n) (i_c2 (fun x y => decide (x < y)) (kX12_tows_56 n r19) ((kX12_tows_84 n r19)))))))))))))))))))
set_option maxRecDepth 20000 in
theorem okX12_tows_19 {E : mE} {X : State → Heap → Prop} {l : Launch} (hX : mXok E X) (n : Nat) {r19 : mK} (h19 : Sd E X l yX12_tows cX12_tows 4 (some .int) 4 0 0 0 0 19 r19) : Sd E X l yX12_tows cX12_tows 4 (some .int) 4 0 0 0 0 19 (kX12_tows_19 n r19) := s_iload_n dX12_tows_19 rfl (s_aload_n dX12_tows_20 rfl (s_cV dX12_tows_21 lMX12_328 bVX12_those rfl (CtX12_those hX n) (Nat.le_of_ble_eq_true rfl) (s_icgt dX12_tows_24 (by decide) (s_iload_n dX12_tows_90 rfl (s_ifne dX12_tows_91 (by decide) (s_iload_n dX12_tows_101 rfl (okX12_tows_102 hX n)) (s_iload_n dX12_tows_94 rfl (s_cS dX12_tows_95 lMX12_331 bSX12_bitsOf (CtX12_bitsOf hX n) (Nat.le_of_ble_eq_true rfl) (s_goto dX12_tows_98 (by decide) (okX12_tows_102 hX n)) (Nat.le_of_ble_eq_true rfl) (Nat.le_of_ble_eq_true rfl))))) (s_iload_n dX12_tows_27 rfl (s_aload_n dX12_tows_28 rfl (s_cV dX12_tows_29 lMX12_328 bVX12_those rfl (CtX12_those hX n) (Nat.le_of_ble_eq_true rfl) (s_iconst dX12_tows_32 (by decide) (s_ixor dX12_tows_33 (s_iand dX12_tows_34 (s_ifne dX12_tows_35 (by decide) (okX12_tows_84 hX n h19) (s_iload_n dX12_tows_38 rfl (s_iflt dX12_tows_39 (by decide) (okX12_tows_56 hX n h19) (s_iload_n dX12_tows_42 rfl (s_cS dX12_tows_43 lMX12_331 bSX12_bitsOf (CtX12_bitsOf hX n) (Nat.le_of_ble_eq_true rfl) (s_iload_n dX12_tows_46 rfl (s_cS dX12_tows_47 lMX12_331 bSX12_bitsOf (CtX12_bitsOf hX n) (Nat.le_of_ble_eq_true rfl) (s_iclt dX12_tows_50 (by decide) (okX12_tows_56 hX n h19) (s_goto dX12_tows_53 (by decide) (okX12_tows_84 hX n h19))) (Nat.le_of_ble_eq_true rfl) (Nat.le_of_ble_eq_true rfl))) (Nat.le_of_ble_eq_true rfl) (Nat.le_of_ble_eq_true rfl))))))))) (Nat.le_of_ble_eq_true rfl) (Nat.le_of_ble_eq_true rfl))))) (Nat.le_of_ble_eq_true rfl) (Nat.le_of_ble_eq_true rfl)))
def kX12_tows_0 (n : Nat) : mK := i_ldI 1 (i_cst (.int (0)) (i_cst (.int (1)) (i_cS 3 (FX12_isIn n) (i_c0 (fun x => decide (¬ x = 0)) (i_ldA 0 (i_cV 12 0 (FX12_layBars n) (i_cst (.int (-1)) (i_stI 2 (i_cst (.int (0)) (i_stI 3 (mit (kX12_tows_19 n ) n))))))) (i_cst (.int (-1)) (i_rI))))))
set_option maxRecDepth 20000 in
theorem okX12_tows_0 {E : mE} {X : State → Heap → Prop} {l : Launch} (hX : mXok E X) (n : Nat) : Sd E X l yX12_tows cX12_tows 4 (some .int) 4 0 0 0 0 0 (kX12_tows_0 n) := s_iload_n dX12_tows_0 rfl (s_iconst dX12_tows_1 (by decide) (s_iconst dX12_tows_2 (by decide) (s_cS dX12_tows_3 lMX12_344 bSX12_isIn (CtX12_isIn hX n) (Nat.le_of_ble_eq_true rfl) (s_ifne dX12_tows_6 (by decide) (s_aload_n dX12_tows_11 rfl (s_cV dX12_tows_12 lMX12_424 bVX12_layBars rfl (CtX12_layBars hX n) (Nat.le_of_ble_eq_true rfl) (s_iconst dX12_tows_15 (by decide) (s_istore_n dX12_tows_16 rfl (s_iconst dX12_tows_17 (by decide) (s_istore_n dX12_tows_18 rfl (s_mit (fun _ hk => okX12_tows_19 hX n hk) n))))) (Nat.le_of_ble_eq_true rfl) (Nat.le_of_ble_eq_true rfl))) (s_iconst dX12_tows_9 (by decide) (s_rI dX12_tows_10 (Nat.le_of_ble_eq_true rfl) (Nat.le_of_ble_eq_true rfl)))) (Nat.le_of_ble_eq_true rfl) (Nat.le_of_ble_eq_true rfl))))
def FX12_tows (n : Nat) : List Value → mM → Option mR := mfn 4 (kX12_tows_0 n)
theorem CtX12_tows {E : mE} {X : State → Heap → Prop} {l : Launch} (hX : mXok E X) (n : Nat) : Ct E X l yX12_tows cX12_tows 4 (some .int) 4 0 0 (FX12_tows n) := Ct_of (by decide) hX (okX12_tows_0 hX n)
theorem dX12_turn_0 : decode cX12_turn 0 = .ok (.iload_n 1, 1) := by decide +kernel
theorem dX12_turn_1 : decode cX12_turn 1 = .ok (.iconst 0, 1) := by decide +kernel
theorem dX12_turn_2 : decode cX12_turn 2 = .ok (.iconst 2, 1) := by decide +kernel
theorem dX12_turn_3 : decode cX12_turn 3 = .ok (.invokestatic 344, 3) := by decide +kernel
theorem dX12_turn_6 : decode cX12_turn 6 = .ok (.ifCond .ne 5, 3) := by decide +kernel
theorem dX12_turn_9 : decode cX12_turn 9 = .ok (.iconst (-1), 1) := by decide +kernel
theorem dX12_turn_10 : decode cX12_turn 10 = .ok (.ireturn, 1) := by decide +kernel
theorem dX12_turn_11 : decode cX12_turn 11 = .ok (.iconst (-1), 1) := by decide +kernel
theorem dX12_turn_12 : decode cX12_turn 12 = .ok (.istore_n 2, 1) := by decide +kernel
theorem dX12_turn_13 : decode cX12_turn 13 = .ok (.iconst (-1), 1) := by decide +kernel
theorem dX12_turn_14 : decode cX12_turn 14 = .ok (.istore_n 3, 1) := by decide +kernel
theorem dX12_turn_15 : decode cX12_turn 15 = .ok (.iconst 0, 1) := by decide +kernel
theorem dX12_turn_16 : decode cX12_turn 16 = .ok (.istore 4, 2) := by decide +kernel
theorem dX12_turn_18 : decode cX12_turn 18 = .ok (.iload 4, 2) := by decide +kernel
theorem dX12_turn_20 : decode cX12_turn 20 = .ok (.iconst 4, 1) := by decide +kernel
theorem dX12_turn_21 : decode cX12_turn 21 = .ok (.aload_n 0, 1) := by decide +kernel
theorem dX12_turn_22 : decode cX12_turn 22 = .ok (.invokevirtual 341, 3) := by decide +kernel
theorem dX12_turn_25 : decode cX12_turn 25 = .ok (.imul, 1) := by decide +kernel
theorem dX12_turn_26 : decode cX12_turn 26 = .ok (.if_icmp .ge 106, 3) := by decide +kernel
theorem dX12_turn_29 : decode cX12_turn 29 = .ok (.iload 4, 2) := by decide +kernel
theorem dX12_turn_31 : decode cX12_turn 31 = .ok (.iconst 4, 1) := by decide +kernel
theorem dX12_turn_32 : decode cX12_turn 32 = .ok (.idiv, 1) := by decide +kernel
theorem dX12_turn_33 : decode cX12_turn 33 = .ok (.istore 5, 2) := by decide +kernel
theorem dX12_turn_35 : decode cX12_turn 35 = .ok (.aload_n 0, 1) := by decide +kernel
theorem dX12_turn_36 : decode cX12_turn 36 = .ok (.iload 5, 2) := by decide +kernel
theorem dX12_turn_38 : decode cX12_turn 38 = .ok (.invokevirtual 396, 3) := by decide +kernel
theorem dX12_turn_41 : decode cX12_turn 41 = .ok (.ifCond .eq 85, 3) := by decide +kernel
theorem dX12_turn_44 : decode cX12_turn 44 = .ok (.aload_n 0, 1) := by decide +kernel
theorem dX12_turn_45 : decode cX12_turn 45 = .ok (.getfield 82, 3) := by decide +kernel
theorem dX12_turn_48 : decode cX12_turn 48 = .ok (.bipush 8, 2) := by decide +kernel
theorem dX12_turn_50 : decode cX12_turn 50 = .ok (.iload 5, 2) := by decide +kernel
theorem dX12_turn_52 : decode cX12_turn 52 = .ok (.iadd, 1) := by decide +kernel
theorem dX12_turn_53 : decode cX12_turn 53 = .ok (.iaload, 1) := by decide +kernel
theorem dX12_turn_54 : decode cX12_turn 54 = .ok (.iload 4, 2) := by decide +kernel
theorem dX12_turn_56 : decode cX12_turn 56 = .ok (.iconst 4, 1) := by decide +kernel
theorem dX12_turn_57 : decode cX12_turn 57 = .ok (.irem, 1) := by decide +kernel
theorem dX12_turn_58 : decode cX12_turn 58 = .ok (.if_icmp .ne 6, 3) := by decide +kernel
theorem dX12_turn_61 : decode cX12_turn 61 = .ok (.goto 65, 3) := by decide +kernel
theorem dX12_turn_64 : decode cX12_turn 64 = .ok (.aload_n 0, 1) := by decide +kernel
theorem dX12_turn_65 : decode cX12_turn 65 = .ok (.getfield 82, 3) := by decide +kernel
theorem dX12_turn_68 : decode cX12_turn 68 = .ok (.bipush 8, 2) := by decide +kernel
theorem dX12_turn_70 : decode cX12_turn 70 = .ok (.iload 5, 2) := by decide +kernel
theorem dX12_turn_72 : decode cX12_turn 72 = .ok (.iadd, 1) := by decide +kernel
theorem dX12_turn_73 : decode cX12_turn 73 = .ok (.iaload, 1) := by decide +kernel
theorem dX12_turn_74 : decode cX12_turn 74 = .ok (.istore 6, 2) := by decide +kernel
theorem dX12_turn_76 : decode cX12_turn 76 = .ok (.aload_n 0, 1) := by decide +kernel
theorem dX12_turn_77 : decode cX12_turn 77 = .ok (.getfield 82, 3) := by decide +kernel
theorem dX12_turn_80 : decode cX12_turn 80 = .ok (.bipush 8, 2) := by decide +kernel
theorem dX12_turn_82 : decode cX12_turn 82 = .ok (.iload 5, 2) := by decide +kernel
theorem dX12_turn_84 : decode cX12_turn 84 = .ok (.iadd, 1) := by decide +kernel
theorem dX12_turn_85 : decode cX12_turn 85 = .ok (.iload 4, 2) := by decide +kernel
theorem dX12_turn_87 : decode cX12_turn 87 = .ok (.iconst 4, 1) := by decide +kernel
theorem dX12_turn_88 : decode cX12_turn 88 = .ok (.irem, 1) := by decide +kernel
theorem dX12_turn_89 : decode cX12_turn 89 = .ok (.iastore, 1) := by decide +kernel
theorem dX12_turn_90 : decode cX12_turn 90 = .ok (.aload_n 0, 1) := by decide +kernel
theorem dX12_turn_91 : decode cX12_turn 91 = .ok (.invokevirtual 400, 3) := by decide +kernel
theorem dX12_turn_94 : decode cX12_turn 94 = .ok (.invokestatic 331, 3) := by decide +kernel
theorem dX12_turn_97 : decode cX12_turn 97 = .ok (.istore 7, 2) := by decide +kernel
theorem dX12_turn_99 : decode cX12_turn 99 = .ok (.aload_n 0, 1) := by decide +kernel
theorem dX12_turn_100 : decode cX12_turn 100 = .ok (.getfield 82, 3) := by decide +kernel
theorem dX12_turn_103 : decode cX12_turn 103 = .ok (.bipush 8, 2) := by decide +kernel
theorem dX12_turn_105 : decode cX12_turn 105 = .ok (.iload 5, 2) := by decide +kernel
theorem dX12_turn_107 : decode cX12_turn 107 = .ok (.iadd, 1) := by decide +kernel
theorem dX12_turn_108 : decode cX12_turn 108 = .ok (.iload 6, 2) := by decide +kernel
theorem dX12_turn_110 : decode cX12_turn 110 = .ok (.iastore, 1) := by decide +kernel
theorem dX12_turn_111 : decode cX12_turn 111 = .ok (.iload 7, 2) := by decide +kernel
theorem dX12_turn_113 : decode cX12_turn 113 = .ok (.iload_n 3, 1) := by decide +kernel
theorem dX12_turn_114 : decode cX12_turn 114 = .ok (.if_icmp .gt 6, 3) := by decide +kernel
theorem dX12_turn_117 : decode cX12_turn 117 = .ok (.goto 9, 3) := by decide +kernel
theorem dX12_turn_120 : decode cX12_turn 120 = .ok (.iload 4, 2) := by decide +kernel
theorem dX12_turn_122 : decode cX12_turn 122 = .ok (.istore_n 2, 1) := by decide +kernel
theorem dX12_turn_123 : decode cX12_turn 123 = .ok (.iload 7, 2) := by decide +kernel
theorem dX12_turn_125 : decode cX12_turn 125 = .ok (.istore_n 3, 1) := by decide +kernel
theorem dX12_turn_126 : decode cX12_turn 126 = .ok (.iinc 4 1, 3) := by decide +kernel
theorem dX12_turn_129 : decode cX12_turn 129 = .ok (.goto (-111), 3) := by decide +kernel
theorem dX12_turn_132 : decode cX12_turn 132 = .ok (.iload_n 2, 1) := by decide +kernel
theorem dX12_turn_133 : decode cX12_turn 133 = .ok (.ifCond .ge 7, 3) := by decide +kernel
theorem dX12_turn_136 : decode cX12_turn 136 = .ok (.iconst (-1), 1) := by decide +kernel
theorem dX12_turn_137 : decode cX12_turn 137 = .ok (.goto 25, 3) := by decide +kernel
theorem dX12_turn_140 : decode cX12_turn 140 = .ok (.iload_n 1, 1) := by decide +kernel
theorem dX12_turn_141 : decode cX12_turn 141 = .ok (.ifCond .ne 9, 3) := by decide +kernel
theorem dX12_turn_144 : decode cX12_turn 144 = .ok (.iload_n 2, 1) := by decide +kernel
theorem dX12_turn_145 : decode cX12_turn 145 = .ok (.iconst 4, 1) := by decide +kernel
theorem dX12_turn_146 : decode cX12_turn 146 = .ok (.idiv, 1) := by decide +kernel
theorem dX12_turn_147 : decode cX12_turn 147 = .ok (.goto 15, 3) := by decide +kernel
theorem dX12_turn_150 : decode cX12_turn 150 = .ok (.iload_n 1, 1) := by decide +kernel
theorem dX12_turn_151 : decode cX12_turn 151 = .ok (.iconst 1, 1) := by decide +kernel
theorem dX12_turn_152 : decode cX12_turn 152 = .ok (.if_icmp .ne 9, 3) := by decide +kernel
theorem dX12_turn_155 : decode cX12_turn 155 = .ok (.iload_n 2, 1) := by decide +kernel
theorem dX12_turn_156 : decode cX12_turn 156 = .ok (.iconst 4, 1) := by decide +kernel
theorem dX12_turn_157 : decode cX12_turn 157 = .ok (.irem, 1) := by decide +kernel
theorem dX12_turn_158 : decode cX12_turn 158 = .ok (.goto 4, 3) := by decide +kernel
theorem dX12_turn_161 : decode cX12_turn 161 = .ok (.iload_n 3, 1) := by decide +kernel
theorem dX12_turn_162 : decode cX12_turn 162 = .ok (.ireturn, 1) := by decide +kernel
def kX12_turn_126 (n : Nat) (r18 : mK) : mK := i_inc 4 (1) (r18)
set_option maxRecDepth 20000 in
theorem okX12_turn_126 {E : mE} {X : State → Heap → Prop} {l : Launch} (hX : mXok E X) (n : Nat) {r18 : mK} (h18 : Sd E X l yX12_turn cX12_turn 8 (some .int) 4 0 0 0 0 18 r18) : Sd E X l yX12_turn cX12_turn 8 (some .int) 4 0 0 0 0 126 (kX12_turn_126 n r18) := s_iinc dX12_turn_126 (by decide) (s_goto dX12_turn_129 (by decide) h18)
def kX12_turn_107 (n : Nat) (r18 : mK) : mK := i_bin (fun x y => x + y) (i_ldI 6 (i_as 0 (i_ldI 7 (i_ldI 3 (i_c2 (fun x y => decide (y < x)) (i_ldI 4 (i_stI 2 (i_ldI 7 (i_stI 3 (kX12_turn_126 n r18))))) ((kX12_turn_126 n r18)))))))
set_option maxRecDepth 20000 in
theorem okX12_turn_107 {E : mE} {X : State → Heap → Prop} {l : Launch} (hX : mXok E X) (n : Nat) {r18 : mK} (h18 : Sd E X l yX12_turn cX12_turn 8 (some .int) 4 0 0 0 0 18 r18) : Sd E X l yX12_turn cX12_turn 8 (some .int) 4 0 0 0 0 107 (kX12_turn_107 n r18) := s_iadd dX12_turn_107 (s_iload dX12_turn_108 (s_iast dX12_turn_110 (s_iload dX12_turn_111 (s_iload_n dX12_turn_113 rfl (s_icgt dX12_turn_114 (by decide) (s_iload dX12_turn_120 (s_istore_n dX12_turn_122 rfl (s_iload dX12_turn_123 (s_istore_n dX12_turn_125 rfl (okX12_turn_126 hX n h18))))) (s_goto dX12_turn_117 (by decide) (okX12_turn_126 hX n h18)))))))
def kX12_turn_64 (n : Nat) (r18 : mK) : mK := i_ldA 0 (i_gA 12 39 (i_cst (.int (8)) (i_ldI 5 (i_bin (fun x y => x + y) (i_al 0 (i_stI 6 (i_ldA 0 (i_gA 12 39 (i_cst (.int (8)) (i_ldI 5 (i_bin (fun x y => x + y) (i_ldI 4 (i_cst (.int (4)) (i_dv (fun x y => x - x / y * y) (i_as 0 (i_ldA 0 (i_cV 12 0 (FX12_freeNow n) (i_cS 1 (FX12_bitsOf n) (i_stI 7 (i_ldA 0 (i_gA 12 39 (i_cst (.int (8)) (i_ldI 5 (kX12_turn_107 n r18))))))))))))))))))))))))
set_option maxRecDepth 20000 in
theorem okX12_turn_64 {E : mE} {X : State → Heap → Prop} {l : Launch} (hX : mXok E X) (n : Nat) {r18 : mK} (h18 : Sd E X l yX12_turn cX12_turn 8 (some .int) 4 0 0 0 0 18 r18) : Sd E X l yX12_turn cX12_turn 8 (some .int) 4 0 0 0 0 64 (kX12_turn_64 n r18) := s_aload_n dX12_turn_64 rfl (s_gA dX12_turn_65 lFX12_82 (s_bipush dX12_turn_68 (by decide) (s_iload dX12_turn_70 (s_iadd dX12_turn_72 (s_iald dX12_turn_73 (s_istore dX12_turn_74 (s_aload_n dX12_turn_76 rfl (s_gA dX12_turn_77 lFX12_82 (s_bipush dX12_turn_80 (by decide) (s_iload dX12_turn_82 (s_iadd dX12_turn_84 (s_iload dX12_turn_85 (s_iconst dX12_turn_87 (by decide) (s_irem dX12_turn_88 (s_iast dX12_turn_89 (s_aload_n dX12_turn_90 rfl (s_cV dX12_turn_91 lMX12_400 bVX12_freeNow rfl (CtX12_freeNow hX n) (Nat.le_of_ble_eq_true rfl) (s_cS dX12_turn_94 lMX12_331 bSX12_bitsOf (CtX12_bitsOf hX n) (Nat.le_of_ble_eq_true rfl) (s_istore dX12_turn_97 (s_aload_n dX12_turn_99 rfl (s_gA dX12_turn_100 lFX12_82 (s_bipush dX12_turn_103 (by decide) (s_iload dX12_turn_105 (okX12_turn_107 hX n h18)))))) (Nat.le_of_ble_eq_true rfl) (Nat.le_of_ble_eq_true rfl)) (Nat.le_of_ble_eq_true rfl) (Nat.le_of_ble_eq_true rfl))))))))))))))))))
def kX12_turn_61 (n : Nat) (r18 : mK) : mK := (kX12_turn_126 n r18)
set_option maxRecDepth 20000 in
theorem okX12_turn_61 {E : mE} {X : State → Heap → Prop} {l : Launch} (hX : mXok E X) (n : Nat) {r18 : mK} (h18 : Sd E X l yX12_turn cX12_turn 8 (some .int) 4 0 0 0 0 18 r18) : Sd E X l yX12_turn cX12_turn 8 (some .int) 4 0 0 0 0 61 (kX12_turn_61 n r18) := s_goto dX12_turn_61 (by decide) (okX12_turn_126 hX n h18)
def kX12_turn_162 (n : Nat) : mK := i_rI
set_option maxRecDepth 20000 in
theorem okX12_turn_162 {E : mE} {X : State → Heap → Prop} {l : Launch} (hX : mXok E X) (n : Nat) : Sd E X l yX12_turn cX12_turn 8 (some .int) 4 0 0 0 0 162 (kX12_turn_162 n) := s_rI dX12_turn_162 (Nat.le_of_ble_eq_true rfl) (Nat.le_of_ble_eq_true rfl)
def kX12_turn_18 (n : Nat) (r18 : mK) : mK := i_ldI 4 (i_cst (.int (4)) (i_ldA 0 (i_cV 12 0 (FX12_many n) (i_bin (fun x y => x * y) (i_c2 (fun x y => decide (y ≤ x)) (i_ldI 2 (i_c0 (fun x => decide (0 ≤ x)) (i_ldI 1 (i_c0 (fun x => decide (¬ x = 0)) (i_ldI 1 (i_cst (.int (1)) (i_c2 (fun x y => decide (¬ x = y)) (i_ldI 3 (kX12_turn_162 n)) (i_ldI 2 (i_cst (.int (4)) (i_dv (fun x y => x - x / y * y) ((kX12_turn_162 n)))))))) (i_ldI 2 (i_cst (.int (4)) (i_dv (fun x y => x / y) ((kX12_turn_162 n))))))) (i_cst (.int (-1)) ((kX12_turn_162 n))))) (i_ldI 4 (i_cst (.int (4)) (i_dv (fun x y => x / y) (i_stI 5 (i_ldA 0 (i_ldI 5 (i_cV 12 1 (FX12_isHere n) (i_c0 (fun x => decide (x = 0)) (kX12_turn_126 n r18) (i_ldA 0 (i_gA 12 39 (i_cst (.int (8)) (i_ldI 5 (i_bin (fun x y => x + y) (i_al 0 (i_ldI 4 (i_cst (.int (4)) (i_dv (fun x y => x - x / y * y) (i_c2 (fun x y => decide (¬ x = y)) (kX12_turn_64 n r18) (kX12_turn_61 n r18))))))))))))))))))))))))
set_option maxRecDepth 20000 in
theorem okX12_turn_18 {E : mE} {X : State → Heap → Prop} {l : Launch} (hX : mXok E X) (n : Nat) {r18 : mK} (h18 : Sd E X l yX12_turn cX12_turn 8 (some .int) 4 0 0 0 0 18 r18) : Sd E X l yX12_turn cX12_turn 8 (some .int) 4 0 0 0 0 18 (kX12_turn_18 n r18) := s_iload dX12_turn_18 (s_iconst dX12_turn_20 (by decide) (s_aload_n dX12_turn_21 rfl (s_cV dX12_turn_22 lMX12_341 bVX12_many rfl (CtX12_many hX n) (Nat.le_of_ble_eq_true rfl) (s_imul dX12_turn_25 (s_icge dX12_turn_26 (by decide) (s_iload_n dX12_turn_132 rfl (s_ifge dX12_turn_133 (by decide) (s_iload_n dX12_turn_140 rfl (s_ifne dX12_turn_141 (by decide) (s_iload_n dX12_turn_150 rfl (s_iconst dX12_turn_151 (by decide) (s_icne dX12_turn_152 (by decide) (s_iload_n dX12_turn_161 rfl (okX12_turn_162 hX n)) (s_iload_n dX12_turn_155 rfl (s_iconst dX12_turn_156 (by decide) (s_irem dX12_turn_157 (s_goto dX12_turn_158 (by decide) (okX12_turn_162 hX n)))))))) (s_iload_n dX12_turn_144 rfl (s_iconst dX12_turn_145 (by decide) (s_idiv dX12_turn_146 (s_goto dX12_turn_147 (by decide) (okX12_turn_162 hX n))))))) (s_iconst dX12_turn_136 (by decide) (s_goto dX12_turn_137 (by decide) (okX12_turn_162 hX n))))) (s_iload dX12_turn_29 (s_iconst dX12_turn_31 (by decide) (s_idiv dX12_turn_32 (s_istore dX12_turn_33 (s_aload_n dX12_turn_35 rfl (s_iload dX12_turn_36 (s_cV dX12_turn_38 lMX12_396 bVX12_isHere rfl (CtX12_isHere hX n) (Nat.le_of_ble_eq_true rfl) (s_ifeq dX12_turn_41 (by decide) (okX12_turn_126 hX n h18) (s_aload_n dX12_turn_44 rfl (s_gA dX12_turn_45 lFX12_82 (s_bipush dX12_turn_48 (by decide) (s_iload dX12_turn_50 (s_iadd dX12_turn_52 (s_iald dX12_turn_53 (s_iload dX12_turn_54 (s_iconst dX12_turn_56 (by decide) (s_irem dX12_turn_57 (s_icne dX12_turn_58 (by decide) (okX12_turn_64 hX n h18) (okX12_turn_61 hX n h18)))))))))))) (Nat.le_of_ble_eq_true rfl) (Nat.le_of_ble_eq_true rfl)))))))))) (Nat.le_of_ble_eq_true rfl) (Nat.le_of_ble_eq_true rfl))))
def kX12_turn_0 (n : Nat) : mK := i_ldI 1 (i_cst (.int (0)) (i_cst (.int (2)) (i_cS 3 (FX12_isIn n) (i_c0 (fun x => decide (¬ x = 0)) (i_cst (.int (-1)) (i_stI 2 (i_cst (.int (-1)) (i_stI 3 (i_cst (.int (0)) (i_stI 4 (mit (kX12_turn_18 n ) n))))))) (i_cst (.int (-1)) (i_rI))))))
set_option maxRecDepth 20000 in
theorem okX12_turn_0 {E : mE} {X : State → Heap → Prop} {l : Launch} (hX : mXok E X) (n : Nat) : Sd E X l yX12_turn cX12_turn 8 (some .int) 4 0 0 0 0 0 (kX12_turn_0 n) := s_iload_n dX12_turn_0 rfl (s_iconst dX12_turn_1 (by decide) (s_iconst dX12_turn_2 (by decide) (s_cS dX12_turn_3 lMX12_344 bSX12_isIn (CtX12_isIn hX n) (Nat.le_of_ble_eq_true rfl) (s_ifne dX12_turn_6 (by decide) (s_iconst dX12_turn_11 (by decide) (s_istore_n dX12_turn_12 rfl (s_iconst dX12_turn_13 (by decide) (s_istore_n dX12_turn_14 rfl (s_iconst dX12_turn_15 (by decide) (s_istore dX12_turn_16 (s_mit (fun _ hk => okX12_turn_18 hX n hk) n))))))) (s_iconst dX12_turn_9 (by decide) (s_rI dX12_turn_10 (Nat.le_of_ble_eq_true rfl) (Nat.le_of_ble_eq_true rfl)))) (Nat.le_of_ble_eq_true rfl) (Nat.le_of_ble_eq_true rfl))))
def FX12_turn (n : Nat) : List Value → mM → Option mR := mfn 8 (kX12_turn_0 n)
theorem CtX12_turn {E : mE} {X : State → Heap → Prop} {l : Launch} (hX : mXok E X) (n : Nat) : Ct E X l yX12_turn cX12_turn 8 (some .int) 4 0 0 (FX12_turn n) := Ct_of (by decide) hX (okX12_turn_0 hX n)
theorem dX12_window_0 : decode cX12_window 0 = .ok (.aload_n 0, 1) := by decide +kernel
theorem dX12_window_1 : decode cX12_window 1 = .ok (.iconst 0, 1) := by decide +kernel
theorem dX12_window_2 : decode cX12_window 2 = .ok (.putfield 366, 3) := by decide +kernel
theorem dX12_window_5 : decode cX12_window 5 = .ok (.aload_n 0, 1) := by decide +kernel
theorem dX12_window_6 : decode cX12_window 6 = .ok (.iload_n 1, 1) := by decide +kernel
theorem dX12_window_7 : decode cX12_window 7 = .ok (.invokevirtual 390, 3) := by decide +kernel
theorem dX12_window_10 : decode cX12_window 10 = .ok (.ifCond .eq 11, 3) := by decide +kernel
theorem dX12_window_13 : decode cX12_window 13 = .ok (.aload_n 0, 1) := by decide +kernel
theorem dX12_window_14 : decode cX12_window 14 = .ok (.iload_n 2, 1) := by decide +kernel
theorem dX12_window_15 : decode cX12_window 15 = .ok (.invokevirtual 396, 3) := by decide +kernel
theorem dX12_window_18 : decode cX12_window 18 = .ok (.ifCond .ne 5, 3) := by decide +kernel
theorem dX12_window_21 : decode cX12_window 21 = .ok (.iconst (-1), 1) := by decide +kernel
theorem dX12_window_22 : decode cX12_window 22 = .ok (.ireturn, 1) := by decide +kernel
theorem dX12_window_23 : decode cX12_window 23 = .ok (.iconst 0, 1) := by decide +kernel
theorem dX12_window_24 : decode cX12_window 24 = .ok (.istore_n 3, 1) := by decide +kernel
theorem dX12_window_25 : decode cX12_window 25 = .ok (.iload_n 3, 1) := by decide +kernel
theorem dX12_window_26 : decode cX12_window 26 = .ok (.aload_n 0, 1) := by decide +kernel
theorem dX12_window_27 : decode cX12_window 27 = .ok (.invokevirtual 351, 3) := by decide +kernel
theorem dX12_window_30 : decode cX12_window 30 = .ok (.if_icmp .ge 46, 3) := by decide +kernel
theorem dX12_window_33 : decode cX12_window 33 = .ok (.aload_n 0, 1) := by decide +kernel
theorem dX12_window_34 : decode cX12_window 34 = .ok (.getfield 106, 3) := by decide +kernel
theorem dX12_window_37 : decode cX12_window 37 = .ok (.iload_n 3, 1) := by decide +kernel
theorem dX12_window_38 : decode cX12_window 38 = .ok (.aload_n 0, 1) := by decide +kernel
theorem dX12_window_39 : decode cX12_window 39 = .ok (.iload_n 3, 1) := by decide +kernel
theorem dX12_window_40 : decode cX12_window 40 = .ok (.invokevirtual 393, 3) := by decide +kernel
theorem dX12_window_43 : decode cX12_window 43 = .ok (.ifCond .ge 23, 3) := by decide +kernel
theorem dX12_window_46 : decode cX12_window 46 = .ok (.aload_n 0, 1) := by decide +kernel
theorem dX12_window_47 : decode cX12_window 47 = .ok (.iload_n 3, 1) := by decide +kernel
theorem dX12_window_48 : decode cX12_window 48 = .ok (.aload_n 0, 1) := by decide +kernel
theorem dX12_window_49 : decode cX12_window 49 = .ok (.getfield 82, 3) := by decide +kernel
theorem dX12_window_52 : decode cX12_window 52 = .ok (.iconst 0, 1) := by decide +kernel
theorem dX12_window_53 : decode cX12_window 53 = .ok (.iload_n 2, 1) := by decide +kernel
theorem dX12_window_54 : decode cX12_window 54 = .ok (.iadd, 1) := by decide +kernel
theorem dX12_window_55 : decode cX12_window 55 = .ok (.iaload, 1) := by decide +kernel
theorem dX12_window_56 : decode cX12_window 56 = .ok (.invokevirtual 460, 3) := by decide +kernel
theorem dX12_window_59 : decode cX12_window 59 = .ok (.ifCond .eq 7, 3) := by decide +kernel
theorem dX12_window_62 : decode cX12_window 62 = .ok (.iconst 0, 1) := by decide +kernel
theorem dX12_window_63 : decode cX12_window 63 = .ok (.goto 6, 3) := by decide +kernel
theorem dX12_window_66 : decode cX12_window 66 = .ok (.sipush 1000, 3) := by decide +kernel
theorem dX12_window_69 : decode cX12_window 69 = .ok (.iastore, 1) := by decide +kernel
theorem dX12_window_70 : decode cX12_window 70 = .ok (.iinc 3 1, 3) := by decide +kernel
theorem dX12_window_73 : decode cX12_window 73 = .ok (.goto (-48), 3) := by decide +kernel
theorem dX12_window_76 : decode cX12_window 76 = .ok (.aload_n 0, 1) := by decide +kernel
theorem dX12_window_77 : decode cX12_window 77 = .ok (.invokevirtual 463, 3) := by decide +kernel
theorem dX12_window_80 : decode cX12_window 80 = .ok (.aload_n 0, 1) := by decide +kernel
theorem dX12_window_81 : decode cX12_window 81 = .ok (.getfield 106, 3) := by decide +kernel
theorem dX12_window_84 : decode cX12_window 84 = .ok (.iload_n 1, 1) := by decide +kernel
theorem dX12_window_85 : decode cX12_window 85 = .ok (.iaload, 1) := by decide +kernel
theorem dX12_window_86 : decode cX12_window 86 = .ok (.sipush 1000, 3) := by decide +kernel
theorem dX12_window_89 : decode cX12_window 89 = .ok (.if_icmp .ne 5, 3) := by decide +kernel
theorem dX12_window_92 : decode cX12_window 92 = .ok (.iconst (-1), 1) := by decide +kernel
theorem dX12_window_93 : decode cX12_window 93 = .ok (.ireturn, 1) := by decide +kernel
theorem dX12_window_94 : decode cX12_window 94 = .ok (.iload_n 1, 1) := by decide +kernel
theorem dX12_window_95 : decode cX12_window 95 = .ok (.istore_n 3, 1) := by decide +kernel
theorem dX12_window_96 : decode cX12_window 96 = .ok (.iconst 1, 1) := by decide +kernel
theorem dX12_window_97 : decode cX12_window 97 = .ok (.istore 4, 2) := by decide +kernel
theorem dX12_window_99 : decode cX12_window 99 = .ok (.iload 4, 2) := by decide +kernel
theorem dX12_window_101 : decode cX12_window 101 = .ok (.ifCond .eq 105, 3) := by decide +kernel
theorem dX12_window_104 : decode cX12_window 104 = .ok (.aload_n 0, 1) := by decide +kernel
theorem dX12_window_105 : decode cX12_window 105 = .ok (.getfield 366, 3) := by decide +kernel
theorem dX12_window_108 : decode cX12_window 108 = .ok (.bipush 16, 2) := by decide +kernel
theorem dX12_window_110 : decode cX12_window 110 = .ok (.if_icmp .ge 96, 3) := by decide +kernel
theorem dX12_window_113 : decode cX12_window 113 = .ok (.aload_n 0, 1) := by decide +kernel
theorem dX12_window_114 : decode cX12_window 114 = .ok (.getfield 97, 3) := by decide +kernel
theorem dX12_window_117 : decode cX12_window 117 = .ok (.aload_n 0, 1) := by decide +kernel
theorem dX12_window_118 : decode cX12_window 118 = .ok (.getfield 366, 3) := by decide +kernel
theorem dX12_window_121 : decode cX12_window 121 = .ok (.iload_n 3, 1) := by decide +kernel
theorem dX12_window_122 : decode cX12_window 122 = .ok (.iastore, 1) := by decide +kernel
theorem dX12_window_123 : decode cX12_window 123 = .ok (.aload_n 0, 1) := by decide +kernel
theorem dX12_window_124 : decode cX12_window 124 = .ok (.dup, 1) := by decide +kernel
theorem dX12_window_125 : decode cX12_window 125 = .ok (.getfield 366, 3) := by decide +kernel
theorem dX12_window_128 : decode cX12_window 128 = .ok (.iconst 1, 1) := by decide +kernel
theorem dX12_window_129 : decode cX12_window 129 = .ok (.iadd, 1) := by decide +kernel
theorem dX12_window_130 : decode cX12_window 130 = .ok (.putfield 366, 3) := by decide +kernel
theorem dX12_window_133 : decode cX12_window 133 = .ok (.aload_n 0, 1) := by decide +kernel
theorem dX12_window_134 : decode cX12_window 134 = .ok (.getfield 106, 3) := by decide +kernel
theorem dX12_window_137 : decode cX12_window 137 = .ok (.iload_n 3, 1) := by decide +kernel
theorem dX12_window_138 : decode cX12_window 138 = .ok (.iaload, 1) := by decide +kernel
theorem dX12_window_139 : decode cX12_window 139 = .ok (.ifCond .le 7, 3) := by decide +kernel
theorem dX12_window_142 : decode cX12_window 142 = .ok (.iconst 1, 1) := by decide +kernel
theorem dX12_window_143 : decode cX12_window 143 = .ok (.goto 4, 3) := by decide +kernel
theorem dX12_window_146 : decode cX12_window 146 = .ok (.iconst 0, 1) := by decide +kernel
theorem dX12_window_147 : decode cX12_window 147 = .ok (.istore 4, 2) := by decide +kernel
theorem dX12_window_149 : decode cX12_window 149 = .ok (.iconst 0, 1) := by decide +kernel
theorem dX12_window_150 : decode cX12_window 150 = .ok (.istore 5, 2) := by decide +kernel
theorem dX12_window_152 : decode cX12_window 152 = .ok (.iload 4, 2) := by decide +kernel
theorem dX12_window_154 : decode cX12_window 154 = .ok (.ifCond .eq 37, 3) := by decide +kernel
theorem dX12_window_157 : decode cX12_window 157 = .ok (.aload_n 0, 1) := by decide +kernel
theorem dX12_window_158 : decode cX12_window 158 = .ok (.getfield 106, 3) := by decide +kernel
theorem dX12_window_161 : decode cX12_window 161 = .ok (.iload 5, 2) := by decide +kernel
theorem dX12_window_163 : decode cX12_window 163 = .ok (.iaload, 1) := by decide +kernel
theorem dX12_window_164 : decode cX12_window 164 = .ok (.aload_n 0, 1) := by decide +kernel
theorem dX12_window_165 : decode cX12_window 165 = .ok (.getfield 106, 3) := by decide +kernel
theorem dX12_window_168 : decode cX12_window 168 = .ok (.iload_n 3, 1) := by decide +kernel
theorem dX12_window_169 : decode cX12_window 169 = .ok (.iaload, 1) := by decide +kernel
theorem dX12_window_170 : decode cX12_window 170 = .ok (.iconst 1, 1) := by decide +kernel
theorem dX12_window_171 : decode cX12_window 171 = .ok (.isub, 1) := by decide +kernel
theorem dX12_window_172 : decode cX12_window 172 = .ok (.if_icmp .ne 13, 3) := by decide +kernel
theorem dX12_window_175 : decode cX12_window 175 = .ok (.aload_n 0, 1) := by decide +kernel
theorem dX12_window_176 : decode cX12_window 176 = .ok (.iload_n 3, 1) := by decide +kernel
theorem dX12_window_177 : decode cX12_window 177 = .ok (.iload 5, 2) := by decide +kernel
theorem dX12_window_179 : decode cX12_window 179 = .ok (.invokevirtual 460, 3) := by decide +kernel
theorem dX12_window_182 : decode cX12_window 182 = .ok (.ifCond .ne 9, 3) := by decide +kernel
theorem dX12_window_185 : decode cX12_window 185 = .ok (.iinc 5 1, 3) := by decide +kernel
theorem dX12_window_188 : decode cX12_window 188 = .ok (.goto (-36), 3) := by decide +kernel
theorem dX12_window_191 : decode cX12_window 191 = .ok (.iload 4, 2) := by decide +kernel
theorem dX12_window_193 : decode cX12_window 193 = .ok (.ifCond .eq 8, 3) := by decide +kernel
theorem dX12_window_196 : decode cX12_window 196 = .ok (.iload 5, 2) := by decide +kernel
theorem dX12_window_198 : decode cX12_window 198 = .ok (.goto 4, 3) := by decide +kernel
theorem dX12_window_201 : decode cX12_window 201 = .ok (.iload_n 3, 1) := by decide +kernel
theorem dX12_window_202 : decode cX12_window 202 = .ok (.istore_n 3, 1) := by decide +kernel
theorem dX12_window_203 : decode cX12_window 203 = .ok (.goto (-104), 3) := by decide +kernel
theorem dX12_window_206 : decode cX12_window 206 = .ok (.aload_n 0, 1) := by decide +kernel
theorem dX12_window_207 : decode cX12_window 207 = .ok (.getfield 106, 3) := by decide +kernel
theorem dX12_window_210 : decode cX12_window 210 = .ok (.iload_n 1, 1) := by decide +kernel
theorem dX12_window_211 : decode cX12_window 211 = .ok (.iaload, 1) := by decide +kernel
theorem dX12_window_212 : decode cX12_window 212 = .ok (.ireturn, 1) := by decide +kernel
def kX12_window_21 (n : Nat) : mK := i_cst (.int (-1)) (i_rI)
set_option maxRecDepth 20000 in
theorem okX12_window_21 {E : mE} {X : State → Heap → Prop} {l : Launch} (hX : mXok E X) (n : Nat) : Sd E X l yX12_window cX12_window 6 (some .int) 4 0 0 0 0 21 (kX12_window_21 n) := s_iconst dX12_window_21 (by decide) (s_rI dX12_window_22 (Nat.le_of_ble_eq_true rfl) (Nat.le_of_ble_eq_true rfl))
def kX12_window_69 (n : Nat) (r25 : mK) : mK := i_as 0 (i_inc 3 (1) (r25))
set_option maxRecDepth 20000 in
theorem okX12_window_69 {E : mE} {X : State → Heap → Prop} {l : Launch} (hX : mXok E X) (n : Nat) {r25 : mK} (h25 : Sd E X l yX12_window cX12_window 6 (some .int) 4 0 0 0 0 25 r25) : Sd E X l yX12_window cX12_window 6 (some .int) 4 0 0 0 0 69 (kX12_window_69 n r25) := s_iast dX12_window_69 (s_iinc dX12_window_70 (by decide) (s_goto dX12_window_73 (by decide) h25))
def kX12_window_66 (n : Nat) (r25 : mK) : mK := i_cst (.int (1000)) (kX12_window_69 n r25)
set_option maxRecDepth 20000 in
theorem okX12_window_66 {E : mE} {X : State → Heap → Prop} {l : Launch} (hX : mXok E X) (n : Nat) {r25 : mK} (h25 : Sd E X l yX12_window cX12_window 6 (some .int) 4 0 0 0 0 25 r25) : Sd E X l yX12_window cX12_window 6 (some .int) 4 0 0 0 0 66 (kX12_window_66 n r25) := s_sipush dX12_window_66 (by decide) (okX12_window_69 hX n h25)
def kX12_window_206 (n : Nat) : mK := i_ldA 0 (i_gA 12 50 (i_ldI 1 (i_al 0 (i_rI))))
set_option maxRecDepth 20000 in
theorem okX12_window_206 {E : mE} {X : State → Heap → Prop} {l : Launch} (hX : mXok E X) (n : Nat) : Sd E X l yX12_window cX12_window 6 (some .int) 4 0 0 0 0 206 (kX12_window_206 n) := s_aload_n dX12_window_206 rfl (s_gA dX12_window_207 lFX12_106 (s_iload_n dX12_window_210 rfl (s_iald dX12_window_211 (s_rI dX12_window_212 (Nat.le_of_ble_eq_true rfl) (Nat.le_of_ble_eq_true rfl)))))
def kX12_window_202 (n : Nat) (r99 : mK) : mK := i_stI 3 (r99)
set_option maxRecDepth 20000 in
theorem okX12_window_202 {E : mE} {X : State → Heap → Prop} {l : Launch} (hX : mXok E X) (n : Nat) {r99 : mK} (h99 : Sd E X l yX12_window cX12_window 6 (some .int) 4 0 0 0 0 99 r99) : Sd E X l yX12_window cX12_window 6 (some .int) 4 0 0 0 0 202 (kX12_window_202 n r99) := s_istore_n dX12_window_202 rfl (s_goto dX12_window_203 (by decide) h99)
def kX12_window_191 (n : Nat) (r99 : mK) : mK := i_ldI 4 (i_c0 (fun x => decide (x = 0)) (i_ldI 3 (kX12_window_202 n r99)) (i_ldI 5 ((kX12_window_202 n r99))))
set_option maxRecDepth 20000 in
theorem okX12_window_191 {E : mE} {X : State → Heap → Prop} {l : Launch} (hX : mXok E X) (n : Nat) {r99 : mK} (h99 : Sd E X l yX12_window cX12_window 6 (some .int) 4 0 0 0 0 99 r99) : Sd E X l yX12_window cX12_window 6 (some .int) 4 0 0 0 0 191 (kX12_window_191 n r99) := s_iload dX12_window_191 (s_ifeq dX12_window_193 (by decide) (s_iload_n dX12_window_201 rfl (okX12_window_202 hX n h99)) (s_iload dX12_window_196 (s_goto dX12_window_198 (by decide) (okX12_window_202 hX n h99))))
def kX12_window_185 (n : Nat) (r99 : mK) (r152 : mK) : mK := i_inc 5 (1) (r152)
set_option maxRecDepth 20000 in
theorem okX12_window_185 {E : mE} {X : State → Heap → Prop} {l : Launch} (hX : mXok E X) (n : Nat) {r99 : mK} (h99 : Sd E X l yX12_window cX12_window 6 (some .int) 4 0 0 0 0 99 r99) {r152 : mK} (h152 : Sd E X l yX12_window cX12_window 6 (some .int) 4 0 0 0 0 152 r152) : Sd E X l yX12_window cX12_window 6 (some .int) 4 0 0 0 0 185 (kX12_window_185 n r99 r152) := s_iinc dX12_window_185 (by decide) (s_goto dX12_window_188 (by decide) h152)
def kX12_window_152 (n : Nat) (r99 : mK) (r152 : mK) : mK := i_ldI 4 (i_c0 (fun x => decide (x = 0)) (kX12_window_191 n r99) (i_ldA 0 (i_gA 12 50 (i_ldI 5 (i_al 0 (i_ldA 0 (i_gA 12 50 (i_ldI 3 (i_al 0 (i_cst (.int (1)) (i_bin (fun x y => x - y) (i_c2 (fun x y => decide (¬ x = y)) (kX12_window_185 n r99 r152) (i_ldA 0 (i_ldI 3 (i_ldI 5 (i_cV 12 2 (FX12_areBeside n) (i_c0 (fun x => decide (¬ x = 0)) (kX12_window_191 n r99) (kX12_window_185 n r99 r152))))))))))))))))))
set_option maxRecDepth 20000 in
theorem okX12_window_152 {E : mE} {X : State → Heap → Prop} {l : Launch} (hX : mXok E X) (n : Nat) {r99 : mK} (h99 : Sd E X l yX12_window cX12_window 6 (some .int) 4 0 0 0 0 99 r99) {r152 : mK} (h152 : Sd E X l yX12_window cX12_window 6 (some .int) 4 0 0 0 0 152 r152) : Sd E X l yX12_window cX12_window 6 (some .int) 4 0 0 0 0 152 (kX12_window_152 n r99 r152) := s_iload dX12_window_152 (s_ifeq dX12_window_154 (by decide) (okX12_window_191 hX n h99) (s_aload_n dX12_window_157 rfl (s_gA dX12_window_158 lFX12_106 (s_iload dX12_window_161 (s_iald dX12_window_163 (s_aload_n dX12_window_164 rfl (s_gA dX12_window_165 lFX12_106 (s_iload_n dX12_window_168 rfl (s_iald dX12_window_169 (s_iconst dX12_window_170 (by decide) (s_isub dX12_window_171 (s_icne dX12_window_172 (by decide) (okX12_window_185 hX n h99 h152) (s_aload_n dX12_window_175 rfl (s_iload_n dX12_window_176 rfl (s_iload dX12_window_177 (s_cV dX12_window_179 lMX12_460 bVX12_areBeside rfl (CtX12_areBeside hX n) (Nat.le_of_ble_eq_true rfl) (s_ifne dX12_window_182 (by decide) (okX12_window_191 hX n h99) (okX12_window_185 hX n h99 h152)) (Nat.le_of_ble_eq_true rfl) (Nat.le_of_ble_eq_true rfl)))))))))))))))))
def kX12_window_147 (n : Nat) (r99 : mK) : mK := i_stI 4 (i_cst (.int (0)) (i_stI 5 (mit (kX12_window_152 n r99) n)))
set_option maxRecDepth 20000 in
theorem okX12_window_147 {E : mE} {X : State → Heap → Prop} {l : Launch} (hX : mXok E X) (n : Nat) {r99 : mK} (h99 : Sd E X l yX12_window cX12_window 6 (some .int) 4 0 0 0 0 99 r99) : Sd E X l yX12_window cX12_window 6 (some .int) 4 0 0 0 0 147 (kX12_window_147 n r99) := s_istore dX12_window_147 (s_iconst dX12_window_149 (by decide) (s_istore dX12_window_150 (s_mit (fun _ hk => okX12_window_152 hX n h99 hk) n)))
def kX12_window_143 (n : Nat) (r99 : mK) : mK := (kX12_window_147 n r99)
set_option maxRecDepth 20000 in
theorem okX12_window_143 {E : mE} {X : State → Heap → Prop} {l : Launch} (hX : mXok E X) (n : Nat) {r99 : mK} (h99 : Sd E X l yX12_window cX12_window 6 (some .int) 4 0 0 0 0 99 r99) : Sd E X l yX12_window cX12_window 6 (some .int) 4 0 0 0 0 143 (kX12_window_143 n r99) := s_goto dX12_window_143 (by decide) (okX12_window_147 hX n h99)
def kX12_window_99 (n : Nat) (r99 : mK) : mK := i_ldI 4 (i_c0 (fun x => decide (x = 0)) (kX12_window_206 n) (i_ldA 0 (i_gI 12 48 (i_cst (.int (16)) (i_c2 (fun x y => decide (y ≤ x)) (kX12_window_206 n) (i_ldA 0 (i_gA 12 46 (i_ldA 0 (i_gI 12 48 (i_ldI 3 (i_as 0 (i_ldA 0 (i_dup (i_gI 12 48 (i_cst (.int (1)) (i_bin (fun x y => x + y) (i_pI 12 48 (i_ldA 0 (i_gA 12 50 (i_ldI 3 (i_al 0 (i_c0 (fun x => decide (x ≤ 0)) (i_cst (.int (0)) (kX12_window_147 n r99)) (i_cst (.int (1)) (kX12_window_143 n r99))))))))))))))))))))))))
set_option maxRecDepth 20000 in
theorem okX12_window_99 {E : mE} {X : State → Heap → Prop} {l : Launch} (hX : mXok E X) (n : Nat) {r99 : mK} (h99 : Sd E X l yX12_window cX12_window 6 (some .int) 4 0 0 0 0 99 r99) : Sd E X l yX12_window cX12_window 6 (some .int) 4 0 0 0 0 99 (kX12_window_99 n r99) := s_iload dX12_window_99 (s_ifeq dX12_window_101 (by decide) (okX12_window_206 hX n) (s_aload_n dX12_window_104 rfl (s_gI dX12_window_105 lFX12_366 (by decide) (s_bipush dX12_window_108 (by decide) (s_icge dX12_window_110 (by decide) (okX12_window_206 hX n) (s_aload_n dX12_window_113 rfl (s_gA dX12_window_114 lFX12_97 (s_aload_n dX12_window_117 rfl (s_gI dX12_window_118 lFX12_366 (by decide) (s_iload_n dX12_window_121 rfl (s_iast dX12_window_122 (s_aload_n dX12_window_123 rfl (s_dup dX12_window_124 (s_gI dX12_window_125 lFX12_366 (by decide) (s_iconst dX12_window_128 (by decide) (s_iadd dX12_window_129 (s_pI dX12_window_130 lFX12_366 (s_aload_n dX12_window_133 rfl (s_gA dX12_window_134 lFX12_106 (s_iload_n dX12_window_137 rfl (s_iald dX12_window_138 (s_ifle dX12_window_139 (by decide) (s_iconst dX12_window_146 (by decide) (okX12_window_147 hX n h99)) (s_iconst dX12_window_142 (by decide) (okX12_window_143 hX n h99))))))))))))))))))))))))
def kX12_window_25 (n : Nat) (r25 : mK) : mK := i_ldI 3 (i_ldA 0 (i_cV 12 0 (FX12_spots n) (i_c2 (fun x y => decide (y ≤ x)) (i_ldA 0 (i_cV 12 0 (FX12_layFar n) (i_ldA 0 (i_gA 12 50 (i_ldI 1 (i_al 0 (i_cst (.int (1000)) (i_c2 (fun x y => decide (¬ x = y)) (i_ldI 1 (i_stI 3 (i_cst (.int (1)) (i_stI 4 (mit (kX12_window_99 n ) n))))) (i_cst (.int (-1)) (i_rI)))))))))) (i_ldA 0 (i_gA 12 50 (i_ldI 3 (i_ldA 0 (i_ldI 3 (i_cV 12 1 (FX12_whoAt n) (i_c0 (fun x => decide (0 ≤ x)) (kX12_window_66 n r25) (i_ldA 0 (i_ldI 3 (i_ldA 0 (i_gA 12 39 (i_cst (.int (0)) (i_ldI 2 (i_bin (fun x y => x + y) (i_al 0 (i_cV 12 2 (FX12_areBeside n) (i_c0 (fun x => decide (x = 0)) (kX12_window_66 n r25) (i_cst (.int (0)) ((kX12_window_69 n r25)))))))))))))))))))))))
set_option maxRecDepth 20000 in
theorem okX12_window_25 {E : mE} {X : State → Heap → Prop} {l : Launch} (hX : mXok E X) (n : Nat) {r25 : mK} (h25 : Sd E X l yX12_window cX12_window 6 (some .int) 4 0 0 0 0 25 r25) : Sd E X l yX12_window cX12_window 6 (some .int) 4 0 0 0 0 25 (kX12_window_25 n r25) := s_iload_n dX12_window_25 rfl (s_aload_n dX12_window_26 rfl (s_cV dX12_window_27 lMX12_351 bVX12_spots rfl (CtX12_spots hX n) (Nat.le_of_ble_eq_true rfl) (s_icge dX12_window_30 (by decide) (s_aload_n dX12_window_76 rfl (s_cV dX12_window_77 lMX12_463 bVX12_layFar rfl (CtX12_layFar hX n) (Nat.le_of_ble_eq_true rfl) (s_aload_n dX12_window_80 rfl (s_gA dX12_window_81 lFX12_106 (s_iload_n dX12_window_84 rfl (s_iald dX12_window_85 (s_sipush dX12_window_86 (by decide) (s_icne dX12_window_89 (by decide) (s_iload_n dX12_window_94 rfl (s_istore_n dX12_window_95 rfl (s_iconst dX12_window_96 (by decide) (s_istore dX12_window_97 (s_mit (fun _ hk => okX12_window_99 hX n hk) n))))) (s_iconst dX12_window_92 (by decide) (s_rI dX12_window_93 (Nat.le_of_ble_eq_true rfl) (Nat.le_of_ble_eq_true rfl))))))))) (Nat.le_of_ble_eq_true rfl) (Nat.le_of_ble_eq_true rfl))) (s_aload_n dX12_window_33 rfl (s_gA dX12_window_34 lFX12_106 (s_iload_n dX12_window_37 rfl (s_aload_n dX12_window_38 rfl (s_iload_n dX12_window_39 rfl (s_cV dX12_window_40 lMX12_393 bVX12_whoAt rfl (CtX12_whoAt hX n) (Nat.le_of_ble_eq_true rfl) (s_ifge dX12_window_43 (by decide) (okX12_window_66 hX n h25) (s_aload_n dX12_window_46 rfl (s_iload_n dX12_window_47 rfl (s_aload_n dX12_window_48 rfl (s_gA dX12_window_49 lFX12_82 (s_iconst dX12_window_52 (by decide) (s_iload_n dX12_window_53 rfl (s_iadd dX12_window_54 (s_iald dX12_window_55 (s_cV dX12_window_56 lMX12_460 bVX12_areBeside rfl (CtX12_areBeside hX n) (Nat.le_of_ble_eq_true rfl) (s_ifeq dX12_window_59 (by decide) (okX12_window_66 hX n h25) (s_iconst dX12_window_62 (by decide) (s_goto dX12_window_63 (by decide) (okX12_window_69 hX n h25)))) (Nat.le_of_ble_eq_true rfl) (Nat.le_of_ble_eq_true rfl))))))))))) (Nat.le_of_ble_eq_true rfl) (Nat.le_of_ble_eq_true rfl)))))))) (Nat.le_of_ble_eq_true rfl) (Nat.le_of_ble_eq_true rfl)))
def kX12_window_0 (n : Nat) : mK := i_ldA 0 (i_cst (.int (0)) (i_pI 12 48 (i_ldA 0 (i_ldI 1 (i_cV 12 1 (FX12_isSpot n) (i_c0 (fun x => decide (x = 0)) (kX12_window_21 n) (i_ldA 0 (i_ldI 2 (i_cV 12 1 (FX12_isHere n) (i_c0 (fun x => decide (¬ x = 0)) (i_cst (.int (0)) (i_stI 3 (mit (kX12_window_25 n ) n))) (kX12_window_21 n)))))))))))
set_option maxRecDepth 20000 in
theorem okX12_window_0 {E : mE} {X : State → Heap → Prop} {l : Launch} (hX : mXok E X) (n : Nat) : Sd E X l yX12_window cX12_window 6 (some .int) 4 0 0 0 0 0 (kX12_window_0 n) := s_aload_n dX12_window_0 rfl (s_iconst dX12_window_1 (by decide) (s_pI dX12_window_2 lFX12_366 (s_aload_n dX12_window_5 rfl (s_iload_n dX12_window_6 rfl (s_cV dX12_window_7 lMX12_390 bVX12_isSpot rfl (CtX12_isSpot hX n) (Nat.le_of_ble_eq_true rfl) (s_ifeq dX12_window_10 (by decide) (okX12_window_21 hX n) (s_aload_n dX12_window_13 rfl (s_iload_n dX12_window_14 rfl (s_cV dX12_window_15 lMX12_396 bVX12_isHere rfl (CtX12_isHere hX n) (Nat.le_of_ble_eq_true rfl) (s_ifne dX12_window_18 (by decide) (s_iconst dX12_window_23 (by decide) (s_istore_n dX12_window_24 rfl (s_mit (fun _ hk => okX12_window_25 hX n hk) n))) (okX12_window_21 hX n)) (Nat.le_of_ble_eq_true rfl) (Nat.le_of_ble_eq_true rfl))))) (Nat.le_of_ble_eq_true rfl) (Nat.le_of_ble_eq_true rfl))))))
def FX12_window (n : Nat) : List Value → mM → Option mR := mfn 6 (kX12_window_0 n)
theorem CtX12_window {E : mE} {X : State → Heap → Prop} {l : Launch} (hX : mXok E X) (n : Nat) : Ct E X l yX12_window cX12_window 6 (some .int) 4 0 0 (FX12_window n) := Ct_of (by decide) hX (okX12_window_0 hX n)
theorem dX12_worthOf_0 : decode cX12_worthOf 0 = .ok (.aload_n 0, 1) := by decide +kernel
theorem dX12_worthOf_1 : decode cX12_worthOf 1 = .ok (.getfield 42, 3) := by decide +kernel
theorem dX12_worthOf_4 : decode cX12_worthOf 4 = .ok (.aload_n 0, 1) := by decide +kernel
theorem dX12_worthOf_5 : decode cX12_worthOf 5 = .ok (.getfield 255, 3) := by decide +kernel
theorem dX12_worthOf_8 : decode cX12_worthOf 8 = .ok (.iaload, 1) := by decide +kernel
theorem dX12_worthOf_9 : decode cX12_worthOf 9 = .ok (.iconst 1, 1) := by decide +kernel
theorem dX12_worthOf_10 : decode cX12_worthOf 10 = .ok (.invokestatic 261, 3) := by decide +kernel
theorem dX12_worthOf_13 : decode cX12_worthOf 13 = .ok (.ifCond .eq 12, 3) := by decide +kernel
theorem dX12_worthOf_16 : decode cX12_worthOf 16 = .ok (.aload_n 0, 1) := by decide +kernel
theorem dX12_worthOf_17 : decode cX12_worthOf 17 = .ok (.iconst 1, 1) := by decide +kernel
theorem dX12_worthOf_18 : decode cX12_worthOf 18 = .ok (.iload_n 1, 1) := by decide +kernel
theorem dX12_worthOf_19 : decode cX12_worthOf 19 = .ok (.invokevirtual 375, 3) := by decide +kernel
theorem dX12_worthOf_22 : decode cX12_worthOf 22 = .ok (.goto 30, 3) := by decide +kernel
theorem dX12_worthOf_25 : decode cX12_worthOf 25 = .ok (.aload_n 0, 1) := by decide +kernel
theorem dX12_worthOf_26 : decode cX12_worthOf 26 = .ok (.getfield 82, 3) := by decide +kernel
theorem dX12_worthOf_29 : decode cX12_worthOf 29 = .ok (.bipush 24, 2) := by decide +kernel
theorem dX12_worthOf_31 : decode cX12_worthOf 31 = .ok (.iload_n 1, 1) := by decide +kernel
theorem dX12_worthOf_32 : decode cX12_worthOf 32 = .ok (.iadd, 1) := by decide +kernel
theorem dX12_worthOf_33 : decode cX12_worthOf 33 = .ok (.iaload, 1) := by decide +kernel
theorem dX12_worthOf_34 : decode cX12_worthOf 34 = .ok (.aload_n 0, 1) := by decide +kernel
theorem dX12_worthOf_35 : decode cX12_worthOf 35 = .ok (.getfield 82, 3) := by decide +kernel
theorem dX12_worthOf_38 : decode cX12_worthOf 38 = .ok (.bipush 32, 2) := by decide +kernel
theorem dX12_worthOf_40 : decode cX12_worthOf 40 = .ok (.iaload, 1) := by decide +kernel
theorem dX12_worthOf_41 : decode cX12_worthOf 41 = .ok (.imul, 1) := by decide +kernel
theorem dX12_worthOf_42 : decode cX12_worthOf 42 = .ok (.aload_n 0, 1) := by decide +kernel
theorem dX12_worthOf_43 : decode cX12_worthOf 43 = .ok (.getfield 82, 3) := by decide +kernel
theorem dX12_worthOf_46 : decode cX12_worthOf 46 = .ok (.bipush 16, 2) := by decide +kernel
theorem dX12_worthOf_48 : decode cX12_worthOf 48 = .ok (.iload_n 1, 1) := by decide +kernel
theorem dX12_worthOf_49 : decode cX12_worthOf 49 = .ok (.iadd, 1) := by decide +kernel
theorem dX12_worthOf_50 : decode cX12_worthOf 50 = .ok (.iaload, 1) := by decide +kernel
theorem dX12_worthOf_51 : decode cX12_worthOf 51 = .ok (.isub, 1) := by decide +kernel
theorem dX12_worthOf_52 : decode cX12_worthOf 52 = .ok (.sipush (-9999), 3) := by decide +kernel
theorem dX12_worthOf_55 : decode cX12_worthOf 55 = .ok (.sipush 9999, 3) := by decide +kernel
theorem dX12_worthOf_58 : decode cX12_worthOf 58 = .ok (.invokestatic 378, 3) := by decide +kernel
theorem dX12_worthOf_61 : decode cX12_worthOf 61 = .ok (.ireturn, 1) := by decide +kernel
def kX12_worthOf_52 (n : Nat) : mK := i_cst (.int (-9999)) (i_cst (.int (9999)) (i_cS 3 (FX12_held n) (i_rI)))
set_option maxRecDepth 20000 in
theorem okX12_worthOf_52 {E : mE} {X : State → Heap → Prop} {l : Launch} (hX : mXok E X) (n : Nat) : Sd E X l yX12_worthOf cX12_worthOf 2 (some .int) 4 0 0 0 0 52 (kX12_worthOf_52 n) := s_sipush dX12_worthOf_52 (by decide) (s_sipush dX12_worthOf_55 (by decide) (s_cS dX12_worthOf_58 lMX12_378 bSX12_held (CtX12_held hX n) (Nat.le_of_ble_eq_true rfl) (s_rI dX12_worthOf_61 (Nat.le_of_ble_eq_true rfl) (Nat.le_of_ble_eq_true rfl)) (Nat.le_of_ble_eq_true rfl) (Nat.le_of_ble_eq_true rfl)))
def kX12_worthOf_50 (n : Nat) : mK := i_al 0 (i_bin (fun x y => x - y) (kX12_worthOf_52 n))
set_option maxRecDepth 20000 in
theorem okX12_worthOf_50 {E : mE} {X : State → Heap → Prop} {l : Launch} (hX : mXok E X) (n : Nat) : Sd E X l yX12_worthOf cX12_worthOf 2 (some .int) 4 0 0 0 0 50 (kX12_worthOf_50 n) := s_iald dX12_worthOf_50 (s_isub dX12_worthOf_51 (okX12_worthOf_52 hX n))
def kX12_worthOf_0 (n : Nat) : mK := i_ldA 0 (i_gA 12 18 (i_ldA 0 (i_gI 12 31 (i_al 0 (i_cst (.int (1)) (i_cS 2 (FX12_bit n) (i_c0 (fun x => decide (x = 0)) (i_ldA 0 (i_gA 12 39 (i_cst (.int (24)) (i_ldI 1 (i_bin (fun x y => x + y) (i_al 0 (i_ldA 0 (i_gA 12 39 (i_cst (.int (32)) (i_al 0 (i_bin (fun x y => x * y) (i_ldA 0 (i_gA 12 39 (i_cst (.int (16)) (i_ldI 1 (i_bin (fun x y => x + y) (kX12_worthOf_50 n))))))))))))))))) (i_ldA 0 (i_cst (.int (1)) (i_ldI 1 (i_cV 12 2 (FX12_comes n) ((kX12_worthOf_52 n)))))))))))))
set_option maxRecDepth 20000 in
theorem okX12_worthOf_0 {E : mE} {X : State → Heap → Prop} {l : Launch} (hX : mXok E X) (n : Nat) : Sd E X l yX12_worthOf cX12_worthOf 2 (some .int) 4 0 0 0 0 0 (kX12_worthOf_0 n) := s_aload_n dX12_worthOf_0 rfl (s_gA dX12_worthOf_1 lFX12_42 (s_aload_n dX12_worthOf_4 rfl (s_gI dX12_worthOf_5 lFX12_255 (by decide) (s_iald dX12_worthOf_8 (s_iconst dX12_worthOf_9 (by decide) (s_cS dX12_worthOf_10 lMX12_261 bSX12_bit (CtX12_bit hX n) (Nat.le_of_ble_eq_true rfl) (s_ifeq dX12_worthOf_13 (by decide) (s_aload_n dX12_worthOf_25 rfl (s_gA dX12_worthOf_26 lFX12_82 (s_bipush dX12_worthOf_29 (by decide) (s_iload_n dX12_worthOf_31 rfl (s_iadd dX12_worthOf_32 (s_iald dX12_worthOf_33 (s_aload_n dX12_worthOf_34 rfl (s_gA dX12_worthOf_35 lFX12_82 (s_bipush dX12_worthOf_38 (by decide) (s_iald dX12_worthOf_40 (s_imul dX12_worthOf_41 (s_aload_n dX12_worthOf_42 rfl (s_gA dX12_worthOf_43 lFX12_82 (s_bipush dX12_worthOf_46 (by decide) (s_iload_n dX12_worthOf_48 rfl (s_iadd dX12_worthOf_49 (okX12_worthOf_50 hX n))))))))))))))))) (s_aload_n dX12_worthOf_16 rfl (s_iconst dX12_worthOf_17 (by decide) (s_iload_n dX12_worthOf_18 rfl (s_cV dX12_worthOf_19 lMX12_375 bVX12_comes rfl (CtX12_comes hX n) (Nat.le_of_ble_eq_true rfl) (s_goto dX12_worthOf_22 (by decide) (okX12_worthOf_52 hX n)) (Nat.le_of_ble_eq_true rfl) (Nat.le_of_ble_eq_true rfl)))))) (Nat.le_of_ble_eq_true rfl) (Nat.le_of_ble_eq_true rfl)))))))
def FX12_worthOf (n : Nat) : List Value → mM → Option mR := mfn 2 (kX12_worthOf_0 n)
theorem CtX12_worthOf {E : mE} {X : State → Heap → Prop} {l : Launch} (hX : mXok E X) (n : Nat) : Ct E X l yX12_worthOf cX12_worthOf 2 (some .int) 4 0 0 (FX12_worthOf n) := Ct_of (by decide) hX (okX12_worthOf_0 hX n)
theorem dX2_findAsk_0 : decode cX2_findAsk 0 = .ok (.aload_n 0, 1) := by decide +kernel
theorem dX2_findAsk_1 : decode cX2_findAsk 1 = .ok (.iconst 0, 1) := by decide +kernel
theorem dX2_findAsk_2 : decode cX2_findAsk 2 = .ok (.putfield 99, 3) := by decide +kernel
theorem dX2_findAsk_5 : decode cX2_findAsk 5 = .ok (.aload_n 0, 1) := by decide +kernel
theorem dX2_findAsk_6 : decode cX2_findAsk 6 = .ok (.bipush 101, 2) := by decide +kernel
theorem dX2_findAsk_8 : decode cX2_findAsk 8 = .ok (.putfield 102, 3) := by decide +kernel
theorem dX2_findAsk_11 : decode cX2_findAsk 11 = .ok (.iconst 0, 1) := by decide +kernel
theorem dX2_findAsk_12 : decode cX2_findAsk 12 = .ok (.istore_n 1, 1) := by decide +kernel
theorem dX2_findAsk_13 : decode cX2_findAsk 13 = .ok (.iload_n 1, 1) := by decide +kernel
theorem dX2_findAsk_14 : decode cX2_findAsk 14 = .ok (.bipush 21, 2) := by decide +kernel
theorem dX2_findAsk_16 : decode cX2_findAsk 16 = .ok (.if_icmp .ge 33, 3) := by decide +kernel
theorem dX2_findAsk_19 : decode cX2_findAsk 19 = .ok (.aload_n 0, 1) := by decide +kernel
theorem dX2_findAsk_20 : decode cX2_findAsk 20 = .ok (.iload_n 1, 1) := by decide +kernel
theorem dX2_findAsk_21 : decode cX2_findAsk 21 = .ok (.invokevirtual 105, 3) := by decide +kernel
theorem dX2_findAsk_24 : decode cX2_findAsk 24 = .ok (.istore_n 2, 1) := by decide +kernel
theorem dX2_findAsk_25 : decode cX2_findAsk 25 = .ok (.iload_n 2, 1) := by decide +kernel
theorem dX2_findAsk_26 : decode cX2_findAsk 26 = .ok (.aload_n 0, 1) := by decide +kernel
theorem dX2_findAsk_27 : decode cX2_findAsk 27 = .ok (.getfield 102, 3) := by decide +kernel
theorem dX2_findAsk_30 : decode cX2_findAsk 30 = .ok (.if_icmp .ge 13, 3) := by decide +kernel
theorem dX2_findAsk_33 : decode cX2_findAsk 33 = .ok (.aload_n 0, 1) := by decide +kernel
theorem dX2_findAsk_34 : decode cX2_findAsk 34 = .ok (.iload_n 1, 1) := by decide +kernel
theorem dX2_findAsk_35 : decode cX2_findAsk 35 = .ok (.putfield 99, 3) := by decide +kernel
theorem dX2_findAsk_38 : decode cX2_findAsk 38 = .ok (.aload_n 0, 1) := by decide +kernel
theorem dX2_findAsk_39 : decode cX2_findAsk 39 = .ok (.iload_n 2, 1) := by decide +kernel
theorem dX2_findAsk_40 : decode cX2_findAsk 40 = .ok (.putfield 102, 3) := by decide +kernel
theorem dX2_findAsk_43 : decode cX2_findAsk 43 = .ok (.iinc 1 1, 3) := by decide +kernel
theorem dX2_findAsk_46 : decode cX2_findAsk 46 = .ok (.goto (-33), 3) := by decide +kernel
theorem dX2_findAsk_49 : decode cX2_findAsk 49 = .ok (.return_, 1) := by decide +kernel
def kX2_findAsk_43 (n : Nat) (r13 : mK) : mK := i_inc 1 (1) (r13)
set_option maxRecDepth 20000 in
theorem okX2_findAsk_43 {E : mE} {X : State → Heap → Prop} {l : Launch} (hX : mXok E X) (n : Nat) {r13 : mK} (h13 : Sd E X l yX2_findAsk cX2_findAsk 3 none 4 0 0 0 0 13 r13) : Sd E X l yX2_findAsk cX2_findAsk 3 none 4 0 0 0 0 43 (kX2_findAsk_43 n r13) := s_iinc dX2_findAsk_43 (by decide) (s_goto dX2_findAsk_46 (by decide) h13)
def kX2_findAsk_13 (n : Nat) (r13 : mK) : mK := i_ldI 1 (i_cst (.int (21)) (i_c2 (fun x y => decide (y ≤ x)) (i_rV) (i_ldA 0 (i_ldI 1 (i_cV 2 1 (FX2_mostAlike n) (i_stI 2 (i_ldI 2 (i_ldA 0 (i_gI 2 13 (i_c2 (fun x y => decide (y ≤ x)) (kX2_findAsk_43 n r13) (i_ldA 0 (i_ldI 1 (i_pI 2 12 (i_ldA 0 (i_ldI 2 (i_pI 2 13 (kX2_findAsk_43 n r13)))))))))))))))))
set_option maxRecDepth 20000 in
theorem okX2_findAsk_13 {E : mE} {X : State → Heap → Prop} {l : Launch} (hX : mXok E X) (n : Nat) {r13 : mK} (h13 : Sd E X l yX2_findAsk cX2_findAsk 3 none 4 0 0 0 0 13 r13) : Sd E X l yX2_findAsk cX2_findAsk 3 none 4 0 0 0 0 13 (kX2_findAsk_13 n r13) := s_iload_n dX2_findAsk_13 rfl (s_bipush dX2_findAsk_14 (by decide) (s_icge dX2_findAsk_16 (by decide) (s_rV dX2_findAsk_49 (Nat.le_of_ble_eq_true rfl) (Nat.le_of_ble_eq_true rfl)) (s_aload_n dX2_findAsk_19 rfl (s_iload_n dX2_findAsk_20 rfl (s_cV dX2_findAsk_21 lMX2_105 bVX2_mostAlike rfl (CtX2_mostAlike hX n) (Nat.le_of_ble_eq_true rfl) (s_istore_n dX2_findAsk_24 rfl (s_iload_n dX2_findAsk_25 rfl (s_aload_n dX2_findAsk_26 rfl (s_gI dX2_findAsk_27 lFX2_102 (by decide) (s_icge dX2_findAsk_30 (by decide) (okX2_findAsk_43 hX n h13) (s_aload_n dX2_findAsk_33 rfl (s_iload_n dX2_findAsk_34 rfl (s_pI dX2_findAsk_35 lFX2_99 (s_aload_n dX2_findAsk_38 rfl (s_iload_n dX2_findAsk_39 rfl (s_pI dX2_findAsk_40 lFX2_102 (okX2_findAsk_43 hX n h13)))))))))))) (Nat.le_of_ble_eq_true rfl) (Nat.le_of_ble_eq_true rfl))))))
def kX2_findAsk_0 (n : Nat) : mK := i_ldA 0 (i_cst (.int (0)) (i_pI 2 12 (i_ldA 0 (i_cst (.int (101)) (i_pI 2 13 (i_cst (.int (0)) (i_stI 1 (mit (kX2_findAsk_13 n ) n))))))))
set_option maxRecDepth 20000 in
theorem okX2_findAsk_0 {E : mE} {X : State → Heap → Prop} {l : Launch} (hX : mXok E X) (n : Nat) : Sd E X l yX2_findAsk cX2_findAsk 3 none 4 0 0 0 0 0 (kX2_findAsk_0 n) := s_aload_n dX2_findAsk_0 rfl (s_iconst dX2_findAsk_1 (by decide) (s_pI dX2_findAsk_2 lFX2_99 (s_aload_n dX2_findAsk_5 rfl (s_bipush dX2_findAsk_6 (by decide) (s_pI dX2_findAsk_8 lFX2_102 (s_iconst dX2_findAsk_11 (by decide) (s_istore_n dX2_findAsk_12 rfl (s_mit (fun _ hk => okX2_findAsk_13 hX n hk) n))))))))
def FX2_findAsk (n : Nat) : List Value → mM → Option mR := mfn 3 (kX2_findAsk_0 n)
theorem CtX2_findAsk {E : mE} {X : State → Heap → Prop} {l : Launch} (hX : mXok E X) (n : Nat) : Ct E X l yX2_findAsk cX2_findAsk 3 none 4 0 0 (FX2_findAsk n) := Ct_of (by decide) hX (okX2_findAsk_0 hX n)
theorem dX2_tabulate_0 : decode cX2_tabulate 0 = .ok (.aload_n 0, 1) := by decide +kernel
theorem dX2_tabulate_1 : decode cX2_tabulate 1 = .ok (.getfield 34, 3) := by decide +kernel
theorem dX2_tabulate_4 : decode cX2_tabulate 4 = .ok (.getfield 48, 3) := by decide +kernel
theorem dX2_tabulate_7 : decode cX2_tabulate 7 = .ok (.iconst 1, 1) := by decide +kernel
theorem dX2_tabulate_8 : decode cX2_tabulate 8 = .ok (.isub, 1) := by decide +kernel
theorem dX2_tabulate_9 : decode cX2_tabulate 9 = .ok (.istore_n 2, 1) := by decide +kernel
theorem dX2_tabulate_10 : decode cX2_tabulate 10 = .ok (.aload_n 0, 1) := by decide +kernel
theorem dX2_tabulate_11 : decode cX2_tabulate 11 = .ok (.getfield 34, 3) := by decide +kernel
theorem dX2_tabulate_14 : decode cX2_tabulate 14 = .ok (.getfield 82, 3) := by decide +kernel
theorem dX2_tabulate_17 : decode cX2_tabulate 17 = .ok (.iload_n 2, 1) := by decide +kernel
theorem dX2_tabulate_18 : decode cX2_tabulate 18 = .ok (.invokestatic 56, 3) := by decide +kernel
theorem dX2_tabulate_21 : decode cX2_tabulate 21 = .ok (.istore_n 3, 1) := by decide +kernel
theorem dX2_tabulate_22 : decode cX2_tabulate 22 = .ok (.aload_n 0, 1) := by decide +kernel
theorem dX2_tabulate_23 : decode cX2_tabulate 23 = .ok (.getfield 34, 3) := by decide +kernel
theorem dX2_tabulate_26 : decode cX2_tabulate 26 = .ok (.aload_n 0, 1) := by decide +kernel
theorem dX2_tabulate_27 : decode cX2_tabulate 27 = .ok (.getfield 34, 3) := by decide +kernel
theorem dX2_tabulate_30 : decode cX2_tabulate 30 = .ok (.getfield 85, 3) := by decide +kernel
theorem dX2_tabulate_33 : decode cX2_tabulate 33 = .ok (.iload_n 2, 1) := by decide +kernel
theorem dX2_tabulate_34 : decode cX2_tabulate 34 = .ok (.invokestatic 56, 3) := by decide +kernel
theorem dX2_tabulate_37 : decode cX2_tabulate 37 = .ok (.invokevirtual 88, 3) := by decide +kernel
theorem dX2_tabulate_40 : decode cX2_tabulate 40 = .ok (.istore 4, 2) := by decide +kernel
theorem dX2_tabulate_42 : decode cX2_tabulate 42 = .ok (.iload_n 1, 1) := by decide +kernel
theorem dX2_tabulate_43 : decode cX2_tabulate 43 = .ok (.istore 5, 2) := by decide +kernel
theorem dX2_tabulate_45 : decode cX2_tabulate 45 = .ok (.iconst 0, 1) := by decide +kernel
theorem dX2_tabulate_46 : decode cX2_tabulate 46 = .ok (.istore 6, 2) := by decide +kernel
theorem dX2_tabulate_48 : decode cX2_tabulate 48 = .ok (.iload 6, 2) := by decide +kernel
theorem dX2_tabulate_50 : decode cX2_tabulate 50 = .ok (.bipush 21, 2) := by decide +kernel
theorem dX2_tabulate_52 : decode cX2_tabulate 52 = .ok (.if_icmp .ge 70, 3) := by decide +kernel
theorem dX2_tabulate_55 : decode cX2_tabulate 55 = .ok (.aload_n 0, 1) := by decide +kernel
theorem dX2_tabulate_56 : decode cX2_tabulate 56 = .ok (.getfield 28, 3) := by decide +kernel
theorem dX2_tabulate_59 : decode cX2_tabulate 59 = .ok (.iload 6, 2) := by decide +kernel
theorem dX2_tabulate_61 : decode cX2_tabulate 61 = .ok (.bipush 100, 2) := by decide +kernel
theorem dX2_tabulate_63 : decode cX2_tabulate 63 = .ok (.imul, 1) := by decide +kernel
theorem dX2_tabulate_64 : decode cX2_tabulate 64 = .ok (.iload_n 1, 1) := by decide +kernel
theorem dX2_tabulate_65 : decode cX2_tabulate 65 = .ok (.iadd, 1) := by decide +kernel
theorem dX2_tabulate_66 : decode cX2_tabulate 66 = .ok (.aload_n 0, 1) := by decide +kernel
theorem dX2_tabulate_67 : decode cX2_tabulate 67 = .ok (.getfield 34, 3) := by decide +kernel
theorem dX2_tabulate_70 : decode cX2_tabulate 70 = .ok (.iload 5, 2) := by decide +kernel
theorem dX2_tabulate_72 : decode cX2_tabulate 72 = .ok (.iload_n 3, 1) := by decide +kernel
theorem dX2_tabulate_73 : decode cX2_tabulate 73 = .ok (.aload_n 0, 1) := by decide +kernel
theorem dX2_tabulate_74 : decode cX2_tabulate 74 = .ok (.getfield 34, 3) := by decide +kernel
theorem dX2_tabulate_77 : decode cX2_tabulate 77 = .ok (.getfield 48, 3) := by decide +kernel
theorem dX2_tabulate_80 : decode cX2_tabulate 80 = .ok (.iload 4, 2) := by decide +kernel
theorem dX2_tabulate_82 : decode cX2_tabulate 82 = .ok (.iload 6, 2) := by decide +kernel
theorem dX2_tabulate_84 : decode cX2_tabulate 84 = .ok (.invokevirtual 92, 3) := by decide +kernel
theorem dX2_tabulate_87 : decode cX2_tabulate 87 = .ok (.invokestatic 49, 3) := by decide +kernel
theorem dX2_tabulate_90 : decode cX2_tabulate 90 = .ok (.iload 5, 2) := by decide +kernel
theorem dX2_tabulate_92 : decode cX2_tabulate 92 = .ok (.aload_n 0, 1) := by decide +kernel
theorem dX2_tabulate_93 : decode cX2_tabulate 93 = .ok (.getfield 34, 3) := by decide +kernel
theorem dX2_tabulate_96 : decode cX2_tabulate 96 = .ok (.iload 5, 2) := by decide +kernel
theorem dX2_tabulate_98 : decode cX2_tabulate 98 = .ok (.iload_n 3, 1) := by decide +kernel
theorem dX2_tabulate_99 : decode cX2_tabulate 99 = .ok (.aload_n 0, 1) := by decide +kernel
theorem dX2_tabulate_100 : decode cX2_tabulate 100 = .ok (.getfield 34, 3) := by decide +kernel
theorem dX2_tabulate_103 : decode cX2_tabulate 103 = .ok (.getfield 48, 3) := by decide +kernel
theorem dX2_tabulate_106 : decode cX2_tabulate 106 = .ok (.iload 4, 2) := by decide +kernel
theorem dX2_tabulate_108 : decode cX2_tabulate 108 = .ok (.iload 6, 2) := by decide +kernel
theorem dX2_tabulate_110 : decode cX2_tabulate 110 = .ok (.invokevirtual 96, 3) := by decide +kernel
theorem dX2_tabulate_113 : decode cX2_tabulate 113 = .ok (.isub, 1) := by decide +kernel
theorem dX2_tabulate_114 : decode cX2_tabulate 114 = .ok (.istore 5, 2) := by decide +kernel
theorem dX2_tabulate_116 : decode cX2_tabulate 116 = .ok (.iinc 6 1, 3) := by decide +kernel
theorem dX2_tabulate_119 : decode cX2_tabulate 119 = .ok (.goto (-71), 3) := by decide +kernel
theorem dX2_tabulate_122 : decode cX2_tabulate 122 = .ok (.return_, 1) := by decide +kernel
def kX2_tabulate_96 (n : Nat) (r48 : mK) : mK := i_ldI 5 (i_ldI 3 (i_ldA 0 (i_gA 2 0 (i_gI 4 2 (i_ldI 4 (i_ldI 6 (i_cV 4 5 (FX4_softeningBy n) (i_bin (fun x y => x - y) (i_stI 5 (i_inc 6 (1) (r48)))))))))))
set_option maxRecDepth 20000 in
theorem okX2_tabulate_96 {E : mE} {X : State → Heap → Prop} {l : Launch} (hX : mXok E X) (n : Nat) {r48 : mK} (h48 : Sd E X l yX2_tabulate cX2_tabulate 7 none 4 0 0 0 0 48 r48) : Sd E X l yX2_tabulate cX2_tabulate 7 none 4 0 0 0 0 96 (kX2_tabulate_96 n r48) := s_iload dX2_tabulate_96 (s_iload_n dX2_tabulate_98 rfl (s_aload_n dX2_tabulate_99 rfl (s_gA dX2_tabulate_100 lFX2_34 (s_gI dX2_tabulate_103 lFX2_48 (by decide) (s_iload dX2_tabulate_106 (s_iload dX2_tabulate_108 (s_cV dX2_tabulate_110 lMX2_96 bVX4_softeningBy rfl (CtX4_softeningBy hX n) (Nat.le_of_ble_eq_true rfl) (s_isub dX2_tabulate_113 (s_istore dX2_tabulate_114 (s_iinc dX2_tabulate_116 (by decide) (s_goto dX2_tabulate_119 (by decide) h48)))) (Nat.le_of_ble_eq_true rfl) (Nat.le_of_ble_eq_true rfl))))))))
def kX2_tabulate_48 (n : Nat) (r48 : mK) : mK := i_ldI 6 (i_cst (.int (21)) (i_c2 (fun x y => decide (y ≤ x)) (i_rV) (i_ldA 0 (i_gA 2 8 (i_ldI 6 (i_cst (.int (100)) (i_bin (fun x y => x * y) (i_ldI 1 (i_bin (fun x y => x + y) (i_ldA 0 (i_gA 2 0 (i_ldI 5 (i_ldI 3 (i_ldA 0 (i_gA 2 0 (i_gI 4 2 (i_ldI 4 (i_ldI 6 (i_cV 4 5 (FX4_worthBy n) (i_cS 3 (FX11_set n) (i_ldI 5 (i_ldA 0 (i_gA 2 0 (kX2_tabulate_96 n r48))))))))))))))))))))))))
set_option maxRecDepth 20000 in
theorem okX2_tabulate_48 {E : mE} {X : State → Heap → Prop} {l : Launch} (hX : mXok E X) (n : Nat) {r48 : mK} (h48 : Sd E X l yX2_tabulate cX2_tabulate 7 none 4 0 0 0 0 48 r48) : Sd E X l yX2_tabulate cX2_tabulate 7 none 4 0 0 0 0 48 (kX2_tabulate_48 n r48) := s_iload dX2_tabulate_48 (s_bipush dX2_tabulate_50 (by decide) (s_icge dX2_tabulate_52 (by decide) (s_rV dX2_tabulate_122 (Nat.le_of_ble_eq_true rfl) (Nat.le_of_ble_eq_true rfl)) (s_aload_n dX2_tabulate_55 rfl (s_gA dX2_tabulate_56 lFX2_28 (s_iload dX2_tabulate_59 (s_bipush dX2_tabulate_61 (by decide) (s_imul dX2_tabulate_63 (s_iload_n dX2_tabulate_64 rfl (s_iadd dX2_tabulate_65 (s_aload_n dX2_tabulate_66 rfl (s_gA dX2_tabulate_67 lFX2_34 (s_iload dX2_tabulate_70 (s_iload_n dX2_tabulate_72 rfl (s_aload_n dX2_tabulate_73 rfl (s_gA dX2_tabulate_74 lFX2_34 (s_gI dX2_tabulate_77 lFX2_48 (by decide) (s_iload dX2_tabulate_80 (s_iload dX2_tabulate_82 (s_cV dX2_tabulate_84 lMX2_92 bVX4_worthBy rfl (CtX4_worthBy hX n) (Nat.le_of_ble_eq_true rfl) (s_cN dX2_tabulate_87 lNX2_49 bSX11_set (CtX11_set hX n) (Nat.le_of_ble_eq_true rfl) (s_iload dX2_tabulate_90 (s_aload_n dX2_tabulate_92 rfl (s_gA dX2_tabulate_93 lFX2_34 (okX2_tabulate_96 hX n h48)))) (Nat.le_of_ble_eq_true rfl) (Nat.le_of_ble_eq_true rfl)) (Nat.le_of_ble_eq_true rfl) (Nat.le_of_ble_eq_true rfl))))))))))))))))))))
def kX2_tabulate_46 (n : Nat) : mK := i_stI 6 (mit (kX2_tabulate_48 n ) n)
set_option maxRecDepth 20000 in
theorem okX2_tabulate_46 {E : mE} {X : State → Heap → Prop} {l : Launch} (hX : mXok E X) (n : Nat) : Sd E X l yX2_tabulate cX2_tabulate 7 none 4 0 0 0 0 46 (kX2_tabulate_46 n) := s_istore dX2_tabulate_46 (s_mit (fun _ hk => okX2_tabulate_48 hX n hk) n)
def kX2_tabulate_0 (n : Nat) : mK := i_ldA 0 (i_gA 2 0 (i_gI 4 2 (i_cst (.int (1)) (i_bin (fun x y => x - y) (i_stI 2 (i_ldA 0 (i_gA 2 0 (i_gA 4 9 (i_ldI 2 (i_cS 2 (FX11_at n) (i_stI 3 (i_ldA 0 (i_gA 2 0 (i_ldA 0 (i_gA 2 0 (i_gA 4 6 (i_ldI 2 (i_cS 2 (FX11_at n) (i_cV 4 1 (FX4_rowOf n) (i_stI 4 (i_ldI 1 (i_stI 5 (i_cst (.int (0)) (kX2_tabulate_46 n))))))))))))))))))))))))
set_option maxRecDepth 20000 in
theorem okX2_tabulate_0 {E : mE} {X : State → Heap → Prop} {l : Launch} (hX : mXok E X) (n : Nat) : Sd E X l yX2_tabulate cX2_tabulate 7 none 4 0 0 0 0 0 (kX2_tabulate_0 n) := s_aload_n dX2_tabulate_0 rfl (s_gA dX2_tabulate_1 lFX2_34 (s_gI dX2_tabulate_4 lFX2_48 (by decide) (s_iconst dX2_tabulate_7 (by decide) (s_isub dX2_tabulate_8 (s_istore_n dX2_tabulate_9 rfl (s_aload_n dX2_tabulate_10 rfl (s_gA dX2_tabulate_11 lFX2_34 (s_gA dX2_tabulate_14 lFX2_82 (s_iload_n dX2_tabulate_17 rfl (s_cN dX2_tabulate_18 lNX2_56 bSX11_at (CtX11_at hX n) (Nat.le_of_ble_eq_true rfl) (s_istore_n dX2_tabulate_21 rfl (s_aload_n dX2_tabulate_22 rfl (s_gA dX2_tabulate_23 lFX2_34 (s_aload_n dX2_tabulate_26 rfl (s_gA dX2_tabulate_27 lFX2_34 (s_gA dX2_tabulate_30 lFX2_85 (s_iload_n dX2_tabulate_33 rfl (s_cN dX2_tabulate_34 lNX2_56 bSX11_at (CtX11_at hX n) (Nat.le_of_ble_eq_true rfl) (s_cV dX2_tabulate_37 lMX2_88 bVX4_rowOf rfl (CtX4_rowOf hX n) (Nat.le_of_ble_eq_true rfl) (s_istore dX2_tabulate_40 (s_iload_n dX2_tabulate_42 rfl (s_istore dX2_tabulate_43 (s_iconst dX2_tabulate_45 (by decide) (okX2_tabulate_46 hX n))))) (Nat.le_of_ble_eq_true rfl) (Nat.le_of_ble_eq_true rfl)) (Nat.le_of_ble_eq_true rfl) (Nat.le_of_ble_eq_true rfl))))))))) (Nat.le_of_ble_eq_true rfl) (Nat.le_of_ble_eq_true rfl)))))))))))
def FX2_tabulate (n : Nat) : List Value → mM → Option mR := mfn 7 (kX2_tabulate_0 n)
theorem CtX2_tabulate {E : mE} {X : State → Heap → Prop} {l : Launch} (hX : mXok E X) (n : Nat) : Ct E X l yX2_tabulate cX2_tabulate 7 none 4 0 0 (FX2_tabulate n) := Ct_of (by decide) hX (okX2_tabulate_0 hX n)
theorem dX5_breaksLine_0 : decode cX5_breaksLine 0 = .ok (.aload_n 0, 1) := by decide +kernel
theorem dX5_breaksLine_1 : decode cX5_breaksLine 1 = .ok (.invokevirtual 152, 3) := by decide +kernel
theorem dX5_breaksLine_4 : decode cX5_breaksLine 4 = .ok (.ifCond .eq 13, 3) := by decide +kernel
theorem dX5_breaksLine_7 : decode cX5_breaksLine 7 = .ok (.aload_n 0, 1) := by decide +kernel
theorem dX5_breaksLine_8 : decode cX5_breaksLine 8 = .ok (.iconst 0, 1) := by decide +kernel
theorem dX5_breaksLine_9 : decode cX5_breaksLine 9 = .ok (.bipush 100, 2) := by decide +kernel
theorem dX5_breaksLine_11 : decode cX5_breaksLine 11 = .ok (.invokevirtual 95, 3) := by decide +kernel
theorem dX5_breaksLine_14 : decode cX5_breaksLine 14 = .ok (.ifCond .ne 5, 3) := by decide +kernel
theorem dX5_breaksLine_17 : decode cX5_breaksLine 17 = .ok (.iconst 0, 1) := by decide +kernel
theorem dX5_breaksLine_18 : decode cX5_breaksLine 18 = .ok (.ireturn, 1) := by decide +kernel
theorem dX5_breaksLine_19 : decode cX5_breaksLine 19 = .ok (.aload_n 0, 1) := by decide +kernel
theorem dX5_breaksLine_20 : decode cX5_breaksLine 20 = .ok (.getfield 28, 3) := by decide +kernel
theorem dX5_breaksLine_23 : decode cX5_breaksLine 23 = .ok (.aload_n 0, 1) := by decide +kernel
theorem dX5_breaksLine_24 : decode cX5_breaksLine 24 = .ok (.getfield 99, 3) := by decide +kernel
theorem dX5_breaksLine_27 : decode cX5_breaksLine 27 = .ok (.putfield 155, 3) := by decide +kernel
theorem dX5_breaksLine_30 : decode cX5_breaksLine 30 = .ok (.aload_n 0, 1) := by decide +kernel
theorem dX5_breaksLine_31 : decode cX5_breaksLine 31 = .ok (.iconst 4, 1) := by decide +kernel
theorem dX5_breaksLine_32 : decode cX5_breaksLine 32 = .ok (.invokevirtual 105, 3) := by decide +kernel
theorem dX5_breaksLine_35 : decode cX5_breaksLine 35 = .ok (.ireturn, 1) := by decide +kernel
def kX5_breaksLine_17 (n : Nat) : mK := i_cst (.int (0)) (i_rZ)
set_option maxRecDepth 20000 in
theorem okX5_breaksLine_17 {E : mE} {X : State → Heap → Prop} {l : Launch} (hX : mXok E X) (n : Nat) : Sd E X l yX5_breaksLine cX5_breaksLine 1 (some .boolean) 4 0 0 0 0 17 (kX5_breaksLine_17 n) := s_iconst dX5_breaksLine_17 (by decide) (s_rZ dX5_breaksLine_18 (Nat.le_of_ble_eq_true rfl) (Nat.le_of_ble_eq_true rfl))
def kX5_breaksLine_0 (n : Nat) : mK := i_ldA 0 (i_cV 5 0 (FX5_takeOnce n) (i_c0 (fun x => decide (x = 0)) (kX5_breaksLine_17 n) (i_ldA 0 (i_cst (.int (0)) (i_cst (.int (100)) (i_cV 5 2 (FX5_takeNumber n) (i_c0 (fun x => decide (¬ x = 0)) (i_ldA 0 (i_gA 5 1 (i_ldA 0 (i_gI 5 7 (i_pI 4 3 (i_ldA 0 (i_cst (.int (4)) (i_cV 5 1 (FX5_take n) (i_rZ))))))))) (kX5_breaksLine_17 n))))))))
set_option maxRecDepth 20000 in
theorem okX5_breaksLine_0 {E : mE} {X : State → Heap → Prop} {l : Launch} (hX : mXok E X) (n : Nat) : Sd E X l yX5_breaksLine cX5_breaksLine 1 (some .boolean) 4 0 0 0 0 0 (kX5_breaksLine_0 n) := s_aload_n dX5_breaksLine_0 rfl (s_cV dX5_breaksLine_1 lMX5_152 bVX5_takeOnce rfl (CtX5_takeOnce hX n) (Nat.le_of_ble_eq_true rfl) (s_ifeq dX5_breaksLine_4 (by decide) (okX5_breaksLine_17 hX n) (s_aload_n dX5_breaksLine_7 rfl (s_iconst dX5_breaksLine_8 (by decide) (s_bipush dX5_breaksLine_9 (by decide) (s_cV dX5_breaksLine_11 lMX5_95 bVX5_takeNumber rfl (CtX5_takeNumber hX n) (Nat.le_of_ble_eq_true rfl) (s_ifne dX5_breaksLine_14 (by decide) (s_aload_n dX5_breaksLine_19 rfl (s_gA dX5_breaksLine_20 lFX5_28 (s_aload_n dX5_breaksLine_23 rfl (s_gI dX5_breaksLine_24 lFX5_99 (by decide) (s_pI dX5_breaksLine_27 lFX5_155 (s_aload_n dX5_breaksLine_30 rfl (s_iconst dX5_breaksLine_31 (by decide) (s_cV dX5_breaksLine_32 lMX5_105 bVX5_take rfl (CtX5_take hX n) (Nat.le_of_ble_eq_true rfl) (s_rZ dX5_breaksLine_35 (Nat.le_of_ble_eq_true rfl) (Nat.le_of_ble_eq_true rfl)) (Nat.le_of_ble_eq_true rfl) (Nat.le_of_ble_eq_true rfl))))))))) (okX5_breaksLine_17 hX n)) (Nat.le_of_ble_eq_true rfl) (Nat.le_of_ble_eq_true rfl)))))) (Nat.le_of_ble_eq_true rfl) (Nat.le_of_ble_eq_true rfl))
def FX5_breaksLine (n : Nat) : List Value → mM → Option mR := mfn 1 (kX5_breaksLine_0 n)
theorem CtX5_breaksLine {E : mE} {X : State → Heap → Prop} {l : Launch} (hX : mXok E X) (n : Nat) : Ct E X l yX5_breaksLine cX5_breaksLine 1 (some .boolean) 4 0 0 (FX5_breaksLine n) := Ct_of (by decide) hX (okX5_breaksLine_0 hX n)
theorem dX5_drawLine_0 : decode cX5_drawLine 0 = .ok (.aload_n 0, 1) := by decide +kernel
theorem dX5_drawLine_1 : decode cX5_drawLine 1 = .ok (.invokevirtual 152, 3) := by decide +kernel
theorem dX5_drawLine_4 : decode cX5_drawLine 4 = .ok (.ifCond .eq 14, 3) := by decide +kernel
theorem dX5_drawLine_7 : decode cX5_drawLine 7 = .ok (.aload_n 0, 1) := by decide +kernel
theorem dX5_drawLine_8 : decode cX5_drawLine 8 = .ok (.iconst 0, 1) := by decide +kernel
theorem dX5_drawLine_9 : decode cX5_drawLine 9 = .ok (.sipush 999, 3) := by decide +kernel
theorem dX5_drawLine_12 : decode cX5_drawLine 12 = .ok (.invokevirtual 95, 3) := by decide +kernel
theorem dX5_drawLine_15 : decode cX5_drawLine 15 = .ok (.ifCond .ne 5, 3) := by decide +kernel
theorem dX5_drawLine_18 : decode cX5_drawLine 18 = .ok (.iconst 0, 1) := by decide +kernel
theorem dX5_drawLine_19 : decode cX5_drawLine 19 = .ok (.ireturn, 1) := by decide +kernel
theorem dX5_drawLine_20 : decode cX5_drawLine 20 = .ok (.aload_n 0, 1) := by decide +kernel
theorem dX5_drawLine_21 : decode cX5_drawLine 21 = .ok (.getfield 28, 3) := by decide +kernel
theorem dX5_drawLine_24 : decode cX5_drawLine 24 = .ok (.aload_n 0, 1) := by decide +kernel
theorem dX5_drawLine_25 : decode cX5_drawLine 25 = .ok (.getfield 99, 3) := by decide +kernel
theorem dX5_drawLine_28 : decode cX5_drawLine 28 = .ok (.putfield 158, 3) := by decide +kernel
theorem dX5_drawLine_31 : decode cX5_drawLine 31 = .ok (.aload_n 0, 1) := by decide +kernel
theorem dX5_drawLine_32 : decode cX5_drawLine 32 = .ok (.iconst 4, 1) := by decide +kernel
theorem dX5_drawLine_33 : decode cX5_drawLine 33 = .ok (.invokevirtual 105, 3) := by decide +kernel
theorem dX5_drawLine_36 : decode cX5_drawLine 36 = .ok (.ireturn, 1) := by decide +kernel
def kX5_drawLine_18 (n : Nat) : mK := i_cst (.int (0)) (i_rZ)
set_option maxRecDepth 20000 in
theorem okX5_drawLine_18 {E : mE} {X : State → Heap → Prop} {l : Launch} (hX : mXok E X) (n : Nat) : Sd E X l yX5_drawLine cX5_drawLine 1 (some .boolean) 4 0 0 0 0 18 (kX5_drawLine_18 n) := s_iconst dX5_drawLine_18 (by decide) (s_rZ dX5_drawLine_19 (Nat.le_of_ble_eq_true rfl) (Nat.le_of_ble_eq_true rfl))
def kX5_drawLine_0 (n : Nat) : mK := i_ldA 0 (i_cV 5 0 (FX5_takeOnce n) (i_c0 (fun x => decide (x = 0)) (kX5_drawLine_18 n) (i_ldA 0 (i_cst (.int (0)) (i_cst (.int (999)) (i_cV 5 2 (FX5_takeNumber n) (i_c0 (fun x => decide (¬ x = 0)) (i_ldA 0 (i_gA 5 1 (i_ldA 0 (i_gI 5 7 (i_pI 4 4 (i_ldA 0 (i_cst (.int (4)) (i_cV 5 1 (FX5_take n) (i_rZ))))))))) (kX5_drawLine_18 n))))))))
set_option maxRecDepth 20000 in
theorem okX5_drawLine_0 {E : mE} {X : State → Heap → Prop} {l : Launch} (hX : mXok E X) (n : Nat) : Sd E X l yX5_drawLine cX5_drawLine 1 (some .boolean) 4 0 0 0 0 0 (kX5_drawLine_0 n) := s_aload_n dX5_drawLine_0 rfl (s_cV dX5_drawLine_1 lMX5_152 bVX5_takeOnce rfl (CtX5_takeOnce hX n) (Nat.le_of_ble_eq_true rfl) (s_ifeq dX5_drawLine_4 (by decide) (okX5_drawLine_18 hX n) (s_aload_n dX5_drawLine_7 rfl (s_iconst dX5_drawLine_8 (by decide) (s_sipush dX5_drawLine_9 (by decide) (s_cV dX5_drawLine_12 lMX5_95 bVX5_takeNumber rfl (CtX5_takeNumber hX n) (Nat.le_of_ble_eq_true rfl) (s_ifne dX5_drawLine_15 (by decide) (s_aload_n dX5_drawLine_20 rfl (s_gA dX5_drawLine_21 lFX5_28 (s_aload_n dX5_drawLine_24 rfl (s_gI dX5_drawLine_25 lFX5_99 (by decide) (s_pI dX5_drawLine_28 lFX5_158 (s_aload_n dX5_drawLine_31 rfl (s_iconst dX5_drawLine_32 (by decide) (s_cV dX5_drawLine_33 lMX5_105 bVX5_take rfl (CtX5_take hX n) (Nat.le_of_ble_eq_true rfl) (s_rZ dX5_drawLine_36 (Nat.le_of_ble_eq_true rfl) (Nat.le_of_ble_eq_true rfl)) (Nat.le_of_ble_eq_true rfl) (Nat.le_of_ble_eq_true rfl))))))))) (okX5_drawLine_18 hX n)) (Nat.le_of_ble_eq_true rfl) (Nat.le_of_ble_eq_true rfl)))))) (Nat.le_of_ble_eq_true rfl) (Nat.le_of_ble_eq_true rfl))
def FX5_drawLine (n : Nat) : List Value → mM → Option mR := mfn 1 (kX5_drawLine_0 n)
theorem CtX5_drawLine {E : mE} {X : State → Heap → Prop} {l : Launch} (hX : mXok E X) (n : Nat) : Ct E X l yX5_drawLine cX5_drawLine 1 (some .boolean) 4 0 0 (FX5_drawLine n) := Ct_of (by decide) hX (okX5_drawLine_0 hX n)
theorem dX5_streetLine_0 : decode cX5_streetLine 0 = .ok (.aload_n 0, 1) := by decide +kernel
theorem dX5_streetLine_1 : decode cX5_streetLine 1 = .ok (.invokevirtual 92, 3) := by decide +kernel
theorem dX5_streetLine_4 : decode cX5_streetLine 4 = .ok (.aload_n 0, 1) := by decide +kernel
theorem dX5_streetLine_5 : decode cX5_streetLine 5 = .ok (.iconst 1, 1) := by decide +kernel
theorem dX5_streetLine_6 : decode cX5_streetLine 6 = .ok (.bipush 8, 2) := by decide +kernel
theorem dX5_streetLine_8 : decode cX5_streetLine 8 = .ok (.invokevirtual 95, 3) := by decide +kernel
theorem dX5_streetLine_11 : decode cX5_streetLine 11 = .ok (.ifCond .ne 5, 3) := by decide +kernel
theorem dX5_streetLine_14 : decode cX5_streetLine 14 = .ok (.iconst 0, 1) := by decide +kernel
theorem dX5_streetLine_15 : decode cX5_streetLine 15 = .ok (.ireturn, 1) := by decide +kernel
theorem dX5_streetLine_16 : decode cX5_streetLine 16 = .ok (.aload_n 0, 1) := by decide +kernel
theorem dX5_streetLine_17 : decode cX5_streetLine 17 = .ok (.getfield 28, 3) := by decide +kernel
theorem dX5_streetLine_20 : decode cX5_streetLine 20 = .ok (.aload_n 0, 1) := by decide +kernel
theorem dX5_streetLine_21 : decode cX5_streetLine 21 = .ok (.getfield 99, 3) := by decide +kernel
theorem dX5_streetLine_24 : decode cX5_streetLine 24 = .ok (.putfield 102, 3) := by decide +kernel
theorem dX5_streetLine_27 : decode cX5_streetLine 27 = .ok (.aload_n 0, 1) := by decide +kernel
theorem dX5_streetLine_28 : decode cX5_streetLine 28 = .ok (.bipush 16, 2) := by decide +kernel
theorem dX5_streetLine_30 : decode cX5_streetLine 30 = .ok (.invokevirtual 105, 3) := by decide +kernel
theorem dX5_streetLine_33 : decode cX5_streetLine 33 = .ok (.ifCond .eq 13, 3) := by decide +kernel
theorem dX5_streetLine_36 : decode cX5_streetLine 36 = .ok (.aload_n 0, 1) := by decide +kernel
theorem dX5_streetLine_37 : decode cX5_streetLine 37 = .ok (.iconst 1, 1) := by decide +kernel
theorem dX5_streetLine_38 : decode cX5_streetLine 38 = .ok (.bipush 8, 2) := by decide +kernel
theorem dX5_streetLine_40 : decode cX5_streetLine 40 = .ok (.invokevirtual 95, 3) := by decide +kernel
theorem dX5_streetLine_43 : decode cX5_streetLine 43 = .ok (.ifCond .ne 5, 3) := by decide +kernel
theorem dX5_streetLine_46 : decode cX5_streetLine 46 = .ok (.iconst 0, 1) := by decide +kernel
theorem dX5_streetLine_47 : decode cX5_streetLine 47 = .ok (.ireturn, 1) := by decide +kernel
theorem dX5_streetLine_48 : decode cX5_streetLine 48 = .ok (.aload_n 0, 1) := by decide +kernel
theorem dX5_streetLine_49 : decode cX5_streetLine 49 = .ok (.getfield 28, 3) := by decide +kernel
theorem dX5_streetLine_52 : decode cX5_streetLine 52 = .ok (.aload_n 0, 1) := by decide +kernel
theorem dX5_streetLine_53 : decode cX5_streetLine 53 = .ok (.getfield 99, 3) := by decide +kernel
theorem dX5_streetLine_56 : decode cX5_streetLine 56 = .ok (.putfield 109, 3) := by decide +kernel
theorem dX5_streetLine_59 : decode cX5_streetLine 59 = .ok (.aload_n 0, 1) := by decide +kernel
theorem dX5_streetLine_60 : decode cX5_streetLine 60 = .ok (.iconst 4, 1) := by decide +kernel
theorem dX5_streetLine_61 : decode cX5_streetLine 61 = .ok (.invokevirtual 105, 3) := by decide +kernel
theorem dX5_streetLine_64 : decode cX5_streetLine 64 = .ok (.ireturn, 1) := by decide +kernel
def kX5_streetLine_46 (n : Nat) : mK := i_cst (.int (0)) (i_rZ)
set_option maxRecDepth 20000 in
theorem okX5_streetLine_46 {E : mE} {X : State → Heap → Prop} {l : Launch} (hX : mXok E X) (n : Nat) : Sd E X l yX5_streetLine cX5_streetLine 1 (some .boolean) 4 0 0 0 0 46 (kX5_streetLine_46 n) := s_iconst dX5_streetLine_46 (by decide) (s_rZ dX5_streetLine_47 (Nat.le_of_ble_eq_true rfl) (Nat.le_of_ble_eq_true rfl))
def kX5_streetLine_53 (n : Nat) : mK := i_gI 5 7 (i_pI 4 1 (i_ldA 0 (i_cst (.int (4)) (i_cV 5 1 (FX5_take n) (i_rZ)))))
set_option maxRecDepth 20000 in
theorem okX5_streetLine_53 {E : mE} {X : State → Heap → Prop} {l : Launch} (hX : mXok E X) (n : Nat) : Sd E X l yX5_streetLine cX5_streetLine 1 (some .boolean) 4 0 0 0 0 53 (kX5_streetLine_53 n) := s_gI dX5_streetLine_53 lFX5_99 (by decide) (s_pI dX5_streetLine_56 lFX5_109 (s_aload_n dX5_streetLine_59 rfl (s_iconst dX5_streetLine_60 (by decide) (s_cV dX5_streetLine_61 lMX5_105 bVX5_take rfl (CtX5_take hX n) (Nat.le_of_ble_eq_true rfl) (s_rZ dX5_streetLine_64 (Nat.le_of_ble_eq_true rfl) (Nat.le_of_ble_eq_true rfl)) (Nat.le_of_ble_eq_true rfl) (Nat.le_of_ble_eq_true rfl)))))
def kX5_streetLine_0 (n : Nat) : mK := i_ldA 0 (i_cV 5 0 (FX5_takeSort n) (i_ldA 0 (i_cst (.int (1)) (i_cst (.int (8)) (i_cV 5 2 (FX5_takeNumber n) (i_c0 (fun x => decide (¬ x = 0)) (i_ldA 0 (i_gA 5 1 (i_ldA 0 (i_gI 5 7 (i_pI 4 0 (i_ldA 0 (i_cst (.int (16)) (i_cV 5 1 (FX5_take n) (i_c0 (fun x => decide (x = 0)) (kX5_streetLine_46 n) (i_ldA 0 (i_cst (.int (1)) (i_cst (.int (8)) (i_cV 5 2 (FX5_takeNumber n) (i_c0 (fun x => decide (¬ x = 0)) (i_ldA 0 (i_gA 5 1 (i_ldA 0 (kX5_streetLine_53 n)))) (kX5_streetLine_46 n))))))))))))))) (i_cst (.int (0)) (i_rZ))))))))
set_option maxRecDepth 20000 in
theorem okX5_streetLine_0 {E : mE} {X : State → Heap → Prop} {l : Launch} (hX : mXok E X) (n : Nat) : Sd E X l yX5_streetLine cX5_streetLine 1 (some .boolean) 4 0 0 0 0 0 (kX5_streetLine_0 n) := s_aload_n dX5_streetLine_0 rfl (s_cV dX5_streetLine_1 lMX5_92 bVX5_takeSort rfl (CtX5_takeSort hX n) (Nat.le_of_ble_eq_true rfl) (s_aload_n dX5_streetLine_4 rfl (s_iconst dX5_streetLine_5 (by decide) (s_bipush dX5_streetLine_6 (by decide) (s_cV dX5_streetLine_8 lMX5_95 bVX5_takeNumber rfl (CtX5_takeNumber hX n) (Nat.le_of_ble_eq_true rfl) (s_ifne dX5_streetLine_11 (by decide) (s_aload_n dX5_streetLine_16 rfl (s_gA dX5_streetLine_17 lFX5_28 (s_aload_n dX5_streetLine_20 rfl (s_gI dX5_streetLine_21 lFX5_99 (by decide) (s_pI dX5_streetLine_24 lFX5_102 (s_aload_n dX5_streetLine_27 rfl (s_bipush dX5_streetLine_28 (by decide) (s_cV dX5_streetLine_30 lMX5_105 bVX5_take rfl (CtX5_take hX n) (Nat.le_of_ble_eq_true rfl) (s_ifeq dX5_streetLine_33 (by decide) (okX5_streetLine_46 hX n) (s_aload_n dX5_streetLine_36 rfl (s_iconst dX5_streetLine_37 (by decide) (s_bipush dX5_streetLine_38 (by decide) (s_cV dX5_streetLine_40 lMX5_95 bVX5_takeNumber rfl (CtX5_takeNumber hX n) (Nat.le_of_ble_eq_true rfl) (s_ifne dX5_streetLine_43 (by decide) (s_aload_n dX5_streetLine_48 rfl (s_gA dX5_streetLine_49 lFX5_28 (s_aload_n dX5_streetLine_52 rfl (okX5_streetLine_53 hX n)))) (okX5_streetLine_46 hX n)) (Nat.le_of_ble_eq_true rfl) (Nat.le_of_ble_eq_true rfl)))))) (Nat.le_of_ble_eq_true rfl) (Nat.le_of_ble_eq_true rfl))))))))) (s_iconst dX5_streetLine_14 (by decide) (s_rZ dX5_streetLine_15 (Nat.le_of_ble_eq_true rfl) (Nat.le_of_ble_eq_true rfl)))) (Nat.le_of_ble_eq_true rfl) (Nat.le_of_ble_eq_true rfl))))) (Nat.le_of_ble_eq_true rfl) (Nat.le_of_ble_eq_true rfl))
def FX5_streetLine (n : Nat) : List Value → mM → Option mR := mfn 1 (kX5_streetLine_0 n)
theorem CtX5_streetLine {E : mE} {X : State → Heap → Prop} {l : Launch} (hX : mXok E X) (n : Nat) : Ct E X l yX5_streetLine cX5_streetLine 1 (some .boolean) 4 0 0 (FX5_streetLine n) := Ct_of (by decide) hX (okX5_streetLine_0 hX n)
theorem dX5_takeCell_0 : decode cX5_takeCell 0 = .ok (.aload_n 0, 1) := by decide +kernel
theorem dX5_takeCell_1 : decode cX5_takeCell 1 = .ok (.iconst 0, 1) := by decide +kernel
theorem dX5_takeCell_2 : decode cX5_takeCell 2 = .ok (.aload_n 0, 1) := by decide +kernel
theorem dX5_takeCell_3 : decode cX5_takeCell 3 = .ok (.getfield 28, 3) := by decide +kernel
theorem dX5_takeCell_6 : decode cX5_takeCell 6 = .ok (.getfield 102, 3) := by decide +kernel
theorem dX5_takeCell_9 : decode cX5_takeCell 9 = .ok (.iconst 1, 1) := by decide +kernel
theorem dX5_takeCell_10 : decode cX5_takeCell 10 = .ok (.isub, 1) := by decide +kernel
theorem dX5_takeCell_11 : decode cX5_takeCell 11 = .ok (.invokevirtual 95, 3) := by decide +kernel
theorem dX5_takeCell_14 : decode cX5_takeCell 14 = .ok (.ifCond .ne 5, 3) := by decide +kernel
theorem dX5_takeCell_17 : decode cX5_takeCell 17 = .ok (.iconst 0, 1) := by decide +kernel
theorem dX5_takeCell_18 : decode cX5_takeCell 18 = .ok (.ireturn, 1) := by decide +kernel
theorem dX5_takeCell_19 : decode cX5_takeCell 19 = .ok (.aload_n 0, 1) := by decide +kernel
theorem dX5_takeCell_20 : decode cX5_takeCell 20 = .ok (.getfield 99, 3) := by decide +kernel
theorem dX5_takeCell_23 : decode cX5_takeCell 23 = .ok (.istore_n 2, 1) := by decide +kernel
theorem dX5_takeCell_24 : decode cX5_takeCell 24 = .ok (.aload_n 0, 1) := by decide +kernel
theorem dX5_takeCell_25 : decode cX5_takeCell 25 = .ok (.iconst 0, 1) := by decide +kernel
theorem dX5_takeCell_26 : decode cX5_takeCell 26 = .ok (.aload_n 0, 1) := by decide +kernel
theorem dX5_takeCell_27 : decode cX5_takeCell 27 = .ok (.getfield 28, 3) := by decide +kernel
theorem dX5_takeCell_30 : decode cX5_takeCell 30 = .ok (.getfield 109, 3) := by decide +kernel
theorem dX5_takeCell_33 : decode cX5_takeCell 33 = .ok (.iconst 1, 1) := by decide +kernel
theorem dX5_takeCell_34 : decode cX5_takeCell 34 = .ok (.isub, 1) := by decide +kernel
theorem dX5_takeCell_35 : decode cX5_takeCell 35 = .ok (.invokevirtual 95, 3) := by decide +kernel
theorem dX5_takeCell_38 : decode cX5_takeCell 38 = .ok (.ifCond .ne 5, 3) := by decide +kernel
theorem dX5_takeCell_41 : decode cX5_takeCell 41 = .ok (.iconst 0, 1) := by decide +kernel
theorem dX5_takeCell_42 : decode cX5_takeCell 42 = .ok (.ireturn, 1) := by decide +kernel
theorem dX5_takeCell_43 : decode cX5_takeCell 43 = .ok (.aload_n 0, 1) := by decide +kernel
theorem dX5_takeCell_44 : decode cX5_takeCell 44 = .ok (.getfield 99, 3) := by decide +kernel
theorem dX5_takeCell_47 : decode cX5_takeCell 47 = .ok (.aload_n 0, 1) := by decide +kernel
theorem dX5_takeCell_48 : decode cX5_takeCell 48 = .ok (.getfield 28, 3) := by decide +kernel
theorem dX5_takeCell_51 : decode cX5_takeCell 51 = .ok (.getfield 102, 3) := by decide +kernel
theorem dX5_takeCell_54 : decode cX5_takeCell 54 = .ok (.imul, 1) := by decide +kernel
theorem dX5_takeCell_55 : decode cX5_takeCell 55 = .ok (.iload_n 2, 1) := by decide +kernel
theorem dX5_takeCell_56 : decode cX5_takeCell 56 = .ok (.iadd, 1) := by decide +kernel
theorem dX5_takeCell_57 : decode cX5_takeCell 57 = .ok (.istore_n 3, 1) := by decide +kernel
theorem dX5_takeCell_58 : decode cX5_takeCell 58 = .ok (.iconst 0, 1) := by decide +kernel
theorem dX5_takeCell_59 : decode cX5_takeCell 59 = .ok (.istore 4, 2) := by decide +kernel
theorem dX5_takeCell_61 : decode cX5_takeCell 61 = .ok (.iload 4, 2) := by decide +kernel
theorem dX5_takeCell_63 : decode cX5_takeCell 63 = .ok (.iload_n 1, 1) := by decide +kernel
theorem dX5_takeCell_64 : decode cX5_takeCell 64 = .ok (.if_icmp .ge 35, 3) := by decide +kernel
theorem dX5_takeCell_67 : decode cX5_takeCell 67 = .ok (.aload_n 0, 1) := by decide +kernel
theorem dX5_takeCell_68 : decode cX5_takeCell 68 = .ok (.getfield 28, 3) := by decide +kernel
theorem dX5_takeCell_71 : decode cX5_takeCell 71 = .ok (.getfield 142, 3) := by decide +kernel
theorem dX5_takeCell_74 : decode cX5_takeCell 74 = .ok (.iload 4, 2) := by decide +kernel
theorem dX5_takeCell_76 : decode cX5_takeCell 76 = .ok (.invokestatic 145, 3) := by decide +kernel
theorem dX5_takeCell_79 : decode cX5_takeCell 79 = .ok (.iload_n 3, 1) := by decide +kernel
theorem dX5_takeCell_80 : decode cX5_takeCell 80 = .ok (.if_icmp .ne 13, 3) := by decide +kernel
theorem dX5_takeCell_83 : decode cX5_takeCell 83 = .ok (.aload_n 0, 1) := by decide +kernel
theorem dX5_takeCell_84 : decode cX5_takeCell 84 = .ok (.iconst 3, 1) := by decide +kernel
theorem dX5_takeCell_85 : decode cX5_takeCell 85 = .ok (.aload_n 0, 1) := by decide +kernel
theorem dX5_takeCell_86 : decode cX5_takeCell 86 = .ok (.getfield 149, 3) := by decide +kernel
theorem dX5_takeCell_89 : decode cX5_takeCell 89 = .ok (.invokevirtual 139, 3) := by decide +kernel
theorem dX5_takeCell_92 : decode cX5_takeCell 92 = .ok (.ireturn, 1) := by decide +kernel
theorem dX5_takeCell_93 : decode cX5_takeCell 93 = .ok (.iinc 4 1, 3) := by decide +kernel
theorem dX5_takeCell_96 : decode cX5_takeCell 96 = .ok (.goto (-35), 3) := by decide +kernel
theorem dX5_takeCell_99 : decode cX5_takeCell 99 = .ok (.aload_n 0, 1) := by decide +kernel
theorem dX5_takeCell_100 : decode cX5_takeCell 100 = .ok (.getfield 28, 3) := by decide +kernel
theorem dX5_takeCell_103 : decode cX5_takeCell 103 = .ok (.getfield 142, 3) := by decide +kernel
theorem dX5_takeCell_106 : decode cX5_takeCell 106 = .ok (.iload_n 1, 1) := by decide +kernel
theorem dX5_takeCell_107 : decode cX5_takeCell 107 = .ok (.iload_n 3, 1) := by decide +kernel
theorem dX5_takeCell_108 : decode cX5_takeCell 108 = .ok (.invokestatic 122, 3) := by decide +kernel
theorem dX5_takeCell_111 : decode cX5_takeCell 111 = .ok (.iconst 1, 1) := by decide +kernel
theorem dX5_takeCell_112 : decode cX5_takeCell 112 = .ok (.ireturn, 1) := by decide +kernel
def kX5_takeCell_61 (n : Nat) (r61 : mK) : mK := i_ldI 4 (i_ldI 1 (i_c2 (fun x y => decide (y ≤ x)) (i_ldA 0 (i_gA 5 1 (i_gA 4 6 (i_ldI 1 (i_ldI 3 (i_cS 3 (FX11_set n) (i_cst (.int (1)) (i_rZ)))))))) (i_ldA 0 (i_gA 5 1 (i_gA 4 6 (i_ldI 4 (i_cS 2 (FX11_at n) (i_ldI 3 (i_c2 (fun x y => decide (¬ x = y)) (i_inc 4 (1) (r61)) (i_ldA 0 (i_cst (.int (3)) (i_ldA 0 (i_gI 5 8 (i_cV 5 2 (FX5_fail n) (i_rZ)))))))))))))))
set_option maxRecDepth 20000 in
theorem okX5_takeCell_61 {E : mE} {X : State → Heap → Prop} {l : Launch} (hX : mXok E X) (n : Nat) {r61 : mK} (h61 : Sd E X l yX5_takeCell cX5_takeCell 5 (some .boolean) 4 0 0 0 0 61 r61) : Sd E X l yX5_takeCell cX5_takeCell 5 (some .boolean) 4 0 0 0 0 61 (kX5_takeCell_61 n r61) := s_iload dX5_takeCell_61 (s_iload_n dX5_takeCell_63 rfl (s_icge dX5_takeCell_64 (by decide) (s_aload_n dX5_takeCell_99 rfl (s_gA dX5_takeCell_100 lFX5_28 (s_gA dX5_takeCell_103 lFX5_142 (s_iload_n dX5_takeCell_106 rfl (s_iload_n dX5_takeCell_107 rfl (s_cN dX5_takeCell_108 lNX5_122 bSX11_set (CtX11_set hX n) (Nat.le_of_ble_eq_true rfl) (s_iconst dX5_takeCell_111 (by decide) (s_rZ dX5_takeCell_112 (Nat.le_of_ble_eq_true rfl) (Nat.le_of_ble_eq_true rfl))) (Nat.le_of_ble_eq_true rfl) (Nat.le_of_ble_eq_true rfl))))))) (s_aload_n dX5_takeCell_67 rfl (s_gA dX5_takeCell_68 lFX5_28 (s_gA dX5_takeCell_71 lFX5_142 (s_iload dX5_takeCell_74 (s_cN dX5_takeCell_76 lNX5_145 bSX11_at (CtX11_at hX n) (Nat.le_of_ble_eq_true rfl) (s_iload_n dX5_takeCell_79 rfl (s_icne dX5_takeCell_80 (by decide) (s_iinc dX5_takeCell_93 (by decide) (s_goto dX5_takeCell_96 (by decide) h61)) (s_aload_n dX5_takeCell_83 rfl (s_iconst dX5_takeCell_84 (by decide) (s_aload_n dX5_takeCell_85 rfl (s_gI dX5_takeCell_86 lFX5_149 (by decide) (s_cV dX5_takeCell_89 lMX5_139 bVX5_fail rfl (CtX5_fail hX n) (Nat.le_of_ble_eq_true rfl) (s_rZ dX5_takeCell_92 (Nat.le_of_ble_eq_true rfl) (Nat.le_of_ble_eq_true rfl)) (Nat.le_of_ble_eq_true rfl) (Nat.le_of_ble_eq_true rfl)))))))) (Nat.le_of_ble_eq_true rfl) (Nat.le_of_ble_eq_true rfl))))))))
def kX5_takeCell_48 (n : Nat) : mK := i_gA 5 1 (i_gI 4 0 (i_bin (fun x y => x * y) (i_ldI 2 (i_bin (fun x y => x + y) (i_stI 3 (i_cst (.int (0)) (i_stI 4 (mit (kX5_takeCell_61 n ) n))))))))
set_option maxRecDepth 20000 in
theorem okX5_takeCell_48 {E : mE} {X : State → Heap → Prop} {l : Launch} (hX : mXok E X) (n : Nat) : Sd E X l yX5_takeCell cX5_takeCell 5 (some .boolean) 4 0 0 0 0 48 (kX5_takeCell_48 n) := s_gA dX5_takeCell_48 lFX5_28 (s_gI dX5_takeCell_51 lFX5_102 (by decide) (s_imul dX5_takeCell_54 (s_iload_n dX5_takeCell_55 rfl (s_iadd dX5_takeCell_56 (s_istore_n dX5_takeCell_57 rfl (s_iconst dX5_takeCell_58 (by decide) (s_istore dX5_takeCell_59 (s_mit (fun _ hk => okX5_takeCell_61 hX n hk) n))))))))
def kX5_takeCell_0 (n : Nat) : mK := i_ldA 0 (i_cst (.int (0)) (i_ldA 0 (i_gA 5 1 (i_gI 4 0 (i_cst (.int (1)) (i_bin (fun x y => x - y) (i_cV 5 2 (FX5_takeNumber n) (i_c0 (fun x => decide (¬ x = 0)) (i_ldA 0 (i_gI 5 7 (i_stI 2 (i_ldA 0 (i_cst (.int (0)) (i_ldA 0 (i_gA 5 1 (i_gI 4 1 (i_cst (.int (1)) (i_bin (fun x y => x - y) (i_cV 5 2 (FX5_takeNumber n) (i_c0 (fun x => decide (¬ x = 0)) (i_ldA 0 (i_gI 5 7 (i_ldA 0 (kX5_takeCell_48 n)))) (i_cst (.int (0)) (i_rZ)))))))))))))) (i_cst (.int (0)) (i_rZ))))))))))
set_option maxRecDepth 20000 in
theorem okX5_takeCell_0 {E : mE} {X : State → Heap → Prop} {l : Launch} (hX : mXok E X) (n : Nat) : Sd E X l yX5_takeCell cX5_takeCell 5 (some .boolean) 4 0 0 0 0 0 (kX5_takeCell_0 n) := s_aload_n dX5_takeCell_0 rfl (s_iconst dX5_takeCell_1 (by decide) (s_aload_n dX5_takeCell_2 rfl (s_gA dX5_takeCell_3 lFX5_28 (s_gI dX5_takeCell_6 lFX5_102 (by decide) (s_iconst dX5_takeCell_9 (by decide) (s_isub dX5_takeCell_10 (s_cV dX5_takeCell_11 lMX5_95 bVX5_takeNumber rfl (CtX5_takeNumber hX n) (Nat.le_of_ble_eq_true rfl) (s_ifne dX5_takeCell_14 (by decide) (s_aload_n dX5_takeCell_19 rfl (s_gI dX5_takeCell_20 lFX5_99 (by decide) (s_istore_n dX5_takeCell_23 rfl (s_aload_n dX5_takeCell_24 rfl (s_iconst dX5_takeCell_25 (by decide) (s_aload_n dX5_takeCell_26 rfl (s_gA dX5_takeCell_27 lFX5_28 (s_gI dX5_takeCell_30 lFX5_109 (by decide) (s_iconst dX5_takeCell_33 (by decide) (s_isub dX5_takeCell_34 (s_cV dX5_takeCell_35 lMX5_95 bVX5_takeNumber rfl (CtX5_takeNumber hX n) (Nat.le_of_ble_eq_true rfl) (s_ifne dX5_takeCell_38 (by decide) (s_aload_n dX5_takeCell_43 rfl (s_gI dX5_takeCell_44 lFX5_99 (by decide) (s_aload_n dX5_takeCell_47 rfl (okX5_takeCell_48 hX n)))) (s_iconst dX5_takeCell_41 (by decide) (s_rZ dX5_takeCell_42 (Nat.le_of_ble_eq_true rfl) (Nat.le_of_ble_eq_true rfl)))) (Nat.le_of_ble_eq_true rfl) (Nat.le_of_ble_eq_true rfl)))))))))))) (s_iconst dX5_takeCell_17 (by decide) (s_rZ dX5_takeCell_18 (Nat.le_of_ble_eq_true rfl) (Nat.le_of_ble_eq_true rfl)))) (Nat.le_of_ble_eq_true rfl) (Nat.le_of_ble_eq_true rfl))))))))
def FX5_takeCell (n : Nat) : List Value → mM → Option mR := mfn 5 (kX5_takeCell_0 n)
theorem CtX5_takeCell {E : mE} {X : State → Heap → Prop} {l : Launch} (hX : mXok E X) (n : Nat) : Ct E X l yX5_takeCell cX5_takeCell 5 (some .boolean) 4 0 0 (FX5_takeCell n) := Ct_of (by decide) hX (okX5_takeCell_0 hX n)
theorem dX5_takeName_0 : decode cX5_takeName 0 = .ok (.aload_n 0, 1) := by decide +kernel
theorem dX5_takeName_1 : decode cX5_takeName 1 = .ok (.getfield 60, 3) := by decide +kernel
theorem dX5_takeName_4 : decode cX5_takeName 4 = .ok (.iconst 3, 1) := by decide +kernel
theorem dX5_takeName_5 : decode cX5_takeName 5 = .ok (.if_icmp .eq 8, 3) := by decide +kernel
theorem dX5_takeName_8 : decode cX5_takeName 8 = .ok (.aload_n 0, 1) := by decide +kernel
theorem dX5_takeName_9 : decode cX5_takeName 9 = .ok (.invokevirtual 70, 3) := by decide +kernel
theorem dX5_takeName_12 : decode cX5_takeName 12 = .ok (.ireturn, 1) := by decide +kernel
theorem dX5_takeName_13 : decode cX5_takeName 13 = .ok (.aload_n 0, 1) := by decide +kernel
theorem dX5_takeName_14 : decode cX5_takeName 14 = .ok (.getfield 24, 3) := by decide +kernel
theorem dX5_takeName_17 : decode cX5_takeName 17 = .ok (.aload_n 0, 1) := by decide +kernel
theorem dX5_takeName_18 : decode cX5_takeName 18 = .ok (.getfield 132, 3) := by decide +kernel
theorem dX5_takeName_21 : decode cX5_takeName 21 = .ok (.invokevirtual 135, 3) := by decide +kernel
theorem dX5_takeName_24 : decode cX5_takeName 24 = .ok (.lstore_n 2, 1) := by decide +kernel
theorem dX5_takeName_25 : decode cX5_takeName 25 = .ok (.iconst 0, 1) := by decide +kernel
theorem dX5_takeName_26 : decode cX5_takeName 26 = .ok (.istore 4, 2) := by decide +kernel
theorem dX5_takeName_28 : decode cX5_takeName 28 = .ok (.iload 4, 2) := by decide +kernel
theorem dX5_takeName_30 : decode cX5_takeName 30 = .ok (.iload_n 1, 1) := by decide +kernel
theorem dX5_takeName_31 : decode cX5_takeName 31 = .ok (.if_icmp .ge 41, 3) := by decide +kernel
theorem dX5_takeName_34 : decode cX5_takeName 34 = .ok (.iload 4, 2) := by decide +kernel
theorem dX5_takeName_36 : decode cX5_takeName 36 = .ok (.aload_n 0, 1) := by decide +kernel
theorem dX5_takeName_37 : decode cX5_takeName 37 = .ok (.getfield 9, 3) := by decide +kernel
theorem dX5_takeName_40 : decode cX5_takeName 40 = .ok (.arraylength, 1) := by decide +kernel
theorem dX5_takeName_41 : decode cX5_takeName 41 = .ok (.if_icmp .ge 31, 3) := by decide +kernel
theorem dX5_takeName_44 : decode cX5_takeName 44 = .ok (.aload_n 0, 1) := by decide +kernel
theorem dX5_takeName_45 : decode cX5_takeName 45 = .ok (.getfield 9, 3) := by decide +kernel
theorem dX5_takeName_48 : decode cX5_takeName 48 = .ok (.iload 4, 2) := by decide +kernel
theorem dX5_takeName_50 : decode cX5_takeName 50 = .ok (.laload, 1) := by decide +kernel
theorem dX5_takeName_51 : decode cX5_takeName 51 = .ok (.lload_n 2, 1) := by decide +kernel
theorem dX5_takeName_52 : decode cX5_takeName 52 = .ok (.lcmp, 1) := by decide +kernel
theorem dX5_takeName_53 : decode cX5_takeName 53 = .ok (.ifCond .ne 13, 3) := by decide +kernel
theorem dX5_takeName_56 : decode cX5_takeName 56 = .ok (.aload_n 0, 1) := by decide +kernel
theorem dX5_takeName_57 : decode cX5_takeName 57 = .ok (.iconst 3, 1) := by decide +kernel
theorem dX5_takeName_58 : decode cX5_takeName 58 = .ok (.aload_n 0, 1) := by decide +kernel
theorem dX5_takeName_59 : decode cX5_takeName 59 = .ok (.getfield 132, 3) := by decide +kernel
theorem dX5_takeName_62 : decode cX5_takeName 62 = .ok (.invokevirtual 139, 3) := by decide +kernel
theorem dX5_takeName_65 : decode cX5_takeName 65 = .ok (.ireturn, 1) := by decide +kernel
theorem dX5_takeName_66 : decode cX5_takeName 66 = .ok (.iinc 4 1, 3) := by decide +kernel
theorem dX5_takeName_69 : decode cX5_takeName 69 = .ok (.goto (-41), 3) := by decide +kernel
theorem dX5_takeName_72 : decode cX5_takeName 72 = .ok (.iload_n 1, 1) := by decide +kernel
theorem dX5_takeName_73 : decode cX5_takeName 73 = .ok (.ifCond .lt 19, 3) := by decide +kernel
theorem dX5_takeName_76 : decode cX5_takeName 76 = .ok (.iload_n 1, 1) := by decide +kernel
theorem dX5_takeName_77 : decode cX5_takeName 77 = .ok (.aload_n 0, 1) := by decide +kernel
theorem dX5_takeName_78 : decode cX5_takeName 78 = .ok (.getfield 9, 3) := by decide +kernel
theorem dX5_takeName_81 : decode cX5_takeName 81 = .ok (.arraylength, 1) := by decide +kernel
theorem dX5_takeName_82 : decode cX5_takeName 82 = .ok (.if_icmp .ge 10, 3) := by decide +kernel
theorem dX5_takeName_85 : decode cX5_takeName 85 = .ok (.aload_n 0, 1) := by decide +kernel
theorem dX5_takeName_86 : decode cX5_takeName 86 = .ok (.getfield 9, 3) := by decide +kernel
theorem dX5_takeName_89 : decode cX5_takeName 89 = .ok (.iload_n 1, 1) := by decide +kernel
theorem dX5_takeName_90 : decode cX5_takeName 90 = .ok (.lload_n 2, 1) := by decide +kernel
theorem dX5_takeName_91 : decode cX5_takeName 91 = .ok (.lastore, 1) := by decide +kernel
theorem dX5_takeName_92 : decode cX5_takeName 92 = .ok (.aload_n 0, 1) := by decide +kernel
theorem dX5_takeName_93 : decode cX5_takeName 93 = .ok (.invokevirtual 57, 3) := by decide +kernel
theorem dX5_takeName_96 : decode cX5_takeName 96 = .ok (.iconst 1, 1) := by decide +kernel
theorem dX5_takeName_97 : decode cX5_takeName 97 = .ok (.ireturn, 1) := by decide +kernel
def kX5_takeName_92 (n : Nat) : mK := i_ldA 0 (i_cV 5 0 (FX5_advance n) (i_cst (.int (1)) (i_rZ)))
set_option maxRecDepth 20000 in
theorem okX5_takeName_92 {E : mE} {X : State → Heap → Prop} {l : Launch} (hX : mXok E X) (n : Nat) : Sd E X l yX5_takeName cX5_takeName 5 (some .boolean) 4 0 0 0 0 92 (kX5_takeName_92 n) := s_aload_n dX5_takeName_92 rfl (s_cV dX5_takeName_93 lMX5_57 bVX5_advance rfl (CtX5_advance hX n) (Nat.le_of_ble_eq_true rfl) (s_iconst dX5_takeName_96 (by decide) (s_rZ dX5_takeName_97 (Nat.le_of_ble_eq_true rfl) (Nat.le_of_ble_eq_true rfl))) (Nat.le_of_ble_eq_true rfl) (Nat.le_of_ble_eq_true rfl))
def kX5_takeName_72 (n : Nat) : mK := i_ldI 1 (i_c0 (fun x => decide (x < 0)) (kX5_takeName_92 n) (i_ldI 1 (i_ldA 0 (i_gA 5 2 (i_len (i_c2 (fun x y => decide (y ≤ x)) (kX5_takeName_92 n) (i_ldA 0 (i_gA 5 2 (i_ldI 1 (i_ldJ 2 (i_asJ (kX5_takeName_92 n))))))))))))
set_option maxRecDepth 20000 in
theorem okX5_takeName_72 {E : mE} {X : State → Heap → Prop} {l : Launch} (hX : mXok E X) (n : Nat) : Sd E X l yX5_takeName cX5_takeName 5 (some .boolean) 4 0 0 0 0 72 (kX5_takeName_72 n) := s_iload_n dX5_takeName_72 rfl (s_iflt dX5_takeName_73 (by decide) (okX5_takeName_92 hX n) (s_iload_n dX5_takeName_76 rfl (s_aload_n dX5_takeName_77 rfl (s_gA dX5_takeName_78 lFX5_9 (s_len dX5_takeName_81 (s_icge dX5_takeName_82 (by decide) (okX5_takeName_92 hX n) (s_aload_n dX5_takeName_85 rfl (s_gA dX5_takeName_86 lFX5_9 (s_iload_n dX5_takeName_89 rfl (s_lload_n dX5_takeName_90 rfl (s_last dX5_takeName_91 (okX5_takeName_92 hX n))))))))))))
def kX5_takeName_28 (n : Nat) (r28 : mK) : mK := i_ldI 4 (i_ldI 1 (i_c2 (fun x y => decide (y ≤ x)) (kX5_takeName_72 n) (i_ldI 4 (i_ldA 0 (i_gA 5 2 (i_len (i_c2 (fun x y => decide (y ≤ x)) (kX5_takeName_72 n) (i_ldA 0 (i_gA 5 2 (i_ldI 4 (i_alJ (i_ldJ 2 (i_lcmp (i_c0 (fun x => decide (¬ x = 0)) (i_inc 4 (1) (r28)) (i_ldA 0 (i_cst (.int (3)) (i_ldA 0 (i_gI 5 6 (i_cV 5 2 (FX5_fail n) (i_rZ))))))))))))))))))))
set_option maxRecDepth 20000 in
theorem okX5_takeName_28 {E : mE} {X : State → Heap → Prop} {l : Launch} (hX : mXok E X) (n : Nat) {r28 : mK} (h28 : Sd E X l yX5_takeName cX5_takeName 5 (some .boolean) 4 0 0 0 0 28 r28) : Sd E X l yX5_takeName cX5_takeName 5 (some .boolean) 4 0 0 0 0 28 (kX5_takeName_28 n r28) := s_iload dX5_takeName_28 (s_iload_n dX5_takeName_30 rfl (s_icge dX5_takeName_31 (by decide) (okX5_takeName_72 hX n) (s_iload dX5_takeName_34 (s_aload_n dX5_takeName_36 rfl (s_gA dX5_takeName_37 lFX5_9 (s_len dX5_takeName_40 (s_icge dX5_takeName_41 (by decide) (okX5_takeName_72 hX n) (s_aload_n dX5_takeName_44 rfl (s_gA dX5_takeName_45 lFX5_9 (s_iload dX5_takeName_48 (s_lald dX5_takeName_50 (s_lload_n dX5_takeName_51 rfl (s_lcmp dX5_takeName_52 (s_ifne dX5_takeName_53 (by decide) (s_iinc dX5_takeName_66 (by decide) (s_goto dX5_takeName_69 (by decide) h28)) (s_aload_n dX5_takeName_56 rfl (s_iconst dX5_takeName_57 (by decide) (s_aload_n dX5_takeName_58 rfl (s_gI dX5_takeName_59 lFX5_132 (by decide) (s_cV dX5_takeName_62 lMX5_139 bVX5_fail rfl (CtX5_fail hX n) (Nat.le_of_ble_eq_true rfl) (s_rZ dX5_takeName_65 (Nat.le_of_ble_eq_true rfl) (Nat.le_of_ble_eq_true rfl)) (Nat.le_of_ble_eq_true rfl) (Nat.le_of_ble_eq_true rfl))))))))))))))))))))
def kX5_takeName_0 (n : Nat) : mK := i_ldA 0 (i_gI 5 5 (i_cst (.int (3)) (i_c2 (fun x y => decide (x = y)) (i_ldA 0 (i_gA 5 0 (i_ldA 0 (i_gI 5 6 (i_cV 9 1 (FX9_wordFrom n) (i_stJ 2 (i_cst (.int (0)) (i_stI 4 (mit (kX5_takeName_28 n ) n))))))))) (i_ldA 0 (i_cV 5 0 (FX5_refuse n) (i_rZ))))))
set_option maxRecDepth 20000 in
theorem okX5_takeName_0 {E : mE} {X : State → Heap → Prop} {l : Launch} (hX : mXok E X) (n : Nat) : Sd E X l yX5_takeName cX5_takeName 5 (some .boolean) 4 0 0 0 0 0 (kX5_takeName_0 n) := s_aload_n dX5_takeName_0 rfl (s_gI dX5_takeName_1 lFX5_60 (by decide) (s_iconst dX5_takeName_4 (by decide) (s_iceq dX5_takeName_5 (by decide) (s_aload_n dX5_takeName_13 rfl (s_gA dX5_takeName_14 lFX5_24 (s_aload_n dX5_takeName_17 rfl (s_gI dX5_takeName_18 lFX5_132 (by decide) (s_cV dX5_takeName_21 lMX5_135 bVX9_wordFrom rfl (CtX9_wordFrom hX n) (Nat.le_of_ble_eq_true rfl) (s_lstore_n dX5_takeName_24 rfl (s_iconst dX5_takeName_25 (by decide) (s_istore dX5_takeName_26 (s_mit (fun _ hk => okX5_takeName_28 hX n hk) n)))) (Nat.le_of_ble_eq_true rfl) (Nat.le_of_ble_eq_true rfl)))))) (s_aload_n dX5_takeName_8 rfl (s_cV dX5_takeName_9 lMX5_70 bVX5_refuse rfl (CtX5_refuse hX n) (Nat.le_of_ble_eq_true rfl) (s_rZ dX5_takeName_12 (Nat.le_of_ble_eq_true rfl) (Nat.le_of_ble_eq_true rfl)) (Nat.le_of_ble_eq_true rfl) (Nat.le_of_ble_eq_true rfl))))))
def FX5_takeName (n : Nat) : List Value → mM → Option mR := mfn 5 (kX5_takeName_0 n)
theorem CtX5_takeName {E : mE} {X : State → Heap → Prop} {l : Launch} (hX : mXok E X) (n : Nat) : Ct E X l yX5_takeName cX5_takeName 5 (some .boolean) 4 0 0 (FX5_takeName n) := Ct_of (by decide) hX (okX5_takeName_0 hX n)
theorem dX8_howMany_0 : decode cX8_howMany 0 = .ok (.aload_n 0, 1) := by decide +kernel
theorem dX8_howMany_1 : decode cX8_howMany 1 = .ok (.invokevirtual 67, 3) := by decide +kernel
theorem dX8_howMany_4 : decode cX8_howMany 4 = .ok (.invokestatic 71, 3) := by decide +kernel
theorem dX8_howMany_7 : decode cX8_howMany 7 = .ok (.ireturn, 1) := by decide +kernel
def kX8_howMany_0 (n : Nat) : mK := i_ldA 0 (i_cV 8 0 (FX8_whoIsIn n) (i_cS 1 (FJ6_bitCount_0f7a4 n) (i_rI)))
set_option maxRecDepth 20000 in
theorem okX8_howMany_0 {E : mE} {X : State → Heap → Prop} {l : Launch} (hX : mXok E X) (n : Nat) : Sd E X l yX8_howMany cX8_howMany 1 (some .int) 4 0 0 0 0 0 (kX8_howMany_0 n) := s_aload_n dX8_howMany_0 rfl (s_cV dX8_howMany_1 lMX8_67 bVX8_whoIsIn rfl (CtX8_whoIsIn hX n) (Nat.le_of_ble_eq_true rfl) (s_cS dX8_howMany_4 lMX8_71 bSJ6_bitCount_0f7a4 (CtJ6_bitCount_0f7a4 hX n) (Nat.le_of_ble_eq_true rfl) (s_rI dX8_howMany_7 (Nat.le_of_ble_eq_true rfl) (Nat.le_of_ble_eq_true rfl)) (Nat.le_of_ble_eq_true rfl) (Nat.le_of_ble_eq_true rfl)) (Nat.le_of_ble_eq_true rfl) (Nat.le_of_ble_eq_true rfl))
def FX8_howMany (n : Nat) : List Value → mM → Option mR := mfn 1 (kX8_howMany_0 n)
theorem CtX8_howMany {E : mE} {X : State → Heap → Prop} {l : Launch} (hX : mXok E X) (n : Nat) : Ct E X l yX8_howMany cX8_howMany 1 (some .int) 4 0 0 (FX8_howMany n) := Ct_of (by decide) hX (okX8_howMany_0 hX n)
