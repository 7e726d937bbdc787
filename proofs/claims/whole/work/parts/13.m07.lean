theorem dX5_takeOnce_0 : decode cX5_takeOnce 0 = .ok (.aload_n 0, 1) := by decide +kernel
theorem dX5_takeOnce_1 : decode cX5_takeOnce 1 = .ok (.getfield 48, 3) := by decide +kernel
theorem dX5_takeOnce_4 : decode cX5_takeOnce 4 = .ok (.aload_n 0, 1) := by decide +kernel
theorem dX5_takeOnce_5 : decode cX5_takeOnce 5 = .ok (.invokevirtual 191, 3) := by decide +kernel
theorem dX5_takeOnce_8 : decode cX5_takeOnce 8 = .ok (.iand, 1) := by decide +kernel
theorem dX5_takeOnce_9 : decode cX5_takeOnce 9 = .ok (.ifCond .eq 8, 3) := by decide +kernel
theorem dX5_takeOnce_12 : decode cX5_takeOnce 12 = .ok (.aload_n 0, 1) := by decide +kernel
theorem dX5_takeOnce_13 : decode cX5_takeOnce 13 = .ok (.invokevirtual 70, 3) := by decide +kernel
theorem dX5_takeOnce_16 : decode cX5_takeOnce 16 = .ok (.ireturn, 1) := by decide +kernel
theorem dX5_takeOnce_17 : decode cX5_takeOnce 17 = .ok (.aload_n 0, 1) := by decide +kernel
theorem dX5_takeOnce_18 : decode cX5_takeOnce 18 = .ok (.invokevirtual 92, 3) := by decide +kernel
theorem dX5_takeOnce_21 : decode cX5_takeOnce 21 = .ok (.iconst 1, 1) := by decide +kernel
theorem dX5_takeOnce_22 : decode cX5_takeOnce 22 = .ok (.ireturn, 1) := by decide +kernel
def kX5_takeOnce_0 (n : Nat) : mK := i_ldA 0 (i_gI 5 9 (i_ldA 0 (i_cV 5 0 (FX5_sortOfLine n) (i_bin (fun x y => x &&& y) (i_c0 (fun x => decide (x = 0)) (i_ldA 0 (i_cV 5 0 (FX5_takeSort n) (i_cst (.int (1)) (i_rZ)))) (i_ldA 0 (i_cV 5 0 (FX5_refuse n) (i_rZ))))))))
set_option maxRecDepth 20000 in
theorem okX5_takeOnce_0 {E : mE} {X : State → Heap → Prop} {l : Launch} (hX : mXok E X) (n : Nat) : Sd E X l yX5_takeOnce cX5_takeOnce 1 (some .boolean) 3 0 0 0 0 0 (kX5_takeOnce_0 n) := s_aload_n dX5_takeOnce_0 rfl (s_gI dX5_takeOnce_1 lFX5_48 (by decide) (s_aload_n dX5_takeOnce_4 rfl (s_cV dX5_takeOnce_5 lMX5_191 bVX5_sortOfLine rfl (CtX5_sortOfLine hX n) (Nat.le_of_ble_eq_true rfl) (s_iand dX5_takeOnce_8 (s_ifeq dX5_takeOnce_9 (by decide) (s_aload_n dX5_takeOnce_17 rfl (s_cV dX5_takeOnce_18 lMX5_92 bVX5_takeSort rfl (CtX5_takeSort hX n) (Nat.le_of_ble_eq_true rfl) (s_iconst dX5_takeOnce_21 (by decide) (s_rZ dX5_takeOnce_22 (Nat.le_of_ble_eq_true rfl) (Nat.le_of_ble_eq_true rfl))) (Nat.le_of_ble_eq_true rfl) (Nat.le_of_ble_eq_true rfl))) (s_aload_n dX5_takeOnce_12 rfl (s_cV dX5_takeOnce_13 lMX5_70 bVX5_refuse rfl (CtX5_refuse hX n) (Nat.le_of_ble_eq_true rfl) (s_rZ dX5_takeOnce_16 (Nat.le_of_ble_eq_true rfl) (Nat.le_of_ble_eq_true rfl)) (Nat.le_of_ble_eq_true rfl) (Nat.le_of_ble_eq_true rfl))))) (Nat.le_of_ble_eq_true rfl) (Nat.le_of_ble_eq_true rfl))))
def FX5_takeOnce (n : Nat) : List Value → mM → Option mR := mfn 1 (kX5_takeOnce_0 n)
theorem CtX5_takeOnce {E : mE} {X : State → Heap → Prop} {l : Launch} (hX : mXok E X) (n : Nat) : Ct E X l yX5_takeOnce cX5_takeOnce 1 (some .boolean) 3 0 0 (FX5_takeOnce n) := Ct_of (by decide) hX (okX5_takeOnce_0 hX n)
theorem dX7_layRests_0 : decode cX7_layRests 0 = .ok (.iconst 0, 1) := by decide +kernel
theorem dX7_layRests_1 : decode cX7_layRests 1 = .ok (.istore_n 2, 1) := by decide +kernel
theorem dX7_layRests_2 : decode cX7_layRests 2 = .ok (.iconst 0, 1) := by decide +kernel
theorem dX7_layRests_3 : decode cX7_layRests 3 = .ok (.istore_n 3, 1) := by decide +kernel
theorem dX7_layRests_4 : decode cX7_layRests 4 = .ok (.iload_n 3, 1) := by decide +kernel
theorem dX7_layRests_5 : decode cX7_layRests 5 = .ok (.bipush 10, 2) := by decide +kernel
theorem dX7_layRests_7 : decode cX7_layRests 7 = .ok (.if_icmp .ge 53, 3) := by decide +kernel
theorem dX7_layRests_10 : decode cX7_layRests 10 = .ok (.iconst 0, 1) := by decide +kernel
theorem dX7_layRests_11 : decode cX7_layRests 11 = .ok (.istore 4, 2) := by decide +kernel
theorem dX7_layRests_13 : decode cX7_layRests 13 = .ok (.iload 4, 2) := by decide +kernel
theorem dX7_layRests_15 : decode cX7_layRests 15 = .ok (.bipush 10, 2) := by decide +kernel
theorem dX7_layRests_17 : decode cX7_layRests 17 = .ok (.if_icmp .ge 37, 3) := by decide +kernel
theorem dX7_layRests_20 : decode cX7_layRests 20 = .ok (.aload_n 0, 1) := by decide +kernel
theorem dX7_layRests_21 : decode cX7_layRests 21 = .ok (.iload_n 3, 1) := by decide +kernel
theorem dX7_layRests_22 : decode cX7_layRests 22 = .ok (.iload 4, 2) := by decide +kernel
theorem dX7_layRests_24 : decode cX7_layRests 24 = .ok (.invokevirtual 23, 3) := by decide +kernel
theorem dX7_layRests_27 : decode cX7_layRests 27 = .ok (.ifCond .eq 21, 3) := by decide +kernel
theorem dX7_layRests_30 : decode cX7_layRests 30 = .ok (.iload_n 2, 1) := by decide +kernel
theorem dX7_layRests_31 : decode cX7_layRests 31 = .ok (.ifCond .ne 14, 3) := by decide +kernel
theorem dX7_layRests_34 : decode cX7_layRests 34 = .ok (.aload_n 1, 1) := by decide +kernel
theorem dX7_layRests_35 : decode cX7_layRests 35 = .ok (.iload_n 3, 1) := by decide +kernel
theorem dX7_layRests_36 : decode cX7_layRests 36 = .ok (.invokevirtual 27, 3) := by decide +kernel
theorem dX7_layRests_39 : decode cX7_layRests 39 = .ok (.aload_n 1, 1) := by decide +kernel
theorem dX7_layRests_40 : decode cX7_layRests 40 = .ok (.iload 4, 2) := by decide +kernel
theorem dX7_layRests_42 : decode cX7_layRests 42 = .ok (.invokevirtual 27, 3) := by decide +kernel
theorem dX7_layRests_45 : decode cX7_layRests 45 = .ok (.iinc 2 1, 3) := by decide +kernel
theorem dX7_layRests_48 : decode cX7_layRests 48 = .ok (.iinc 4 1, 3) := by decide +kernel
theorem dX7_layRests_51 : decode cX7_layRests 51 = .ok (.goto (-38), 3) := by decide +kernel
theorem dX7_layRests_54 : decode cX7_layRests 54 = .ok (.iinc 3 1, 3) := by decide +kernel
theorem dX7_layRests_57 : decode cX7_layRests 57 = .ok (.goto (-53), 3) := by decide +kernel
theorem dX7_layRests_60 : decode cX7_layRests 60 = .ok (.iload_n 2, 1) := by decide +kernel
theorem dX7_layRests_61 : decode cX7_layRests 61 = .ok (.ireturn, 1) := by decide +kernel
def kX7_layRests_48 (n : Nat) (r4 : mK) (r13 : mK) : mK := i_inc 4 (1) (r13)
set_option maxRecDepth 20000 in
theorem okX7_layRests_48 {E : mE} {X : State → Heap → Prop} {l : Launch} (hX : mXok E X) (n : Nat) {r4 : mK} (h4 : Sd E X l yX7_layRests cX7_layRests 5 (some .int) 3 0 0 0 0 4 r4) {r13 : mK} (h13 : Sd E X l yX7_layRests cX7_layRests 5 (some .int) 3 0 0 0 0 13 r13) : Sd E X l yX7_layRests cX7_layRests 5 (some .int) 3 0 0 0 0 48 (kX7_layRests_48 n r4 r13) := s_iinc dX7_layRests_48 (by decide) (s_goto dX7_layRests_51 (by decide) h13)
def kX7_layRests_45 (n : Nat) (r4 : mK) (r13 : mK) : mK := i_inc 2 (1) (kX7_layRests_48 n r4 r13)
set_option maxRecDepth 20000 in
theorem okX7_layRests_45 {E : mE} {X : State → Heap → Prop} {l : Launch} (hX : mXok E X) (n : Nat) {r4 : mK} (h4 : Sd E X l yX7_layRests cX7_layRests 5 (some .int) 3 0 0 0 0 4 r4) {r13 : mK} (h13 : Sd E X l yX7_layRests cX7_layRests 5 (some .int) 3 0 0 0 0 13 r13) : Sd E X l yX7_layRests cX7_layRests 5 (some .int) 3 0 0 0 0 45 (kX7_layRests_45 n r4 r13) := s_iinc dX7_layRests_45 (by decide) (okX7_layRests_48 hX n h4 h13)
def kX7_layRests_13 (n : Nat) (r4 : mK) (r13 : mK) : mK := i_ldI 4 (i_cst (.int (10)) (i_c2 (fun x y => decide (y ≤ x)) (i_inc 3 (1) (r4)) (i_ldA 0 (i_ldI 3 (i_ldI 4 (i_cV 7 2 (FX7_rests n) (i_c0 (fun x => decide (x = 0)) (kX7_layRests_48 n r4 r13) (i_ldI 2 (i_c0 (fun x => decide (¬ x = 0)) (kX7_layRests_45 n r4 r13) (i_ldA 1 (i_ldI 3 (i_cV 6 1 (FX6_add n) (i_ldA 1 (i_ldI 4 (i_cV 6 1 (FX6_add n) (kX7_layRests_45 n r4 r13))))))))))))))))
set_option maxRecDepth 20000 in
theorem okX7_layRests_13 {E : mE} {X : State → Heap → Prop} {l : Launch} (hX : mXok E X) (n : Nat) {r4 : mK} (h4 : Sd E X l yX7_layRests cX7_layRests 5 (some .int) 3 0 0 0 0 4 r4) {r13 : mK} (h13 : Sd E X l yX7_layRests cX7_layRests 5 (some .int) 3 0 0 0 0 13 r13) : Sd E X l yX7_layRests cX7_layRests 5 (some .int) 3 0 0 0 0 13 (kX7_layRests_13 n r4 r13) := s_iload dX7_layRests_13 (s_bipush dX7_layRests_15 (by decide) (s_icge dX7_layRests_17 (by decide) (s_iinc dX7_layRests_54 (by decide) (s_goto dX7_layRests_57 (by decide) h4)) (s_aload_n dX7_layRests_20 rfl (s_iload_n dX7_layRests_21 rfl (s_iload dX7_layRests_22 (s_cV dX7_layRests_24 lMX7_23 bVX7_rests rfl (CtX7_rests hX n) (Nat.le_of_ble_eq_true rfl) (s_ifeq dX7_layRests_27 (by decide) (okX7_layRests_48 hX n h4 h13) (s_iload_n dX7_layRests_30 rfl (s_ifne dX7_layRests_31 (by decide) (okX7_layRests_45 hX n h4 h13) (s_aload_n dX7_layRests_34 rfl (s_iload_n dX7_layRests_35 rfl (s_cV dX7_layRests_36 lMX7_27 bVX6_add rfl (CtX6_add hX n) (Nat.le_of_ble_eq_true rfl) (s_aload_n dX7_layRests_39 rfl (s_iload dX7_layRests_40 (s_cV dX7_layRests_42 lMX7_27 bVX6_add rfl (CtX6_add hX n) (Nat.le_of_ble_eq_true rfl) (okX7_layRests_45 hX n h4 h13) (Nat.le_of_ble_eq_true rfl) (Nat.le_of_ble_eq_true rfl)))) (Nat.le_of_ble_eq_true rfl) (Nat.le_of_ble_eq_true rfl))))))) (Nat.le_of_ble_eq_true rfl) (Nat.le_of_ble_eq_true rfl)))))))
def kX7_layRests_4 (n : Nat) (r4 : mK) : mK := i_ldI 3 (i_cst (.int (10)) (i_c2 (fun x y => decide (y ≤ x)) (i_ldI 2 (i_rI)) (i_cst (.int (0)) (i_stI 4 (mit (kX7_layRests_13 n r4) n)))))
set_option maxRecDepth 20000 in
theorem okX7_layRests_4 {E : mE} {X : State → Heap → Prop} {l : Launch} (hX : mXok E X) (n : Nat) {r4 : mK} (h4 : Sd E X l yX7_layRests cX7_layRests 5 (some .int) 3 0 0 0 0 4 r4) : Sd E X l yX7_layRests cX7_layRests 5 (some .int) 3 0 0 0 0 4 (kX7_layRests_4 n r4) := s_iload_n dX7_layRests_4 rfl (s_bipush dX7_layRests_5 (by decide) (s_icge dX7_layRests_7 (by decide) (s_iload_n dX7_layRests_60 rfl (s_rI dX7_layRests_61 (Nat.le_of_ble_eq_true rfl) (Nat.le_of_ble_eq_true rfl))) (s_iconst dX7_layRests_10 (by decide) (s_istore dX7_layRests_11 (s_mit (fun _ hk => okX7_layRests_13 hX n h4 hk) n)))))
def kX7_layRests_0 (n : Nat) : mK := i_cst (.int (0)) (i_stI 2 (i_cst (.int (0)) (i_stI 3 (mit (kX7_layRests_4 n ) n))))
set_option maxRecDepth 20000 in
theorem okX7_layRests_0 {E : mE} {X : State → Heap → Prop} {l : Launch} (hX : mXok E X) (n : Nat) : Sd E X l yX7_layRests cX7_layRests 5 (some .int) 3 0 0 0 0 0 (kX7_layRests_0 n) := s_iconst dX7_layRests_0 (by decide) (s_istore_n dX7_layRests_1 rfl (s_iconst dX7_layRests_2 (by decide) (s_istore_n dX7_layRests_3 rfl (s_mit (fun _ hk => okX7_layRests_4 hX n hk) n))))
def FX7_layRests (n : Nat) : List Value → mM → Option mR := mfn 5 (kX7_layRests_0 n)
theorem CtX7_layRests {E : mE} {X : State → Heap → Prop} {l : Launch} (hX : mXok E X) (n : Nat) : Ct E X l yX7_layRests cX7_layRests 5 (some .int) 3 0 0 (FX7_layRests n) := Ct_of (by decide) hX (okX7_layRests_0 hX n)
theorem dX8_allHoots_0 : decode cX8_allHoots 0 = .ok (.iconst 0, 1) := by decide +kernel
theorem dX8_allHoots_1 : decode cX8_allHoots 1 = .ok (.istore_n 1, 1) := by decide +kernel
theorem dX8_allHoots_2 : decode cX8_allHoots 2 = .ok (.iconst 0, 1) := by decide +kernel
theorem dX8_allHoots_3 : decode cX8_allHoots 3 = .ok (.istore_n 2, 1) := by decide +kernel
theorem dX8_allHoots_4 : decode cX8_allHoots 4 = .ok (.iload_n 2, 1) := by decide +kernel
theorem dX8_allHoots_5 : decode cX8_allHoots 5 = .ok (.bipush 8, 2) := by decide +kernel
theorem dX8_allHoots_7 : decode cX8_allHoots 7 = .ok (.if_icmp .ge 28, 3) := by decide +kernel
theorem dX8_allHoots_10 : decode cX8_allHoots 10 = .ok (.aload_n 0, 1) := by decide +kernel
theorem dX8_allHoots_11 : decode cX8_allHoots 11 = .ok (.iload_n 2, 1) := by decide +kernel
theorem dX8_allHoots_12 : decode cX8_allHoots 12 = .ok (.invokevirtual 60, 3) := by decide +kernel
theorem dX8_allHoots_15 : decode cX8_allHoots 15 = .ok (.ifCond .eq 14, 3) := by decide +kernel
theorem dX8_allHoots_18 : decode cX8_allHoots 18 = .ok (.iload_n 1, 1) := by decide +kernel
theorem dX8_allHoots_19 : decode cX8_allHoots 19 = .ok (.aload_n 0, 1) := by decide +kernel
theorem dX8_allHoots_20 : decode cX8_allHoots 20 = .ok (.getfield 18, 3) := by decide +kernel
theorem dX8_allHoots_23 : decode cX8_allHoots 23 = .ok (.iload_n 2, 1) := by decide +kernel
theorem dX8_allHoots_24 : decode cX8_allHoots 24 = .ok (.invokestatic 48, 3) := by decide +kernel
theorem dX8_allHoots_27 : decode cX8_allHoots 27 = .ok (.iadd, 1) := by decide +kernel
theorem dX8_allHoots_28 : decode cX8_allHoots 28 = .ok (.istore_n 1, 1) := by decide +kernel
theorem dX8_allHoots_29 : decode cX8_allHoots 29 = .ok (.iinc 2 1, 3) := by decide +kernel
theorem dX8_allHoots_32 : decode cX8_allHoots 32 = .ok (.goto (-28), 3) := by decide +kernel
theorem dX8_allHoots_35 : decode cX8_allHoots 35 = .ok (.iload_n 1, 1) := by decide +kernel
theorem dX8_allHoots_36 : decode cX8_allHoots 36 = .ok (.ireturn, 1) := by decide +kernel
def kX8_allHoots_29 (n : Nat) (r4 : mK) : mK := i_inc 2 (1) (r4)
set_option maxRecDepth 20000 in
theorem okX8_allHoots_29 {E : mE} {X : State → Heap → Prop} {l : Launch} (hX : mXok E X) (n : Nat) {r4 : mK} (h4 : Sd E X l yX8_allHoots cX8_allHoots 3 (some .int) 3 0 0 0 0 4 r4) : Sd E X l yX8_allHoots cX8_allHoots 3 (some .int) 3 0 0 0 0 29 (kX8_allHoots_29 n r4) := s_iinc dX8_allHoots_29 (by decide) (s_goto dX8_allHoots_32 (by decide) h4)
def kX8_allHoots_4 (n : Nat) (r4 : mK) : mK := i_ldI 2 (i_cst (.int (8)) (i_c2 (fun x y => decide (y ≤ x)) (i_ldI 1 (i_rI)) (i_ldA 0 (i_ldI 2 (i_cV 8 1 (FX8_isIn n) (i_c0 (fun x => decide (x = 0)) (kX8_allHoots_29 n r4) (i_ldI 1 (i_ldA 0 (i_gA 8 3 (i_ldI 2 (i_cS 2 (FX11_at n) (i_bin (fun x y => x + y) (i_stI 1 (kX8_allHoots_29 n r4))))))))))))))
set_option maxRecDepth 20000 in
theorem okX8_allHoots_4 {E : mE} {X : State → Heap → Prop} {l : Launch} (hX : mXok E X) (n : Nat) {r4 : mK} (h4 : Sd E X l yX8_allHoots cX8_allHoots 3 (some .int) 3 0 0 0 0 4 r4) : Sd E X l yX8_allHoots cX8_allHoots 3 (some .int) 3 0 0 0 0 4 (kX8_allHoots_4 n r4) := s_iload_n dX8_allHoots_4 rfl (s_bipush dX8_allHoots_5 (by decide) (s_icge dX8_allHoots_7 (by decide) (s_iload_n dX8_allHoots_35 rfl (s_rI dX8_allHoots_36 (Nat.le_of_ble_eq_true rfl) (Nat.le_of_ble_eq_true rfl))) (s_aload_n dX8_allHoots_10 rfl (s_iload_n dX8_allHoots_11 rfl (s_cV dX8_allHoots_12 lMX8_60 bVX8_isIn rfl (CtX8_isIn hX n) (Nat.le_of_ble_eq_true rfl) (s_ifeq dX8_allHoots_15 (by decide) (okX8_allHoots_29 hX n h4) (s_iload_n dX8_allHoots_18 rfl (s_aload_n dX8_allHoots_19 rfl (s_gA dX8_allHoots_20 lFX8_18 (s_iload_n dX8_allHoots_23 rfl (s_cN dX8_allHoots_24 lNX8_48 bSX11_at (CtX11_at hX n) (Nat.le_of_ble_eq_true rfl) (s_iadd dX8_allHoots_27 (s_istore_n dX8_allHoots_28 rfl (okX8_allHoots_29 hX n h4))) (Nat.le_of_ble_eq_true rfl) (Nat.le_of_ble_eq_true rfl))))))) (Nat.le_of_ble_eq_true rfl) (Nat.le_of_ble_eq_true rfl))))))
def kX8_allHoots_0 (n : Nat) : mK := i_cst (.int (0)) (i_stI 1 (i_cst (.int (0)) (i_stI 2 (mit (kX8_allHoots_4 n ) n))))
set_option maxRecDepth 20000 in
theorem okX8_allHoots_0 {E : mE} {X : State → Heap → Prop} {l : Launch} (hX : mXok E X) (n : Nat) : Sd E X l yX8_allHoots cX8_allHoots 3 (some .int) 3 0 0 0 0 0 (kX8_allHoots_0 n) := s_iconst dX8_allHoots_0 (by decide) (s_istore_n dX8_allHoots_1 rfl (s_iconst dX8_allHoots_2 (by decide) (s_istore_n dX8_allHoots_3 rfl (s_mit (fun _ hk => okX8_allHoots_4 hX n hk) n))))
def FX8_allHoots (n : Nat) : List Value → mM → Option mR := mfn 3 (kX8_allHoots_0 n)
theorem CtX8_allHoots {E : mE} {X : State → Heap → Prop} {l : Launch} (hX : mXok E X) (n : Nat) : Ct E X l yX8_allHoots cX8_allHoots 3 (some .int) 3 0 0 (FX8_allHoots n) := Ct_of (by decide) hX (okX8_allHoots_0 hX n)
theorem dX8_breakLamps_0 : decode cX8_breakLamps 0 = .ok (.iconst 0, 1) := by decide +kernel
theorem dX8_breakLamps_1 : decode cX8_breakLamps 1 = .ok (.istore_n 1, 1) := by decide +kernel
theorem dX8_breakLamps_2 : decode cX8_breakLamps 2 = .ok (.iconst 0, 1) := by decide +kernel
theorem dX8_breakLamps_3 : decode cX8_breakLamps 3 = .ok (.istore_n 2, 1) := by decide +kernel
theorem dX8_breakLamps_4 : decode cX8_breakLamps 4 = .ok (.iload_n 2, 1) := by decide +kernel
theorem dX8_breakLamps_5 : decode cX8_breakLamps 5 = .ok (.bipush 8, 2) := by decide +kernel
theorem dX8_breakLamps_7 : decode cX8_breakLamps 7 = .ok (.if_icmp .ge 82, 3) := by decide +kernel
theorem dX8_breakLamps_10 : decode cX8_breakLamps 10 = .ok (.aload_n 0, 1) := by decide +kernel
theorem dX8_breakLamps_11 : decode cX8_breakLamps 11 = .ok (.iload_n 2, 1) := by decide +kernel
theorem dX8_breakLamps_12 : decode cX8_breakLamps 12 = .ok (.invokevirtual 60, 3) := by decide +kernel
theorem dX8_breakLamps_15 : decode cX8_breakLamps 15 = .ok (.ifCond .eq 68, 3) := by decide +kernel
theorem dX8_breakLamps_18 : decode cX8_breakLamps 18 = .ok (.aload_n 0, 1) := by decide +kernel
theorem dX8_breakLamps_19 : decode cX8_breakLamps 19 = .ok (.aload_n 0, 1) := by decide +kernel
theorem dX8_breakLamps_20 : decode cX8_breakLamps 20 = .ok (.getfield 45, 3) := by decide +kernel
theorem dX8_breakLamps_23 : decode cX8_breakLamps 23 = .ok (.sipush 137, 3) := by decide +kernel
theorem dX8_breakLamps_26 : decode cX8_breakLamps 26 = .ok (.imul, 1) := by decide +kernel
theorem dX8_breakLamps_27 : decode cX8_breakLamps 27 = .ok (.bipush 71, 2) := by decide +kernel
theorem dX8_breakLamps_29 : decode cX8_breakLamps 29 = .ok (.iadd, 1) := by decide +kernel
theorem dX8_breakLamps_30 : decode cX8_breakLamps 30 = .ok (.sipush 1000, 3) := by decide +kernel
theorem dX8_breakLamps_33 : decode cX8_breakLamps 33 = .ok (.irem, 1) := by decide +kernel
theorem dX8_breakLamps_34 : decode cX8_breakLamps 34 = .ok (.putfield 45, 3) := by decide +kernel
theorem dX8_breakLamps_37 : decode cX8_breakLamps 37 = .ok (.aload_n 0, 1) := by decide +kernel
theorem dX8_breakLamps_38 : decode cX8_breakLamps 38 = .ok (.getfield 45, 3) := by decide +kernel
theorem dX8_breakLamps_41 : decode cX8_breakLamps 41 = .ok (.bipush 100, 2) := by decide +kernel
theorem dX8_breakLamps_43 : decode cX8_breakLamps 43 = .ok (.irem, 1) := by decide +kernel
theorem dX8_breakLamps_44 : decode cX8_breakLamps 44 = .ok (.aload_n 0, 1) := by decide +kernel
theorem dX8_breakLamps_45 : decode cX8_breakLamps 45 = .ok (.getfield 24, 3) := by decide +kernel
theorem dX8_breakLamps_48 : decode cX8_breakLamps 48 = .ok (.getfield 107, 3) := by decide +kernel
theorem dX8_breakLamps_51 : decode cX8_breakLamps 51 = .ok (.if_icmp .ge 32, 3) := by decide +kernel
theorem dX8_breakLamps_54 : decode cX8_breakLamps 54 = .ok (.iload_n 1, 1) := by decide +kernel
theorem dX8_breakLamps_55 : decode cX8_breakLamps 55 = .ok (.iload_n 2, 1) := by decide +kernel
theorem dX8_breakLamps_56 : decode cX8_breakLamps 56 = .ok (.invokestatic 63, 3) := by decide +kernel
theorem dX8_breakLamps_59 : decode cX8_breakLamps 59 = .ok (.ior, 1) := by decide +kernel
theorem dX8_breakLamps_60 : decode cX8_breakLamps 60 = .ok (.istore_n 1, 1) := by decide +kernel
theorem dX8_breakLamps_61 : decode cX8_breakLamps 61 = .ok (.aload_n 0, 1) := by decide +kernel
theorem dX8_breakLamps_62 : decode cX8_breakLamps 62 = .ok (.getfield 21, 3) := by decide +kernel
theorem dX8_breakLamps_65 : decode cX8_breakLamps 65 = .ok (.iload_n 2, 1) := by decide +kernel
theorem dX8_breakLamps_66 : decode cX8_breakLamps 66 = .ok (.iconst 0, 1) := by decide +kernel
theorem dX8_breakLamps_67 : decode cX8_breakLamps 67 = .ok (.aload_n 0, 1) := by decide +kernel
theorem dX8_breakLamps_68 : decode cX8_breakLamps 68 = .ok (.getfield 21, 3) := by decide +kernel
theorem dX8_breakLamps_71 : decode cX8_breakLamps 71 = .ok (.iload_n 2, 1) := by decide +kernel
theorem dX8_breakLamps_72 : decode cX8_breakLamps 72 = .ok (.invokestatic 48, 3) := by decide +kernel
theorem dX8_breakLamps_75 : decode cX8_breakLamps 75 = .ok (.iconst 1, 1) := by decide +kernel
theorem dX8_breakLamps_76 : decode cX8_breakLamps 76 = .ok (.isub, 1) := by decide +kernel
theorem dX8_breakLamps_77 : decode cX8_breakLamps 77 = .ok (.invokestatic 110, 3) := by decide +kernel
theorem dX8_breakLamps_80 : decode cX8_breakLamps 80 = .ok (.invokestatic 52, 3) := by decide +kernel
theorem dX8_breakLamps_83 : decode cX8_breakLamps 83 = .ok (.iinc 2 1, 3) := by decide +kernel
theorem dX8_breakLamps_86 : decode cX8_breakLamps 86 = .ok (.goto (-82), 3) := by decide +kernel
theorem dX8_breakLamps_89 : decode cX8_breakLamps 89 = .ok (.iload_n 1, 1) := by decide +kernel
theorem dX8_breakLamps_90 : decode cX8_breakLamps 90 = .ok (.ireturn, 1) := by decide +kernel
def kX8_breakLamps_83 (n : Nat) (r4 : mK) : mK := i_inc 2 (1) (r4)
set_option maxRecDepth 20000 in
theorem okX8_breakLamps_83 {E : mE} {X : State → Heap → Prop} {l : Launch} (hX : mXok E X) (n : Nat) {r4 : mK} (h4 : Sd E X l yX8_breakLamps cX8_breakLamps 3 (some .int) 3 0 0 0 0 4 r4) : Sd E X l yX8_breakLamps cX8_breakLamps 3 (some .int) 3 0 0 0 0 83 (kX8_breakLamps_83 n r4) := s_iinc dX8_breakLamps_83 (by decide) (s_goto dX8_breakLamps_86 (by decide) h4)
def kX8_breakLamps_51 (n : Nat) (r4 : mK) : mK := i_c2 (fun x y => decide (y ≤ x)) (kX8_breakLamps_83 n r4) (i_ldI 1 (i_ldI 2 (i_cS 1 (FX11_bit n) (i_bin (fun x y => x ||| y) (i_stI 1 (i_ldA 0 (i_gA 8 4 (i_ldI 2 (i_cst (.int (0)) (i_ldA 0 (i_gA 8 4 (i_ldI 2 (i_cS 2 (FX11_at n) (i_cst (.int (1)) (i_bin (fun x y => x - y) (i_mm (fun x y => if x < y then y else x) (i_cS 3 (FX11_set n) (kX8_breakLamps_83 n r4))))))))))))))))))
set_option maxRecDepth 20000 in
theorem okX8_breakLamps_51 {E : mE} {X : State → Heap → Prop} {l : Launch} (hX : mXok E X) (n : Nat) {r4 : mK} (h4 : Sd E X l yX8_breakLamps cX8_breakLamps 3 (some .int) 3 0 0 0 0 4 r4) : Sd E X l yX8_breakLamps cX8_breakLamps 3 (some .int) 3 0 0 0 0 51 (kX8_breakLamps_51 n r4) := s_icge dX8_breakLamps_51 (by decide) (okX8_breakLamps_83 hX n h4) (s_iload_n dX8_breakLamps_54 rfl (s_iload_n dX8_breakLamps_55 rfl (s_cN dX8_breakLamps_56 lNX8_63 bSX11_bit (CtX11_bit hX n) (Nat.le_of_ble_eq_true rfl) (s_ior dX8_breakLamps_59 (s_istore_n dX8_breakLamps_60 rfl (s_aload_n dX8_breakLamps_61 rfl (s_gA dX8_breakLamps_62 lFX8_21 (s_iload_n dX8_breakLamps_65 rfl (s_iconst dX8_breakLamps_66 (by decide) (s_aload_n dX8_breakLamps_67 rfl (s_gA dX8_breakLamps_68 lFX8_21 (s_iload_n dX8_breakLamps_71 rfl (s_cN dX8_breakLamps_72 lNX8_48 bSX11_at (CtX11_at hX n) (Nat.le_of_ble_eq_true rfl) (s_iconst dX8_breakLamps_75 (by decide) (s_isub dX8_breakLamps_76 (s_max dX8_breakLamps_77 lMX8_110 lmax1 lMath0 lmax2 (Nat.le_of_ble_eq_true rfl) (s_cN dX8_breakLamps_80 lNX8_52 bSX11_set (CtX11_set hX n) (Nat.le_of_ble_eq_true rfl) (okX8_breakLamps_83 hX n h4) (Nat.le_of_ble_eq_true rfl) (Nat.le_of_ble_eq_true rfl)) (Nat.le_of_ble_eq_true rfl) (Nat.le_of_ble_eq_true rfl)))) (Nat.le_of_ble_eq_true rfl) (Nat.le_of_ble_eq_true rfl))))))))))) (Nat.le_of_ble_eq_true rfl) (Nat.le_of_ble_eq_true rfl))))
def kX8_breakLamps_4 (n : Nat) (r4 : mK) : mK := i_ldI 2 (i_cst (.int (8)) (i_c2 (fun x y => decide (y ≤ x)) (i_ldI 1 (i_rI)) (i_ldA 0 (i_ldI 2 (i_cV 8 1 (FX8_isIn n) (i_c0 (fun x => decide (x = 0)) (kX8_breakLamps_83 n r4) (i_ldA 0 (i_ldA 0 (i_gI 8 6 (i_cst (.int (137)) (i_bin (fun x y => x * y) (i_cst (.int (71)) (i_bin (fun x y => x + y) (i_cst (.int (1000)) (i_dv (fun x y => x - x / y * y) (i_pI 8 6 (i_ldA 0 (i_gI 8 6 (i_cst (.int (100)) (i_dv (fun x y => x - x / y * y) (i_ldA 0 (i_gA 8 0 (i_gI 4 3 (kX8_breakLamps_51 n r4))))))))))))))))))))))))
set_option maxRecDepth 20000 in
theorem okX8_breakLamps_4 {E : mE} {X : State → Heap → Prop} {l : Launch} (hX : mXok E X) (n : Nat) {r4 : mK} (h4 : Sd E X l yX8_breakLamps cX8_breakLamps 3 (some .int) 3 0 0 0 0 4 r4) : Sd E X l yX8_breakLamps cX8_breakLamps 3 (some .int) 3 0 0 0 0 4 (kX8_breakLamps_4 n r4) := s_iload_n dX8_breakLamps_4 rfl (s_bipush dX8_breakLamps_5 (by decide) (s_icge dX8_breakLamps_7 (by decide) (s_iload_n dX8_breakLamps_89 rfl (s_rI dX8_breakLamps_90 (Nat.le_of_ble_eq_true rfl) (Nat.le_of_ble_eq_true rfl))) (s_aload_n dX8_breakLamps_10 rfl (s_iload_n dX8_breakLamps_11 rfl (s_cV dX8_breakLamps_12 lMX8_60 bVX8_isIn rfl (CtX8_isIn hX n) (Nat.le_of_ble_eq_true rfl) (s_ifeq dX8_breakLamps_15 (by decide) (okX8_breakLamps_83 hX n h4) (s_aload_n dX8_breakLamps_18 rfl (s_aload_n dX8_breakLamps_19 rfl (s_gI dX8_breakLamps_20 lFX8_45 (by decide) (s_sipush dX8_breakLamps_23 (by decide) (s_imul dX8_breakLamps_26 (s_bipush dX8_breakLamps_27 (by decide) (s_iadd dX8_breakLamps_29 (s_sipush dX8_breakLamps_30 (by decide) (s_irem dX8_breakLamps_33 (s_pI dX8_breakLamps_34 lFX8_45 (s_aload_n dX8_breakLamps_37 rfl (s_gI dX8_breakLamps_38 lFX8_45 (by decide) (s_bipush dX8_breakLamps_41 (by decide) (s_irem dX8_breakLamps_43 (s_aload_n dX8_breakLamps_44 rfl (s_gA dX8_breakLamps_45 lFX8_24 (s_gI dX8_breakLamps_48 lFX8_107 (by decide) (okX8_breakLamps_51 hX n h4))))))))))))))))))) (Nat.le_of_ble_eq_true rfl) (Nat.le_of_ble_eq_true rfl))))))
def kX8_breakLamps_0 (n : Nat) : mK := i_cst (.int (0)) (i_stI 1 (i_cst (.int (0)) (i_stI 2 (mit (kX8_breakLamps_4 n ) n))))
set_option maxRecDepth 20000 in
theorem okX8_breakLamps_0 {E : mE} {X : State → Heap → Prop} {l : Launch} (hX : mXok E X) (n : Nat) : Sd E X l yX8_breakLamps cX8_breakLamps 3 (some .int) 3 0 0 0 0 0 (kX8_breakLamps_0 n) := s_iconst dX8_breakLamps_0 (by decide) (s_istore_n dX8_breakLamps_1 rfl (s_iconst dX8_breakLamps_2 (by decide) (s_istore_n dX8_breakLamps_3 rfl (s_mit (fun _ hk => okX8_breakLamps_4 hX n hk) n))))
def FX8_breakLamps (n : Nat) : List Value → mM → Option mR := mfn 3 (kX8_breakLamps_0 n)
theorem CtX8_breakLamps {E : mE} {X : State → Heap → Prop} {l : Launch} (hX : mXok E X) (n : Nat) : Ct E X l yX8_breakLamps cX8_breakLamps 3 (some .int) 3 0 0 (FX8_breakLamps n) := Ct_of (by decide) hX (okX8_breakLamps_0 hX n)
theorem dX8_hasOnLine_0 : decode cX8_hasOnLine 0 = .ok (.aload_n 0, 1) := by decide +kernel
theorem dX8_hasOnLine_1 : decode cX8_hasOnLine 1 = .ok (.iload_n 1, 1) := by decide +kernel
theorem dX8_hasOnLine_2 : decode cX8_hasOnLine 2 = .ok (.invokevirtual 60, 3) := by decide +kernel
theorem dX8_hasOnLine_5 : decode cX8_hasOnLine 5 = .ok (.ifCond .eq 34, 3) := by decide +kernel
theorem dX8_hasOnLine_8 : decode cX8_hasOnLine 8 = .ok (.aload_n 0, 1) := by decide +kernel
theorem dX8_hasOnLine_9 : decode cX8_hasOnLine 9 = .ok (.getfield 24, 3) := by decide +kernel
theorem dX8_hasOnLine_12 : decode cX8_hasOnLine 12 = .ok (.aload_n 0, 1) := by decide +kernel
theorem dX8_hasOnLine_13 : decode cX8_hasOnLine 13 = .ok (.getfield 9, 3) := by decide +kernel
theorem dX8_hasOnLine_16 : decode cX8_hasOnLine 16 = .ok (.iload_n 1, 1) := by decide +kernel
theorem dX8_hasOnLine_17 : decode cX8_hasOnLine 17 = .ok (.invokestatic 48, 3) := by decide +kernel
theorem dX8_hasOnLine_20 : decode cX8_hasOnLine 20 = .ok (.aload_n 0, 1) := by decide +kernel
theorem dX8_hasOnLine_21 : decode cX8_hasOnLine 21 = .ok (.getfield 15, 3) := by decide +kernel
theorem dX8_hasOnLine_24 : decode cX8_hasOnLine 24 = .ok (.iload_n 1, 1) := by decide +kernel
theorem dX8_hasOnLine_25 : decode cX8_hasOnLine 25 = .ok (.invokestatic 48, 3) := by decide +kernel
theorem dX8_hasOnLine_28 : decode cX8_hasOnLine 28 = .ok (.iload_n 2, 1) := by decide +kernel
theorem dX8_hasOnLine_29 : decode cX8_hasOnLine 29 = .ok (.invokevirtual 79, 3) := by decide +kernel
theorem dX8_hasOnLine_32 : decode cX8_hasOnLine 32 = .ok (.ifCond .eq 7, 3) := by decide +kernel
theorem dX8_hasOnLine_35 : decode cX8_hasOnLine 35 = .ok (.iconst 1, 1) := by decide +kernel
theorem dX8_hasOnLine_36 : decode cX8_hasOnLine 36 = .ok (.goto 4, 3) := by decide +kernel
theorem dX8_hasOnLine_39 : decode cX8_hasOnLine 39 = .ok (.iconst 0, 1) := by decide +kernel
theorem dX8_hasOnLine_40 : decode cX8_hasOnLine 40 = .ok (.ireturn, 1) := by decide +kernel
def kX8_hasOnLine_40 (n : Nat) : mK := i_rZ
set_option maxRecDepth 20000 in
theorem okX8_hasOnLine_40 {E : mE} {X : State → Heap → Prop} {l : Launch} (hX : mXok E X) (n : Nat) : Sd E X l yX8_hasOnLine cX8_hasOnLine 3 (some .boolean) 3 0 0 0 0 40 (kX8_hasOnLine_40 n) := s_rZ dX8_hasOnLine_40 (Nat.le_of_ble_eq_true rfl) (Nat.le_of_ble_eq_true rfl)
def kX8_hasOnLine_39 (n : Nat) : mK := i_cst (.int (0)) (kX8_hasOnLine_40 n)
set_option maxRecDepth 20000 in
theorem okX8_hasOnLine_39 {E : mE} {X : State → Heap → Prop} {l : Launch} (hX : mXok E X) (n : Nat) : Sd E X l yX8_hasOnLine cX8_hasOnLine 3 (some .boolean) 3 0 0 0 0 39 (kX8_hasOnLine_39 n) := s_iconst dX8_hasOnLine_39 (by decide) (okX8_hasOnLine_40 hX n)
def kX8_hasOnLine_0 (n : Nat) : mK := i_ldA 0 (i_ldI 1 (i_cV 8 1 (FX8_isIn n) (i_c0 (fun x => decide (x = 0)) (kX8_hasOnLine_39 n) (i_ldA 0 (i_gA 8 0 (i_ldA 0 (i_gA 8 1 (i_ldI 1 (i_cS 2 (FX11_at n) (i_ldA 0 (i_gA 8 2 (i_ldI 1 (i_cS 2 (FX11_at n) (i_ldI 2 (i_cV 4 3 (FX4_isOnLine n) (i_c0 (fun x => decide (x = 0)) (kX8_hasOnLine_39 n) (i_cst (.int (1)) ((kX8_hasOnLine_40 n)))))))))))))))))))
set_option maxRecDepth 20000 in
theorem okX8_hasOnLine_0 {E : mE} {X : State → Heap → Prop} {l : Launch} (hX : mXok E X) (n : Nat) : Sd E X l yX8_hasOnLine cX8_hasOnLine 3 (some .boolean) 3 0 0 0 0 0 (kX8_hasOnLine_0 n) := s_aload_n dX8_hasOnLine_0 rfl (s_iload_n dX8_hasOnLine_1 rfl (s_cV dX8_hasOnLine_2 lMX8_60 bVX8_isIn rfl (CtX8_isIn hX n) (Nat.le_of_ble_eq_true rfl) (s_ifeq dX8_hasOnLine_5 (by decide) (okX8_hasOnLine_39 hX n) (s_aload_n dX8_hasOnLine_8 rfl (s_gA dX8_hasOnLine_9 lFX8_24 (s_aload_n dX8_hasOnLine_12 rfl (s_gA dX8_hasOnLine_13 lFX8_9 (s_iload_n dX8_hasOnLine_16 rfl (s_cN dX8_hasOnLine_17 lNX8_48 bSX11_at (CtX11_at hX n) (Nat.le_of_ble_eq_true rfl) (s_aload_n dX8_hasOnLine_20 rfl (s_gA dX8_hasOnLine_21 lFX8_15 (s_iload_n dX8_hasOnLine_24 rfl (s_cN dX8_hasOnLine_25 lNX8_48 bSX11_at (CtX11_at hX n) (Nat.le_of_ble_eq_true rfl) (s_iload_n dX8_hasOnLine_28 rfl (s_cV dX8_hasOnLine_29 lMX8_79 bVX4_isOnLine rfl (CtX4_isOnLine hX n) (Nat.le_of_ble_eq_true rfl) (s_ifeq dX8_hasOnLine_32 (by decide) (okX8_hasOnLine_39 hX n) (s_iconst dX8_hasOnLine_35 (by decide) (s_goto dX8_hasOnLine_36 (by decide) (okX8_hasOnLine_40 hX n)))) (Nat.le_of_ble_eq_true rfl) (Nat.le_of_ble_eq_true rfl))) (Nat.le_of_ble_eq_true rfl) (Nat.le_of_ble_eq_true rfl))))) (Nat.le_of_ble_eq_true rfl) (Nat.le_of_ble_eq_true rfl)))))))) (Nat.le_of_ble_eq_true rfl) (Nat.le_of_ble_eq_true rfl)))
def FX8_hasOnLine (n : Nat) : List Value → mM → Option mR := mfn 3 (kX8_hasOnLine_0 n)
theorem CtX8_hasOnLine {E : mE} {X : State → Heap → Prop} {l : Launch} (hX : mXok E X) (n : Nat) : Ct E X l yX8_hasOnLine cX8_hasOnLine 3 (some .boolean) 3 0 0 (FX8_hasOnLine n) := Ct_of (by decide) hX (okX8_hasOnLine_0 hX n)
theorem dX8_howManyInRow_0 : decode cX8_howManyInRow 0 = .ok (.iconst 0, 1) := by decide +kernel
theorem dX8_howManyInRow_1 : decode cX8_howManyInRow 1 = .ok (.istore_n 2, 1) := by decide +kernel
theorem dX8_howManyInRow_2 : decode cX8_howManyInRow 2 = .ok (.iconst 0, 1) := by decide +kernel
theorem dX8_howManyInRow_3 : decode cX8_howManyInRow 3 = .ok (.istore_n 3, 1) := by decide +kernel
theorem dX8_howManyInRow_4 : decode cX8_howManyInRow 4 = .ok (.iload_n 3, 1) := by decide +kernel
theorem dX8_howManyInRow_5 : decode cX8_howManyInRow 5 = .ok (.bipush 8, 2) := by decide +kernel
theorem dX8_howManyInRow_7 : decode cX8_howManyInRow 7 = .ok (.if_icmp .ge 39, 3) := by decide +kernel
theorem dX8_howManyInRow_10 : decode cX8_howManyInRow 10 = .ok (.aload_n 0, 1) := by decide +kernel
theorem dX8_howManyInRow_11 : decode cX8_howManyInRow 11 = .ok (.iload_n 3, 1) := by decide +kernel
theorem dX8_howManyInRow_12 : decode cX8_howManyInRow 12 = .ok (.invokevirtual 60, 3) := by decide +kernel
theorem dX8_howManyInRow_15 : decode cX8_howManyInRow 15 = .ok (.ifCond .eq 25, 3) := by decide +kernel
theorem dX8_howManyInRow_18 : decode cX8_howManyInRow 18 = .ok (.aload_n 0, 1) := by decide +kernel
theorem dX8_howManyInRow_19 : decode cX8_howManyInRow 19 = .ok (.getfield 24, 3) := by decide +kernel
theorem dX8_howManyInRow_22 : decode cX8_howManyInRow 22 = .ok (.aload_n 0, 1) := by decide +kernel
theorem dX8_howManyInRow_23 : decode cX8_howManyInRow 23 = .ok (.getfield 9, 3) := by decide +kernel
theorem dX8_howManyInRow_26 : decode cX8_howManyInRow 26 = .ok (.iload_n 3, 1) := by decide +kernel
theorem dX8_howManyInRow_27 : decode cX8_howManyInRow 27 = .ok (.invokestatic 48, 3) := by decide +kernel
theorem dX8_howManyInRow_30 : decode cX8_howManyInRow 30 = .ok (.invokevirtual 76, 3) := by decide +kernel
theorem dX8_howManyInRow_33 : decode cX8_howManyInRow 33 = .ok (.iload_n 1, 1) := by decide +kernel
theorem dX8_howManyInRow_34 : decode cX8_howManyInRow 34 = .ok (.if_icmp .ne 6, 3) := by decide +kernel
theorem dX8_howManyInRow_37 : decode cX8_howManyInRow 37 = .ok (.iinc 2 1, 3) := by decide +kernel
theorem dX8_howManyInRow_40 : decode cX8_howManyInRow 40 = .ok (.iinc 3 1, 3) := by decide +kernel
theorem dX8_howManyInRow_43 : decode cX8_howManyInRow 43 = .ok (.goto (-39), 3) := by decide +kernel
theorem dX8_howManyInRow_46 : decode cX8_howManyInRow 46 = .ok (.iload_n 2, 1) := by decide +kernel
theorem dX8_howManyInRow_47 : decode cX8_howManyInRow 47 = .ok (.ireturn, 1) := by decide +kernel
def kX8_howManyInRow_40 (n : Nat) (r4 : mK) : mK := i_inc 3 (1) (r4)
set_option maxRecDepth 20000 in
theorem okX8_howManyInRow_40 {E : mE} {X : State → Heap → Prop} {l : Launch} (hX : mXok E X) (n : Nat) {r4 : mK} (h4 : Sd E X l yX8_howManyInRow cX8_howManyInRow 4 (some .int) 3 0 0 0 0 4 r4) : Sd E X l yX8_howManyInRow cX8_howManyInRow 4 (some .int) 3 0 0 0 0 40 (kX8_howManyInRow_40 n r4) := s_iinc dX8_howManyInRow_40 (by decide) (s_goto dX8_howManyInRow_43 (by decide) h4)
def kX8_howManyInRow_4 (n : Nat) (r4 : mK) : mK := i_ldI 3 (i_cst (.int (8)) (i_c2 (fun x y => decide (y ≤ x)) (i_ldI 2 (i_rI)) (i_ldA 0 (i_ldI 3 (i_cV 8 1 (FX8_isIn n) (i_c0 (fun x => decide (x = 0)) (kX8_howManyInRow_40 n r4) (i_ldA 0 (i_gA 8 0 (i_ldA 0 (i_gA 8 1 (i_ldI 3 (i_cS 2 (FX11_at n) (i_cV 4 1 (FX4_rowOf n) (i_ldI 1 (i_c2 (fun x y => decide (¬ x = y)) (kX8_howManyInRow_40 n r4) (i_inc 2 (1) (kX8_howManyInRow_40 n r4)))))))))))))))))
set_option maxRecDepth 20000 in
theorem okX8_howManyInRow_4 {E : mE} {X : State → Heap → Prop} {l : Launch} (hX : mXok E X) (n : Nat) {r4 : mK} (h4 : Sd E X l yX8_howManyInRow cX8_howManyInRow 4 (some .int) 3 0 0 0 0 4 r4) : Sd E X l yX8_howManyInRow cX8_howManyInRow 4 (some .int) 3 0 0 0 0 4 (kX8_howManyInRow_4 n r4) := s_iload_n dX8_howManyInRow_4 rfl (s_bipush dX8_howManyInRow_5 (by decide) (s_icge dX8_howManyInRow_7 (by decide) (s_iload_n dX8_howManyInRow_46 rfl (s_rI dX8_howManyInRow_47 (Nat.le_of_ble_eq_true rfl) (Nat.le_of_ble_eq_true rfl))) (s_aload_n dX8_howManyInRow_10 rfl (s_iload_n dX8_howManyInRow_11 rfl (s_cV dX8_howManyInRow_12 lMX8_60 bVX8_isIn rfl (CtX8_isIn hX n) (Nat.le_of_ble_eq_true rfl) (s_ifeq dX8_howManyInRow_15 (by decide) (okX8_howManyInRow_40 hX n h4) (s_aload_n dX8_howManyInRow_18 rfl (s_gA dX8_howManyInRow_19 lFX8_24 (s_aload_n dX8_howManyInRow_22 rfl (s_gA dX8_howManyInRow_23 lFX8_9 (s_iload_n dX8_howManyInRow_26 rfl (s_cN dX8_howManyInRow_27 lNX8_48 bSX11_at (CtX11_at hX n) (Nat.le_of_ble_eq_true rfl) (s_cV dX8_howManyInRow_30 lMX8_76 bVX4_rowOf rfl (CtX4_rowOf hX n) (Nat.le_of_ble_eq_true rfl) (s_iload_n dX8_howManyInRow_33 rfl (s_icne dX8_howManyInRow_34 (by decide) (okX8_howManyInRow_40 hX n h4) (s_iinc dX8_howManyInRow_37 (by decide) (okX8_howManyInRow_40 hX n h4)))) (Nat.le_of_ble_eq_true rfl) (Nat.le_of_ble_eq_true rfl)) (Nat.le_of_ble_eq_true rfl) (Nat.le_of_ble_eq_true rfl)))))))) (Nat.le_of_ble_eq_true rfl) (Nat.le_of_ble_eq_true rfl))))))
def kX8_howManyInRow_0 (n : Nat) : mK := i_cst (.int (0)) (i_stI 2 (i_cst (.int (0)) (i_stI 3 (mit (kX8_howManyInRow_4 n ) n))))
set_option maxRecDepth 20000 in
theorem okX8_howManyInRow_0 {E : mE} {X : State → Heap → Prop} {l : Launch} (hX : mXok E X) (n : Nat) : Sd E X l yX8_howManyInRow cX8_howManyInRow 4 (some .int) 3 0 0 0 0 0 (kX8_howManyInRow_0 n) := s_iconst dX8_howManyInRow_0 (by decide) (s_istore_n dX8_howManyInRow_1 rfl (s_iconst dX8_howManyInRow_2 (by decide) (s_istore_n dX8_howManyInRow_3 rfl (s_mit (fun _ hk => okX8_howManyInRow_4 hX n hk) n))))
def FX8_howManyInRow (n : Nat) : List Value → mM → Option mR := mfn 4 (kX8_howManyInRow_0 n)
theorem CtX8_howManyInRow {E : mE} {X : State → Heap → Prop} {l : Launch} (hX : mXok E X) (n : Nat) : Ct E X l yX8_howManyInRow cX8_howManyInRow 4 (some .int) 3 0 0 (FX8_howManyInRow n) := Ct_of (by decide) hX (okX8_howManyInRow_0 hX n)
theorem dX8_whoIsAt_0 : decode cX8_whoIsAt 0 = .ok (.iconst 0, 1) := by decide +kernel
theorem dX8_whoIsAt_1 : decode cX8_whoIsAt 1 = .ok (.istore_n 2, 1) := by decide +kernel
theorem dX8_whoIsAt_2 : decode cX8_whoIsAt 2 = .ok (.iload_n 2, 1) := by decide +kernel
theorem dX8_whoIsAt_3 : decode cX8_whoIsAt 3 = .ok (.bipush 8, 2) := by decide +kernel
theorem dX8_whoIsAt_5 : decode cX8_whoIsAt 5 = .ok (.if_icmp .ge 31, 3) := by decide +kernel
theorem dX8_whoIsAt_8 : decode cX8_whoIsAt 8 = .ok (.aload_n 0, 1) := by decide +kernel
theorem dX8_whoIsAt_9 : decode cX8_whoIsAt 9 = .ok (.iload_n 2, 1) := by decide +kernel
theorem dX8_whoIsAt_10 : decode cX8_whoIsAt 10 = .ok (.invokevirtual 60, 3) := by decide +kernel
theorem dX8_whoIsAt_13 : decode cX8_whoIsAt 13 = .ok (.ifCond .eq 17, 3) := by decide +kernel
theorem dX8_whoIsAt_16 : decode cX8_whoIsAt 16 = .ok (.aload_n 0, 1) := by decide +kernel
theorem dX8_whoIsAt_17 : decode cX8_whoIsAt 17 = .ok (.getfield 9, 3) := by decide +kernel
theorem dX8_whoIsAt_20 : decode cX8_whoIsAt 20 = .ok (.iload_n 2, 1) := by decide +kernel
theorem dX8_whoIsAt_21 : decode cX8_whoIsAt 21 = .ok (.invokestatic 48, 3) := by decide +kernel
theorem dX8_whoIsAt_24 : decode cX8_whoIsAt 24 = .ok (.iload_n 1, 1) := by decide +kernel
theorem dX8_whoIsAt_25 : decode cX8_whoIsAt 25 = .ok (.if_icmp .ne 5, 3) := by decide +kernel
theorem dX8_whoIsAt_28 : decode cX8_whoIsAt 28 = .ok (.iload_n 2, 1) := by decide +kernel
theorem dX8_whoIsAt_29 : decode cX8_whoIsAt 29 = .ok (.ireturn, 1) := by decide +kernel
theorem dX8_whoIsAt_30 : decode cX8_whoIsAt 30 = .ok (.iinc 2 1, 3) := by decide +kernel
theorem dX8_whoIsAt_33 : decode cX8_whoIsAt 33 = .ok (.goto (-31), 3) := by decide +kernel
theorem dX8_whoIsAt_36 : decode cX8_whoIsAt 36 = .ok (.iconst (-1), 1) := by decide +kernel
theorem dX8_whoIsAt_37 : decode cX8_whoIsAt 37 = .ok (.ireturn, 1) := by decide +kernel
def kX8_whoIsAt_30 (n : Nat) (r2 : mK) : mK := i_inc 2 (1) (r2)
set_option maxRecDepth 20000 in
theorem okX8_whoIsAt_30 {E : mE} {X : State → Heap → Prop} {l : Launch} (hX : mXok E X) (n : Nat) {r2 : mK} (h2 : Sd E X l yX8_whoIsAt cX8_whoIsAt 3 (some .int) 3 0 0 0 0 2 r2) : Sd E X l yX8_whoIsAt cX8_whoIsAt 3 (some .int) 3 0 0 0 0 30 (kX8_whoIsAt_30 n r2) := s_iinc dX8_whoIsAt_30 (by decide) (s_goto dX8_whoIsAt_33 (by decide) h2)
def kX8_whoIsAt_2 (n : Nat) (r2 : mK) : mK := i_ldI 2 (i_cst (.int (8)) (i_c2 (fun x y => decide (y ≤ x)) (i_cst (.int (-1)) (i_rI)) (i_ldA 0 (i_ldI 2 (i_cV 8 1 (FX8_isIn n) (i_c0 (fun x => decide (x = 0)) (kX8_whoIsAt_30 n r2) (i_ldA 0 (i_gA 8 1 (i_ldI 2 (i_cS 2 (FX11_at n) (i_ldI 1 (i_c2 (fun x y => decide (¬ x = y)) (kX8_whoIsAt_30 n r2) (i_ldI 2 (i_rI))))))))))))))
set_option maxRecDepth 20000 in
theorem okX8_whoIsAt_2 {E : mE} {X : State → Heap → Prop} {l : Launch} (hX : mXok E X) (n : Nat) {r2 : mK} (h2 : Sd E X l yX8_whoIsAt cX8_whoIsAt 3 (some .int) 3 0 0 0 0 2 r2) : Sd E X l yX8_whoIsAt cX8_whoIsAt 3 (some .int) 3 0 0 0 0 2 (kX8_whoIsAt_2 n r2) := s_iload_n dX8_whoIsAt_2 rfl (s_bipush dX8_whoIsAt_3 (by decide) (s_icge dX8_whoIsAt_5 (by decide) (s_iconst dX8_whoIsAt_36 (by decide) (s_rI dX8_whoIsAt_37 (Nat.le_of_ble_eq_true rfl) (Nat.le_of_ble_eq_true rfl))) (s_aload_n dX8_whoIsAt_8 rfl (s_iload_n dX8_whoIsAt_9 rfl (s_cV dX8_whoIsAt_10 lMX8_60 bVX8_isIn rfl (CtX8_isIn hX n) (Nat.le_of_ble_eq_true rfl) (s_ifeq dX8_whoIsAt_13 (by decide) (okX8_whoIsAt_30 hX n h2) (s_aload_n dX8_whoIsAt_16 rfl (s_gA dX8_whoIsAt_17 lFX8_9 (s_iload_n dX8_whoIsAt_20 rfl (s_cN dX8_whoIsAt_21 lNX8_48 bSX11_at (CtX11_at hX n) (Nat.le_of_ble_eq_true rfl) (s_iload_n dX8_whoIsAt_24 rfl (s_icne dX8_whoIsAt_25 (by decide) (okX8_whoIsAt_30 hX n h2) (s_iload_n dX8_whoIsAt_28 rfl (s_rI dX8_whoIsAt_29 (Nat.le_of_ble_eq_true rfl) (Nat.le_of_ble_eq_true rfl))))) (Nat.le_of_ble_eq_true rfl) (Nat.le_of_ble_eq_true rfl)))))) (Nat.le_of_ble_eq_true rfl) (Nat.le_of_ble_eq_true rfl))))))
def kX8_whoIsAt_0 (n : Nat) : mK := i_cst (.int (0)) (i_stI 2 (mit (kX8_whoIsAt_2 n ) n))
set_option maxRecDepth 20000 in
theorem okX8_whoIsAt_0 {E : mE} {X : State → Heap → Prop} {l : Launch} (hX : mXok E X) (n : Nat) : Sd E X l yX8_whoIsAt cX8_whoIsAt 3 (some .int) 3 0 0 0 0 0 (kX8_whoIsAt_0 n) := s_iconst dX8_whoIsAt_0 (by decide) (s_istore_n dX8_whoIsAt_1 rfl (s_mit (fun _ hk => okX8_whoIsAt_2 hX n hk) n))
def FX8_whoIsAt (n : Nat) : List Value → mM → Option mR := mfn 3 (kX8_whoIsAt_0 n)
theorem CtX8_whoIsAt {E : mE} {X : State → Heap → Prop} {l : Launch} (hX : mXok E X) (n : Nat) : Ct E X l yX8_whoIsAt cX8_whoIsAt 3 (some .int) 3 0 0 (FX8_whoIsAt n) := Ct_of (by decide) hX (okX8_whoIsAt_0 hX n)
theorem dX8_whoIsIn_0 : decode cX8_whoIsIn 0 = .ok (.iconst 0, 1) := by decide +kernel
theorem dX8_whoIsIn_1 : decode cX8_whoIsIn 1 = .ok (.istore_n 1, 1) := by decide +kernel
theorem dX8_whoIsIn_2 : decode cX8_whoIsIn 2 = .ok (.iconst 0, 1) := by decide +kernel
theorem dX8_whoIsIn_3 : decode cX8_whoIsIn 3 = .ok (.istore_n 2, 1) := by decide +kernel
theorem dX8_whoIsIn_4 : decode cX8_whoIsIn 4 = .ok (.iload_n 2, 1) := by decide +kernel
theorem dX8_whoIsIn_5 : decode cX8_whoIsIn 5 = .ok (.bipush 8, 2) := by decide +kernel
theorem dX8_whoIsIn_7 : decode cX8_whoIsIn 7 = .ok (.if_icmp .ge 24, 3) := by decide +kernel
theorem dX8_whoIsIn_10 : decode cX8_whoIsIn 10 = .ok (.aload_n 0, 1) := by decide +kernel
theorem dX8_whoIsIn_11 : decode cX8_whoIsIn 11 = .ok (.iload_n 2, 1) := by decide +kernel
theorem dX8_whoIsIn_12 : decode cX8_whoIsIn 12 = .ok (.invokevirtual 60, 3) := by decide +kernel
theorem dX8_whoIsIn_15 : decode cX8_whoIsIn 15 = .ok (.ifCond .eq 10, 3) := by decide +kernel
theorem dX8_whoIsIn_18 : decode cX8_whoIsIn 18 = .ok (.iload_n 1, 1) := by decide +kernel
theorem dX8_whoIsIn_19 : decode cX8_whoIsIn 19 = .ok (.iload_n 2, 1) := by decide +kernel
theorem dX8_whoIsIn_20 : decode cX8_whoIsIn 20 = .ok (.invokestatic 63, 3) := by decide +kernel
theorem dX8_whoIsIn_23 : decode cX8_whoIsIn 23 = .ok (.ior, 1) := by decide +kernel
theorem dX8_whoIsIn_24 : decode cX8_whoIsIn 24 = .ok (.istore_n 1, 1) := by decide +kernel
theorem dX8_whoIsIn_25 : decode cX8_whoIsIn 25 = .ok (.iinc 2 1, 3) := by decide +kernel
theorem dX8_whoIsIn_28 : decode cX8_whoIsIn 28 = .ok (.goto (-24), 3) := by decide +kernel
theorem dX8_whoIsIn_31 : decode cX8_whoIsIn 31 = .ok (.iload_n 1, 1) := by decide +kernel
theorem dX8_whoIsIn_32 : decode cX8_whoIsIn 32 = .ok (.ireturn, 1) := by decide +kernel
def kX8_whoIsIn_25 (n : Nat) (r4 : mK) : mK := i_inc 2 (1) (r4)
set_option maxRecDepth 20000 in
theorem okX8_whoIsIn_25 {E : mE} {X : State → Heap → Prop} {l : Launch} (hX : mXok E X) (n : Nat) {r4 : mK} (h4 : Sd E X l yX8_whoIsIn cX8_whoIsIn 3 (some .int) 3 0 0 0 0 4 r4) : Sd E X l yX8_whoIsIn cX8_whoIsIn 3 (some .int) 3 0 0 0 0 25 (kX8_whoIsIn_25 n r4) := s_iinc dX8_whoIsIn_25 (by decide) (s_goto dX8_whoIsIn_28 (by decide) h4)
def kX8_whoIsIn_4 (n : Nat) (r4 : mK) : mK := i_ldI 2 (i_cst (.int (8)) (i_c2 (fun x y => decide (y ≤ x)) (i_ldI 1 (i_rI)) (i_ldA 0 (i_ldI 2 (i_cV 8 1 (FX8_isIn n) (i_c0 (fun x => decide (x = 0)) (kX8_whoIsIn_25 n r4) (i_ldI 1 (i_ldI 2 (i_cS 1 (FX11_bit n) (i_bin (fun x y => x ||| y) (i_stI 1 (kX8_whoIsIn_25 n r4))))))))))))
set_option maxRecDepth 20000 in
theorem okX8_whoIsIn_4 {E : mE} {X : State → Heap → Prop} {l : Launch} (hX : mXok E X) (n : Nat) {r4 : mK} (h4 : Sd E X l yX8_whoIsIn cX8_whoIsIn 3 (some .int) 3 0 0 0 0 4 r4) : Sd E X l yX8_whoIsIn cX8_whoIsIn 3 (some .int) 3 0 0 0 0 4 (kX8_whoIsIn_4 n r4) := s_iload_n dX8_whoIsIn_4 rfl (s_bipush dX8_whoIsIn_5 (by decide) (s_icge dX8_whoIsIn_7 (by decide) (s_iload_n dX8_whoIsIn_31 rfl (s_rI dX8_whoIsIn_32 (Nat.le_of_ble_eq_true rfl) (Nat.le_of_ble_eq_true rfl))) (s_aload_n dX8_whoIsIn_10 rfl (s_iload_n dX8_whoIsIn_11 rfl (s_cV dX8_whoIsIn_12 lMX8_60 bVX8_isIn rfl (CtX8_isIn hX n) (Nat.le_of_ble_eq_true rfl) (s_ifeq dX8_whoIsIn_15 (by decide) (okX8_whoIsIn_25 hX n h4) (s_iload_n dX8_whoIsIn_18 rfl (s_iload_n dX8_whoIsIn_19 rfl (s_cN dX8_whoIsIn_20 lNX8_63 bSX11_bit (CtX11_bit hX n) (Nat.le_of_ble_eq_true rfl) (s_ior dX8_whoIsIn_23 (s_istore_n dX8_whoIsIn_24 rfl (okX8_whoIsIn_25 hX n h4))) (Nat.le_of_ble_eq_true rfl) (Nat.le_of_ble_eq_true rfl))))) (Nat.le_of_ble_eq_true rfl) (Nat.le_of_ble_eq_true rfl))))))
def kX8_whoIsIn_0 (n : Nat) : mK := i_cst (.int (0)) (i_stI 1 (i_cst (.int (0)) (i_stI 2 (mit (kX8_whoIsIn_4 n ) n))))
set_option maxRecDepth 20000 in
theorem okX8_whoIsIn_0 {E : mE} {X : State → Heap → Prop} {l : Launch} (hX : mXok E X) (n : Nat) : Sd E X l yX8_whoIsIn cX8_whoIsIn 3 (some .int) 3 0 0 0 0 0 (kX8_whoIsIn_0 n) := s_iconst dX8_whoIsIn_0 (by decide) (s_istore_n dX8_whoIsIn_1 rfl (s_iconst dX8_whoIsIn_2 (by decide) (s_istore_n dX8_whoIsIn_3 rfl (s_mit (fun _ hk => okX8_whoIsIn_4 hX n hk) n))))
def FX8_whoIsIn (n : Nat) : List Value → mM → Option mR := mfn 3 (kX8_whoIsIn_0 n)
theorem CtX8_whoIsIn {E : mE} {X : State → Heap → Prop} {l : Launch} (hX : mXok E X) (n : Nat) : Ct E X l yX8_whoIsIn cX8_whoIsIn 3 (some .int) 3 0 0 (FX8_whoIsIn n) := Ct_of (by decide) hX (okX8_whoIsIn_0 hX n)
theorem dX9_behindToken_0 : decode cX9_behindToken 0 = .ok (.iload_n 1, 1) := by decide +kernel
theorem dX9_behindToken_1 : decode cX9_behindToken 1 = .ok (.istore_n 2, 1) := by decide +kernel
theorem dX9_behindToken_2 : decode cX9_behindToken 2 = .ok (.aload_n 0, 1) := by decide +kernel
theorem dX9_behindToken_3 : decode cX9_behindToken 3 = .ok (.iload_n 1, 1) := by decide +kernel
theorem dX9_behindToken_4 : decode cX9_behindToken 4 = .ok (.invokevirtual 46, 3) := by decide +kernel
theorem dX9_behindToken_7 : decode cX9_behindToken 7 = .ok (.ifCond .eq 27, 3) := by decide +kernel
theorem dX9_behindToken_10 : decode cX9_behindToken 10 = .ok (.iload_n 2, 1) := by decide +kernel
theorem dX9_behindToken_11 : decode cX9_behindToken 11 = .ok (.aload_n 0, 1) := by decide +kernel
theorem dX9_behindToken_12 : decode cX9_behindToken 12 = .ok (.getfield 21, 3) := by decide +kernel
theorem dX9_behindToken_15 : decode cX9_behindToken 15 = .ok (.if_icmp .ge 17, 3) := by decide +kernel
theorem dX9_behindToken_18 : decode cX9_behindToken 18 = .ok (.aload_n 0, 1) := by decide +kernel
theorem dX9_behindToken_19 : decode cX9_behindToken 19 = .ok (.iload_n 2, 1) := by decide +kernel
theorem dX9_behindToken_20 : decode cX9_behindToken 20 = .ok (.invokevirtual 46, 3) := by decide +kernel
theorem dX9_behindToken_23 : decode cX9_behindToken 23 = .ok (.ifCond .eq 9, 3) := by decide +kernel
theorem dX9_behindToken_26 : decode cX9_behindToken 26 = .ok (.iinc 2 1, 3) := by decide +kernel
theorem dX9_behindToken_29 : decode cX9_behindToken 29 = .ok (.goto (-19), 3) := by decide +kernel
theorem dX9_behindToken_32 : decode cX9_behindToken 32 = .ok (.iload_n 2, 1) := by decide +kernel
theorem dX9_behindToken_33 : decode cX9_behindToken 33 = .ok (.ireturn, 1) := by decide +kernel
theorem dX9_behindToken_34 : decode cX9_behindToken 34 = .ok (.aload_n 0, 1) := by decide +kernel
theorem dX9_behindToken_35 : decode cX9_behindToken 35 = .ok (.iload_n 1, 1) := by decide +kernel
theorem dX9_behindToken_36 : decode cX9_behindToken 36 = .ok (.invokevirtual 50, 3) := by decide +kernel
theorem dX9_behindToken_39 : decode cX9_behindToken 39 = .ok (.ifCond .eq 27, 3) := by decide +kernel
theorem dX9_behindToken_42 : decode cX9_behindToken 42 = .ok (.iload_n 2, 1) := by decide +kernel
theorem dX9_behindToken_43 : decode cX9_behindToken 43 = .ok (.aload_n 0, 1) := by decide +kernel
theorem dX9_behindToken_44 : decode cX9_behindToken 44 = .ok (.getfield 21, 3) := by decide +kernel
theorem dX9_behindToken_47 : decode cX9_behindToken 47 = .ok (.if_icmp .ge 17, 3) := by decide +kernel
theorem dX9_behindToken_50 : decode cX9_behindToken 50 = .ok (.aload_n 0, 1) := by decide +kernel
theorem dX9_behindToken_51 : decode cX9_behindToken 51 = .ok (.iload_n 2, 1) := by decide +kernel
theorem dX9_behindToken_52 : decode cX9_behindToken 52 = .ok (.invokevirtual 50, 3) := by decide +kernel
theorem dX9_behindToken_55 : decode cX9_behindToken 55 = .ok (.ifCond .eq 9, 3) := by decide +kernel
theorem dX9_behindToken_58 : decode cX9_behindToken 58 = .ok (.iinc 2 1, 3) := by decide +kernel
theorem dX9_behindToken_61 : decode cX9_behindToken 61 = .ok (.goto (-19), 3) := by decide +kernel
theorem dX9_behindToken_64 : decode cX9_behindToken 64 = .ok (.iload_n 2, 1) := by decide +kernel
theorem dX9_behindToken_65 : decode cX9_behindToken 65 = .ok (.ireturn, 1) := by decide +kernel
theorem dX9_behindToken_66 : decode cX9_behindToken 66 = .ok (.iload_n 1, 1) := by decide +kernel
theorem dX9_behindToken_67 : decode cX9_behindToken 67 = .ok (.iconst 1, 1) := by decide +kernel
theorem dX9_behindToken_68 : decode cX9_behindToken 68 = .ok (.iadd, 1) := by decide +kernel
theorem dX9_behindToken_69 : decode cX9_behindToken 69 = .ok (.ireturn, 1) := by decide +kernel
def kX9_behindToken_32 (n : Nat) : mK := i_ldI 2 (i_rI)
set_option maxRecDepth 20000 in
theorem okX9_behindToken_32 {E : mE} {X : State → Heap → Prop} {l : Launch} (hX : mXok E X) (n : Nat) : Sd E X l yX9_behindToken cX9_behindToken 3 (some .int) 3 0 0 0 0 32 (kX9_behindToken_32 n) := s_iload_n dX9_behindToken_32 rfl (s_rI dX9_behindToken_33 (Nat.le_of_ble_eq_true rfl) (Nat.le_of_ble_eq_true rfl))
def kX9_behindToken_10 (n : Nat) (r10 : mK) : mK := i_ldI 2 (i_ldA 0 (i_gI 9 3 (i_c2 (fun x y => decide (y ≤ x)) (kX9_behindToken_32 n) (i_ldA 0 (i_ldI 2 (i_cV 9 1 (FX9_isLetter n) (i_c0 (fun x => decide (x = 0)) (kX9_behindToken_32 n) (i_inc 2 (1) (r10)))))))))
set_option maxRecDepth 20000 in
theorem okX9_behindToken_10 {E : mE} {X : State → Heap → Prop} {l : Launch} (hX : mXok E X) (n : Nat) {r10 : mK} (h10 : Sd E X l yX9_behindToken cX9_behindToken 3 (some .int) 3 0 0 0 0 10 r10) : Sd E X l yX9_behindToken cX9_behindToken 3 (some .int) 3 0 0 0 0 10 (kX9_behindToken_10 n r10) := s_iload_n dX9_behindToken_10 rfl (s_aload_n dX9_behindToken_11 rfl (s_gI dX9_behindToken_12 lFX9_21 (by decide) (s_icge dX9_behindToken_15 (by decide) (okX9_behindToken_32 hX n) (s_aload_n dX9_behindToken_18 rfl (s_iload_n dX9_behindToken_19 rfl (s_cV dX9_behindToken_20 lMX9_46 bVX9_isLetter rfl (CtX9_isLetter hX n) (Nat.le_of_ble_eq_true rfl) (s_ifeq dX9_behindToken_23 (by decide) (okX9_behindToken_32 hX n) (s_iinc dX9_behindToken_26 (by decide) (s_goto dX9_behindToken_29 (by decide) h10))) (Nat.le_of_ble_eq_true rfl) (Nat.le_of_ble_eq_true rfl)))))))
def kX9_behindToken_64 (n : Nat) : mK := i_ldI 2 (i_rI)
set_option maxRecDepth 20000 in
theorem okX9_behindToken_64 {E : mE} {X : State → Heap → Prop} {l : Launch} (hX : mXok E X) (n : Nat) : Sd E X l yX9_behindToken cX9_behindToken 3 (some .int) 3 0 0 0 0 64 (kX9_behindToken_64 n) := s_iload_n dX9_behindToken_64 rfl (s_rI dX9_behindToken_65 (Nat.le_of_ble_eq_true rfl) (Nat.le_of_ble_eq_true rfl))
def kX9_behindToken_42 (n : Nat) (r42 : mK) : mK := i_ldI 2 (i_ldA 0 (i_gI 9 3 (i_c2 (fun x y => decide (y ≤ x)) (kX9_behindToken_64 n) (i_ldA 0 (i_ldI 2 (i_cV 9 1 (FX9_isDigit n) (i_c0 (fun x => decide (x = 0)) (kX9_behindToken_64 n) (i_inc 2 (1) (r42)))))))))
set_option maxRecDepth 20000 in
theorem okX9_behindToken_42 {E : mE} {X : State → Heap → Prop} {l : Launch} (hX : mXok E X) (n : Nat) {r42 : mK} (h42 : Sd E X l yX9_behindToken cX9_behindToken 3 (some .int) 3 0 0 0 0 42 r42) : Sd E X l yX9_behindToken cX9_behindToken 3 (some .int) 3 0 0 0 0 42 (kX9_behindToken_42 n r42) := s_iload_n dX9_behindToken_42 rfl (s_aload_n dX9_behindToken_43 rfl (s_gI dX9_behindToken_44 lFX9_21 (by decide) (s_icge dX9_behindToken_47 (by decide) (okX9_behindToken_64 hX n) (s_aload_n dX9_behindToken_50 rfl (s_iload_n dX9_behindToken_51 rfl (s_cV dX9_behindToken_52 lMX9_50 bVX9_isDigit rfl (CtX9_isDigit hX n) (Nat.le_of_ble_eq_true rfl) (s_ifeq dX9_behindToken_55 (by decide) (okX9_behindToken_64 hX n) (s_iinc dX9_behindToken_58 (by decide) (s_goto dX9_behindToken_61 (by decide) h42))) (Nat.le_of_ble_eq_true rfl) (Nat.le_of_ble_eq_true rfl)))))))
def kX9_behindToken_0 (n : Nat) : mK := i_ldI 1 (i_stI 2 (i_ldA 0 (i_ldI 1 (i_cV 9 1 (FX9_isLetter n) (i_c0 (fun x => decide (x = 0)) (i_ldA 0 (i_ldI 1 (i_cV 9 1 (FX9_isDigit n) (i_c0 (fun x => decide (x = 0)) (i_ldI 1 (i_cst (.int (1)) (i_bin (fun x y => x + y) (i_rI)))) (mit (kX9_behindToken_42 n ) n))))) (mit (kX9_behindToken_10 n ) n))))))
set_option maxRecDepth 20000 in
theorem okX9_behindToken_0 {E : mE} {X : State → Heap → Prop} {l : Launch} (hX : mXok E X) (n : Nat) : Sd E X l yX9_behindToken cX9_behindToken 3 (some .int) 3 0 0 0 0 0 (kX9_behindToken_0 n) := s_iload_n dX9_behindToken_0 rfl (s_istore_n dX9_behindToken_1 rfl (s_aload_n dX9_behindToken_2 rfl (s_iload_n dX9_behindToken_3 rfl (s_cV dX9_behindToken_4 lMX9_46 bVX9_isLetter rfl (CtX9_isLetter hX n) (Nat.le_of_ble_eq_true rfl) (s_ifeq dX9_behindToken_7 (by decide) (s_aload_n dX9_behindToken_34 rfl (s_iload_n dX9_behindToken_35 rfl (s_cV dX9_behindToken_36 lMX9_50 bVX9_isDigit rfl (CtX9_isDigit hX n) (Nat.le_of_ble_eq_true rfl) (s_ifeq dX9_behindToken_39 (by decide) (s_iload_n dX9_behindToken_66 rfl (s_iconst dX9_behindToken_67 (by decide) (s_iadd dX9_behindToken_68 (s_rI dX9_behindToken_69 (Nat.le_of_ble_eq_true rfl) (Nat.le_of_ble_eq_true rfl))))) (s_mit (fun _ hk => okX9_behindToken_42 hX n hk) n)) (Nat.le_of_ble_eq_true rfl) (Nat.le_of_ble_eq_true rfl)))) (s_mit (fun _ hk => okX9_behindToken_10 hX n hk) n)) (Nat.le_of_ble_eq_true rfl) (Nat.le_of_ble_eq_true rfl)))))
def FX9_behindToken (n : Nat) : List Value → mM → Option mR := mfn 3 (kX9_behindToken_0 n)
theorem CtX9_behindToken {E : mE} {X : State → Heap → Prop} {l : Launch} (hX : mXok E X) (n : Nat) : Ct E X l yX9_behindToken cX9_behindToken 3 (some .int) 3 0 0 (FX9_behindToken n) := Ct_of (by decide) hX (okX9_behindToken_0 hX n)
theorem dX9_wordFrom_0 : decode cX9_wordFrom 0 = .ok (.lconst 0, 1) := by decide +kernel
theorem dX9_wordFrom_1 : decode cX9_wordFrom 1 = .ok (.lstore_n 2, 1) := by decide +kernel
theorem dX9_wordFrom_2 : decode cX9_wordFrom 2 = .ok (.iconst 0, 1) := by decide +kernel
theorem dX9_wordFrom_3 : decode cX9_wordFrom 3 = .ok (.istore 4, 2) := by decide +kernel
theorem dX9_wordFrom_5 : decode cX9_wordFrom 5 = .ok (.iload 4, 2) := by decide +kernel
theorem dX9_wordFrom_7 : decode cX9_wordFrom 7 = .ok (.bipush 8, 2) := by decide +kernel
theorem dX9_wordFrom_9 : decode cX9_wordFrom 9 = .ok (.if_icmp .ge 42, 3) := by decide +kernel
theorem dX9_wordFrom_12 : decode cX9_wordFrom 12 = .ok (.aload_n 0, 1) := by decide +kernel
theorem dX9_wordFrom_13 : decode cX9_wordFrom 13 = .ok (.iload_n 1, 1) := by decide +kernel
theorem dX9_wordFrom_14 : decode cX9_wordFrom 14 = .ok (.iload 4, 2) := by decide +kernel
theorem dX9_wordFrom_16 : decode cX9_wordFrom 16 = .ok (.iadd, 1) := by decide +kernel
theorem dX9_wordFrom_17 : decode cX9_wordFrom 17 = .ok (.invokevirtual 46, 3) := by decide +kernel
theorem dX9_wordFrom_20 : decode cX9_wordFrom 20 = .ok (.ifCond .eq 31, 3) := by decide +kernel
theorem dX9_wordFrom_23 : decode cX9_wordFrom 23 = .ok (.lload_n 2, 1) := by decide +kernel
theorem dX9_wordFrom_24 : decode cX9_wordFrom 24 = .ok (.ldc2_w 77, 3) := by decide +kernel
theorem dX9_wordFrom_27 : decode cX9_wordFrom 27 = .ok (.lmul, 1) := by decide +kernel
theorem dX9_wordFrom_28 : decode cX9_wordFrom 28 = .ok (.aload_n 0, 1) := by decide +kernel
theorem dX9_wordFrom_29 : decode cX9_wordFrom 29 = .ok (.iload_n 1, 1) := by decide +kernel
theorem dX9_wordFrom_30 : decode cX9_wordFrom 30 = .ok (.iload 4, 2) := by decide +kernel
theorem dX9_wordFrom_32 : decode cX9_wordFrom 32 = .ok (.iadd, 1) := by decide +kernel
theorem dX9_wordFrom_33 : decode cX9_wordFrom 33 = .ok (.invokevirtual 43, 3) := by decide +kernel
theorem dX9_wordFrom_36 : decode cX9_wordFrom 36 = .ok (.i2l, 1) := by decide +kernel
theorem dX9_wordFrom_37 : decode cX9_wordFrom 37 = .ok (.ladd, 1) := by decide +kernel
theorem dX9_wordFrom_38 : decode cX9_wordFrom 38 = .ok (.ldc2_w 79, 3) := by decide +kernel
theorem dX9_wordFrom_41 : decode cX9_wordFrom 41 = .ok (.lsub, 1) := by decide +kernel
theorem dX9_wordFrom_42 : decode cX9_wordFrom 42 = .ok (.lconst 1, 1) := by decide +kernel
theorem dX9_wordFrom_43 : decode cX9_wordFrom 43 = .ok (.ladd, 1) := by decide +kernel
theorem dX9_wordFrom_44 : decode cX9_wordFrom 44 = .ok (.lstore_n 2, 1) := by decide +kernel
theorem dX9_wordFrom_45 : decode cX9_wordFrom 45 = .ok (.iinc 4 1, 3) := by decide +kernel
theorem dX9_wordFrom_48 : decode cX9_wordFrom 48 = .ok (.goto (-43), 3) := by decide +kernel
theorem dX9_wordFrom_51 : decode cX9_wordFrom 51 = .ok (.lload_n 2, 1) := by decide +kernel
theorem dX9_wordFrom_52 : decode cX9_wordFrom 52 = .ok (.lreturn, 1) := by decide +kernel
def kX9_wordFrom_51 (n : Nat) : mK := i_ldJ 2 (i_rJ)
set_option maxRecDepth 20000 in
theorem okX9_wordFrom_51 {E : mE} {X : State → Heap → Prop} {l : Launch} (hX : mXok E X) (n : Nat) : Sd E X l yX9_wordFrom cX9_wordFrom 5 (some .long) 3 0 0 0 0 51 (kX9_wordFrom_51 n) := s_lload_n dX9_wordFrom_51 rfl (s_rJ dX9_wordFrom_52 (Nat.le_of_ble_eq_true rfl) (Nat.le_of_ble_eq_true rfl))
def kX9_wordFrom_45 (n : Nat) (r5 : mK) : mK := i_inc 4 (1) (r5)
set_option maxRecDepth 20000 in
theorem okX9_wordFrom_45 {E : mE} {X : State → Heap → Prop} {l : Launch} (hX : mXok E X) (n : Nat) {r5 : mK} (h5 : Sd E X l yX9_wordFrom cX9_wordFrom 5 (some .long) 3 0 0 0 0 5 r5) : Sd E X l yX9_wordFrom cX9_wordFrom 5 (some .long) 3 0 0 0 0 45 (kX9_wordFrom_45 n r5) := s_iinc dX9_wordFrom_45 (by decide) (s_goto dX9_wordFrom_48 (by decide) h5)
def kX9_wordFrom_5 (n : Nat) (r5 : mK) : mK := i_ldI 4 (i_cst (.int (8)) (i_c2 (fun x y => decide (y ≤ x)) (kX9_wordFrom_51 n) (i_ldA 0 (i_ldI 1 (i_ldI 4 (i_bin (fun x y => x + y) (i_cV 9 1 (FX9_isLetter n) (i_c0 (fun x => decide (x = 0)) (kX9_wordFrom_51 n) (i_ldJ 2 (i_cst (.long (32)) (i_bnJ (fun x y => x * y) (i_ldA 0 (i_ldI 1 (i_ldI 4 (i_bin (fun x y => x + y) (i_cV 9 1 (FX9_byteAt n) (i_i2l (i_bnJ (fun x y => x + y) (i_cst (.long (97)) (i_bnJ (fun x y => x - y) (i_cst (.long (1)) (i_bnJ (fun x y => x + y) (i_stJ 2 (kX9_wordFrom_45 n r5))))))))))))))))))))))))
set_option maxRecDepth 20000 in
theorem okX9_wordFrom_5 {E : mE} {X : State → Heap → Prop} {l : Launch} (hX : mXok E X) (n : Nat) {r5 : mK} (h5 : Sd E X l yX9_wordFrom cX9_wordFrom 5 (some .long) 3 0 0 0 0 5 r5) : Sd E X l yX9_wordFrom cX9_wordFrom 5 (some .long) 3 0 0 0 0 5 (kX9_wordFrom_5 n r5) := s_iload dX9_wordFrom_5 (s_bipush dX9_wordFrom_7 (by decide) (s_icge dX9_wordFrom_9 (by decide) (okX9_wordFrom_51 hX n) (s_aload_n dX9_wordFrom_12 rfl (s_iload_n dX9_wordFrom_13 rfl (s_iload dX9_wordFrom_14 (s_iadd dX9_wordFrom_16 (s_cV dX9_wordFrom_17 lMX9_46 bVX9_isLetter rfl (CtX9_isLetter hX n) (Nat.le_of_ble_eq_true rfl) (s_ifeq dX9_wordFrom_20 (by decide) (okX9_wordFrom_51 hX n) (s_lload_n dX9_wordFrom_23 rfl (s_ldc2 dX9_wordFrom_24 lCX9_77 (s_lmul dX9_wordFrom_27 (s_aload_n dX9_wordFrom_28 rfl (s_iload_n dX9_wordFrom_29 rfl (s_iload dX9_wordFrom_30 (s_iadd dX9_wordFrom_32 (s_cV dX9_wordFrom_33 lMX9_43 bVX9_byteAt rfl (CtX9_byteAt hX n) (Nat.le_of_ble_eq_true rfl) (s_i2l dX9_wordFrom_36 (s_ladd dX9_wordFrom_37 (s_ldc2 dX9_wordFrom_38 lCX9_79 (s_lsub dX9_wordFrom_41 (s_lconst dX9_wordFrom_42 (by decide) (s_ladd dX9_wordFrom_43 (s_lstore_n dX9_wordFrom_44 rfl (okX9_wordFrom_45 hX n h5)))))))) (Nat.le_of_ble_eq_true rfl) (Nat.le_of_ble_eq_true rfl)))))))))) (Nat.le_of_ble_eq_true rfl) (Nat.le_of_ble_eq_true rfl))))))))
def kX9_wordFrom_0 (n : Nat) : mK := i_cst (.long (0)) (i_stJ 2 (i_cst (.int (0)) (i_stI 4 (mit (kX9_wordFrom_5 n ) n))))
set_option maxRecDepth 20000 in
theorem okX9_wordFrom_0 {E : mE} {X : State → Heap → Prop} {l : Launch} (hX : mXok E X) (n : Nat) : Sd E X l yX9_wordFrom cX9_wordFrom 5 (some .long) 3 0 0 0 0 0 (kX9_wordFrom_0 n) := s_lconst dX9_wordFrom_0 (by decide) (s_lstore_n dX9_wordFrom_1 rfl (s_iconst dX9_wordFrom_2 (by decide) (s_istore dX9_wordFrom_3 (s_mit (fun _ hk => okX9_wordFrom_5 hX n hk) n))))
def FX9_wordFrom (n : Nat) : List Value → mM → Option mR := mfn 5 (kX9_wordFrom_0 n)
theorem CtX9_wordFrom {E : mE} {X : State → Heap → Prop} {l : Launch} (hX : mXok E X) (n : Nat) : Ct E X l yX9_wordFrom cX9_wordFrom 5 (some .long) 3 0 0 (FX9_wordFrom n) := Ct_of (by decide) hX (okX9_wordFrom_0 hX n)
theorem dJ0_charAt_5068e_0 : decode cJ0_charAt_5068e 0 = .ok (.aload_n 0, 1) := by decide +kernel
theorem dJ0_charAt_5068e_1 : decode cJ0_charAt_5068e 1 = .ok (.invokevirtual 492, 3) := by decide +kernel
theorem dJ0_charAt_5068e_4 : decode cJ0_charAt_5068e 4 = .ok (.ifCond .eq 12, 3) := by decide +kernel
theorem dJ0_charAt_5068e_7 : decode cJ0_charAt_5068e 7 = .ok (.aload_n 0, 1) := by decide +kernel
theorem dJ0_charAt_5068e_8 : decode cJ0_charAt_5068e 8 = .ok (.getfield 9, 3) := by decide +kernel
theorem dJ0_charAt_5068e_11 : decode cJ0_charAt_5068e 11 = .ok (.iload_n 1, 1) := by decide +kernel
theorem dJ0_charAt_5068e_12 : decode cJ0_charAt_5068e 12 = .ok (.invokestatic 495, 3) := by decide +kernel
theorem dJ0_charAt_5068e_15 : decode cJ0_charAt_5068e 15 = .ok (.ireturn, 1) := by decide +kernel
theorem dJ0_charAt_5068e_16 : decode cJ0_charAt_5068e 16 = .ok (.aload_n 0, 1) := by decide +kernel
theorem dJ0_charAt_5068e_17 : decode cJ0_charAt_5068e 17 = .ok (.getfield 9, 3) := by decide +kernel
theorem dJ0_charAt_5068e_20 : decode cJ0_charAt_5068e 20 = .ok (.iload_n 1, 1) := by decide +kernel
theorem dJ0_charAt_5068e_21 : decode cJ0_charAt_5068e 21 = .ok (.invokestatic 498, 3) := by decide +kernel
def kJ0_charAt_5068e_0 (n : Nat) : mK := i_ldA 0 (i_cX 0 (FJ0_isLatin1_aae02 n) (i_c0 (fun x => decide (x = 0)) (i_ldA 0 (i_xV (i_ldI 1 (i_no)))) (i_ldA 0 (i_xV (i_ldI 1 (i_cS 2 (FJ1_charAt_3b067 n) (i_rC)))))))
set_option maxRecDepth 20000 in
theorem okJ0_charAt_5068e_0 {E : mE} {X : State → Heap → Prop} {l : Launch} (hX : mXok E X) (n : Nat) : Sd E X l yJ0_charAt_5068e cJ0_charAt_5068e 2 (some .char) 4 0 0 0 0 0 (kJ0_charAt_5068e_0 n) := s_aload_n dJ0_charAt_5068e_0 rfl (s_cX dJ0_charAt_5068e_1 lMJ0_492 bVJ0_isLatin1_aae02 rfl (CtJ0_isLatin1_aae02 hX n) (Nat.le_of_ble_eq_true rfl) (s_ifeq dJ0_charAt_5068e_4 (by decide) (s_aload_n dJ0_charAt_5068e_16 rfl (s_xV dJ0_charAt_5068e_17 lXJ0_9 (s_iload_n dJ0_charAt_5068e_20 rfl (s_no)))) (s_aload_n dJ0_charAt_5068e_7 rfl (s_xV dJ0_charAt_5068e_8 lXJ0_9 (s_iload_n dJ0_charAt_5068e_11 rfl (s_cS dJ0_charAt_5068e_12 lMJ0_495 bSJ1_charAt_3b067 (CtJ1_charAt_3b067 hX n) (Nat.le_of_ble_eq_true rfl) (s_rC dJ0_charAt_5068e_15 (Nat.le_of_ble_eq_true rfl) (Nat.le_of_ble_eq_true rfl)) (Nat.le_of_ble_eq_true rfl) (Nat.le_of_ble_eq_true rfl)))))) (Nat.le_of_ble_eq_true rfl) (Nat.le_of_ble_eq_true rfl))
def FJ0_charAt_5068e (n : Nat) : List Value → mM → Option mR := mfn 2 (kJ0_charAt_5068e_0 n)
theorem CtJ0_charAt_5068e {E : mE} {X : State → Heap → Prop} {l : Launch} (hX : mXok E X) (n : Nat) : Ct E X l yJ0_charAt_5068e cJ0_charAt_5068e 2 (some .char) 4 0 0 (FJ0_charAt_5068e n) := Ct_of (by decide) hX (okJ0_charAt_5068e_0 hX n)
theorem dJ0_indexOf_0f7a4_0 : decode cJ0_indexOf_0f7a4 0 = .ok (.aload_n 0, 1) := by decide +kernel
theorem dJ0_indexOf_0f7a4_1 : decode cJ0_indexOf_0f7a4 1 = .ok (.iload_n 1, 1) := by decide +kernel
theorem dJ0_indexOf_0f7a4_2 : decode cJ0_indexOf_0f7a4 2 = .ok (.iconst 0, 1) := by decide +kernel
theorem dJ0_indexOf_0f7a4_3 : decode cJ0_indexOf_0f7a4 3 = .ok (.invokevirtual 633, 3) := by decide +kernel
theorem dJ0_indexOf_0f7a4_6 : decode cJ0_indexOf_0f7a4 6 = .ok (.ireturn, 1) := by decide +kernel
def kJ0_indexOf_0f7a4_0 (n : Nat) : mK := i_ldA 0 (i_ldI 1 (i_cst (.int (0)) (i_cX 2 (FJ0_indexOf_7cf53 n) (i_rI))))
set_option maxRecDepth 20000 in
theorem okJ0_indexOf_0f7a4_0 {E : mE} {X : State → Heap → Prop} {l : Launch} (hX : mXok E X) (n : Nat) : Sd E X l yJ0_indexOf_0f7a4 cJ0_indexOf_0f7a4 2 (some .int) 4 0 0 0 0 0 (kJ0_indexOf_0f7a4_0 n) := s_aload_n dJ0_indexOf_0f7a4_0 rfl (s_iload_n dJ0_indexOf_0f7a4_1 rfl (s_iconst dJ0_indexOf_0f7a4_2 (by decide) (s_cX dJ0_indexOf_0f7a4_3 lMJ0_633 bVJ0_indexOf_7cf53 rfl (CtJ0_indexOf_7cf53 hX n) (Nat.le_of_ble_eq_true rfl) (s_rI dJ0_indexOf_0f7a4_6 (Nat.le_of_ble_eq_true rfl) (Nat.le_of_ble_eq_true rfl)) (Nat.le_of_ble_eq_true rfl) (Nat.le_of_ble_eq_true rfl))))
def FJ0_indexOf_0f7a4 (n : Nat) : List Value → mM → Option mR := mfn 2 (kJ0_indexOf_0f7a4_0 n)
theorem CtJ0_indexOf_0f7a4 {E : mE} {X : State → Heap → Prop} {l : Launch} (hX : mXok E X) (n : Nat) : Ct E X l yJ0_indexOf_0f7a4 cJ0_indexOf_0f7a4 2 (some .int) 4 0 0 (FJ0_indexOf_0f7a4 n) := Ct_of (by decide) hX (okJ0_indexOf_0f7a4_0 hX n)
theorem dX0_fewestTows_0 : decode cX0_fewestTows 0 = .ok (.iconst (-1), 1) := by decide +kernel
theorem dX0_fewestTows_1 : decode cX0_fewestTows 1 = .ok (.istore_n 1, 1) := by decide +kernel
theorem dX0_fewestTows_2 : decode cX0_fewestTows 2 = .ok (.iconst 0, 1) := by decide +kernel
theorem dX0_fewestTows_3 : decode cX0_fewestTows 3 = .ok (.istore_n 2, 1) := by decide +kernel
theorem dX0_fewestTows_4 : decode cX0_fewestTows 4 = .ok (.iload_n 2, 1) := by decide +kernel
theorem dX0_fewestTows_5 : decode cX0_fewestTows 5 = .ok (.sipush 256, 3) := by decide +kernel
theorem dX0_fewestTows_8 : decode cX0_fewestTows 8 = .ok (.if_icmp .ge 42, 3) := by decide +kernel
theorem dX0_fewestTows_11 : decode cX0_fewestTows 11 = .ok (.aload_n 0, 1) := by decide +kernel
theorem dX0_fewestTows_12 : decode cX0_fewestTows 12 = .ok (.iload_n 2, 1) := by decide +kernel
theorem dX0_fewestTows_13 : decode cX0_fewestTows 13 = .ok (.invokevirtual 57, 3) := by decide +kernel
theorem dX0_fewestTows_16 : decode cX0_fewestTows 16 = .ok (.ifCond .eq 28, 3) := by decide +kernel
theorem dX0_fewestTows_19 : decode cX0_fewestTows 19 = .ok (.iload_n 2, 1) := by decide +kernel
theorem dX0_fewestTows_20 : decode cX0_fewestTows 20 = .ok (.iload_n 1, 1) := by decide +kernel
theorem dX0_fewestTows_21 : decode cX0_fewestTows 21 = .ok (.invokestatic 61, 3) := by decide +kernel
theorem dX0_fewestTows_24 : decode cX0_fewestTows 24 = .ok (.ifCond .eq 20, 3) := by decide +kernel
theorem dX0_fewestTows_27 : decode cX0_fewestTows 27 = .ok (.aload_n 0, 1) := by decide +kernel
theorem dX0_fewestTows_28 : decode cX0_fewestTows 28 = .ok (.aload_n 0, 1) := by decide +kernel
theorem dX0_fewestTows_29 : decode cX0_fewestTows 29 = .ok (.getfield 25, 3) := by decide +kernel
theorem dX0_fewestTows_32 : decode cX0_fewestTows 32 = .ok (.iload_n 2, 1) := by decide +kernel
theorem dX0_fewestTows_33 : decode cX0_fewestTows 33 = .ok (.iconst (-1), 1) := by decide +kernel
theorem dX0_fewestTows_34 : decode cX0_fewestTows 34 = .ok (.ixor, 1) := by decide +kernel
theorem dX0_fewestTows_35 : decode cX0_fewestTows 35 = .ok (.iand, 1) := by decide +kernel
theorem dX0_fewestTows_36 : decode cX0_fewestTows 36 = .ok (.invokevirtual 64, 3) := by decide +kernel
theorem dX0_fewestTows_39 : decode cX0_fewestTows 39 = .ok (.ifCond .ne 5, 3) := by decide +kernel
theorem dX0_fewestTows_42 : decode cX0_fewestTows 42 = .ok (.iload_n 2, 1) := by decide +kernel
theorem dX0_fewestTows_43 : decode cX0_fewestTows 43 = .ok (.istore_n 1, 1) := by decide +kernel
theorem dX0_fewestTows_44 : decode cX0_fewestTows 44 = .ok (.iinc 2 1, 3) := by decide +kernel
theorem dX0_fewestTows_47 : decode cX0_fewestTows 47 = .ok (.goto (-43), 3) := by decide +kernel
theorem dX0_fewestTows_50 : decode cX0_fewestTows 50 = .ok (.iload_n 1, 1) := by decide +kernel
theorem dX0_fewestTows_51 : decode cX0_fewestTows 51 = .ok (.ireturn, 1) := by decide +kernel
def kX0_fewestTows_44 (n : Nat) (r4 : mK) : mK := i_inc 2 (1) (r4)
set_option maxRecDepth 20000 in
theorem okX0_fewestTows_44 {E : mE} {X : State → Heap → Prop} {l : Launch} (hX : mXok E X) (n : Nat) {r4 : mK} (h4 : Sd E X l yX0_fewestTows cX0_fewestTows 3 (some .int) 4 0 0 0 0 4 r4) : Sd E X l yX0_fewestTows cX0_fewestTows 3 (some .int) 4 0 0 0 0 44 (kX0_fewestTows_44 n r4) := s_iinc dX0_fewestTows_44 (by decide) (s_goto dX0_fewestTows_47 (by decide) h4)
def kX0_fewestTows_4 (n : Nat) (r4 : mK) : mK := i_ldI 2 (i_cst (.int (256)) (i_c2 (fun x y => decide (y ≤ x)) (i_ldI 1 (i_rI)) (i_ldA 0 (i_ldI 2 (i_cV 0 1 (FX0_isAmongIn n) (i_c0 (fun x => decide (x = 0)) (kX0_fewestTows_44 n r4) (i_ldI 2 (i_ldI 1 (i_cS 2 (FX0_isSmaller n) (i_c0 (fun x => decide (x = 0)) (kX0_fewestTows_44 n r4) (i_ldA 0 (i_ldA 0 (i_gI 0 2 (i_ldI 2 (i_cst (.int (-1)) (i_bin (fun x y => x ^^^ y) (i_bin (fun x y => x &&& y) (i_cV 0 1 (FX0_stuckOf n) (i_c0 (fun x => decide (¬ x = 0)) (kX0_fewestTows_44 n r4) (i_ldI 2 (i_stI 1 (kX0_fewestTows_44 n r4))))))))))))))))))))))
set_option maxRecDepth 20000 in
theorem okX0_fewestTows_4 {E : mE} {X : State → Heap → Prop} {l : Launch} (hX : mXok E X) (n : Nat) {r4 : mK} (h4 : Sd E X l yX0_fewestTows cX0_fewestTows 3 (some .int) 4 0 0 0 0 4 r4) : Sd E X l yX0_fewestTows cX0_fewestTows 3 (some .int) 4 0 0 0 0 4 (kX0_fewestTows_4 n r4) := s_iload_n dX0_fewestTows_4 rfl (s_sipush dX0_fewestTows_5 (by decide) (s_icge dX0_fewestTows_8 (by decide) (s_iload_n dX0_fewestTows_50 rfl (s_rI dX0_fewestTows_51 (Nat.le_of_ble_eq_true rfl) (Nat.le_of_ble_eq_true rfl))) (s_aload_n dX0_fewestTows_11 rfl (s_iload_n dX0_fewestTows_12 rfl (s_cV dX0_fewestTows_13 lMX0_57 bVX0_isAmongIn rfl (CtX0_isAmongIn hX n) (Nat.le_of_ble_eq_true rfl) (s_ifeq dX0_fewestTows_16 (by decide) (okX0_fewestTows_44 hX n h4) (s_iload_n dX0_fewestTows_19 rfl (s_iload_n dX0_fewestTows_20 rfl (s_cS dX0_fewestTows_21 lMX0_61 bSX0_isSmaller (CtX0_isSmaller hX n) (Nat.le_of_ble_eq_true rfl) (s_ifeq dX0_fewestTows_24 (by decide) (okX0_fewestTows_44 hX n h4) (s_aload_n dX0_fewestTows_27 rfl (s_aload_n dX0_fewestTows_28 rfl (s_gI dX0_fewestTows_29 lFX0_25 (by decide) (s_iload_n dX0_fewestTows_32 rfl (s_iconst dX0_fewestTows_33 (by decide) (s_ixor dX0_fewestTows_34 (s_iand dX0_fewestTows_35 (s_cV dX0_fewestTows_36 lMX0_64 bVX0_stuckOf rfl (CtX0_stuckOf hX n) (Nat.le_of_ble_eq_true rfl) (s_ifne dX0_fewestTows_39 (by decide) (okX0_fewestTows_44 hX n h4) (s_iload_n dX0_fewestTows_42 rfl (s_istore_n dX0_fewestTows_43 rfl (okX0_fewestTows_44 hX n h4)))) (Nat.le_of_ble_eq_true rfl) (Nat.le_of_ble_eq_true rfl)))))))))) (Nat.le_of_ble_eq_true rfl) (Nat.le_of_ble_eq_true rfl))))) (Nat.le_of_ble_eq_true rfl) (Nat.le_of_ble_eq_true rfl))))))
def kX0_fewestTows_0 (n : Nat) : mK := i_cst (.int (-1)) (i_stI 1 (i_cst (.int (0)) (i_stI 2 (mit (kX0_fewestTows_4 n ) n))))
set_option maxRecDepth 20000 in
theorem okX0_fewestTows_0 {E : mE} {X : State → Heap → Prop} {l : Launch} (hX : mXok E X) (n : Nat) : Sd E X l yX0_fewestTows cX0_fewestTows 3 (some .int) 4 0 0 0 0 0 (kX0_fewestTows_0 n) := s_iconst dX0_fewestTows_0 (by decide) (s_istore_n dX0_fewestTows_1 rfl (s_iconst dX0_fewestTows_2 (by decide) (s_istore_n dX0_fewestTows_3 rfl (s_mit (fun _ hk => okX0_fewestTows_4 hX n hk) n))))
def FX0_fewestTows (n : Nat) : List Value → mM → Option mR := mfn 3 (kX0_fewestTows_0 n)
theorem CtX0_fewestTows {E : mE} {X : State → Heap → Prop} {l : Launch} (hX : mXok E X) (n : Nat) : Ct E X l yX0_fewestTows cX0_fewestTows 3 (some .int) 4 0 0 (FX0_fewestTows n) := Ct_of (by decide) hX (okX0_fewestTows_0 hX n)
theorem dX0_layOrder_0 : decode cX0_layOrder 0 = .ok (.aload_n 0, 1) := by decide +kernel
theorem dX0_layOrder_1 : decode cX0_layOrder 1 = .ok (.getfield 25, 3) := by decide +kernel
theorem dX0_layOrder_4 : decode cX0_layOrder 4 = .ok (.istore_n 2, 1) := by decide +kernel
theorem dX0_layOrder_5 : decode cX0_layOrder 5 = .ok (.iconst 0, 1) := by decide +kernel
theorem dX0_layOrder_6 : decode cX0_layOrder 6 = .ok (.istore_n 3, 1) := by decide +kernel
theorem dX0_layOrder_7 : decode cX0_layOrder 7 = .ok (.iload_n 3, 1) := by decide +kernel
theorem dX0_layOrder_8 : decode cX0_layOrder 8 = .ok (.bipush 8, 2) := by decide +kernel
theorem dX0_layOrder_10 : decode cX0_layOrder 10 = .ok (.if_icmp .ge 38, 3) := by decide +kernel
theorem dX0_layOrder_13 : decode cX0_layOrder 13 = .ok (.aload_n 0, 1) := by decide +kernel
theorem dX0_layOrder_14 : decode cX0_layOrder 14 = .ok (.iload_n 2, 1) := by decide +kernel
theorem dX0_layOrder_15 : decode cX0_layOrder 15 = .ok (.invokevirtual 48, 3) := by decide +kernel
theorem dX0_layOrder_18 : decode cX0_layOrder 18 = .ok (.istore 4, 2) := by decide +kernel
theorem dX0_layOrder_20 : decode cX0_layOrder 20 = .ok (.iload 4, 2) := by decide +kernel
theorem dX0_layOrder_22 : decode cX0_layOrder 22 = .ok (.iconst (-1), 1) := by decide +kernel
theorem dX0_layOrder_23 : decode cX0_layOrder 23 = .ok (.if_icmp .eq 19, 3) := by decide +kernel
theorem dX0_layOrder_26 : decode cX0_layOrder 26 = .ok (.iload_n 2, 1) := by decide +kernel
theorem dX0_layOrder_27 : decode cX0_layOrder 27 = .ok (.iload 4, 2) := by decide +kernel
theorem dX0_layOrder_29 : decode cX0_layOrder 29 = .ok (.invokestatic 37, 3) := by decide +kernel
theorem dX0_layOrder_32 : decode cX0_layOrder 32 = .ok (.iconst (-1), 1) := by decide +kernel
theorem dX0_layOrder_33 : decode cX0_layOrder 33 = .ok (.ixor, 1) := by decide +kernel
theorem dX0_layOrder_34 : decode cX0_layOrder 34 = .ok (.iand, 1) := by decide +kernel
theorem dX0_layOrder_35 : decode cX0_layOrder 35 = .ok (.istore_n 2, 1) := by decide +kernel
theorem dX0_layOrder_36 : decode cX0_layOrder 36 = .ok (.aload_n 1, 1) := by decide +kernel
theorem dX0_layOrder_37 : decode cX0_layOrder 37 = .ok (.iload 4, 2) := by decide +kernel
theorem dX0_layOrder_39 : decode cX0_layOrder 39 = .ok (.invokevirtual 51, 3) := by decide +kernel
theorem dX0_layOrder_42 : decode cX0_layOrder 42 = .ok (.iinc 3 1, 3) := by decide +kernel
theorem dX0_layOrder_45 : decode cX0_layOrder 45 = .ok (.goto (-38), 3) := by decide +kernel
theorem dX0_layOrder_48 : decode cX0_layOrder 48 = .ok (.return_, 1) := by decide +kernel
def kX0_layOrder_42 (n : Nat) (r7 : mK) : mK := i_inc 3 (1) (r7)
set_option maxRecDepth 20000 in
theorem okX0_layOrder_42 {E : mE} {X : State → Heap → Prop} {l : Launch} (hX : mXok E X) (n : Nat) {r7 : mK} (h7 : Sd E X l yX0_layOrder cX0_layOrder 5 none 4 0 0 0 0 7 r7) : Sd E X l yX0_layOrder cX0_layOrder 5 none 4 0 0 0 0 42 (kX0_layOrder_42 n r7) := s_iinc dX0_layOrder_42 (by decide) (s_goto dX0_layOrder_45 (by decide) h7)
def kX0_layOrder_7 (n : Nat) (r7 : mK) : mK := i_ldI 3 (i_cst (.int (8)) (i_c2 (fun x y => decide (y ≤ x)) (i_rV) (i_ldA 0 (i_ldI 2 (i_cV 0 1 (FX0_firstFreeAmong n) (i_stI 4 (i_ldI 4 (i_cst (.int (-1)) (i_c2 (fun x y => decide (x = y)) (kX0_layOrder_42 n r7) (i_ldI 2 (i_ldI 4 (i_cS 1 (FX11_bit n) (i_cst (.int (-1)) (i_bin (fun x y => x ^^^ y) (i_bin (fun x y => x &&& y) (i_stI 2 (i_ldA 1 (i_ldI 4 (i_cV 6 1 (FX6_add n) (kX0_layOrder_42 n r7))))))))))))))))))))
set_option maxRecDepth 20000 in
theorem okX0_layOrder_7 {E : mE} {X : State → Heap → Prop} {l : Launch} (hX : mXok E X) (n : Nat) {r7 : mK} (h7 : Sd E X l yX0_layOrder cX0_layOrder 5 none 4 0 0 0 0 7 r7) : Sd E X l yX0_layOrder cX0_layOrder 5 none 4 0 0 0 0 7 (kX0_layOrder_7 n r7) := s_iload_n dX0_layOrder_7 rfl (s_bipush dX0_layOrder_8 (by decide) (s_icge dX0_layOrder_10 (by decide) (s_rV dX0_layOrder_48 (Nat.le_of_ble_eq_true rfl) (Nat.le_of_ble_eq_true rfl)) (s_aload_n dX0_layOrder_13 rfl (s_iload_n dX0_layOrder_14 rfl (s_cV dX0_layOrder_15 lMX0_48 bVX0_firstFreeAmong rfl (CtX0_firstFreeAmong hX n) (Nat.le_of_ble_eq_true rfl) (s_istore dX0_layOrder_18 (s_iload dX0_layOrder_20 (s_iconst dX0_layOrder_22 (by decide) (s_iceq dX0_layOrder_23 (by decide) (okX0_layOrder_42 hX n h7) (s_iload_n dX0_layOrder_26 rfl (s_iload dX0_layOrder_27 (s_cN dX0_layOrder_29 lNX0_37 bSX11_bit (CtX11_bit hX n) (Nat.le_of_ble_eq_true rfl) (s_iconst dX0_layOrder_32 (by decide) (s_ixor dX0_layOrder_33 (s_iand dX0_layOrder_34 (s_istore_n dX0_layOrder_35 rfl (s_aload_n dX0_layOrder_36 rfl (s_iload dX0_layOrder_37 (s_cV dX0_layOrder_39 lMX0_51 bVX6_add rfl (CtX6_add hX n) (Nat.le_of_ble_eq_true rfl) (okX0_layOrder_42 hX n h7) (Nat.le_of_ble_eq_true rfl) (Nat.le_of_ble_eq_true rfl)))))))) (Nat.le_of_ble_eq_true rfl) (Nat.le_of_ble_eq_true rfl)))))))) (Nat.le_of_ble_eq_true rfl) (Nat.le_of_ble_eq_true rfl))))))
def kX0_layOrder_0 (n : Nat) : mK := i_ldA 0 (i_gI 0 2 (i_stI 2 (i_cst (.int (0)) (i_stI 3 (mit (kX0_layOrder_7 n ) n)))))
set_option maxRecDepth 20000 in
theorem okX0_layOrder_0 {E : mE} {X : State → Heap → Prop} {l : Launch} (hX : mXok E X) (n : Nat) : Sd E X l yX0_layOrder cX0_layOrder 5 none 4 0 0 0 0 0 (kX0_layOrder_0 n) := s_aload_n dX0_layOrder_0 rfl (s_gI dX0_layOrder_1 lFX0_25 (by decide) (s_istore_n dX0_layOrder_4 rfl (s_iconst dX0_layOrder_5 (by decide) (s_istore_n dX0_layOrder_6 rfl (s_mit (fun _ hk => okX0_layOrder_7 hX n hk) n)))))
def FX0_layOrder (n : Nat) : List Value → mM → Option mR := mfn 5 (kX0_layOrder_0 n)
theorem CtX0_layOrder {E : mE} {X : State → Heap → Prop} {l : Launch} (hX : mXok E X) (n : Nat) : Ct E X l yX0_layOrder cX0_layOrder 5 none 4 0 0 (FX0_layOrder n) := Ct_of (by decide) hX (okX0_layOrder_0 hX n)
theorem dX0_smallestRing_0 : decode cX0_smallestRing 0 = .ok (.iconst (-1), 1) := by decide +kernel
theorem dX0_smallestRing_1 : decode cX0_smallestRing 1 = .ok (.istore_n 1, 1) := by decide +kernel
theorem dX0_smallestRing_2 : decode cX0_smallestRing 2 = .ok (.iconst 1, 1) := by decide +kernel
theorem dX0_smallestRing_3 : decode cX0_smallestRing 3 = .ok (.istore_n 2, 1) := by decide +kernel
theorem dX0_smallestRing_4 : decode cX0_smallestRing 4 = .ok (.iload_n 2, 1) := by decide +kernel
theorem dX0_smallestRing_5 : decode cX0_smallestRing 5 = .ok (.sipush 256, 3) := by decide +kernel
theorem dX0_smallestRing_8 : decode cX0_smallestRing 8 = .ok (.if_icmp .ge 36, 3) := by decide +kernel
theorem dX0_smallestRing_11 : decode cX0_smallestRing 11 = .ok (.aload_n 0, 1) := by decide +kernel
theorem dX0_smallestRing_12 : decode cX0_smallestRing 12 = .ok (.iload_n 2, 1) := by decide +kernel
theorem dX0_smallestRing_13 : decode cX0_smallestRing 13 = .ok (.invokevirtual 57, 3) := by decide +kernel
theorem dX0_smallestRing_16 : decode cX0_smallestRing 16 = .ok (.ifCond .eq 22, 3) := by decide +kernel
theorem dX0_smallestRing_19 : decode cX0_smallestRing 19 = .ok (.aload_n 0, 1) := by decide +kernel
theorem dX0_smallestRing_20 : decode cX0_smallestRing 20 = .ok (.iload_n 2, 1) := by decide +kernel
theorem dX0_smallestRing_21 : decode cX0_smallestRing 21 = .ok (.invokevirtual 48, 3) := by decide +kernel
theorem dX0_smallestRing_24 : decode cX0_smallestRing 24 = .ok (.iconst (-1), 1) := by decide +kernel
theorem dX0_smallestRing_25 : decode cX0_smallestRing 25 = .ok (.if_icmp .ne 13, 3) := by decide +kernel
theorem dX0_smallestRing_28 : decode cX0_smallestRing 28 = .ok (.iload_n 2, 1) := by decide +kernel
theorem dX0_smallestRing_29 : decode cX0_smallestRing 29 = .ok (.iload_n 1, 1) := by decide +kernel
theorem dX0_smallestRing_30 : decode cX0_smallestRing 30 = .ok (.invokestatic 61, 3) := by decide +kernel
theorem dX0_smallestRing_33 : decode cX0_smallestRing 33 = .ok (.ifCond .eq 5, 3) := by decide +kernel
theorem dX0_smallestRing_36 : decode cX0_smallestRing 36 = .ok (.iload_n 2, 1) := by decide +kernel
theorem dX0_smallestRing_37 : decode cX0_smallestRing 37 = .ok (.istore_n 1, 1) := by decide +kernel
theorem dX0_smallestRing_38 : decode cX0_smallestRing 38 = .ok (.iinc 2 1, 3) := by decide +kernel
theorem dX0_smallestRing_41 : decode cX0_smallestRing 41 = .ok (.goto (-37), 3) := by decide +kernel
theorem dX0_smallestRing_44 : decode cX0_smallestRing 44 = .ok (.iload_n 1, 1) := by decide +kernel
theorem dX0_smallestRing_45 : decode cX0_smallestRing 45 = .ok (.ireturn, 1) := by decide +kernel
def kX0_smallestRing_38 (n : Nat) (r4 : mK) : mK := i_inc 2 (1) (r4)
set_option maxRecDepth 20000 in
theorem okX0_smallestRing_38 {E : mE} {X : State → Heap → Prop} {l : Launch} (hX : mXok E X) (n : Nat) {r4 : mK} (h4 : Sd E X l yX0_smallestRing cX0_smallestRing 3 (some .int) 4 0 0 0 0 4 r4) : Sd E X l yX0_smallestRing cX0_smallestRing 3 (some .int) 4 0 0 0 0 38 (kX0_smallestRing_38 n r4) := s_iinc dX0_smallestRing_38 (by decide) (s_goto dX0_smallestRing_41 (by decide) h4)
def kX0_smallestRing_4 (n : Nat) (r4 : mK) : mK := i_ldI 2 (i_cst (.int (256)) (i_c2 (fun x y => decide (y ≤ x)) (i_ldI 1 (i_rI)) (i_ldA 0 (i_ldI 2 (i_cV 0 1 (FX0_isAmongIn n) (i_c0 (fun x => decide (x = 0)) (kX0_smallestRing_38 n r4) (i_ldA 0 (i_ldI 2 (i_cV 0 1 (FX0_firstFreeAmong n) (i_cst (.int (-1)) (i_c2 (fun x y => decide (¬ x = y)) (kX0_smallestRing_38 n r4) (i_ldI 2 (i_ldI 1 (i_cS 2 (FX0_isSmaller n) (i_c0 (fun x => decide (x = 0)) (kX0_smallestRing_38 n r4) (i_ldI 2 (i_stI 1 (kX0_smallestRing_38 n r4))))))))))))))))))
set_option maxRecDepth 20000 in
theorem okX0_smallestRing_4 {E : mE} {X : State → Heap → Prop} {l : Launch} (hX : mXok E X) (n : Nat) {r4 : mK} (h4 : Sd E X l yX0_smallestRing cX0_smallestRing 3 (some .int) 4 0 0 0 0 4 r4) : Sd E X l yX0_smallestRing cX0_smallestRing 3 (some .int) 4 0 0 0 0 4 (kX0_smallestRing_4 n r4) := s_iload_n dX0_smallestRing_4 rfl (s_sipush dX0_smallestRing_5 (by decide) (s_icge dX0_smallestRing_8 (by decide) (s_iload_n dX0_smallestRing_44 rfl (s_rI dX0_smallestRing_45 (Nat.le_of_ble_eq_true rfl) (Nat.le_of_ble_eq_true rfl))) (s_aload_n dX0_smallestRing_11 rfl (s_iload_n dX0_smallestRing_12 rfl (s_cV dX0_smallestRing_13 lMX0_57 bVX0_isAmongIn rfl (CtX0_isAmongIn hX n) (Nat.le_of_ble_eq_true rfl) (s_ifeq dX0_smallestRing_16 (by decide) (okX0_smallestRing_38 hX n h4) (s_aload_n dX0_smallestRing_19 rfl (s_iload_n dX0_smallestRing_20 rfl (s_cV dX0_smallestRing_21 lMX0_48 bVX0_firstFreeAmong rfl (CtX0_firstFreeAmong hX n) (Nat.le_of_ble_eq_true rfl) (s_iconst dX0_smallestRing_24 (by decide) (s_icne dX0_smallestRing_25 (by decide) (okX0_smallestRing_38 hX n h4) (s_iload_n dX0_smallestRing_28 rfl (s_iload_n dX0_smallestRing_29 rfl (s_cS dX0_smallestRing_30 lMX0_61 bSX0_isSmaller (CtX0_isSmaller hX n) (Nat.le_of_ble_eq_true rfl) (s_ifeq dX0_smallestRing_33 (by decide) (okX0_smallestRing_38 hX n h4) (s_iload_n dX0_smallestRing_36 rfl (s_istore_n dX0_smallestRing_37 rfl (okX0_smallestRing_38 hX n h4)))) (Nat.le_of_ble_eq_true rfl) (Nat.le_of_ble_eq_true rfl)))))) (Nat.le_of_ble_eq_true rfl) (Nat.le_of_ble_eq_true rfl))))) (Nat.le_of_ble_eq_true rfl) (Nat.le_of_ble_eq_true rfl))))))
def kX0_smallestRing_0 (n : Nat) : mK := i_cst (.int (-1)) (i_stI 1 (i_cst (.int (1)) (i_stI 2 (mit (kX0_smallestRing_4 n ) n))))
set_option maxRecDepth 20000 in
theorem okX0_smallestRing_0 {E : mE} {X : State → Heap → Prop} {l : Launch} (hX : mXok E X) (n : Nat) : Sd E X l yX0_smallestRing cX0_smallestRing 3 (some .int) 4 0 0 0 0 0 (kX0_smallestRing_0 n) := s_iconst dX0_smallestRing_0 (by decide) (s_istore_n dX0_smallestRing_1 rfl (s_iconst dX0_smallestRing_2 (by decide) (s_istore_n dX0_smallestRing_3 rfl (s_mit (fun _ hk => okX0_smallestRing_4 hX n hk) n))))
def FX0_smallestRing (n : Nat) : List Value → mM → Option mR := mfn 3 (kX0_smallestRing_0 n)
theorem CtX0_smallestRing {E : mE} {X : State → Heap → Prop} {l : Launch} (hX : mXok E X) (n : Nat) : Ct E X l yX0_smallestRing cX0_smallestRing 3 (some .int) 4 0 0 (FX0_smallestRing n) := Ct_of (by decide) hX (okX0_smallestRing_0 hX n)
theorem dX10_come_0 : decode cX10_come 0 = .ok (.aload_n 0, 1) := by decide +kernel
theorem dX10_come_1 : decode cX10_come 1 = .ok (.getfield 18, 3) := by decide +kernel
theorem dX10_come_4 : decode cX10_come 4 = .ok (.getfield 30, 3) := by decide +kernel
theorem dX10_come_7 : decode cX10_come 7 = .ok (.iload_n 1, 1) := by decide +kernel
theorem dX10_come_8 : decode cX10_come 8 = .ok (.invokevirtual 36, 3) := by decide +kernel
theorem dX10_come_11 : decode cX10_come 11 = .ok (.ifCond .eq 58, 3) := by decide +kernel
theorem dX10_come_14 : decode cX10_come 14 = .ok (.aload_n 0, 1) := by decide +kernel
theorem dX10_come_15 : decode cX10_come 15 = .ok (.getfield 18, 3) := by decide +kernel
theorem dX10_come_18 : decode cX10_come 18 = .ok (.iload_n 1, 1) := by decide +kernel
theorem dX10_come_19 : decode cX10_come 19 = .ok (.invokevirtual 42, 3) := by decide +kernel
theorem dX10_come_22 : decode cX10_come 22 = .ok (.iconst (-1), 1) := by decide +kernel
theorem dX10_come_23 : decode cX10_come 23 = .ok (.if_icmp .ne 46, 3) := by decide +kernel
theorem dX10_come_26 : decode cX10_come 26 = .ok (.aload_n 0, 1) := by decide +kernel
theorem dX10_come_27 : decode cX10_come 27 = .ok (.getfield 9, 3) := by decide +kernel
theorem dX10_come_30 : decode cX10_come 30 = .ok (.iload_n 1, 1) := by decide +kernel
theorem dX10_come_31 : decode cX10_come 31 = .ok (.invokestatic 46, 3) := by decide +kernel
theorem dX10_come_34 : decode cX10_come 34 = .ok (.iconst (-1), 1) := by decide +kernel
theorem dX10_come_35 : decode cX10_come 35 = .ok (.if_icmp .ne 34, 3) := by decide +kernel
theorem dX10_come_38 : decode cX10_come 38 = .ok (.aload_n 0, 1) := by decide +kernel
theorem dX10_come_39 : decode cX10_come 39 = .ok (.getfield 9, 3) := by decide +kernel
theorem dX10_come_42 : decode cX10_come 42 = .ok (.iload_n 1, 1) := by decide +kernel
theorem dX10_come_43 : decode cX10_come 43 = .ok (.iload_n 2, 1) := by decide +kernel
theorem dX10_come_44 : decode cX10_come 44 = .ok (.invokestatic 50, 3) := by decide +kernel
theorem dX10_come_47 : decode cX10_come 47 = .ok (.aload_n 0, 1) := by decide +kernel
theorem dX10_come_48 : decode cX10_come 48 = .ok (.getfield 15, 3) := by decide +kernel
theorem dX10_come_51 : decode cX10_come 51 = .ok (.aload_n 0, 1) := by decide +kernel
theorem dX10_come_52 : decode cX10_come 52 = .ok (.getfield 22, 3) := by decide +kernel
theorem dX10_come_55 : decode cX10_come 55 = .ok (.iload_n 1, 1) := by decide +kernel
theorem dX10_come_56 : decode cX10_come 56 = .ok (.invokestatic 50, 3) := by decide +kernel
theorem dX10_come_59 : decode cX10_come 59 = .ok (.aload_n 0, 1) := by decide +kernel
theorem dX10_come_60 : decode cX10_come 60 = .ok (.dup, 1) := by decide +kernel
theorem dX10_come_61 : decode cX10_come 61 = .ok (.getfield 22, 3) := by decide +kernel
theorem dX10_come_64 : decode cX10_come 64 = .ok (.iconst 1, 1) := by decide +kernel
theorem dX10_come_65 : decode cX10_come 65 = .ok (.iadd, 1) := by decide +kernel
theorem dX10_come_66 : decode cX10_come 66 = .ok (.putfield 22, 3) := by decide +kernel
theorem dX10_come_69 : decode cX10_come 69 = .ok (.return_, 1) := by decide +kernel
def kX10_come_69 (n : Nat) : mK := i_rV
set_option maxRecDepth 20000 in
theorem okX10_come_69 {E : mE} {X : State → Heap → Prop} {l : Launch} (hX : mXok E X) (n : Nat) : Sd E X l yX10_come cX10_come 3 none 4 0 0 0 0 69 (kX10_come_69 n) := s_rV dX10_come_69 (Nat.le_of_ble_eq_true rfl) (Nat.le_of_ble_eq_true rfl)
def kX10_come_48 (n : Nat) : mK := i_gA 10 2 (i_ldA 0 (i_gI 10 3 (i_ldI 1 (i_cS 3 (FX11_set n) (i_ldA 0 (i_dup (i_gI 10 3 (i_cst (.int (1)) (i_bin (fun x y => x + y) (i_pI 10 3 (kX10_come_69 n)))))))))))
set_option maxRecDepth 20000 in
theorem okX10_come_48 {E : mE} {X : State → Heap → Prop} {l : Launch} (hX : mXok E X) (n : Nat) : Sd E X l yX10_come cX10_come 3 none 4 0 0 0 0 48 (kX10_come_48 n) := s_gA dX10_come_48 lFX10_15 (s_aload_n dX10_come_51 rfl (s_gI dX10_come_52 lFX10_22 (by decide) (s_iload_n dX10_come_55 rfl (s_cN dX10_come_56 lNX10_50 bSX11_set (CtX11_set hX n) (Nat.le_of_ble_eq_true rfl) (s_aload_n dX10_come_59 rfl (s_dup dX10_come_60 (s_gI dX10_come_61 lFX10_22 (by decide) (s_iconst dX10_come_64 (by decide) (s_iadd dX10_come_65 (s_pI dX10_come_66 lFX10_22 (okX10_come_69 hX n))))))) (Nat.le_of_ble_eq_true rfl) (Nat.le_of_ble_eq_true rfl)))))
def kX10_come_0 (n : Nat) : mK := i_ldA 0 (i_gA 10 0 (i_gA 8 0 (i_ldI 1 (i_cV 4 1 (FX4_hasCell n) (i_c0 (fun x => decide (x = 0)) (kX10_come_69 n) (i_ldA 0 (i_gA 10 0 (i_ldI 1 (i_cV 8 1 (FX8_whoIsAt n) (i_cst (.int (-1)) (i_c2 (fun x y => decide (¬ x = y)) (kX10_come_69 n) (i_ldA 0 (i_gA 10 1 (i_ldI 1 (i_cS 2 (FX11_at n) (i_cst (.int (-1)) (i_c2 (fun x y => decide (¬ x = y)) (kX10_come_69 n) (i_ldA 0 (i_gA 10 1 (i_ldI 1 (i_ldI 2 (i_cS 3 (FX11_set n) (i_ldA 0 (kX10_come_48 n))))))))))))))))))))))))
set_option maxRecDepth 20000 in
theorem okX10_come_0 {E : mE} {X : State → Heap → Prop} {l : Launch} (hX : mXok E X) (n : Nat) : Sd E X l yX10_come cX10_come 3 none 4 0 0 0 0 0 (kX10_come_0 n) := s_aload_n dX10_come_0 rfl (s_gA dX10_come_1 lFX10_18 (s_gA dX10_come_4 lFX10_30 (s_iload_n dX10_come_7 rfl (s_cV dX10_come_8 lMX10_36 bVX4_hasCell rfl (CtX4_hasCell hX n) (Nat.le_of_ble_eq_true rfl) (s_ifeq dX10_come_11 (by decide) (okX10_come_69 hX n) (s_aload_n dX10_come_14 rfl (s_gA dX10_come_15 lFX10_18 (s_iload_n dX10_come_18 rfl (s_cV dX10_come_19 lMX10_42 bVX8_whoIsAt rfl (CtX8_whoIsAt hX n) (Nat.le_of_ble_eq_true rfl) (s_iconst dX10_come_22 (by decide) (s_icne dX10_come_23 (by decide) (okX10_come_69 hX n) (s_aload_n dX10_come_26 rfl (s_gA dX10_come_27 lFX10_9 (s_iload_n dX10_come_30 rfl (s_cN dX10_come_31 lNX10_46 bSX11_at (CtX11_at hX n) (Nat.le_of_ble_eq_true rfl) (s_iconst dX10_come_34 (by decide) (s_icne dX10_come_35 (by decide) (okX10_come_69 hX n) (s_aload_n dX10_come_38 rfl (s_gA dX10_come_39 lFX10_9 (s_iload_n dX10_come_42 rfl (s_iload_n dX10_come_43 rfl (s_cN dX10_come_44 lNX10_50 bSX11_set (CtX11_set hX n) (Nat.le_of_ble_eq_true rfl) (s_aload_n dX10_come_47 rfl (okX10_come_48 hX n)) (Nat.le_of_ble_eq_true rfl) (Nat.le_of_ble_eq_true rfl)))))))) (Nat.le_of_ble_eq_true rfl) (Nat.le_of_ble_eq_true rfl))))))) (Nat.le_of_ble_eq_true rfl) (Nat.le_of_ble_eq_true rfl)))))) (Nat.le_of_ble_eq_true rfl) (Nat.le_of_ble_eq_true rfl)))))
def FX10_come (n : Nat) : List Value → mM → Option mR := mfn 3 (kX10_come_0 n)
theorem CtX10_come {E : mE} {X : State → Heap → Prop} {l : Launch} (hX : mXok E X) (n : Nat) : Ct E X l yX10_come cX10_come 3 none 4 0 0 (FX10_come n) := Ct_of (by decide) hX (okX10_come_0 hX n)
theorem dX10_layWayFrom_0 : decode cX10_layWayFrom 0 = .ok (.aload_n 0, 1) := by decide +kernel
theorem dX10_layWayFrom_1 : decode cX10_layWayFrom 1 = .ok (.getfield 9, 3) := by decide +kernel
theorem dX10_layWayFrom_4 : decode cX10_layWayFrom 4 = .ok (.iload_n 1, 1) := by decide +kernel
theorem dX10_layWayFrom_5 : decode cX10_layWayFrom 5 = .ok (.invokestatic 46, 3) := by decide +kernel
theorem dX10_layWayFrom_8 : decode cX10_layWayFrom 8 = .ok (.iconst (-1), 1) := by decide +kernel
theorem dX10_layWayFrom_9 : decode cX10_layWayFrom 9 = .ok (.if_icmp .ne 7, 3) := by decide +kernel
theorem dX10_layWayFrom_12 : decode cX10_layWayFrom 12 = .ok (.iconst (-1), 1) := by decide +kernel
theorem dX10_layWayFrom_13 : decode cX10_layWayFrom 13 = .ok (.goto 4, 3) := by decide +kernel
theorem dX10_layWayFrom_16 : decode cX10_layWayFrom 16 = .ok (.iload_n 1, 1) := by decide +kernel
theorem dX10_layWayFrom_17 : decode cX10_layWayFrom 17 = .ok (.istore_n 3, 1) := by decide +kernel
theorem dX10_layWayFrom_18 : decode cX10_layWayFrom 18 = .ok (.iconst 0, 1) := by decide +kernel
theorem dX10_layWayFrom_19 : decode cX10_layWayFrom 19 = .ok (.istore 4, 2) := by decide +kernel
theorem dX10_layWayFrom_21 : decode cX10_layWayFrom 21 = .ok (.iload 4, 2) := by decide +kernel
theorem dX10_layWayFrom_23 : decode cX10_layWayFrom 23 = .ok (.bipush 16, 2) := by decide +kernel
theorem dX10_layWayFrom_25 : decode cX10_layWayFrom 25 = .ok (.if_icmp .ge 25, 3) := by decide +kernel
theorem dX10_layWayFrom_28 : decode cX10_layWayFrom 28 = .ok (.iload_n 3, 1) := by decide +kernel
theorem dX10_layWayFrom_29 : decode cX10_layWayFrom 29 = .ok (.iconst (-1), 1) := by decide +kernel
theorem dX10_layWayFrom_30 : decode cX10_layWayFrom 30 = .ok (.if_icmp .eq 20, 3) := by decide +kernel
theorem dX10_layWayFrom_33 : decode cX10_layWayFrom 33 = .ok (.aload_n 2, 1) := by decide +kernel
theorem dX10_layWayFrom_34 : decode cX10_layWayFrom 34 = .ok (.iload_n 3, 1) := by decide +kernel
theorem dX10_layWayFrom_35 : decode cX10_layWayFrom 35 = .ok (.invokevirtual 60, 3) := by decide +kernel
theorem dX10_layWayFrom_38 : decode cX10_layWayFrom 38 = .ok (.aload_n 0, 1) := by decide +kernel
theorem dX10_layWayFrom_39 : decode cX10_layWayFrom 39 = .ok (.iload_n 3, 1) := by decide +kernel
theorem dX10_layWayFrom_40 : decode cX10_layWayFrom 40 = .ok (.invokevirtual 64, 3) := by decide +kernel
theorem dX10_layWayFrom_43 : decode cX10_layWayFrom 43 = .ok (.istore_n 3, 1) := by decide +kernel
theorem dX10_layWayFrom_44 : decode cX10_layWayFrom 44 = .ok (.iinc 4 1, 3) := by decide +kernel
theorem dX10_layWayFrom_47 : decode cX10_layWayFrom 47 = .ok (.goto (-26), 3) := by decide +kernel
theorem dX10_layWayFrom_50 : decode cX10_layWayFrom 50 = .ok (.return_, 1) := by decide +kernel
def kX10_layWayFrom_50 (n : Nat) : mK := i_rV
set_option maxRecDepth 20000 in
theorem okX10_layWayFrom_50 {E : mE} {X : State → Heap → Prop} {l : Launch} (hX : mXok E X) (n : Nat) : Sd E X l yX10_layWayFrom cX10_layWayFrom 5 none 4 0 0 0 0 50 (kX10_layWayFrom_50 n) := s_rV dX10_layWayFrom_50 (Nat.le_of_ble_eq_true rfl) (Nat.le_of_ble_eq_true rfl)
def kX10_layWayFrom_21 (n : Nat) (r21 : mK) : mK := i_ldI 4 (i_cst (.int (16)) (i_c2 (fun x y => decide (y ≤ x)) (kX10_layWayFrom_50 n) (i_ldI 3 (i_cst (.int (-1)) (i_c2 (fun x y => decide (x = y)) (kX10_layWayFrom_50 n) (i_ldA 2 (i_ldI 3 (i_cV 6 1 (FX6_add n) (i_ldA 0 (i_ldI 3 (i_cV 10 1 (FX10_nearer n) (i_stI 3 (i_inc 4 (1) (r21))))))))))))))
set_option maxRecDepth 20000 in
theorem okX10_layWayFrom_21 {E : mE} {X : State → Heap → Prop} {l : Launch} (hX : mXok E X) (n : Nat) {r21 : mK} (h21 : Sd E X l yX10_layWayFrom cX10_layWayFrom 5 none 4 0 0 0 0 21 r21) : Sd E X l yX10_layWayFrom cX10_layWayFrom 5 none 4 0 0 0 0 21 (kX10_layWayFrom_21 n r21) := s_iload dX10_layWayFrom_21 (s_bipush dX10_layWayFrom_23 (by decide) (s_icge dX10_layWayFrom_25 (by decide) (okX10_layWayFrom_50 hX n) (s_iload_n dX10_layWayFrom_28 rfl (s_iconst dX10_layWayFrom_29 (by decide) (s_iceq dX10_layWayFrom_30 (by decide) (okX10_layWayFrom_50 hX n) (s_aload_n dX10_layWayFrom_33 rfl (s_iload_n dX10_layWayFrom_34 rfl (s_cV dX10_layWayFrom_35 lMX10_60 bVX6_add rfl (CtX6_add hX n) (Nat.le_of_ble_eq_true rfl) (s_aload_n dX10_layWayFrom_38 rfl (s_iload_n dX10_layWayFrom_39 rfl (s_cV dX10_layWayFrom_40 lMX10_64 bVX10_nearer rfl (CtX10_nearer hX n) (Nat.le_of_ble_eq_true rfl) (s_istore_n dX10_layWayFrom_43 rfl (s_iinc dX10_layWayFrom_44 (by decide) (s_goto dX10_layWayFrom_47 (by decide) h21))) (Nat.le_of_ble_eq_true rfl) (Nat.le_of_ble_eq_true rfl)))) (Nat.le_of_ble_eq_true rfl) (Nat.le_of_ble_eq_true rfl)))))))))
def kX10_layWayFrom_17 (n : Nat) : mK := i_stI 3 (i_cst (.int (0)) (i_stI 4 (mit (kX10_layWayFrom_21 n ) n)))
set_option maxRecDepth 20000 in
theorem okX10_layWayFrom_17 {E : mE} {X : State → Heap → Prop} {l : Launch} (hX : mXok E X) (n : Nat) : Sd E X l yX10_layWayFrom cX10_layWayFrom 5 none 4 0 0 0 0 17 (kX10_layWayFrom_17 n) := s_istore_n dX10_layWayFrom_17 rfl (s_iconst dX10_layWayFrom_18 (by decide) (s_istore dX10_layWayFrom_19 (s_mit (fun _ hk => okX10_layWayFrom_21 hX n hk) n)))
def kX10_layWayFrom_0 (n : Nat) : mK := i_ldA 0 (i_gA 10 1 (i_ldI 1 (i_cS 2 (FX11_at n) (i_cst (.int (-1)) (i_c2 (fun x y => decide (¬ x = y)) (i_ldI 1 (kX10_layWayFrom_17 n)) (i_cst (.int (-1)) ((kX10_layWayFrom_17 n))))))))
set_option maxRecDepth 20000 in
theorem okX10_layWayFrom_0 {E : mE} {X : State → Heap → Prop} {l : Launch} (hX : mXok E X) (n : Nat) : Sd E X l yX10_layWayFrom cX10_layWayFrom 5 none 4 0 0 0 0 0 (kX10_layWayFrom_0 n) := s_aload_n dX10_layWayFrom_0 rfl (s_gA dX10_layWayFrom_1 lFX10_9 (s_iload_n dX10_layWayFrom_4 rfl (s_cN dX10_layWayFrom_5 lNX10_46 bSX11_at (CtX11_at hX n) (Nat.le_of_ble_eq_true rfl) (s_iconst dX10_layWayFrom_8 (by decide) (s_icne dX10_layWayFrom_9 (by decide) (s_iload_n dX10_layWayFrom_16 rfl (okX10_layWayFrom_17 hX n)) (s_iconst dX10_layWayFrom_12 (by decide) (s_goto dX10_layWayFrom_13 (by decide) (okX10_layWayFrom_17 hX n))))) (Nat.le_of_ble_eq_true rfl) (Nat.le_of_ble_eq_true rfl))))
def FX10_layWayFrom (n : Nat) : List Value → mM → Option mR := mfn 5 (kX10_layWayFrom_0 n)
theorem CtX10_layWayFrom {E : mE} {X : State → Heap → Prop} {l : Launch} (hX : mXok E X) (n : Nat) : Ct E X l yX10_layWayFrom cX10_layWayFrom 5 none 4 0 0 (FX10_layWayFrom n) := Ct_of (by decide) hX (okX10_layWayFrom_0 hX n)
theorem dX11_about_0 : decode cX11_about 0 = .ok (.iload_n 1, 1) := by decide +kernel
theorem dX11_about_1 : decode cX11_about 1 = .ok (.tableswitch 188 0 13 #[71, 79, 87, 95, 103, 111, 119, 127, 143, 151, 159, 164, 172, 180], 71) := by decide +kernel
theorem dX11_about_72 : decode cX11_about 72 = .ok (.aload_n 0, 1) := by decide +kernel
theorem dX11_about_73 : decode cX11_about 73 = .ok (.getfield 16, 3) := by decide +kernel
theorem dX11_about_76 : decode cX11_about 76 = .ok (.getfield 129, 3) := by decide +kernel
theorem dX11_about_79 : decode cX11_about 79 = .ok (.ireturn, 1) := by decide +kernel
theorem dX11_about_80 : decode cX11_about 80 = .ok (.aload_n 0, 1) := by decide +kernel
theorem dX11_about_81 : decode cX11_about 81 = .ok (.getfield 16, 3) := by decide +kernel
theorem dX11_about_84 : decode cX11_about 84 = .ok (.getfield 364, 3) := by decide +kernel
theorem dX11_about_87 : decode cX11_about 87 = .ok (.ireturn, 1) := by decide +kernel
theorem dX11_about_88 : decode cX11_about 88 = .ok (.aload_n 0, 1) := by decide +kernel
theorem dX11_about_89 : decode cX11_about 89 = .ok (.getfield 16, 3) := by decide +kernel
theorem dX11_about_92 : decode cX11_about 92 = .ok (.getfield 314, 3) := by decide +kernel
theorem dX11_about_95 : decode cX11_about 95 = .ok (.ireturn, 1) := by decide +kernel
theorem dX11_about_96 : decode cX11_about 96 = .ok (.aload_n 0, 1) := by decide +kernel
theorem dX11_about_97 : decode cX11_about 97 = .ok (.getfield 37, 3) := by decide +kernel
theorem dX11_about_100 : decode cX11_about 100 = .ok (.invokevirtual 367, 3) := by decide +kernel
theorem dX11_about_103 : decode cX11_about 103 = .ok (.ireturn, 1) := by decide +kernel
theorem dX11_about_104 : decode cX11_about 104 = .ok (.aload_n 0, 1) := by decide +kernel
theorem dX11_about_105 : decode cX11_about 105 = .ok (.getfield 37, 3) := by decide +kernel
theorem dX11_about_108 : decode cX11_about 108 = .ok (.getfield 179, 3) := by decide +kernel
theorem dX11_about_111 : decode cX11_about 111 = .ok (.ireturn, 1) := by decide +kernel
theorem dX11_about_112 : decode cX11_about 112 = .ok (.aload_n 0, 1) := by decide +kernel
theorem dX11_about_113 : decode cX11_about 113 = .ok (.getfield 37, 3) := by decide +kernel
theorem dX11_about_116 : decode cX11_about 116 = .ok (.getfield 370, 3) := by decide +kernel
theorem dX11_about_119 : decode cX11_about 119 = .ok (.ireturn, 1) := by decide +kernel
theorem dX11_about_120 : decode cX11_about 120 = .ok (.aload_n 0, 1) := by decide +kernel
theorem dX11_about_121 : decode cX11_about 121 = .ok (.getfield 63, 3) := by decide +kernel
theorem dX11_about_124 : decode cX11_about 124 = .ok (.getfield 373, 3) := by decide +kernel
theorem dX11_about_127 : decode cX11_about 127 = .ok (.ireturn, 1) := by decide +kernel
theorem dX11_about_128 : decode cX11_about 128 = .ok (.aload_n 0, 1) := by decide +kernel
theorem dX11_about_129 : decode cX11_about 129 = .ok (.getfield 63, 3) := by decide +kernel
theorem dX11_about_132 : decode cX11_about 132 = .ok (.getfield 376, 3) := by decide +kernel
theorem dX11_about_135 : decode cX11_about 135 = .ok (.aload_n 0, 1) := by decide +kernel
theorem dX11_about_136 : decode cX11_about 136 = .ok (.getfield 63, 3) := by decide +kernel
theorem dX11_about_139 : decode cX11_about 139 = .ok (.getfield 373, 3) := by decide +kernel
theorem dX11_about_142 : decode cX11_about 142 = .ok (.isub, 1) := by decide +kernel
theorem dX11_about_143 : decode cX11_about 143 = .ok (.ireturn, 1) := by decide +kernel
theorem dX11_about_144 : decode cX11_about 144 = .ok (.aload_n 0, 1) := by decide +kernel
theorem dX11_about_145 : decode cX11_about 145 = .ok (.getfield 70, 3) := by decide +kernel
theorem dX11_about_148 : decode cX11_about 148 = .ok (.getfield 379, 3) := by decide +kernel
theorem dX11_about_151 : decode cX11_about 151 = .ok (.ireturn, 1) := by decide +kernel
theorem dX11_about_152 : decode cX11_about 152 = .ok (.aload_n 0, 1) := by decide +kernel
theorem dX11_about_153 : decode cX11_about 153 = .ok (.getfield 70, 3) := by decide +kernel
theorem dX11_about_156 : decode cX11_about 156 = .ok (.getfield 380, 3) := by decide +kernel
theorem dX11_about_159 : decode cX11_about 159 = .ok (.ireturn, 1) := by decide +kernel
theorem dX11_about_160 : decode cX11_about 160 = .ok (.aload_n 0, 1) := by decide +kernel
theorem dX11_about_161 : decode cX11_about 161 = .ok (.getfield 104, 3) := by decide +kernel
theorem dX11_about_164 : decode cX11_about 164 = .ok (.ireturn, 1) := by decide +kernel
theorem dX11_about_165 : decode cX11_about 165 = .ok (.aload_n 0, 1) := by decide +kernel
theorem dX11_about_166 : decode cX11_about 166 = .ok (.getfield 16, 3) := by decide +kernel
theorem dX11_about_169 : decode cX11_about 169 = .ok (.getfield 383, 3) := by decide +kernel
theorem dX11_about_172 : decode cX11_about 172 = .ok (.ireturn, 1) := by decide +kernel
theorem dX11_about_173 : decode cX11_about 173 = .ok (.aload_n 0, 1) := by decide +kernel
theorem dX11_about_174 : decode cX11_about 174 = .ok (.getfield 84, 3) := by decide +kernel
theorem dX11_about_177 : decode cX11_about 177 = .ok (.getfield 226, 3) := by decide +kernel
theorem dX11_about_180 : decode cX11_about 180 = .ok (.ireturn, 1) := by decide +kernel
theorem dX11_about_181 : decode cX11_about 181 = .ok (.aload_n 0, 1) := by decide +kernel
theorem dX11_about_182 : decode cX11_about 182 = .ok (.getfield 16, 3) := by decide +kernel
theorem dX11_about_185 : decode cX11_about 185 = .ok (.getfield 320, 3) := by decide +kernel
theorem dX11_about_188 : decode cX11_about 188 = .ok (.ireturn, 1) := by decide +kernel
theorem dX11_about_189 : decode cX11_about 189 = .ok (.iconst (-1), 1) := by decide +kernel
theorem dX11_about_190 : decode cX11_about 190 = .ok (.ireturn, 1) := by decide +kernel
def kX11_about_0 (n : Nat) : mK := i_ldI 1 (i_sw [(0, (i_ldA 0 (i_gA 11 2 (i_gI 4 2 (i_rI))))), (1, (i_ldA 0 (i_gA 11 2 (i_gI 4 0 (i_rI))))), (2, (i_ldA 0 (i_gA 11 2 (i_gI 4 1 (i_rI))))), (3, (i_ldA 0 (i_gA 11 5 (i_cV 8 0 (FX8_whoIsIn n) (i_rI))))), (4, (i_ldA 0 (i_gA 11 5 (i_gI 8 5 (i_rI))))), (5, (i_ldA 0 (i_gA 11 5 (i_gI 8 6 (i_rI))))), (6, (i_ldA 0 (i_gA 11 9 (i_gI 3 2 (i_rI))))), (7, (i_ldA 0 (i_gA 11 9 (i_gI 3 3 (i_ldA 0 (i_gA 11 9 (i_gI 3 2 (i_bin (fun x y => x - y) (i_rI))))))))), (8, (i_ldA 0 (i_gA 11 10 (i_gI 2 6 (i_rI))))), (9, (i_ldA 0 (i_gA 11 10 (i_gI 2 7 (i_rI))))), (10, (i_ldA 0 (i_gI 11 1 (i_rI)))), (11, (i_ldA 0 (i_gA 11 2 (i_gI 4 5 (i_rI))))), (12, (i_ldA 0 (i_gA 11 12 (i_gI 6 1 (i_rI))))), (13, (i_ldA 0 (i_gA 11 2 (i_gI 4 3 (i_rI)))))] (i_cst (.int (-1)) (i_rI)))
set_option maxRecDepth 20000 in
theorem okX11_about_0 {E : mE} {X : State → Heap → Prop} {l : Launch} (hX : mXok E X) (n : Nat) : Sd E X l yX11_about cX11_about 2 (some .int) 4 0 0 0 0 0 (kX11_about_0 n) := s_iload_n dX11_about_0 rfl (s_tsw dX11_about_1 (by decide) (s_iconst dX11_about_189 (by decide) (s_rI dX11_about_190 (Nat.le_of_ble_eq_true rfl) (Nat.le_of_ble_eq_true rfl))) (by decide) (tsw_c (by decide) (by decide) (s_aload_n dX11_about_72 rfl (s_gA dX11_about_73 lFX11_16 (s_gI dX11_about_76 lFX11_129 (by decide) (s_rI dX11_about_79 (Nat.le_of_ble_eq_true rfl) (Nat.le_of_ble_eq_true rfl))))) (tsw_c (by decide) (by decide) (s_aload_n dX11_about_80 rfl (s_gA dX11_about_81 lFX11_16 (s_gI dX11_about_84 lFX11_364 (by decide) (s_rI dX11_about_87 (Nat.le_of_ble_eq_true rfl) (Nat.le_of_ble_eq_true rfl))))) (tsw_c (by decide) (by decide) (s_aload_n dX11_about_88 rfl (s_gA dX11_about_89 lFX11_16 (s_gI dX11_about_92 lFX11_314 (by decide) (s_rI dX11_about_95 (Nat.le_of_ble_eq_true rfl) (Nat.le_of_ble_eq_true rfl))))) (tsw_c (by decide) (by decide) (s_aload_n dX11_about_96 rfl (s_gA dX11_about_97 lFX11_37 (s_cV dX11_about_100 lMX11_367 bVX8_whoIsIn rfl (CtX8_whoIsIn hX n) (Nat.le_of_ble_eq_true rfl) (s_rI dX11_about_103 (Nat.le_of_ble_eq_true rfl) (Nat.le_of_ble_eq_true rfl)) (Nat.le_of_ble_eq_true rfl) (Nat.le_of_ble_eq_true rfl)))) (tsw_c (by decide) (by decide) (s_aload_n dX11_about_104 rfl (s_gA dX11_about_105 lFX11_37 (s_gI dX11_about_108 lFX11_179 (by decide) (s_rI dX11_about_111 (Nat.le_of_ble_eq_true rfl) (Nat.le_of_ble_eq_true rfl))))) (tsw_c (by decide) (by decide) (s_aload_n dX11_about_112 rfl (s_gA dX11_about_113 lFX11_37 (s_gI dX11_about_116 lFX11_370 (by decide) (s_rI dX11_about_119 (Nat.le_of_ble_eq_true rfl) (Nat.le_of_ble_eq_true rfl))))) (tsw_c (by decide) (by decide) (s_aload_n dX11_about_120 rfl (s_gA dX11_about_121 lFX11_63 (s_gI dX11_about_124 lFX11_373 (by decide) (s_rI dX11_about_127 (Nat.le_of_ble_eq_true rfl) (Nat.le_of_ble_eq_true rfl))))) (tsw_c (by decide) (by decide) (s_aload_n dX11_about_128 rfl (s_gA dX11_about_129 lFX11_63 (s_gI dX11_about_132 lFX11_376 (by decide) (s_aload_n dX11_about_135 rfl (s_gA dX11_about_136 lFX11_63 (s_gI dX11_about_139 lFX11_373 (by decide) (s_isub dX11_about_142 (s_rI dX11_about_143 (Nat.le_of_ble_eq_true rfl) (Nat.le_of_ble_eq_true rfl))))))))) (tsw_c (by decide) (by decide) (s_aload_n dX11_about_144 rfl (s_gA dX11_about_145 lFX11_70 (s_gI dX11_about_148 lFX11_379 (by decide) (s_rI dX11_about_151 (Nat.le_of_ble_eq_true rfl) (Nat.le_of_ble_eq_true rfl))))) (tsw_c (by decide) (by decide) (s_aload_n dX11_about_152 rfl (s_gA dX11_about_153 lFX11_70 (s_gI dX11_about_156 lFX11_380 (by decide) (s_rI dX11_about_159 (Nat.le_of_ble_eq_true rfl) (Nat.le_of_ble_eq_true rfl))))) (tsw_c (by decide) (by decide) (s_aload_n dX11_about_160 rfl (s_gI dX11_about_161 lFX11_104 (by decide) (s_rI dX11_about_164 (Nat.le_of_ble_eq_true rfl) (Nat.le_of_ble_eq_true rfl)))) (tsw_c (by decide) (by decide) (s_aload_n dX11_about_165 rfl (s_gA dX11_about_166 lFX11_16 (s_gI dX11_about_169 lFX11_383 (by decide) (s_rI dX11_about_172 (Nat.le_of_ble_eq_true rfl) (Nat.le_of_ble_eq_true rfl))))) (tsw_c (by decide) (by decide) (s_aload_n dX11_about_173 rfl (s_gA dX11_about_174 lFX11_84 (s_gI dX11_about_177 lFX11_226 (by decide) (s_rI dX11_about_180 (Nat.le_of_ble_eq_true rfl) (Nat.le_of_ble_eq_true rfl))))) (tsw_c (by decide) (by decide) (s_aload_n dX11_about_181 rfl (s_gA dX11_about_182 lFX11_16 (s_gI dX11_about_185 lFX11_320 (by decide) (s_rI dX11_about_188 (Nat.le_of_ble_eq_true rfl) (Nat.le_of_ble_eq_true rfl))))) tsw_n)))))))))))))))
def FX11_about (n : Nat) : List Value → mM → Option mR := mfn 2 (kX11_about_0 n)
theorem CtX11_about {E : mE} {X : State → Heap → Prop} {l : Launch} (hX : mXok E X) (n : Nat) : Ct E X l yX11_about cX11_about 2 (some .int) 4 0 0 (FX11_about n) := Ct_of (by decide) hX (okX11_about_0 hX n)
theorem dX11_back_0 : decode cX11_back 0 = .ok (.iload_n 1, 1) := by decide +kernel
theorem dX11_back_1 : decode cX11_back 1 = .ok (.ifCond .lt 21, 3) := by decide +kernel
theorem dX11_back_4 : decode cX11_back 4 = .ok (.iload_n 1, 1) := by decide +kernel
theorem dX11_back_5 : decode cX11_back 5 = .ok (.aload_n 0, 1) := by decide +kernel
theorem dX11_back_6 : decode cX11_back 6 = .ok (.getfield 94, 3) := by decide +kernel
theorem dX11_back_9 : decode cX11_back 9 = .ok (.arraylength, 1) := by decide +kernel
theorem dX11_back_10 : decode cX11_back 10 = .ok (.if_icmp .ge 12, 3) := by decide +kernel
theorem dX11_back_13 : decode cX11_back 13 = .ok (.aload_n 0, 1) := by decide +kernel
theorem dX11_back_14 : decode cX11_back 14 = .ok (.getfield 94, 3) := by decide +kernel
theorem dX11_back_17 : decode cX11_back 17 = .ok (.iload_n 1, 1) := by decide +kernel
theorem dX11_back_18 : decode cX11_back 18 = .ok (.baload, 1) := by decide +kernel
theorem dX11_back_19 : decode cX11_back 19 = .ok (.ifCond .ne 5, 3) := by decide +kernel
theorem dX11_back_22 : decode cX11_back 22 = .ok (.iconst (-1), 1) := by decide +kernel
theorem dX11_back_23 : decode cX11_back 23 = .ok (.ireturn, 1) := by decide +kernel
theorem dX11_back_24 : decode cX11_back 24 = .ok (.aload_n 0, 1) := by decide +kernel
theorem dX11_back_25 : decode cX11_back 25 = .ok (.getfield 37, 3) := by decide +kernel
theorem dX11_back_28 : decode cX11_back 28 = .ok (.aload_n 0, 1) := by decide +kernel
theorem dX11_back_29 : decode cX11_back 29 = .ok (.getfield 91, 3) := by decide +kernel
theorem dX11_back_32 : decode cX11_back 32 = .ok (.iload_n 1, 1) := by decide +kernel
theorem dX11_back_33 : decode cX11_back 33 = .ok (.bipush 34, 2) := by decide +kernel
theorem dX11_back_35 : decode cX11_back 35 = .ok (.imul, 1) := by decide +kernel
theorem dX11_back_36 : decode cX11_back 36 = .ok (.invokevirtual 361, 3) := by decide +kernel
theorem dX11_back_39 : decode cX11_back 39 = .ok (.aload_n 0, 1) := by decide +kernel
theorem dX11_back_40 : decode cX11_back 40 = .ok (.getfield 63, 3) := by decide +kernel
theorem dX11_back_43 : decode cX11_back 43 = .ok (.invokevirtual 101, 3) := by decide +kernel
theorem dX11_back_46 : decode cX11_back 46 = .ok (.aload_n 0, 1) := by decide +kernel
theorem dX11_back_47 : decode cX11_back 47 = .ok (.getfield 37, 3) := by decide +kernel
theorem dX11_back_50 : decode cX11_back 50 = .ok (.getfield 179, 3) := by decide +kernel
theorem dX11_back_53 : decode cX11_back 53 = .ok (.ireturn, 1) := by decide +kernel
def kX11_back_22 (n : Nat) : mK := i_cst (.int (-1)) (i_rI)
set_option maxRecDepth 20000 in
theorem okX11_back_22 {E : mE} {X : State → Heap → Prop} {l : Launch} (hX : mXok E X) (n : Nat) : Sd E X l yX11_back cX11_back 2 (some .int) 4 0 0 0 0 22 (kX11_back_22 n) := s_iconst dX11_back_22 (by decide) (s_rI dX11_back_23 (Nat.le_of_ble_eq_true rfl) (Nat.le_of_ble_eq_true rfl))
def kX11_back_47 (n : Nat) : mK := i_gA 11 5 (i_gI 8 5 (i_rI))
set_option maxRecDepth 20000 in
theorem okX11_back_47 {E : mE} {X : State → Heap → Prop} {l : Launch} (hX : mXok E X) (n : Nat) : Sd E X l yX11_back cX11_back 2 (some .int) 4 0 0 0 0 47 (kX11_back_47 n) := s_gA dX11_back_47 lFX11_37 (s_gI dX11_back_50 lFX11_179 (by decide) (s_rI dX11_back_53 (Nat.le_of_ble_eq_true rfl) (Nat.le_of_ble_eq_true rfl)))
def kX11_back_0 (n : Nat) : mK := i_ldI 1 (i_c0 (fun x => decide (x < 0)) (kX11_back_22 n) (i_ldI 1 (i_ldA 0 (i_gA 11 15 (i_len (i_c2 (fun x y => decide (y ≤ x)) (kX11_back_22 n) (i_ldA 0 (i_gA 11 15 (i_ldI 1 (i_al 2 (i_c0 (fun x => decide (¬ x = 0)) (i_ldA 0 (i_gA 11 5 (i_ldA 0 (i_gA 11 14 (i_ldI 1 (i_cst (.int (34)) (i_bin (fun x y => x * y) (i_cV 8 2 (FX8_load n) (i_ldA 0 (i_gA 11 9 (i_cV 3 0 (FX3_begin n) (i_ldA 0 (kX11_back_47 n))))))))))))) (kX11_back_22 n))))))))))))
set_option maxRecDepth 20000 in
theorem okX11_back_0 {E : mE} {X : State → Heap → Prop} {l : Launch} (hX : mXok E X) (n : Nat) : Sd E X l yX11_back cX11_back 2 (some .int) 4 0 0 0 0 0 (kX11_back_0 n) := s_iload_n dX11_back_0 rfl (s_iflt dX11_back_1 (by decide) (okX11_back_22 hX n) (s_iload_n dX11_back_4 rfl (s_aload_n dX11_back_5 rfl (s_gA dX11_back_6 lFX11_94 (s_len dX11_back_9 (s_icge dX11_back_10 (by decide) (okX11_back_22 hX n) (s_aload_n dX11_back_13 rfl (s_gA dX11_back_14 lFX11_94 (s_iload_n dX11_back_17 rfl (s_zald dX11_back_18 (s_ifne dX11_back_19 (by decide) (s_aload_n dX11_back_24 rfl (s_gA dX11_back_25 lFX11_37 (s_aload_n dX11_back_28 rfl (s_gA dX11_back_29 lFX11_91 (s_iload_n dX11_back_32 rfl (s_bipush dX11_back_33 (by decide) (s_imul dX11_back_35 (s_cV dX11_back_36 lMX11_361 bVX8_load rfl (CtX8_load hX n) (Nat.le_of_ble_eq_true rfl) (s_aload_n dX11_back_39 rfl (s_gA dX11_back_40 lFX11_63 (s_cV dX11_back_43 lMX11_101 bVX3_begin rfl (CtX3_begin hX n) (Nat.le_of_ble_eq_true rfl) (s_aload_n dX11_back_46 rfl (okX11_back_47 hX n)) (Nat.le_of_ble_eq_true rfl) (Nat.le_of_ble_eq_true rfl)))) (Nat.le_of_ble_eq_true rfl) (Nat.le_of_ble_eq_true rfl))))))))) (okX11_back_22 hX n))))))))))))
def FX11_back (n : Nat) : List Value → mM → Option mR := mfn 2 (kX11_back_0 n)
theorem CtX11_back {E : mE} {X : State → Heap → Prop} {l : Launch} (hX : mXok E X) (n : Nat) : Ct E X l yX11_back cX11_back 2 (some .int) 4 0 0 (FX11_back n) := Ct_of (by decide) hX (okX11_back_0 hX n)
theorem dX11_fullest_0 : decode cX11_fullest 0 = .ok (.iconst 0, 1) := by decide +kernel
theorem dX11_fullest_1 : decode cX11_fullest 1 = .ok (.istore_n 1, 1) := by decide +kernel
theorem dX11_fullest_2 : decode cX11_fullest 2 = .ok (.iconst 0, 1) := by decide +kernel
theorem dX11_fullest_3 : decode cX11_fullest 3 = .ok (.istore_n 2, 1) := by decide +kernel
theorem dX11_fullest_4 : decode cX11_fullest 4 = .ok (.iconst 0, 1) := by decide +kernel
theorem dX11_fullest_5 : decode cX11_fullest 5 = .ok (.istore_n 3, 1) := by decide +kernel
theorem dX11_fullest_6 : decode cX11_fullest 6 = .ok (.iload_n 3, 1) := by decide +kernel
theorem dX11_fullest_7 : decode cX11_fullest 7 = .ok (.aload_n 0, 1) := by decide +kernel
theorem dX11_fullest_8 : decode cX11_fullest 8 = .ok (.getfield 16, 3) := by decide +kernel
theorem dX11_fullest_11 : decode cX11_fullest 11 = .ok (.getfield 314, 3) := by decide +kernel
theorem dX11_fullest_14 : decode cX11_fullest 14 = .ok (.if_icmp .ge 30, 3) := by decide +kernel
theorem dX11_fullest_17 : decode cX11_fullest 17 = .ok (.aload_n 0, 1) := by decide +kernel
theorem dX11_fullest_18 : decode cX11_fullest 18 = .ok (.getfield 37, 3) := by decide +kernel
theorem dX11_fullest_21 : decode cX11_fullest 21 = .ok (.iload_n 3, 1) := by decide +kernel
theorem dX11_fullest_22 : decode cX11_fullest 22 = .ok (.invokevirtual 317, 3) := by decide +kernel
theorem dX11_fullest_25 : decode cX11_fullest 25 = .ok (.istore 4, 2) := by decide +kernel
theorem dX11_fullest_27 : decode cX11_fullest 27 = .ok (.iload 4, 2) := by decide +kernel
theorem dX11_fullest_29 : decode cX11_fullest 29 = .ok (.iload_n 2, 1) := by decide +kernel
theorem dX11_fullest_30 : decode cX11_fullest 30 = .ok (.if_icmp .le 8, 3) := by decide +kernel
theorem dX11_fullest_33 : decode cX11_fullest 33 = .ok (.iload_n 3, 1) := by decide +kernel
theorem dX11_fullest_34 : decode cX11_fullest 34 = .ok (.istore_n 1, 1) := by decide +kernel
theorem dX11_fullest_35 : decode cX11_fullest 35 = .ok (.iload 4, 2) := by decide +kernel
theorem dX11_fullest_37 : decode cX11_fullest 37 = .ok (.istore_n 2, 1) := by decide +kernel
theorem dX11_fullest_38 : decode cX11_fullest 38 = .ok (.iinc 3 1, 3) := by decide +kernel
theorem dX11_fullest_41 : decode cX11_fullest 41 = .ok (.goto (-35), 3) := by decide +kernel
theorem dX11_fullest_44 : decode cX11_fullest 44 = .ok (.iload_n 1, 1) := by decide +kernel
theorem dX11_fullest_45 : decode cX11_fullest 45 = .ok (.ireturn, 1) := by decide +kernel
def kX11_fullest_38 (n : Nat) (r6 : mK) : mK := i_inc 3 (1) (r6)
set_option maxRecDepth 20000 in
theorem okX11_fullest_38 {E : mE} {X : State → Heap → Prop} {l : Launch} (hX : mXok E X) (n : Nat) {r6 : mK} (h6 : Sd E X l yX11_fullest cX11_fullest 5 (some .int) 4 0 0 0 0 6 r6) : Sd E X l yX11_fullest cX11_fullest 5 (some .int) 4 0 0 0 0 38 (kX11_fullest_38 n r6) := s_iinc dX11_fullest_38 (by decide) (s_goto dX11_fullest_41 (by decide) h6)
def kX11_fullest_6 (n : Nat) (r6 : mK) : mK := i_ldI 3 (i_ldA 0 (i_gA 11 2 (i_gI 4 1 (i_c2 (fun x y => decide (y ≤ x)) (i_ldI 1 (i_rI)) (i_ldA 0 (i_gA 11 5 (i_ldI 3 (i_cV 8 1 (FX8_howManyInRow n) (i_stI 4 (i_ldI 4 (i_ldI 2 (i_c2 (fun x y => decide (x ≤ y)) (kX11_fullest_38 n r6) (i_ldI 3 (i_stI 1 (i_ldI 4 (i_stI 2 (kX11_fullest_38 n r6)))))))))))))))))
set_option maxRecDepth 20000 in
theorem okX11_fullest_6 {E : mE} {X : State → Heap → Prop} {l : Launch} (hX : mXok E X) (n : Nat) {r6 : mK} (h6 : Sd E X l yX11_fullest cX11_fullest 5 (some .int) 4 0 0 0 0 6 r6) : Sd E X l yX11_fullest cX11_fullest 5 (some .int) 4 0 0 0 0 6 (kX11_fullest_6 n r6) := s_iload_n dX11_fullest_6 rfl (s_aload_n dX11_fullest_7 rfl (s_gA dX11_fullest_8 lFX11_16 (s_gI dX11_fullest_11 lFX11_314 (by decide) (s_icge dX11_fullest_14 (by decide) (s_iload_n dX11_fullest_44 rfl (s_rI dX11_fullest_45 (Nat.le_of_ble_eq_true rfl) (Nat.le_of_ble_eq_true rfl))) (s_aload_n dX11_fullest_17 rfl (s_gA dX11_fullest_18 lFX11_37 (s_iload_n dX11_fullest_21 rfl (s_cV dX11_fullest_22 lMX11_317 bVX8_howManyInRow rfl (CtX8_howManyInRow hX n) (Nat.le_of_ble_eq_true rfl) (s_istore dX11_fullest_25 (s_iload dX11_fullest_27 (s_iload_n dX11_fullest_29 rfl (s_icle dX11_fullest_30 (by decide) (okX11_fullest_38 hX n h6) (s_iload_n dX11_fullest_33 rfl (s_istore_n dX11_fullest_34 rfl (s_iload dX11_fullest_35 (s_istore_n dX11_fullest_37 rfl (okX11_fullest_38 hX n h6))))))))) (Nat.le_of_ble_eq_true rfl) (Nat.le_of_ble_eq_true rfl)))))))))
def kX11_fullest_0 (n : Nat) : mK := i_cst (.int (0)) (i_stI 1 (i_cst (.int (0)) (i_stI 2 (i_cst (.int (0)) (i_stI 3 (mit (kX11_fullest_6 n ) n))))))
set_option maxRecDepth 20000 in
theorem okX11_fullest_0 {E : mE} {X : State → Heap → Prop} {l : Launch} (hX : mXok E X) (n : Nat) : Sd E X l yX11_fullest cX11_fullest 5 (some .int) 4 0 0 0 0 0 (kX11_fullest_0 n) := s_iconst dX11_fullest_0 (by decide) (s_istore_n dX11_fullest_1 rfl (s_iconst dX11_fullest_2 (by decide) (s_istore_n dX11_fullest_3 rfl (s_iconst dX11_fullest_4 (by decide) (s_istore_n dX11_fullest_5 rfl (s_mit (fun _ hk => okX11_fullest_6 hX n hk) n))))))
def FX11_fullest (n : Nat) : List Value → mM → Option mR := mfn 5 (kX11_fullest_0 n)
theorem CtX11_fullest {E : mE} {X : State → Heap → Prop} {l : Launch} (hX : mXok E X) (n : Nat) : Ct E X l yX11_fullest cX11_fullest 5 (some .int) 4 0 0 (FX11_fullest n) := Ct_of (by decide) hX (okX11_fullest_0 hX n)
theorem dX11_init_0 : decode cX11_init 0 = .ok (.aload_n 0, 1) := by decide +kernel
theorem dX11_init_1 : decode cX11_init 1 = .ok (.invokespecial 3, 3) := by decide +kernel
theorem dX11_init_4 : decode cX11_init 4 = .ok (.aload_n 0, 1) := by decide +kernel
theorem dX11_init_5 : decode cX11_init 5 = .ok (.sipush 1600, 3) := by decide +kernel
theorem dX11_init_8 : decode cX11_init 8 = .ok (.newarray .int, 2) := by decide +kernel
theorem dX11_init_10 : decode cX11_init 10 = .ok (.putfield 9, 3) := by decide +kernel
theorem dX11_init_13 : decode cX11_init 13 = .ok (.aload_n 0, 1) := by decide +kernel
theorem dX11_init_14 : decode cX11_init 14 = .ok (.new 13, 3) := by decide +kernel
theorem dX11_init_17 : decode cX11_init 17 = .ok (.dup, 1) := by decide +kernel
theorem dX11_init_18 : decode cX11_init 18 = .ok (.invokespecial 15, 3) := by decide +kernel
theorem dX11_init_21 : decode cX11_init 21 = .ok (.putfield 16, 3) := by decide +kernel
theorem dX11_init_24 : decode cX11_init 24 = .ok (.aload_n 0, 1) := by decide +kernel
theorem dX11_init_25 : decode cX11_init 25 = .ok (.new 13, 3) := by decide +kernel
theorem dX11_init_28 : decode cX11_init 28 = .ok (.dup, 1) := by decide +kernel
theorem dX11_init_29 : decode cX11_init 29 = .ok (.invokespecial 15, 3) := by decide +kernel
theorem dX11_init_32 : decode cX11_init 32 = .ok (.putfield 20, 3) := by decide +kernel
theorem dX11_init_35 : decode cX11_init 35 = .ok (.aload_n 0, 1) := by decide +kernel
theorem dX11_init_36 : decode cX11_init 36 = .ok (.new 23, 3) := by decide +kernel
theorem dX11_init_39 : decode cX11_init 39 = .ok (.dup, 1) := by decide +kernel
theorem dX11_init_40 : decode cX11_init 40 = .ok (.aload_n 0, 1) := by decide +kernel
theorem dX11_init_41 : decode cX11_init 41 = .ok (.getfield 9, 3) := by decide +kernel
theorem dX11_init_44 : decode cX11_init 44 = .ok (.aload_n 0, 1) := by decide +kernel
theorem dX11_init_45 : decode cX11_init 45 = .ok (.getfield 20, 3) := by decide +kernel
theorem dX11_init_48 : decode cX11_init 48 = .ok (.invokespecial 25, 3) := by decide +kernel
theorem dX11_init_51 : decode cX11_init 51 = .ok (.putfield 28, 3) := by decide +kernel
theorem dX11_init_54 : decode cX11_init 54 = .ok (.aload_n 0, 1) := by decide +kernel
theorem dX11_init_55 : decode cX11_init 55 = .ok (.new 32, 3) := by decide +kernel
theorem dX11_init_58 : decode cX11_init 58 = .ok (.dup, 1) := by decide +kernel
theorem dX11_init_59 : decode cX11_init 59 = .ok (.aload_n 0, 1) := by decide +kernel
theorem dX11_init_60 : decode cX11_init 60 = .ok (.getfield 16, 3) := by decide +kernel
theorem dX11_init_63 : decode cX11_init 63 = .ok (.invokespecial 34, 3) := by decide +kernel
theorem dX11_init_66 : decode cX11_init 66 = .ok (.putfield 37, 3) := by decide +kernel
theorem dX11_init_69 : decode cX11_init 69 = .ok (.aload_n 0, 1) := by decide +kernel
theorem dX11_init_70 : decode cX11_init 70 = .ok (.new 32, 3) := by decide +kernel
theorem dX11_init_73 : decode cX11_init 73 = .ok (.dup, 1) := by decide +kernel
theorem dX11_init_74 : decode cX11_init 74 = .ok (.aload_n 0, 1) := by decide +kernel
theorem dX11_init_75 : decode cX11_init 75 = .ok (.getfield 16, 3) := by decide +kernel
theorem dX11_init_78 : decode cX11_init 78 = .ok (.invokespecial 34, 3) := by decide +kernel
theorem dX11_init_81 : decode cX11_init 81 = .ok (.putfield 41, 3) := by decide +kernel
theorem dX11_init_84 : decode cX11_init 84 = .ok (.aload_n 0, 1) := by decide +kernel
theorem dX11_init_85 : decode cX11_init 85 = .ok (.new 44, 3) := by decide +kernel
theorem dX11_init_88 : decode cX11_init 88 = .ok (.dup, 1) := by decide +kernel
theorem dX11_init_89 : decode cX11_init 89 = .ok (.aload_n 0, 1) := by decide +kernel
theorem dX11_init_90 : decode cX11_init 90 = .ok (.getfield 37, 3) := by decide +kernel
theorem dX11_init_93 : decode cX11_init 93 = .ok (.invokespecial 46, 3) := by decide +kernel
theorem dX11_init_96 : decode cX11_init 96 = .ok (.putfield 49, 3) := by decide +kernel
theorem dX11_init_99 : decode cX11_init 99 = .ok (.aload_n 0, 1) := by decide +kernel
theorem dX11_init_100 : decode cX11_init 100 = .ok (.new 53, 3) := by decide +kernel
theorem dX11_init_103 : decode cX11_init 103 = .ok (.dup, 1) := by decide +kernel
theorem dX11_init_104 : decode cX11_init 104 = .ok (.aload_n 0, 1) := by decide +kernel
theorem dX11_init_105 : decode cX11_init 105 = .ok (.getfield 37, 3) := by decide +kernel
theorem dX11_init_108 : decode cX11_init 108 = .ok (.invokespecial 55, 3) := by decide +kernel
theorem dX11_init_111 : decode cX11_init 111 = .ok (.putfield 56, 3) := by decide +kernel
theorem dX11_init_114 : decode cX11_init 114 = .ok (.aload_n 0, 1) := by decide +kernel
theorem dX11_init_115 : decode cX11_init 115 = .ok (.new 60, 3) := by decide +kernel
theorem dX11_init_118 : decode cX11_init 118 = .ok (.dup, 1) := by decide +kernel
theorem dX11_init_119 : decode cX11_init 119 = .ok (.aload_n 0, 1) := by decide +kernel
theorem dX11_init_120 : decode cX11_init 120 = .ok (.getfield 37, 3) := by decide +kernel
theorem dX11_init_123 : decode cX11_init 123 = .ok (.invokespecial 62, 3) := by decide +kernel
theorem dX11_init_126 : decode cX11_init 126 = .ok (.putfield 63, 3) := by decide +kernel
theorem dX11_init_129 : decode cX11_init 129 = .ok (.aload_n 0, 1) := by decide +kernel
theorem dX11_init_130 : decode cX11_init 130 = .ok (.new 67, 3) := by decide +kernel
theorem dX11_init_133 : decode cX11_init 133 = .ok (.dup, 1) := by decide +kernel
theorem dX11_init_134 : decode cX11_init 134 = .ok (.aload_n 0, 1) := by decide +kernel
theorem dX11_init_135 : decode cX11_init 135 = .ok (.getfield 16, 3) := by decide +kernel
theorem dX11_init_138 : decode cX11_init 138 = .ok (.invokespecial 69, 3) := by decide +kernel
theorem dX11_init_141 : decode cX11_init 141 = .ok (.putfield 70, 3) := by decide +kernel
theorem dX11_init_144 : decode cX11_init 144 = .ok (.aload_n 0, 1) := by decide +kernel
theorem dX11_init_145 : decode cX11_init 145 = .ok (.new 74, 3) := by decide +kernel
theorem dX11_init_148 : decode cX11_init 148 = .ok (.dup, 1) := by decide +kernel
theorem dX11_init_149 : decode cX11_init 149 = .ok (.invokespecial 76, 3) := by decide +kernel
theorem dX11_init_152 : decode cX11_init 152 = .ok (.putfield 77, 3) := by decide +kernel
theorem dX11_init_155 : decode cX11_init 155 = .ok (.aload_n 0, 1) := by decide +kernel
theorem dX11_init_156 : decode cX11_init 156 = .ok (.new 81, 3) := by decide +kernel
theorem dX11_init_159 : decode cX11_init 159 = .ok (.dup, 1) := by decide +kernel
theorem dX11_init_160 : decode cX11_init 160 = .ok (.invokespecial 83, 3) := by decide +kernel
theorem dX11_init_163 : decode cX11_init 163 = .ok (.putfield 84, 3) := by decide +kernel
theorem dX11_init_166 : decode cX11_init 166 = .ok (.aload_n 0, 1) := by decide +kernel
theorem dX11_init_167 : decode cX11_init 167 = .ok (.iconst 3, 1) := by decide +kernel
theorem dX11_init_168 : decode cX11_init 168 = .ok (.newarray .int, 2) := by decide +kernel
theorem dX11_init_170 : decode cX11_init 170 = .ok (.putfield 88, 3) := by decide +kernel
theorem dX11_init_173 : decode cX11_init 173 = .ok (.aload_n 0, 1) := by decide +kernel
theorem dX11_init_174 : decode cX11_init 174 = .ok (.bipush 102, 2) := by decide +kernel
theorem dX11_init_176 : decode cX11_init 176 = .ok (.newarray .int, 2) := by decide +kernel
theorem dX11_init_178 : decode cX11_init 178 = .ok (.putfield 91, 3) := by decide +kernel
theorem dX11_init_181 : decode cX11_init 181 = .ok (.aload_n 0, 1) := by decide +kernel
theorem dX11_init_182 : decode cX11_init 182 = .ok (.iconst 3, 1) := by decide +kernel
theorem dX11_init_183 : decode cX11_init 183 = .ok (.newarray .boolean, 2) := by decide +kernel
theorem dX11_init_185 : decode cX11_init 185 = .ok (.putfield 94, 3) := by decide +kernel
theorem dX11_init_188 : decode cX11_init 188 = .ok (.aload_n 0, 1) := by decide +kernel
theorem dX11_init_189 : decode cX11_init 189 = .ok (.getfield 37, 3) := by decide +kernel
theorem dX11_init_192 : decode cX11_init 192 = .ok (.invokevirtual 98, 3) := by decide +kernel
theorem dX11_init_195 : decode cX11_init 195 = .ok (.aload_n 0, 1) := by decide +kernel
theorem dX11_init_196 : decode cX11_init 196 = .ok (.getfield 63, 3) := by decide +kernel
theorem dX11_init_199 : decode cX11_init 199 = .ok (.invokevirtual 101, 3) := by decide +kernel
theorem dX11_init_202 : decode cX11_init 202 = .ok (.return_, 1) := by decide +kernel
def kX11_init_155 (n : Nat) : mK := i_ldA 0 (i_new 6 (i_dup (i_cI 0 1 (FX6_init n) (i_pA 11 12 (i_ldA 0 (i_cst (.int (3)) (i_na 0 3 (i_pA 11 13 (i_ldA 0 (i_cst (.int (102)) (i_na 0 102 (i_pA 11 14 (i_ldA 0 (i_cst (.int (3)) (i_na 2 3 (i_pA 11 15 (i_ldA 0 (i_gA 11 5 (i_cV 8 0 (FX8_lay n) (i_ldA 0 (i_gA 11 9 (i_cV 3 0 (FX3_begin n) (i_rV)))))))))))))))))))))))
set_option maxRecDepth 20000 in
theorem okX11_init_155 {E : mE} {X : State → Heap → Prop} {l : Launch} (hX : mXok E X) (n : Nat) : Sd E X l yX11_init cX11_init 1 none 4 59 10367 54 10241 155 (kX11_init_155 n) := s_aload_n dX11_init_155 rfl (s_new dX11_init_156 rfl lKX11_81 lIX6 lJX6 (by decide) (Nat.le_of_ble_eq_true rfl) (Nat.le_of_ble_eq_true rfl) (s_dup dX11_init_159 (s_cJ dX11_init_160 lNX11_83 bIX6_init (CtX6_init hX n) (Nat.le_of_ble_eq_true rfl) (Nat.le_of_ble_eq_true rfl) (Nat.le_of_ble_eq_true rfl) (s_pF dX11_init_163 lFX11_84 rfl rfl (s_aload_n dX11_init_166 rfl (s_iconst dX11_init_167 (by decide) (s_na dX11_init_168 rfl (by decide) lA_0 (Nat.le_of_ble_eq_true rfl) (Nat.le_of_ble_eq_true rfl) (Nat.le_of_ble_eq_true rfl) (s_pF dX11_init_170 lFX11_88 rfl rfl (s_aload_n dX11_init_173 rfl (s_bipush dX11_init_174 (by decide) (s_na dX11_init_176 rfl (by decide) lA_0 (Nat.le_of_ble_eq_true rfl) (Nat.le_of_ble_eq_true rfl) (Nat.le_of_ble_eq_true rfl) (s_pF dX11_init_178 lFX11_91 rfl rfl (s_aload_n dX11_init_181 rfl (s_iconst dX11_init_182 (by decide) (s_na dX11_init_183 rfl (by decide) lA_2 (Nat.le_of_ble_eq_true rfl) (Nat.le_of_ble_eq_true rfl) (Nat.le_of_ble_eq_true rfl) (s_pF dX11_init_185 lFX11_94 rfl rfl (s_aload_n dX11_init_188 rfl (s_gA dX11_init_189 lFX11_37 (s_cV dX11_init_192 lMX11_98 bVX8_lay rfl (CtX8_lay hX n) (Nat.le_of_ble_eq_true rfl) (s_aload_n dX11_init_195 rfl (s_gA dX11_init_196 lFX11_63 (s_cV dX11_init_199 lMX11_101 bVX3_begin rfl (CtX3_begin hX n) (Nat.le_of_ble_eq_true rfl) (s_rV dX11_init_202 (Nat.le_of_ble_eq_true rfl) (Nat.le_of_ble_eq_true rfl)) (Nat.le_of_ble_eq_true rfl) (Nat.le_of_ble_eq_true rfl)))) (Nat.le_of_ble_eq_true rfl) (Nat.le_of_ble_eq_true rfl))))))))))))))))))))
def kX11_init_103 (n : Nat) : mK := i_dup (i_ldA 0 (i_gA 11 5 (i_cI 1 2 (FX10_init n) (i_pA 11 8 (i_ldA 0 (i_new 3 (i_dup (i_ldA 0 (i_gA 11 5 (i_cI 1 1 (FX3_init n) (i_pA 11 9 (i_ldA 0 (i_new 2 (i_dup (i_ldA 0 (i_gA 11 2 (i_cI 1 7 (FX2_init n) (i_pA 11 10 (i_ldA 0 (i_new 7 (i_dup (i_cI 0 0 (FX7_init n) (i_pA 11 11 (kX11_init_155 n))))))))))))))))))))))))
set_option maxRecDepth 20000 in
theorem okX11_init_103 {E : mE} {X : State → Heap → Prop} {l : Launch} (hX : mXok E X) (n : Nat) : Sd E X l yX11_init cX11_init 1 none 4 59 10367 41 6349 103 (kX11_init_103 n) := s_dup dX11_init_103 (s_aload_n dX11_init_104 rfl (s_gA dX11_init_105 lFX11_37 (s_cI dX11_init_108 lMX11_55 bIX10_init (CtX10_init hX n) (Nat.le_of_ble_eq_true rfl) (Nat.le_of_ble_eq_true rfl) (Nat.le_of_ble_eq_true rfl) (s_pF dX11_init_111 lFX11_56 rfl rfl (s_aload_n dX11_init_114 rfl (s_new dX11_init_115 rfl lKX11_60 lIX3 lJX3 (by decide) (Nat.le_of_ble_eq_true rfl) (Nat.le_of_ble_eq_true rfl) (s_dup dX11_init_118 (s_aload_n dX11_init_119 rfl (s_gA dX11_init_120 lFX11_37 (s_cI dX11_init_123 lMX11_62 bIX3_init (CtX3_init hX n) (Nat.le_of_ble_eq_true rfl) (Nat.le_of_ble_eq_true rfl) (Nat.le_of_ble_eq_true rfl) (s_pF dX11_init_126 lFX11_63 rfl rfl (s_aload_n dX11_init_129 rfl (s_new dX11_init_130 rfl lKX11_67 lIX2 lJX2 (by decide) (Nat.le_of_ble_eq_true rfl) (Nat.le_of_ble_eq_true rfl) (s_dup dX11_init_133 (s_aload_n dX11_init_134 rfl (s_gA dX11_init_135 lFX11_16 (s_cI dX11_init_138 lMX11_69 bIX2_init (CtX2_init hX n) (Nat.le_of_ble_eq_true rfl) (Nat.le_of_ble_eq_true rfl) (Nat.le_of_ble_eq_true rfl) (s_pF dX11_init_141 lFX11_70 rfl rfl (s_aload_n dX11_init_144 rfl (s_new dX11_init_145 rfl lKX11_74 lIX7 lJX7 (by decide) (Nat.le_of_ble_eq_true rfl) (Nat.le_of_ble_eq_true rfl) (s_dup dX11_init_148 (s_cJ dX11_init_149 lNX11_76 bIX7_init (CtX7_init hX n) (Nat.le_of_ble_eq_true rfl) (Nat.le_of_ble_eq_true rfl) (Nat.le_of_ble_eq_true rfl) (s_pF dX11_init_152 lFX11_77 rfl rfl (okX11_init_155 hX n))))))))))))))))))))))))
def kX11_init_51 (n : Nat) : mK := i_pA 11 4 (i_ldA 0 (i_new 8 (i_dup (i_ldA 0 (i_gA 11 2 (i_cI 1 4 (FX8_init n) (i_pA 11 5 (i_ldA 0 (i_new 8 (i_dup (i_ldA 0 (i_gA 11 2 (i_cI 1 4 (FX8_init n) (i_pA 11 6 (i_ldA 0 (i_new 0 (i_dup (i_ldA 0 (i_gA 11 5 (i_cI 1 1 (FX0_init n) (i_pA 11 7 (i_ldA 0 (i_new 10 (kX11_init_103 n))))))))))))))))))))))))
set_option maxRecDepth 20000 in
theorem okX11_init_51 {E : mE} {X : State → Heap → Prop} {l : Launch} (hX : mXok E X) (n : Nat) : Sd E X l yX11_init cX11_init 1 none 4 59 10367 28 6256 51 (kX11_init_51 n) := s_pF dX11_init_51 lFX11_28 rfl rfl (s_aload_n dX11_init_54 rfl (s_new dX11_init_55 rfl lKX11_32 lIX8 lJX8 (by decide) (Nat.le_of_ble_eq_true rfl) (Nat.le_of_ble_eq_true rfl) (s_dup dX11_init_58 (s_aload_n dX11_init_59 rfl (s_gA dX11_init_60 lFX11_16 (s_cI dX11_init_63 lMX11_34 bIX8_init (CtX8_init hX n) (Nat.le_of_ble_eq_true rfl) (Nat.le_of_ble_eq_true rfl) (Nat.le_of_ble_eq_true rfl) (s_pF dX11_init_66 lFX11_37 rfl rfl (s_aload_n dX11_init_69 rfl (s_new dX11_init_70 rfl lKX11_32 lIX8 lJX8 (by decide) (Nat.le_of_ble_eq_true rfl) (Nat.le_of_ble_eq_true rfl) (s_dup dX11_init_73 (s_aload_n dX11_init_74 rfl (s_gA dX11_init_75 lFX11_16 (s_cI dX11_init_78 lMX11_34 bIX8_init (CtX8_init hX n) (Nat.le_of_ble_eq_true rfl) (Nat.le_of_ble_eq_true rfl) (Nat.le_of_ble_eq_true rfl) (s_pF dX11_init_81 lFX11_41 rfl rfl (s_aload_n dX11_init_84 rfl (s_new dX11_init_85 rfl lKX11_44 lIX0 lJX0 (by decide) (Nat.le_of_ble_eq_true rfl) (Nat.le_of_ble_eq_true rfl) (s_dup dX11_init_88 (s_aload_n dX11_init_89 rfl (s_gA dX11_init_90 lFX11_37 (s_cI dX11_init_93 lMX11_46 bIX0_init (CtX0_init hX n) (Nat.le_of_ble_eq_true rfl) (Nat.le_of_ble_eq_true rfl) (Nat.le_of_ble_eq_true rfl) (s_pF dX11_init_96 lFX11_49 rfl rfl (s_aload_n dX11_init_99 rfl (s_new dX11_init_100 rfl lKX11_53 lIX10 lJX10 (by decide) (Nat.le_of_ble_eq_true rfl) (Nat.le_of_ble_eq_true rfl) (okX11_init_103 hX n))))))))))))))))))))))))
def kX11_init_0 (n : Nat) : mK := i_ldA 0 (i_obj (i_ldA 0 (i_cst (.int (1600)) (i_na 0 1600 (i_pA 11 0 (i_ldA 0 (i_new 4 (i_dup (i_cI 0 10 (FX4_init n) (i_pA 11 2 (i_ldA 0 (i_new 4 (i_dup (i_cI 0 10 (FX4_init n) (i_pA 11 3 (i_ldA 0 (i_new 5 (i_dup (i_ldA 0 (i_gA 11 0 (i_ldA 0 (i_gA 11 3 (i_cI 2 4 (FX5_init n) (kX11_init_51 n))))))))))))))))))))))))
set_option maxRecDepth 20000 in
theorem okX11_init_0 {E : mE} {X : State → Heap → Prop} {l : Launch} (hX : mXok E X) (n : Nat) : Sd E X l yX11_init cX11_init 1 none 4 59 10367 0 0 0 (kX11_init_0 n) := s_aload_n dX11_init_0 rfl (s_obj dX11_init_1 lMX11_3 lObj1 lObj2 (Nat.le_of_ble_eq_true rfl) (s_aload_n dX11_init_4 rfl (s_sipush dX11_init_5 (by decide) (s_na dX11_init_8 rfl (by decide) lA_0 (Nat.le_of_ble_eq_true rfl) (Nat.le_of_ble_eq_true rfl) (Nat.le_of_ble_eq_true rfl) (s_pF dX11_init_10 lFX11_9 rfl rfl (s_aload_n dX11_init_13 rfl (s_new dX11_init_14 rfl lKX11_13 lIX4 lJX4 (by decide) (Nat.le_of_ble_eq_true rfl) (Nat.le_of_ble_eq_true rfl) (s_dup dX11_init_17 (s_cI dX11_init_18 lMX11_15 bIX4_init (CtX4_init hX n) (Nat.le_of_ble_eq_true rfl) (Nat.le_of_ble_eq_true rfl) (Nat.le_of_ble_eq_true rfl) (s_pF dX11_init_21 lFX11_16 rfl rfl (s_aload_n dX11_init_24 rfl (s_new dX11_init_25 rfl lKX11_13 lIX4 lJX4 (by decide) (Nat.le_of_ble_eq_true rfl) (Nat.le_of_ble_eq_true rfl) (s_dup dX11_init_28 (s_cI dX11_init_29 lMX11_15 bIX4_init (CtX4_init hX n) (Nat.le_of_ble_eq_true rfl) (Nat.le_of_ble_eq_true rfl) (Nat.le_of_ble_eq_true rfl) (s_pF dX11_init_32 lFX11_20 rfl rfl (s_aload_n dX11_init_35 rfl (s_new dX11_init_36 rfl lKX11_23 lIX5 lJX5 (by decide) (Nat.le_of_ble_eq_true rfl) (Nat.le_of_ble_eq_true rfl) (s_dup dX11_init_39 (s_aload_n dX11_init_40 rfl (s_gA dX11_init_41 lFX11_9 (s_aload_n dX11_init_44 rfl (s_gA dX11_init_45 lFX11_20 (s_cI dX11_init_48 lMX11_25 bIX5_init (CtX5_init hX n) (Nat.le_of_ble_eq_true rfl) (Nat.le_of_ble_eq_true rfl) (Nat.le_of_ble_eq_true rfl) (okX11_init_51 hX n))))))))))))))))))))))))
def FX11_init (n : Nat) : List Value → mM → Option mR := mfn 1 (kX11_init_0 n)
theorem CtX11_init {E : mE} {X : State → Heap → Prop} {l : Launch} (hX : mXok E X) (n : Nat) : Ct E X l yX11_init cX11_init 1 none 4 59 10367 (FX11_init n) := Ct_of (by decide) hX (okX11_init_0 hX n)
theorem dX11_lines_0 : decode cX11_lines 0 = .ok (.aload_n 0, 1) := by decide +kernel
theorem dX11_lines_1 : decode cX11_lines 1 = .ok (.getfield 16, 3) := by decide +kernel
theorem dX11_lines_4 : decode cX11_lines 4 = .ok (.iload_n 1, 1) := by decide +kernel
theorem dX11_lines_5 : decode cX11_lines 5 = .ok (.invokevirtual 200, 3) := by decide +kernel
theorem dX11_lines_8 : decode cX11_lines 8 = .ok (.ifCond .ne 5, 3) := by decide +kernel
theorem dX11_lines_11 : decode cX11_lines 11 = .ok (.iconst (-1), 1) := by decide +kernel
theorem dX11_lines_12 : decode cX11_lines 12 = .ok (.ireturn, 1) := by decide +kernel
theorem dX11_lines_13 : decode cX11_lines 13 = .ok (.iconst 0, 1) := by decide +kernel
theorem dX11_lines_14 : decode cX11_lines 14 = .ok (.istore_n 2, 1) := by decide +kernel
theorem dX11_lines_15 : decode cX11_lines 15 = .ok (.iconst 0, 1) := by decide +kernel
theorem dX11_lines_16 : decode cX11_lines 16 = .ok (.istore_n 3, 1) := by decide +kernel
theorem dX11_lines_17 : decode cX11_lines 17 = .ok (.iload_n 3, 1) := by decide +kernel
theorem dX11_lines_18 : decode cX11_lines 18 = .ok (.bipush 8, 2) := by decide +kernel
theorem dX11_lines_20 : decode cX11_lines 20 = .ok (.if_icmp .ge 24, 3) := by decide +kernel
theorem dX11_lines_23 : decode cX11_lines 23 = .ok (.aload_n 0, 1) := by decide +kernel
theorem dX11_lines_24 : decode cX11_lines 24 = .ok (.getfield 37, 3) := by decide +kernel
theorem dX11_lines_27 : decode cX11_lines 27 = .ok (.iload_n 3, 1) := by decide +kernel
theorem dX11_lines_28 : decode cX11_lines 28 = .ok (.iload_n 1, 1) := by decide +kernel
theorem dX11_lines_29 : decode cX11_lines 29 = .ok (.invokevirtual 249, 3) := by decide +kernel
theorem dX11_lines_32 : decode cX11_lines 32 = .ok (.ifCond .eq 6, 3) := by decide +kernel
theorem dX11_lines_35 : decode cX11_lines 35 = .ok (.iinc 2 1, 3) := by decide +kernel
theorem dX11_lines_38 : decode cX11_lines 38 = .ok (.iinc 3 1, 3) := by decide +kernel
theorem dX11_lines_41 : decode cX11_lines 41 = .ok (.goto (-24), 3) := by decide +kernel
theorem dX11_lines_44 : decode cX11_lines 44 = .ok (.iload_n 2, 1) := by decide +kernel
theorem dX11_lines_45 : decode cX11_lines 45 = .ok (.ireturn, 1) := by decide +kernel
def kX11_lines_38 (n : Nat) (r17 : mK) : mK := i_inc 3 (1) (r17)
set_option maxRecDepth 20000 in
theorem okX11_lines_38 {E : mE} {X : State → Heap → Prop} {l : Launch} (hX : mXok E X) (n : Nat) {r17 : mK} (h17 : Sd E X l yX11_lines cX11_lines 4 (some .int) 4 0 0 0 0 17 r17) : Sd E X l yX11_lines cX11_lines 4 (some .int) 4 0 0 0 0 38 (kX11_lines_38 n r17) := s_iinc dX11_lines_38 (by decide) (s_goto dX11_lines_41 (by decide) h17)
def kX11_lines_17 (n : Nat) (r17 : mK) : mK := i_ldI 3 (i_cst (.int (8)) (i_c2 (fun x y => decide (y ≤ x)) (i_ldI 2 (i_rI)) (i_ldA 0 (i_gA 11 5 (i_ldI 3 (i_ldI 1 (i_cV 8 2 (FX8_hasOnLine n) (i_c0 (fun x => decide (x = 0)) (kX11_lines_38 n r17) (i_inc 2 (1) (kX11_lines_38 n r17))))))))))
set_option maxRecDepth 20000 in
theorem okX11_lines_17 {E : mE} {X : State → Heap → Prop} {l : Launch} (hX : mXok E X) (n : Nat) {r17 : mK} (h17 : Sd E X l yX11_lines cX11_lines 4 (some .int) 4 0 0 0 0 17 r17) : Sd E X l yX11_lines cX11_lines 4 (some .int) 4 0 0 0 0 17 (kX11_lines_17 n r17) := s_iload_n dX11_lines_17 rfl (s_bipush dX11_lines_18 (by decide) (s_icge dX11_lines_20 (by decide) (s_iload_n dX11_lines_44 rfl (s_rI dX11_lines_45 (Nat.le_of_ble_eq_true rfl) (Nat.le_of_ble_eq_true rfl))) (s_aload_n dX11_lines_23 rfl (s_gA dX11_lines_24 lFX11_37 (s_iload_n dX11_lines_27 rfl (s_iload_n dX11_lines_28 rfl (s_cV dX11_lines_29 lMX11_249 bVX8_hasOnLine rfl (CtX8_hasOnLine hX n) (Nat.le_of_ble_eq_true rfl) (s_ifeq dX11_lines_32 (by decide) (okX11_lines_38 hX n h17) (s_iinc dX11_lines_35 (by decide) (okX11_lines_38 hX n h17))) (Nat.le_of_ble_eq_true rfl) (Nat.le_of_ble_eq_true rfl))))))))
def kX11_lines_0 (n : Nat) : mK := i_ldA 0 (i_gA 11 2 (i_ldI 1 (i_cV 4 1 (FX4_hasCell n) (i_c0 (fun x => decide (¬ x = 0)) (i_cst (.int (0)) (i_stI 2 (i_cst (.int (0)) (i_stI 3 (mit (kX11_lines_17 n ) n))))) (i_cst (.int (-1)) (i_rI))))))
set_option maxRecDepth 20000 in
theorem okX11_lines_0 {E : mE} {X : State → Heap → Prop} {l : Launch} (hX : mXok E X) (n : Nat) : Sd E X l yX11_lines cX11_lines 4 (some .int) 4 0 0 0 0 0 (kX11_lines_0 n) := s_aload_n dX11_lines_0 rfl (s_gA dX11_lines_1 lFX11_16 (s_iload_n dX11_lines_4 rfl (s_cV dX11_lines_5 lMX11_200 bVX4_hasCell rfl (CtX4_hasCell hX n) (Nat.le_of_ble_eq_true rfl) (s_ifne dX11_lines_8 (by decide) (s_iconst dX11_lines_13 (by decide) (s_istore_n dX11_lines_14 rfl (s_iconst dX11_lines_15 (by decide) (s_istore_n dX11_lines_16 rfl (s_mit (fun _ hk => okX11_lines_17 hX n hk) n))))) (s_iconst dX11_lines_11 (by decide) (s_rI dX11_lines_12 (Nat.le_of_ble_eq_true rfl) (Nat.le_of_ble_eq_true rfl)))) (Nat.le_of_ble_eq_true rfl) (Nat.le_of_ble_eq_true rfl))))
def FX11_lines (n : Nat) : List Value → mM → Option mR := mfn 4 (kX11_lines_0 n)
theorem CtX11_lines {E : mE} {X : State → Heap → Prop} {l : Launch} (hX : mXok E X) (n : Nat) : Ct E X l yX11_lines cX11_lines 4 (some .int) 4 0 0 (FX11_lines n) := Ct_of (by decide) hX (okX11_lines_0 hX n)
theorem dX11_noise_0 : decode cX11_noise 0 = .ok (.aload_n 0, 1) := by decide +kernel
theorem dX11_noise_1 : decode cX11_noise 1 = .ok (.getfield 37, 3) := by decide +kernel
theorem dX11_noise_4 : decode cX11_noise 4 = .ok (.invokevirtual 266, 3) := by decide +kernel
theorem dX11_noise_7 : decode cX11_noise 7 = .ok (.ireturn, 1) := by decide +kernel
def kX11_noise_0 (n : Nat) : mK := i_ldA 0 (i_gA 11 5 (i_cV 8 0 (FX8_allHoots n) (i_rI)))
set_option maxRecDepth 20000 in
theorem okX11_noise_0 {E : mE} {X : State → Heap → Prop} {l : Launch} (hX : mXok E X) (n : Nat) : Sd E X l yX11_noise cX11_noise 1 (some .int) 4 0 0 0 0 0 (kX11_noise_0 n) := s_aload_n dX11_noise_0 rfl (s_gA dX11_noise_1 lFX11_37 (s_cV dX11_noise_4 lMX11_266 bVX8_allHoots rfl (CtX8_allHoots hX n) (Nat.le_of_ble_eq_true rfl) (s_rI dX11_noise_7 (Nat.le_of_ble_eq_true rfl) (Nat.le_of_ble_eq_true rfl)) (Nat.le_of_ble_eq_true rfl) (Nat.le_of_ble_eq_true rfl)))
def FX11_noise (n : Nat) : List Value → mM → Option mR := mfn 1 (kX11_noise_0 n)
theorem CtX11_noise {E : mE} {X : State → Heap → Prop} {l : Launch} (hX : mXok E X) (n : Nat) : Ct E X l yX11_noise cX11_noise 1 (some .int) 4 0 0 (FX11_noise n) := Ct_of (by decide) hX (okX11_noise_0 hX n)
theorem dX11_polish_0 : decode cX11_polish 0 = .ok (.aload_n 0, 1) := by decide +kernel
theorem dX11_polish_1 : decode cX11_polish 1 = .ok (.getfield 37, 3) := by decide +kernel
theorem dX11_polish_4 : decode cX11_polish 4 = .ok (.iload_n 1, 1) := by decide +kernel
theorem dX11_polish_5 : decode cX11_polish 5 = .ok (.invokevirtual 167, 3) := by decide +kernel
theorem dX11_polish_8 : decode cX11_polish 8 = .ok (.ifCond .eq 19, 3) := by decide +kernel
theorem dX11_polish_11 : decode cX11_polish 11 = .ok (.aload_n 0, 1) := by decide +kernel
theorem dX11_polish_12 : decode cX11_polish 12 = .ok (.getfield 37, 3) := by decide +kernel
theorem dX11_polish_15 : decode cX11_polish 15 = .ok (.getfield 154, 3) := by decide +kernel
theorem dX11_polish_18 : decode cX11_polish 18 = .ok (.iload_n 1, 1) := by decide +kernel
theorem dX11_polish_19 : decode cX11_polish 19 = .ok (.invokestatic 144, 3) := by decide +kernel
theorem dX11_polish_22 : decode cX11_polish 22 = .ok (.bipush 9, 2) := by decide +kernel
theorem dX11_polish_24 : decode cX11_polish 24 = .ok (.if_icmp .lt 5, 3) := by decide +kernel
theorem dX11_polish_27 : decode cX11_polish 27 = .ok (.iconst (-1), 1) := by decide +kernel
theorem dX11_polish_28 : decode cX11_polish 28 = .ok (.ireturn, 1) := by decide +kernel
theorem dX11_polish_29 : decode cX11_polish 29 = .ok (.aload_n 0, 1) := by decide +kernel
theorem dX11_polish_30 : decode cX11_polish 30 = .ok (.getfield 37, 3) := by decide +kernel
theorem dX11_polish_33 : decode cX11_polish 33 = .ok (.getfield 154, 3) := by decide +kernel
theorem dX11_polish_36 : decode cX11_polish 36 = .ok (.iload_n 1, 1) := by decide +kernel
theorem dX11_polish_37 : decode cX11_polish 37 = .ok (.aload_n 0, 1) := by decide +kernel
theorem dX11_polish_38 : decode cX11_polish 38 = .ok (.getfield 37, 3) := by decide +kernel
theorem dX11_polish_41 : decode cX11_polish 41 = .ok (.getfield 154, 3) := by decide +kernel
theorem dX11_polish_44 : decode cX11_polish 44 = .ok (.iload_n 1, 1) := by decide +kernel
theorem dX11_polish_45 : decode cX11_polish 45 = .ok (.invokestatic 144, 3) := by decide +kernel
theorem dX11_polish_48 : decode cX11_polish 48 = .ok (.iconst 1, 1) := by decide +kernel
theorem dX11_polish_49 : decode cX11_polish 49 = .ok (.iadd, 1) := by decide +kernel
theorem dX11_polish_50 : decode cX11_polish 50 = .ok (.invokestatic 112, 3) := by decide +kernel
theorem dX11_polish_53 : decode cX11_polish 53 = .ok (.aload_n 0, 1) := by decide +kernel
theorem dX11_polish_54 : decode cX11_polish 54 = .ok (.getfield 63, 3) := by decide +kernel
theorem dX11_polish_57 : decode cX11_polish 57 = .ok (.invokevirtual 188, 3) := by decide +kernel
theorem dX11_polish_60 : decode cX11_polish 60 = .ok (.aload_n 0, 1) := by decide +kernel
theorem dX11_polish_61 : decode cX11_polish 61 = .ok (.getfield 37, 3) := by decide +kernel
theorem dX11_polish_64 : decode cX11_polish 64 = .ok (.getfield 154, 3) := by decide +kernel
theorem dX11_polish_67 : decode cX11_polish 67 = .ok (.iload_n 1, 1) := by decide +kernel
theorem dX11_polish_68 : decode cX11_polish 68 = .ok (.invokestatic 144, 3) := by decide +kernel
theorem dX11_polish_71 : decode cX11_polish 71 = .ok (.ireturn, 1) := by decide +kernel
def kX11_polish_27 (n : Nat) : mK := i_cst (.int (-1)) (i_rI)
set_option maxRecDepth 20000 in
theorem okX11_polish_27 {E : mE} {X : State → Heap → Prop} {l : Launch} (hX : mXok E X) (n : Nat) : Sd E X l yX11_polish cX11_polish 2 (some .int) 4 0 0 0 0 27 (kX11_polish_27 n) := s_iconst dX11_polish_27 (by decide) (s_rI dX11_polish_28 (Nat.le_of_ble_eq_true rfl) (Nat.le_of_ble_eq_true rfl))
def kX11_polish_53 (n : Nat) : mK := i_ldA 0 (i_gA 11 9 (i_cV 3 0 (FX3_keep n) (i_ldA 0 (i_gA 11 5 (i_gA 8 4 (i_ldI 1 (i_cS 2 (FX11_at n) (i_rI))))))))
set_option maxRecDepth 20000 in
theorem okX11_polish_53 {E : mE} {X : State → Heap → Prop} {l : Launch} (hX : mXok E X) (n : Nat) : Sd E X l yX11_polish cX11_polish 2 (some .int) 4 0 0 0 0 53 (kX11_polish_53 n) := s_aload_n dX11_polish_53 rfl (s_gA dX11_polish_54 lFX11_63 (s_cV dX11_polish_57 lMX11_188 bVX3_keep rfl (CtX3_keep hX n) (Nat.le_of_ble_eq_true rfl) (s_aload_n dX11_polish_60 rfl (s_gA dX11_polish_61 lFX11_37 (s_gA dX11_polish_64 lFX11_154 (s_iload_n dX11_polish_67 rfl (s_cS dX11_polish_68 lMX11_144 bSX11_at (CtX11_at hX n) (Nat.le_of_ble_eq_true rfl) (s_rI dX11_polish_71 (Nat.le_of_ble_eq_true rfl) (Nat.le_of_ble_eq_true rfl)) (Nat.le_of_ble_eq_true rfl) (Nat.le_of_ble_eq_true rfl)))))) (Nat.le_of_ble_eq_true rfl) (Nat.le_of_ble_eq_true rfl)))
def kX11_polish_0 (n : Nat) : mK := i_ldA 0 (i_gA 11 5 (i_ldI 1 (i_cV 8 1 (FX8_isIn n) (i_c0 (fun x => decide (x = 0)) (kX11_polish_27 n) (i_ldA 0 (i_gA 11 5 (i_gA 8 4 (i_ldI 1 (i_cS 2 (FX11_at n) (i_cst (.int (9)) (i_c2 (fun x y => decide (x < y)) (i_ldA 0 (i_gA 11 5 (i_gA 8 4 (i_ldI 1 (i_ldA 0 (i_gA 11 5 (i_gA 8 4 (i_ldI 1 (i_cS 2 (FX11_at n) (i_cst (.int (1)) (i_bin (fun x y => x + y) (i_cS 3 (FX11_set n) (kX11_polish_53 n))))))))))))) (kX11_polish_27 n))))))))))))
set_option maxRecDepth 20000 in
theorem okX11_polish_0 {E : mE} {X : State → Heap → Prop} {l : Launch} (hX : mXok E X) (n : Nat) : Sd E X l yX11_polish cX11_polish 2 (some .int) 4 0 0 0 0 0 (kX11_polish_0 n) := s_aload_n dX11_polish_0 rfl (s_gA dX11_polish_1 lFX11_37 (s_iload_n dX11_polish_4 rfl (s_cV dX11_polish_5 lMX11_167 bVX8_isIn rfl (CtX8_isIn hX n) (Nat.le_of_ble_eq_true rfl) (s_ifeq dX11_polish_8 (by decide) (okX11_polish_27 hX n) (s_aload_n dX11_polish_11 rfl (s_gA dX11_polish_12 lFX11_37 (s_gA dX11_polish_15 lFX11_154 (s_iload_n dX11_polish_18 rfl (s_cS dX11_polish_19 lMX11_144 bSX11_at (CtX11_at hX n) (Nat.le_of_ble_eq_true rfl) (s_bipush dX11_polish_22 (by decide) (s_iclt dX11_polish_24 (by decide) (s_aload_n dX11_polish_29 rfl (s_gA dX11_polish_30 lFX11_37 (s_gA dX11_polish_33 lFX11_154 (s_iload_n dX11_polish_36 rfl (s_aload_n dX11_polish_37 rfl (s_gA dX11_polish_38 lFX11_37 (s_gA dX11_polish_41 lFX11_154 (s_iload_n dX11_polish_44 rfl (s_cS dX11_polish_45 lMX11_144 bSX11_at (CtX11_at hX n) (Nat.le_of_ble_eq_true rfl) (s_iconst dX11_polish_48 (by decide) (s_iadd dX11_polish_49 (s_cS dX11_polish_50 lMX11_112 bSX11_set (CtX11_set hX n) (Nat.le_of_ble_eq_true rfl) (okX11_polish_53 hX n) (Nat.le_of_ble_eq_true rfl) (Nat.le_of_ble_eq_true rfl)))) (Nat.le_of_ble_eq_true rfl) (Nat.le_of_ble_eq_true rfl)))))))))) (okX11_polish_27 hX n))) (Nat.le_of_ble_eq_true rfl) (Nat.le_of_ble_eq_true rfl))))))) (Nat.le_of_ble_eq_true rfl) (Nat.le_of_ble_eq_true rfl))))
def FX11_polish (n : Nat) : List Value → mM → Option mR := mfn 2 (kX11_polish_0 n)
theorem CtX11_polish {E : mE} {X : State → Heap → Prop} {l : Launch} (hX : mXok E X) (n : Nat) : Ct E X l yX11_polish cX11_polish 2 (some .int) 4 0 0 (FX11_polish n) := Ct_of (by decide) hX (okX11_polish_0 hX n)
