theorem dX8_save_0 : decode cX8_save 0 = .ok (.iconst 0, 1) := by decide +kernel
theorem dX8_save_1 : decode cX8_save 1 = .ok (.istore_n 3, 1) := by decide +kernel
theorem dX8_save_2 : decode cX8_save 2 = .ok (.iload_n 3, 1) := by decide +kernel
theorem dX8_save_3 : decode cX8_save 3 = .ok (.bipush 8, 2) := by decide +kernel
theorem dX8_save_5 : decode cX8_save 5 = .ok (.if_icmp .ge 78, 3) := by decide +kernel
theorem dX8_save_8 : decode cX8_save 8 = .ok (.iload_n 2, 1) := by decide +kernel
theorem dX8_save_9 : decode cX8_save 9 = .ok (.iconst 4, 1) := by decide +kernel
theorem dX8_save_10 : decode cX8_save 10 = .ok (.iload_n 3, 1) := by decide +kernel
theorem dX8_save_11 : decode cX8_save 11 = .ok (.imul, 1) := by decide +kernel
theorem dX8_save_12 : decode cX8_save 12 = .ok (.iadd, 1) := by decide +kernel
theorem dX8_save_13 : decode cX8_save 13 = .ok (.istore 4, 2) := by decide +kernel
theorem dX8_save_15 : decode cX8_save 15 = .ok (.aload_n 1, 1) := by decide +kernel
theorem dX8_save_16 : decode cX8_save 16 = .ok (.iload 4, 2) := by decide +kernel
theorem dX8_save_18 : decode cX8_save 18 = .ok (.aload_n 0, 1) := by decide +kernel
theorem dX8_save_19 : decode cX8_save 19 = .ok (.getfield 9, 3) := by decide +kernel
theorem dX8_save_22 : decode cX8_save 22 = .ok (.iload_n 3, 1) := by decide +kernel
theorem dX8_save_23 : decode cX8_save 23 = .ok (.invokestatic 48, 3) := by decide +kernel
theorem dX8_save_26 : decode cX8_save 26 = .ok (.invokestatic 52, 3) := by decide +kernel
theorem dX8_save_29 : decode cX8_save 29 = .ok (.aload_n 1, 1) := by decide +kernel
theorem dX8_save_30 : decode cX8_save 30 = .ok (.iload 4, 2) := by decide +kernel
theorem dX8_save_32 : decode cX8_save 32 = .ok (.iconst 1, 1) := by decide +kernel
theorem dX8_save_33 : decode cX8_save 33 = .ok (.iadd, 1) := by decide +kernel
theorem dX8_save_34 : decode cX8_save 34 = .ok (.aload_n 0, 1) := by decide +kernel
theorem dX8_save_35 : decode cX8_save 35 = .ok (.getfield 15, 3) := by decide +kernel
theorem dX8_save_38 : decode cX8_save 38 = .ok (.iload_n 3, 1) := by decide +kernel
theorem dX8_save_39 : decode cX8_save 39 = .ok (.invokestatic 48, 3) := by decide +kernel
theorem dX8_save_42 : decode cX8_save 42 = .ok (.invokestatic 52, 3) := by decide +kernel
theorem dX8_save_45 : decode cX8_save 45 = .ok (.aload_n 1, 1) := by decide +kernel
theorem dX8_save_46 : decode cX8_save 46 = .ok (.iload 4, 2) := by decide +kernel
theorem dX8_save_48 : decode cX8_save 48 = .ok (.iconst 2, 1) := by decide +kernel
theorem dX8_save_49 : decode cX8_save 49 = .ok (.iadd, 1) := by decide +kernel
theorem dX8_save_50 : decode cX8_save 50 = .ok (.aload_n 0, 1) := by decide +kernel
theorem dX8_save_51 : decode cX8_save 51 = .ok (.getfield 18, 3) := by decide +kernel
theorem dX8_save_54 : decode cX8_save 54 = .ok (.iload_n 3, 1) := by decide +kernel
theorem dX8_save_55 : decode cX8_save 55 = .ok (.invokestatic 48, 3) := by decide +kernel
theorem dX8_save_58 : decode cX8_save 58 = .ok (.invokestatic 52, 3) := by decide +kernel
theorem dX8_save_61 : decode cX8_save 61 = .ok (.aload_n 1, 1) := by decide +kernel
theorem dX8_save_62 : decode cX8_save 62 = .ok (.iload 4, 2) := by decide +kernel
theorem dX8_save_64 : decode cX8_save 64 = .ok (.iconst 3, 1) := by decide +kernel
theorem dX8_save_65 : decode cX8_save 65 = .ok (.iadd, 1) := by decide +kernel
theorem dX8_save_66 : decode cX8_save 66 = .ok (.aload_n 0, 1) := by decide +kernel
theorem dX8_save_67 : decode cX8_save 67 = .ok (.getfield 21, 3) := by decide +kernel
theorem dX8_save_70 : decode cX8_save 70 = .ok (.iload_n 3, 1) := by decide +kernel
theorem dX8_save_71 : decode cX8_save 71 = .ok (.invokestatic 48, 3) := by decide +kernel
theorem dX8_save_74 : decode cX8_save 74 = .ok (.invokestatic 52, 3) := by decide +kernel
theorem dX8_save_77 : decode cX8_save 77 = .ok (.iinc 3 1, 3) := by decide +kernel
theorem dX8_save_80 : decode cX8_save 80 = .ok (.goto (-78), 3) := by decide +kernel
theorem dX8_save_83 : decode cX8_save 83 = .ok (.aload_n 1, 1) := by decide +kernel
theorem dX8_save_84 : decode cX8_save 84 = .ok (.iload_n 2, 1) := by decide +kernel
theorem dX8_save_85 : decode cX8_save 85 = .ok (.bipush 32, 2) := by decide +kernel
theorem dX8_save_87 : decode cX8_save 87 = .ok (.iadd, 1) := by decide +kernel
theorem dX8_save_88 : decode cX8_save 88 = .ok (.aload_n 0, 1) := by decide +kernel
theorem dX8_save_89 : decode cX8_save 89 = .ok (.getfield 38, 3) := by decide +kernel
theorem dX8_save_92 : decode cX8_save 92 = .ok (.invokestatic 52, 3) := by decide +kernel
theorem dX8_save_95 : decode cX8_save 95 = .ok (.aload_n 1, 1) := by decide +kernel
theorem dX8_save_96 : decode cX8_save 96 = .ok (.iload_n 2, 1) := by decide +kernel
theorem dX8_save_97 : decode cX8_save 97 = .ok (.bipush 32, 2) := by decide +kernel
theorem dX8_save_99 : decode cX8_save 99 = .ok (.iadd, 1) := by decide +kernel
theorem dX8_save_100 : decode cX8_save 100 = .ok (.iconst 1, 1) := by decide +kernel
theorem dX8_save_101 : decode cX8_save 101 = .ok (.iadd, 1) := by decide +kernel
theorem dX8_save_102 : decode cX8_save 102 = .ok (.aload_n 0, 1) := by decide +kernel
theorem dX8_save_103 : decode cX8_save 103 = .ok (.getfield 45, 3) := by decide +kernel
theorem dX8_save_106 : decode cX8_save 106 = .ok (.invokestatic 52, 3) := by decide +kernel
theorem dX8_save_109 : decode cX8_save 109 = .ok (.return_, 1) := by decide +kernel
def kX8_save_42 (n : Nat) (r2 : mK) : mK := i_cS 3 (FX11_set n) (i_ldA 1 (i_ldI 4 (i_cst (.int (2)) (i_bin (fun x y => x + y) (i_ldA 0 (i_gA 8 3 (i_ldI 3 (i_cS 2 (FX11_at n) (i_cS 3 (FX11_set n) (i_ldA 1 (i_ldI 4 (i_cst (.int (3)) (i_bin (fun x y => x + y) (i_ldA 0 (i_gA 8 4 (i_ldI 3 (i_cS 2 (FX11_at n) (i_cS 3 (FX11_set n) (i_inc 3 (1) (r2))))))))))))))))))))
set_option maxRecDepth 20000 in
theorem okX8_save_42 {E : mE} {X : State → Heap → Prop} {l : Launch} (hX : mXok E X) (n : Nat) {r2 : mK} (h2 : Sd E X l yX8_save cX8_save 5 none 2 0 0 0 0 2 r2) : Sd E X l yX8_save cX8_save 5 none 2 0 0 0 0 42 (kX8_save_42 n r2) := s_cN dX8_save_42 lNX8_52 bSX11_set (CtX11_set hX n) (Nat.le_of_ble_eq_true rfl) (s_aload_n dX8_save_45 rfl (s_iload dX8_save_46 (s_iconst dX8_save_48 (by decide) (s_iadd dX8_save_49 (s_aload_n dX8_save_50 rfl (s_gA dX8_save_51 lFX8_18 (s_iload_n dX8_save_54 rfl (s_cN dX8_save_55 lNX8_48 bSX11_at (CtX11_at hX n) (Nat.le_of_ble_eq_true rfl) (s_cN dX8_save_58 lNX8_52 bSX11_set (CtX11_set hX n) (Nat.le_of_ble_eq_true rfl) (s_aload_n dX8_save_61 rfl (s_iload dX8_save_62 (s_iconst dX8_save_64 (by decide) (s_iadd dX8_save_65 (s_aload_n dX8_save_66 rfl (s_gA dX8_save_67 lFX8_21 (s_iload_n dX8_save_70 rfl (s_cN dX8_save_71 lNX8_48 bSX11_at (CtX11_at hX n) (Nat.le_of_ble_eq_true rfl) (s_cN dX8_save_74 lNX8_52 bSX11_set (CtX11_set hX n) (Nat.le_of_ble_eq_true rfl) (s_iinc dX8_save_77 (by decide) (s_goto dX8_save_80 (by decide) h2)) (Nat.le_of_ble_eq_true rfl) (Nat.le_of_ble_eq_true rfl)) (Nat.le_of_ble_eq_true rfl) (Nat.le_of_ble_eq_true rfl))))))))) (Nat.le_of_ble_eq_true rfl) (Nat.le_of_ble_eq_true rfl)) (Nat.le_of_ble_eq_true rfl) (Nat.le_of_ble_eq_true rfl))))))))) (Nat.le_of_ble_eq_true rfl) (Nat.le_of_ble_eq_true rfl)
def kX8_save_2 (n : Nat) (r2 : mK) : mK := i_ldI 3 (i_cst (.int (8)) (i_c2 (fun x y => decide (y ≤ x)) (i_ldA 1 (i_ldI 2 (i_cst (.int (32)) (i_bin (fun x y => x + y) (i_ldA 0 (i_gI 8 5 (i_cS 3 (FX11_set n) (i_ldA 1 (i_ldI 2 (i_cst (.int (32)) (i_bin (fun x y => x + y) (i_cst (.int (1)) (i_bin (fun x y => x + y) (i_ldA 0 (i_gI 8 6 (i_cS 3 (FX11_set n) (i_rV))))))))))))))))) (i_ldI 2 (i_cst (.int (4)) (i_ldI 3 (i_bin (fun x y => x * y) (i_bin (fun x y => x + y) (i_stI 4 (i_ldA 1 (i_ldI 4 (i_ldA 0 (i_gA 8 1 (i_ldI 3 (i_cS 2 (FX11_at n) (i_cS 3 (FX11_set n) (i_ldA 1 (i_ldI 4 (i_cst (.int (1)) (i_bin (fun x y => x + y) (i_ldA 0 (i_gA 8 2 (i_ldI 3 (i_cS 2 (FX11_at n) (kX8_save_42 n r2))))))))))))))))))))))))
set_option maxRecDepth 20000 in
theorem okX8_save_2 {E : mE} {X : State → Heap → Prop} {l : Launch} (hX : mXok E X) (n : Nat) {r2 : mK} (h2 : Sd E X l yX8_save cX8_save 5 none 2 0 0 0 0 2 r2) : Sd E X l yX8_save cX8_save 5 none 2 0 0 0 0 2 (kX8_save_2 n r2) := s_iload_n dX8_save_2 rfl (s_bipush dX8_save_3 (by decide) (s_icge dX8_save_5 (by decide) (s_aload_n dX8_save_83 rfl (s_iload_n dX8_save_84 rfl (s_bipush dX8_save_85 (by decide) (s_iadd dX8_save_87 (s_aload_n dX8_save_88 rfl (s_gI dX8_save_89 lFX8_38 (by decide) (s_cN dX8_save_92 lNX8_52 bSX11_set (CtX11_set hX n) (Nat.le_of_ble_eq_true rfl) (s_aload_n dX8_save_95 rfl (s_iload_n dX8_save_96 rfl (s_bipush dX8_save_97 (by decide) (s_iadd dX8_save_99 (s_iconst dX8_save_100 (by decide) (s_iadd dX8_save_101 (s_aload_n dX8_save_102 rfl (s_gI dX8_save_103 lFX8_45 (by decide) (s_cN dX8_save_106 lNX8_52 bSX11_set (CtX11_set hX n) (Nat.le_of_ble_eq_true rfl) (s_rV dX8_save_109 (Nat.le_of_ble_eq_true rfl) (Nat.le_of_ble_eq_true rfl)) (Nat.le_of_ble_eq_true rfl) (Nat.le_of_ble_eq_true rfl)))))))))) (Nat.le_of_ble_eq_true rfl) (Nat.le_of_ble_eq_true rfl)))))))) (s_iload_n dX8_save_8 rfl (s_iconst dX8_save_9 (by decide) (s_iload_n dX8_save_10 rfl (s_imul dX8_save_11 (s_iadd dX8_save_12 (s_istore dX8_save_13 (s_aload_n dX8_save_15 rfl (s_iload dX8_save_16 (s_aload_n dX8_save_18 rfl (s_gA dX8_save_19 lFX8_9 (s_iload_n dX8_save_22 rfl (s_cN dX8_save_23 lNX8_48 bSX11_at (CtX11_at hX n) (Nat.le_of_ble_eq_true rfl) (s_cN dX8_save_26 lNX8_52 bSX11_set (CtX11_set hX n) (Nat.le_of_ble_eq_true rfl) (s_aload_n dX8_save_29 rfl (s_iload dX8_save_30 (s_iconst dX8_save_32 (by decide) (s_iadd dX8_save_33 (s_aload_n dX8_save_34 rfl (s_gA dX8_save_35 lFX8_15 (s_iload_n dX8_save_38 rfl (s_cN dX8_save_39 lNX8_48 bSX11_at (CtX11_at hX n) (Nat.le_of_ble_eq_true rfl) (okX8_save_42 hX n h2) (Nat.le_of_ble_eq_true rfl) (Nat.le_of_ble_eq_true rfl))))))))) (Nat.le_of_ble_eq_true rfl) (Nat.le_of_ble_eq_true rfl)) (Nat.le_of_ble_eq_true rfl) (Nat.le_of_ble_eq_true rfl)))))))))))))))
def kX8_save_0 (n : Nat) : mK := i_cst (.int (0)) (i_stI 3 (mit (kX8_save_2 n ) n))
set_option maxRecDepth 20000 in
theorem okX8_save_0 {E : mE} {X : State → Heap → Prop} {l : Launch} (hX : mXok E X) (n : Nat) : Sd E X l yX8_save cX8_save 5 none 2 0 0 0 0 0 (kX8_save_0 n) := s_iconst dX8_save_0 (by decide) (s_istore_n dX8_save_1 rfl (s_mit (fun _ hk => okX8_save_2 hX n hk) n))
def FX8_save (n : Nat) : List Value → mM → Option mR := mfn 5 (kX8_save_0 n)
theorem CtX8_save {E : mE} {X : State → Heap → Prop} {l : Launch} (hX : mXok E X) (n : Nat) : Ct E X l yX8_save cX8_save 5 none 2 0 0 (FX8_save n) := Ct_of (by decide) hX (okX8_save_0 hX n)
theorem dX9_behindBlanks_0 : decode cX9_behindBlanks 0 = .ok (.iload_n 1, 1) := by decide +kernel
theorem dX9_behindBlanks_1 : decode cX9_behindBlanks 1 = .ok (.istore_n 2, 1) := by decide +kernel
theorem dX9_behindBlanks_2 : decode cX9_behindBlanks 2 = .ok (.iload_n 2, 1) := by decide +kernel
theorem dX9_behindBlanks_3 : decode cX9_behindBlanks 3 = .ok (.aload_n 0, 1) := by decide +kernel
theorem dX9_behindBlanks_4 : decode cX9_behindBlanks 4 = .ok (.getfield 21, 3) := by decide +kernel
theorem dX9_behindBlanks_7 : decode cX9_behindBlanks 7 = .ok (.if_icmp .ge 29, 3) := by decide +kernel
theorem dX9_behindBlanks_10 : decode cX9_behindBlanks 10 = .ok (.aload_n 0, 1) := by decide +kernel
theorem dX9_behindBlanks_11 : decode cX9_behindBlanks 11 = .ok (.iload_n 2, 1) := by decide +kernel
theorem dX9_behindBlanks_12 : decode cX9_behindBlanks 12 = .ok (.invokevirtual 43, 3) := by decide +kernel
theorem dX9_behindBlanks_15 : decode cX9_behindBlanks 15 = .ok (.bipush 32, 2) := by decide +kernel
theorem dX9_behindBlanks_17 : decode cX9_behindBlanks 17 = .ok (.if_icmp .eq 13, 3) := by decide +kernel
theorem dX9_behindBlanks_20 : decode cX9_behindBlanks 20 = .ok (.aload_n 0, 1) := by decide +kernel
theorem dX9_behindBlanks_21 : decode cX9_behindBlanks 21 = .ok (.iload_n 2, 1) := by decide +kernel
theorem dX9_behindBlanks_22 : decode cX9_behindBlanks 22 = .ok (.invokevirtual 43, 3) := by decide +kernel
theorem dX9_behindBlanks_25 : decode cX9_behindBlanks 25 = .ok (.bipush 10, 2) := by decide +kernel
theorem dX9_behindBlanks_27 : decode cX9_behindBlanks 27 = .ok (.if_icmp .ne 9, 3) := by decide +kernel
theorem dX9_behindBlanks_30 : decode cX9_behindBlanks 30 = .ok (.iinc 2 1, 3) := by decide +kernel
theorem dX9_behindBlanks_33 : decode cX9_behindBlanks 33 = .ok (.goto (-31), 3) := by decide +kernel
theorem dX9_behindBlanks_36 : decode cX9_behindBlanks 36 = .ok (.iload_n 2, 1) := by decide +kernel
theorem dX9_behindBlanks_37 : decode cX9_behindBlanks 37 = .ok (.ireturn, 1) := by decide +kernel
def kX9_behindBlanks_36 (n : Nat) : mK := i_ldI 2 (i_rI)
set_option maxRecDepth 20000 in
theorem okX9_behindBlanks_36 {E : mE} {X : State → Heap → Prop} {l : Launch} (hX : mXok E X) (n : Nat) : Sd E X l yX9_behindBlanks cX9_behindBlanks 3 (some .int) 2 0 0 0 0 36 (kX9_behindBlanks_36 n) := s_iload_n dX9_behindBlanks_36 rfl (s_rI dX9_behindBlanks_37 (Nat.le_of_ble_eq_true rfl) (Nat.le_of_ble_eq_true rfl))
def kX9_behindBlanks_30 (n : Nat) (r2 : mK) : mK := i_inc 2 (1) (r2)
set_option maxRecDepth 20000 in
theorem okX9_behindBlanks_30 {E : mE} {X : State → Heap → Prop} {l : Launch} (hX : mXok E X) (n : Nat) {r2 : mK} (h2 : Sd E X l yX9_behindBlanks cX9_behindBlanks 3 (some .int) 2 0 0 0 0 2 r2) : Sd E X l yX9_behindBlanks cX9_behindBlanks 3 (some .int) 2 0 0 0 0 30 (kX9_behindBlanks_30 n r2) := s_iinc dX9_behindBlanks_30 (by decide) (s_goto dX9_behindBlanks_33 (by decide) h2)
def kX9_behindBlanks_2 (n : Nat) (r2 : mK) : mK := i_ldI 2 (i_ldA 0 (i_gI 9 3 (i_c2 (fun x y => decide (y ≤ x)) (kX9_behindBlanks_36 n) (i_ldA 0 (i_ldI 2 (i_cV 9 1 (FX9_byteAt n) (i_cst (.int (32)) (i_c2 (fun x y => decide (x = y)) (kX9_behindBlanks_30 n r2) (i_ldA 0 (i_ldI 2 (i_cV 9 1 (FX9_byteAt n) (i_cst (.int (10)) (i_c2 (fun x y => decide (¬ x = y)) (kX9_behindBlanks_36 n) (kX9_behindBlanks_30 n r2))))))))))))))
set_option maxRecDepth 20000 in
theorem okX9_behindBlanks_2 {E : mE} {X : State → Heap → Prop} {l : Launch} (hX : mXok E X) (n : Nat) {r2 : mK} (h2 : Sd E X l yX9_behindBlanks cX9_behindBlanks 3 (some .int) 2 0 0 0 0 2 r2) : Sd E X l yX9_behindBlanks cX9_behindBlanks 3 (some .int) 2 0 0 0 0 2 (kX9_behindBlanks_2 n r2) := s_iload_n dX9_behindBlanks_2 rfl (s_aload_n dX9_behindBlanks_3 rfl (s_gI dX9_behindBlanks_4 lFX9_21 (by decide) (s_icge dX9_behindBlanks_7 (by decide) (okX9_behindBlanks_36 hX n) (s_aload_n dX9_behindBlanks_10 rfl (s_iload_n dX9_behindBlanks_11 rfl (s_cV dX9_behindBlanks_12 lMX9_43 bVX9_byteAt rfl (CtX9_byteAt hX n) (Nat.le_of_ble_eq_true rfl) (s_bipush dX9_behindBlanks_15 (by decide) (s_iceq dX9_behindBlanks_17 (by decide) (okX9_behindBlanks_30 hX n h2) (s_aload_n dX9_behindBlanks_20 rfl (s_iload_n dX9_behindBlanks_21 rfl (s_cV dX9_behindBlanks_22 lMX9_43 bVX9_byteAt rfl (CtX9_byteAt hX n) (Nat.le_of_ble_eq_true rfl) (s_bipush dX9_behindBlanks_25 (by decide) (s_icne dX9_behindBlanks_27 (by decide) (okX9_behindBlanks_36 hX n) (okX9_behindBlanks_30 hX n h2))) (Nat.le_of_ble_eq_true rfl) (Nat.le_of_ble_eq_true rfl)))))) (Nat.le_of_ble_eq_true rfl) (Nat.le_of_ble_eq_true rfl)))))))
def kX9_behindBlanks_0 (n : Nat) : mK := i_ldI 1 (i_stI 2 (mit (kX9_behindBlanks_2 n ) n))
set_option maxRecDepth 20000 in
theorem okX9_behindBlanks_0 {E : mE} {X : State → Heap → Prop} {l : Launch} (hX : mXok E X) (n : Nat) : Sd E X l yX9_behindBlanks cX9_behindBlanks 3 (some .int) 2 0 0 0 0 0 (kX9_behindBlanks_0 n) := s_iload_n dX9_behindBlanks_0 rfl (s_istore_n dX9_behindBlanks_1 rfl (s_mit (fun _ hk => okX9_behindBlanks_2 hX n hk) n))
def FX9_behindBlanks (n : Nat) : List Value → mM → Option mR := mfn 3 (kX9_behindBlanks_0 n)
theorem CtX9_behindBlanks {E : mE} {X : State → Heap → Prop} {l : Launch} (hX : mXok E X) (n : Nat) : Ct E X l yX9_behindBlanks cX9_behindBlanks 3 (some .int) 2 0 0 (FX9_behindBlanks n) := Ct_of (by decide) hX (okX9_behindBlanks_0 hX n)
theorem dX9_isDigit_0 : decode cX9_isDigit 0 = .ok (.aload_n 0, 1) := by decide +kernel
theorem dX9_isDigit_1 : decode cX9_isDigit 1 = .ok (.iload_n 1, 1) := by decide +kernel
theorem dX9_isDigit_2 : decode cX9_isDigit 2 = .ok (.invokevirtual 43, 3) := by decide +kernel
theorem dX9_isDigit_5 : decode cX9_isDigit 5 = .ok (.istore_n 2, 1) := by decide +kernel
theorem dX9_isDigit_6 : decode cX9_isDigit 6 = .ok (.iload_n 2, 1) := by decide +kernel
theorem dX9_isDigit_7 : decode cX9_isDigit 7 = .ok (.bipush 48, 2) := by decide +kernel
theorem dX9_isDigit_9 : decode cX9_isDigit 9 = .ok (.if_icmp .lt 13, 3) := by decide +kernel
theorem dX9_isDigit_12 : decode cX9_isDigit 12 = .ok (.iload_n 2, 1) := by decide +kernel
theorem dX9_isDigit_13 : decode cX9_isDigit 13 = .ok (.bipush 57, 2) := by decide +kernel
theorem dX9_isDigit_15 : decode cX9_isDigit 15 = .ok (.if_icmp .gt 7, 3) := by decide +kernel
theorem dX9_isDigit_18 : decode cX9_isDigit 18 = .ok (.iconst 1, 1) := by decide +kernel
theorem dX9_isDigit_19 : decode cX9_isDigit 19 = .ok (.goto 4, 3) := by decide +kernel
theorem dX9_isDigit_22 : decode cX9_isDigit 22 = .ok (.iconst 0, 1) := by decide +kernel
theorem dX9_isDigit_23 : decode cX9_isDigit 23 = .ok (.ireturn, 1) := by decide +kernel
def kX9_isDigit_23 (n : Nat) : mK := i_rZ
set_option maxRecDepth 20000 in
theorem okX9_isDigit_23 {E : mE} {X : State → Heap → Prop} {l : Launch} (hX : mXok E X) (n : Nat) : Sd E X l yX9_isDigit cX9_isDigit 3 (some .boolean) 2 0 0 0 0 23 (kX9_isDigit_23 n) := s_rZ dX9_isDigit_23 (Nat.le_of_ble_eq_true rfl) (Nat.le_of_ble_eq_true rfl)
def kX9_isDigit_22 (n : Nat) : mK := i_cst (.int (0)) (kX9_isDigit_23 n)
set_option maxRecDepth 20000 in
theorem okX9_isDigit_22 {E : mE} {X : State → Heap → Prop} {l : Launch} (hX : mXok E X) (n : Nat) : Sd E X l yX9_isDigit cX9_isDigit 3 (some .boolean) 2 0 0 0 0 22 (kX9_isDigit_22 n) := s_iconst dX9_isDigit_22 (by decide) (okX9_isDigit_23 hX n)
def kX9_isDigit_0 (n : Nat) : mK := i_ldA 0 (i_ldI 1 (i_cV 9 1 (FX9_byteAt n) (i_stI 2 (i_ldI 2 (i_cst (.int (48)) (i_c2 (fun x y => decide (x < y)) (kX9_isDigit_22 n) (i_ldI 2 (i_cst (.int (57)) (i_c2 (fun x y => decide (y < x)) (kX9_isDigit_22 n) (i_cst (.int (1)) ((kX9_isDigit_23 n))))))))))))
set_option maxRecDepth 20000 in
theorem okX9_isDigit_0 {E : mE} {X : State → Heap → Prop} {l : Launch} (hX : mXok E X) (n : Nat) : Sd E X l yX9_isDigit cX9_isDigit 3 (some .boolean) 2 0 0 0 0 0 (kX9_isDigit_0 n) := s_aload_n dX9_isDigit_0 rfl (s_iload_n dX9_isDigit_1 rfl (s_cV dX9_isDigit_2 lMX9_43 bVX9_byteAt rfl (CtX9_byteAt hX n) (Nat.le_of_ble_eq_true rfl) (s_istore_n dX9_isDigit_5 rfl (s_iload_n dX9_isDigit_6 rfl (s_bipush dX9_isDigit_7 (by decide) (s_iclt dX9_isDigit_9 (by decide) (okX9_isDigit_22 hX n) (s_iload_n dX9_isDigit_12 rfl (s_bipush dX9_isDigit_13 (by decide) (s_icgt dX9_isDigit_15 (by decide) (okX9_isDigit_22 hX n) (s_iconst dX9_isDigit_18 (by decide) (s_goto dX9_isDigit_19 (by decide) (okX9_isDigit_23 hX n)))))))))) (Nat.le_of_ble_eq_true rfl) (Nat.le_of_ble_eq_true rfl)))
def FX9_isDigit (n : Nat) : List Value → mM → Option mR := mfn 3 (kX9_isDigit_0 n)
theorem CtX9_isDigit {E : mE} {X : State → Heap → Prop} {l : Launch} (hX : mXok E X) (n : Nat) : Ct E X l yX9_isDigit cX9_isDigit 3 (some .boolean) 2 0 0 (FX9_isDigit n) := Ct_of (by decide) hX (okX9_isDigit_0 hX n)
theorem dX9_isLetter_0 : decode cX9_isLetter 0 = .ok (.aload_n 0, 1) := by decide +kernel
theorem dX9_isLetter_1 : decode cX9_isLetter 1 = .ok (.iload_n 1, 1) := by decide +kernel
theorem dX9_isLetter_2 : decode cX9_isLetter 2 = .ok (.invokevirtual 43, 3) := by decide +kernel
theorem dX9_isLetter_5 : decode cX9_isLetter 5 = .ok (.istore_n 2, 1) := by decide +kernel
theorem dX9_isLetter_6 : decode cX9_isLetter 6 = .ok (.iload_n 2, 1) := by decide +kernel
theorem dX9_isLetter_7 : decode cX9_isLetter 7 = .ok (.bipush 97, 2) := by decide +kernel
theorem dX9_isLetter_9 : decode cX9_isLetter 9 = .ok (.if_icmp .lt 13, 3) := by decide +kernel
theorem dX9_isLetter_12 : decode cX9_isLetter 12 = .ok (.iload_n 2, 1) := by decide +kernel
theorem dX9_isLetter_13 : decode cX9_isLetter 13 = .ok (.bipush 122, 2) := by decide +kernel
theorem dX9_isLetter_15 : decode cX9_isLetter 15 = .ok (.if_icmp .gt 7, 3) := by decide +kernel
theorem dX9_isLetter_18 : decode cX9_isLetter 18 = .ok (.iconst 1, 1) := by decide +kernel
theorem dX9_isLetter_19 : decode cX9_isLetter 19 = .ok (.goto 4, 3) := by decide +kernel
theorem dX9_isLetter_22 : decode cX9_isLetter 22 = .ok (.iconst 0, 1) := by decide +kernel
theorem dX9_isLetter_23 : decode cX9_isLetter 23 = .ok (.ireturn, 1) := by decide +kernel
def kX9_isLetter_23 (n : Nat) : mK := i_rZ
set_option maxRecDepth 20000 in
theorem okX9_isLetter_23 {E : mE} {X : State → Heap → Prop} {l : Launch} (hX : mXok E X) (n : Nat) : Sd E X l yX9_isLetter cX9_isLetter 3 (some .boolean) 2 0 0 0 0 23 (kX9_isLetter_23 n) := s_rZ dX9_isLetter_23 (Nat.le_of_ble_eq_true rfl) (Nat.le_of_ble_eq_true rfl)
def kX9_isLetter_22 (n : Nat) : mK := i_cst (.int (0)) (kX9_isLetter_23 n)
set_option maxRecDepth 20000 in
theorem okX9_isLetter_22 {E : mE} {X : State → Heap → Prop} {l : Launch} (hX : mXok E X) (n : Nat) : Sd E X l yX9_isLetter cX9_isLetter 3 (some .boolean) 2 0 0 0 0 22 (kX9_isLetter_22 n) := s_iconst dX9_isLetter_22 (by decide) (okX9_isLetter_23 hX n)
def kX9_isLetter_0 (n : Nat) : mK := i_ldA 0 (i_ldI 1 (i_cV 9 1 (FX9_byteAt n) (i_stI 2 (i_ldI 2 (i_cst (.int (97)) (i_c2 (fun x y => decide (x < y)) (kX9_isLetter_22 n) (i_ldI 2 (i_cst (.int (122)) (i_c2 (fun x y => decide (y < x)) (kX9_isLetter_22 n) (i_cst (.int (1)) ((kX9_isLetter_23 n))))))))))))
set_option maxRecDepth 20000 in
theorem okX9_isLetter_0 {E : mE} {X : State → Heap → Prop} {l : Launch} (hX : mXok E X) (n : Nat) : Sd E X l yX9_isLetter cX9_isLetter 3 (some .boolean) 2 0 0 0 0 0 (kX9_isLetter_0 n) := s_aload_n dX9_isLetter_0 rfl (s_iload_n dX9_isLetter_1 rfl (s_cV dX9_isLetter_2 lMX9_43 bVX9_byteAt rfl (CtX9_byteAt hX n) (Nat.le_of_ble_eq_true rfl) (s_istore_n dX9_isLetter_5 rfl (s_iload_n dX9_isLetter_6 rfl (s_bipush dX9_isLetter_7 (by decide) (s_iclt dX9_isLetter_9 (by decide) (okX9_isLetter_22 hX n) (s_iload_n dX9_isLetter_12 rfl (s_bipush dX9_isLetter_13 (by decide) (s_icgt dX9_isLetter_15 (by decide) (okX9_isLetter_22 hX n) (s_iconst dX9_isLetter_18 (by decide) (s_goto dX9_isLetter_19 (by decide) (okX9_isLetter_23 hX n)))))))))) (Nat.le_of_ble_eq_true rfl) (Nat.le_of_ble_eq_true rfl)))
def FX9_isLetter (n : Nat) : List Value → mM → Option mR := mfn 3 (kX9_isLetter_0 n)
theorem CtX9_isLetter {E : mE} {X : State → Heap → Prop} {l : Launch} (hX : mXok E X) (n : Nat) : Ct E X l yX9_isLetter cX9_isLetter 3 (some .boolean) 2 0 0 (FX9_isLetter n) := Ct_of (by decide) hX (okX9_isLetter_0 hX n)
theorem dX9_numberFrom_0 : decode cX9_numberFrom 0 = .ok (.iconst 0, 1) := by decide +kernel
theorem dX9_numberFrom_1 : decode cX9_numberFrom 1 = .ok (.istore_n 2, 1) := by decide +kernel
theorem dX9_numberFrom_2 : decode cX9_numberFrom 2 = .ok (.iconst 0, 1) := by decide +kernel
theorem dX9_numberFrom_3 : decode cX9_numberFrom 3 = .ok (.istore_n 3, 1) := by decide +kernel
theorem dX9_numberFrom_4 : decode cX9_numberFrom 4 = .ok (.iload_n 3, 1) := by decide +kernel
theorem dX9_numberFrom_5 : decode cX9_numberFrom 5 = .ok (.iconst 4, 1) := by decide +kernel
theorem dX9_numberFrom_6 : decode cX9_numberFrom 6 = .ok (.if_icmp .ge 43, 3) := by decide +kernel
theorem dX9_numberFrom_9 : decode cX9_numberFrom 9 = .ok (.aload_n 0, 1) := by decide +kernel
theorem dX9_numberFrom_10 : decode cX9_numberFrom 10 = .ok (.iload_n 1, 1) := by decide +kernel
theorem dX9_numberFrom_11 : decode cX9_numberFrom 11 = .ok (.iload_n 3, 1) := by decide +kernel
theorem dX9_numberFrom_12 : decode cX9_numberFrom 12 = .ok (.iadd, 1) := by decide +kernel
theorem dX9_numberFrom_13 : decode cX9_numberFrom 13 = .ok (.invokevirtual 43, 3) := by decide +kernel
theorem dX9_numberFrom_16 : decode cX9_numberFrom 16 = .ok (.bipush 48, 2) := by decide +kernel
theorem dX9_numberFrom_18 : decode cX9_numberFrom 18 = .ok (.isub, 1) := by decide +kernel
theorem dX9_numberFrom_19 : decode cX9_numberFrom 19 = .ok (.istore 4, 2) := by decide +kernel
theorem dX9_numberFrom_21 : decode cX9_numberFrom 21 = .ok (.iload 4, 2) := by decide +kernel
theorem dX9_numberFrom_23 : decode cX9_numberFrom 23 = .ok (.ifCond .lt 10, 3) := by decide +kernel
theorem dX9_numberFrom_26 : decode cX9_numberFrom 26 = .ok (.iload 4, 2) := by decide +kernel
theorem dX9_numberFrom_28 : decode cX9_numberFrom 28 = .ok (.bipush 9, 2) := by decide +kernel
theorem dX9_numberFrom_30 : decode cX9_numberFrom 30 = .ok (.if_icmp .le 5, 3) := by decide +kernel
theorem dX9_numberFrom_33 : decode cX9_numberFrom 33 = .ok (.iload_n 2, 1) := by decide +kernel
theorem dX9_numberFrom_34 : decode cX9_numberFrom 34 = .ok (.ireturn, 1) := by decide +kernel
theorem dX9_numberFrom_35 : decode cX9_numberFrom 35 = .ok (.iload_n 2, 1) := by decide +kernel
theorem dX9_numberFrom_36 : decode cX9_numberFrom 36 = .ok (.bipush 10, 2) := by decide +kernel
theorem dX9_numberFrom_38 : decode cX9_numberFrom 38 = .ok (.imul, 1) := by decide +kernel
theorem dX9_numberFrom_39 : decode cX9_numberFrom 39 = .ok (.iload 4, 2) := by decide +kernel
theorem dX9_numberFrom_41 : decode cX9_numberFrom 41 = .ok (.iadd, 1) := by decide +kernel
theorem dX9_numberFrom_42 : decode cX9_numberFrom 42 = .ok (.istore_n 2, 1) := by decide +kernel
theorem dX9_numberFrom_43 : decode cX9_numberFrom 43 = .ok (.iinc 3 1, 3) := by decide +kernel
theorem dX9_numberFrom_46 : decode cX9_numberFrom 46 = .ok (.goto (-42), 3) := by decide +kernel
theorem dX9_numberFrom_49 : decode cX9_numberFrom 49 = .ok (.iload_n 2, 1) := by decide +kernel
theorem dX9_numberFrom_50 : decode cX9_numberFrom 50 = .ok (.ireturn, 1) := by decide +kernel
def kX9_numberFrom_33 (n : Nat) : mK := i_ldI 2 (i_rI)
set_option maxRecDepth 20000 in
theorem okX9_numberFrom_33 {E : mE} {X : State → Heap → Prop} {l : Launch} (hX : mXok E X) (n : Nat) : Sd E X l yX9_numberFrom cX9_numberFrom 5 (some .int) 2 0 0 0 0 33 (kX9_numberFrom_33 n) := s_iload_n dX9_numberFrom_33 rfl (s_rI dX9_numberFrom_34 (Nat.le_of_ble_eq_true rfl) (Nat.le_of_ble_eq_true rfl))
def kX9_numberFrom_4 (n : Nat) (r4 : mK) : mK := i_ldI 3 (i_cst (.int (4)) (i_c2 (fun x y => decide (y ≤ x)) (i_ldI 2 (i_rI)) (i_ldA 0 (i_ldI 1 (i_ldI 3 (i_bin (fun x y => x + y) (i_cV 9 1 (FX9_byteAt n) (i_cst (.int (48)) (i_bin (fun x y => x - y) (i_stI 4 (i_ldI 4 (i_c0 (fun x => decide (x < 0)) (kX9_numberFrom_33 n) (i_ldI 4 (i_cst (.int (9)) (i_c2 (fun x y => decide (x ≤ y)) (i_ldI 2 (i_cst (.int (10)) (i_bin (fun x y => x * y) (i_ldI 4 (i_bin (fun x y => x + y) (i_stI 2 (i_inc 3 (1) (r4)))))))) (kX9_numberFrom_33 n))))))))))))))))
set_option maxRecDepth 20000 in
theorem okX9_numberFrom_4 {E : mE} {X : State → Heap → Prop} {l : Launch} (hX : mXok E X) (n : Nat) {r4 : mK} (h4 : Sd E X l yX9_numberFrom cX9_numberFrom 5 (some .int) 2 0 0 0 0 4 r4) : Sd E X l yX9_numberFrom cX9_numberFrom 5 (some .int) 2 0 0 0 0 4 (kX9_numberFrom_4 n r4) := s_iload_n dX9_numberFrom_4 rfl (s_iconst dX9_numberFrom_5 (by decide) (s_icge dX9_numberFrom_6 (by decide) (s_iload_n dX9_numberFrom_49 rfl (s_rI dX9_numberFrom_50 (Nat.le_of_ble_eq_true rfl) (Nat.le_of_ble_eq_true rfl))) (s_aload_n dX9_numberFrom_9 rfl (s_iload_n dX9_numberFrom_10 rfl (s_iload_n dX9_numberFrom_11 rfl (s_iadd dX9_numberFrom_12 (s_cV dX9_numberFrom_13 lMX9_43 bVX9_byteAt rfl (CtX9_byteAt hX n) (Nat.le_of_ble_eq_true rfl) (s_bipush dX9_numberFrom_16 (by decide) (s_isub dX9_numberFrom_18 (s_istore dX9_numberFrom_19 (s_iload dX9_numberFrom_21 (s_iflt dX9_numberFrom_23 (by decide) (okX9_numberFrom_33 hX n) (s_iload dX9_numberFrom_26 (s_bipush dX9_numberFrom_28 (by decide) (s_icle dX9_numberFrom_30 (by decide) (s_iload_n dX9_numberFrom_35 rfl (s_bipush dX9_numberFrom_36 (by decide) (s_imul dX9_numberFrom_38 (s_iload dX9_numberFrom_39 (s_iadd dX9_numberFrom_41 (s_istore_n dX9_numberFrom_42 rfl (s_iinc dX9_numberFrom_43 (by decide) (s_goto dX9_numberFrom_46 (by decide) h4)))))))) (okX9_numberFrom_33 hX n))))))))) (Nat.le_of_ble_eq_true rfl) (Nat.le_of_ble_eq_true rfl))))))))
def kX9_numberFrom_0 (n : Nat) : mK := i_cst (.int (0)) (i_stI 2 (i_cst (.int (0)) (i_stI 3 (mit (kX9_numberFrom_4 n ) n))))
set_option maxRecDepth 20000 in
theorem okX9_numberFrom_0 {E : mE} {X : State → Heap → Prop} {l : Launch} (hX : mXok E X) (n : Nat) : Sd E X l yX9_numberFrom cX9_numberFrom 5 (some .int) 2 0 0 0 0 0 (kX9_numberFrom_0 n) := s_iconst dX9_numberFrom_0 (by decide) (s_istore_n dX9_numberFrom_1 rfl (s_iconst dX9_numberFrom_2 (by decide) (s_istore_n dX9_numberFrom_3 rfl (s_mit (fun _ hk => okX9_numberFrom_4 hX n hk) n))))
def FX9_numberFrom (n : Nat) : List Value → mM → Option mR := mfn 5 (kX9_numberFrom_0 n)
theorem CtX9_numberFrom {E : mE} {X : State → Heap → Prop} {l : Launch} (hX : mXok E X) (n : Nat) : Ct E X l yX9_numberFrom cX9_numberFrom 5 (some .int) 2 0 0 (FX9_numberFrom n) := Ct_of (by decide) hX (okX9_numberFrom_0 hX n)
theorem dJ0_indexOf_7cf53_0 : decode cJ0_indexOf_7cf53 0 = .ok (.aload_n 0, 1) := by decide +kernel
theorem dJ0_indexOf_7cf53_1 : decode cJ0_indexOf_7cf53 1 = .ok (.invokevirtual 492, 3) := by decide +kernel
theorem dJ0_indexOf_7cf53_4 : decode cJ0_indexOf_7cf53 4 = .ok (.ifCond .eq 19, 3) := by decide +kernel
theorem dJ0_indexOf_7cf53_7 : decode cJ0_indexOf_7cf53 7 = .ok (.aload_n 0, 1) := by decide +kernel
theorem dJ0_indexOf_7cf53_8 : decode cJ0_indexOf_7cf53 8 = .ok (.getfield 9, 3) := by decide +kernel
theorem dJ0_indexOf_7cf53_11 : decode cJ0_indexOf_7cf53 11 = .ok (.iload_n 1, 1) := by decide +kernel
theorem dJ0_indexOf_7cf53_12 : decode cJ0_indexOf_7cf53 12 = .ok (.iload_n 2, 1) := by decide +kernel
theorem dJ0_indexOf_7cf53_13 : decode cJ0_indexOf_7cf53 13 = .ok (.aload_n 0, 1) := by decide +kernel
theorem dJ0_indexOf_7cf53_14 : decode cJ0_indexOf_7cf53 14 = .ok (.invokevirtual 505, 3) := by decide +kernel
theorem dJ0_indexOf_7cf53_17 : decode cJ0_indexOf_7cf53 17 = .ok (.invokestatic 637, 3) := by decide +kernel
theorem dJ0_indexOf_7cf53_20 : decode cJ0_indexOf_7cf53 20 = .ok (.goto 16, 3) := by decide +kernel
theorem dJ0_indexOf_7cf53_23 : decode cJ0_indexOf_7cf53 23 = .ok (.aload_n 0, 1) := by decide +kernel
theorem dJ0_indexOf_7cf53_24 : decode cJ0_indexOf_7cf53 24 = .ok (.getfield 9, 3) := by decide +kernel
theorem dJ0_indexOf_7cf53_27 : decode cJ0_indexOf_7cf53 27 = .ok (.iload_n 1, 1) := by decide +kernel
theorem dJ0_indexOf_7cf53_28 : decode cJ0_indexOf_7cf53 28 = .ok (.iload_n 2, 1) := by decide +kernel
theorem dJ0_indexOf_7cf53_29 : decode cJ0_indexOf_7cf53 29 = .ok (.aload_n 0, 1) := by decide +kernel
theorem dJ0_indexOf_7cf53_30 : decode cJ0_indexOf_7cf53 30 = .ok (.invokevirtual 505, 3) := by decide +kernel
theorem dJ0_indexOf_7cf53_33 : decode cJ0_indexOf_7cf53 33 = .ok (.invokestatic 640, 3) := by decide +kernel
theorem dJ0_indexOf_7cf53_36 : decode cJ0_indexOf_7cf53 36 = .ok (.ireturn, 1) := by decide +kernel
def kJ0_indexOf_7cf53_0 (n : Nat) : mK := i_ldA 0 (i_cX 0 (FJ0_isLatin1_aae02 n) (i_c0 (fun x => decide (x = 0)) (i_ldA 0 (i_xV (i_ldI 1 (i_ldI 2 (i_ldA 0 (i_cX 0 (FJ0_length_8abf5 n) (i_no))))))) (i_ldA 0 (i_xV (i_ldI 1 (i_ldI 2 (i_ldA 0 (i_cX 0 (FJ0_length_8abf5 n) (i_cS 4 (FJ1_indexOf_4cfef n) ((i_rI)))))))))))
set_option maxRecDepth 20000 in
theorem okJ0_indexOf_7cf53_0 {E : mE} {X : State → Heap → Prop} {l : Launch} (hX : mXok E X) (n : Nat) : Sd E X l yJ0_indexOf_7cf53 cJ0_indexOf_7cf53 3 (some .int) 3 0 0 0 0 0 (kJ0_indexOf_7cf53_0 n) := s_aload_n dJ0_indexOf_7cf53_0 rfl (s_cX dJ0_indexOf_7cf53_1 lMJ0_492 bVJ0_isLatin1_aae02 rfl (CtJ0_isLatin1_aae02 hX n) (Nat.le_of_ble_eq_true rfl) (s_ifeq dJ0_indexOf_7cf53_4 (by decide) (s_aload_n dJ0_indexOf_7cf53_23 rfl (s_xV dJ0_indexOf_7cf53_24 lXJ0_9 (s_iload_n dJ0_indexOf_7cf53_27 rfl (s_iload_n dJ0_indexOf_7cf53_28 rfl (s_aload_n dJ0_indexOf_7cf53_29 rfl (s_cX dJ0_indexOf_7cf53_30 lMJ0_505 bVJ0_length_8abf5 rfl (CtJ0_length_8abf5 hX n) (Nat.le_of_ble_eq_true rfl) (s_no) (Nat.le_of_ble_eq_true rfl) (Nat.le_of_ble_eq_true rfl))))))) (s_aload_n dJ0_indexOf_7cf53_7 rfl (s_xV dJ0_indexOf_7cf53_8 lXJ0_9 (s_iload_n dJ0_indexOf_7cf53_11 rfl (s_iload_n dJ0_indexOf_7cf53_12 rfl (s_aload_n dJ0_indexOf_7cf53_13 rfl (s_cX dJ0_indexOf_7cf53_14 lMJ0_505 bVJ0_length_8abf5 rfl (CtJ0_length_8abf5 hX n) (Nat.le_of_ble_eq_true rfl) (s_cS dJ0_indexOf_7cf53_17 lMJ0_637 bSJ1_indexOf_4cfef (CtJ1_indexOf_4cfef hX n) (Nat.le_of_ble_eq_true rfl) (s_goto dJ0_indexOf_7cf53_20 (by decide) (s_rI dJ0_indexOf_7cf53_36 (Nat.le_of_ble_eq_true rfl) (Nat.le_of_ble_eq_true rfl))) (Nat.le_of_ble_eq_true rfl) (Nat.le_of_ble_eq_true rfl)) (Nat.le_of_ble_eq_true rfl) (Nat.le_of_ble_eq_true rfl)))))))) (Nat.le_of_ble_eq_true rfl) (Nat.le_of_ble_eq_true rfl))
def FJ0_indexOf_7cf53 (n : Nat) : List Value → mM → Option mR := mfn 3 (kJ0_indexOf_7cf53_0 n)
theorem CtJ0_indexOf_7cf53 {E : mE} {X : State → Heap → Prop} {l : Launch} (hX : mXok E X) (n : Nat) : Ct E X l yJ0_indexOf_7cf53 cJ0_indexOf_7cf53 3 (some .int) 3 0 0 (FJ0_indexOf_7cf53 n) := Ct_of (by decide) hX (okJ0_indexOf_7cf53_0 hX n)
theorem dJ1_charAt_3b067_0 : decode cJ1_charAt_3b067 0 = .ok (.iload_n 1, 1) := by decide +kernel
theorem dJ1_charAt_3b067_1 : decode cJ1_charAt_3b067 1 = .ok (.aload_n 0, 1) := by decide +kernel
theorem dJ1_charAt_3b067_2 : decode cJ1_charAt_3b067 2 = .ok (.arraylength, 1) := by decide +kernel
theorem dJ1_charAt_3b067_3 : decode cJ1_charAt_3b067 3 = .ok (.invokestatic 9, 3) := by decide +kernel
theorem dJ1_charAt_3b067_6 : decode cJ1_charAt_3b067 6 = .ok (.aload_n 0, 1) := by decide +kernel
theorem dJ1_charAt_3b067_7 : decode cJ1_charAt_3b067 7 = .ok (.iload_n 1, 1) := by decide +kernel
theorem dJ1_charAt_3b067_8 : decode cJ1_charAt_3b067 8 = .ok (.baload, 1) := by decide +kernel
theorem dJ1_charAt_3b067_9 : decode cJ1_charAt_3b067 9 = .ok (.sipush 255, 3) := by decide +kernel
theorem dJ1_charAt_3b067_12 : decode cJ1_charAt_3b067 12 = .ok (.iand, 1) := by decide +kernel
theorem dJ1_charAt_3b067_13 : decode cJ1_charAt_3b067 13 = .ok (.i2c, 1) := by decide +kernel
theorem dJ1_charAt_3b067_14 : decode cJ1_charAt_3b067 14 = .ok (.ireturn, 1) := by decide +kernel
def kJ1_charAt_3b067_0 (n : Nat) : mK := i_ldI 1 (i_ldA 0 (i_xln (i_cS 2 (FJ0_checkIndex_df160 n) (i_ldA 0 (i_ldI 1 (i_xal (i_cst (.int (255)) (i_bin (fun x y => x &&& y) (i_un (fun x => (x.toUInt32 % 65536).toInt32) (i_rC))))))))))
set_option maxRecDepth 20000 in
theorem okJ1_charAt_3b067_0 {E : mE} {X : State → Heap → Prop} {l : Launch} (hX : mXok E X) (n : Nat) : Sd E X l yJ1_charAt_3b067 cJ1_charAt_3b067 2 (some .char) 3 0 0 0 0 0 (kJ1_charAt_3b067_0 n) := s_iload_n dJ1_charAt_3b067_0 rfl (s_aload_n dJ1_charAt_3b067_1 rfl (s_xln dJ1_charAt_3b067_2 (s_cS dJ1_charAt_3b067_3 lMJ1_9 bSJ0_checkIndex_df160 (CtJ0_checkIndex_df160 hX n) (Nat.le_of_ble_eq_true rfl) (s_aload_n dJ1_charAt_3b067_6 rfl (s_iload_n dJ1_charAt_3b067_7 rfl (s_xal dJ1_charAt_3b067_8 (s_sipush dJ1_charAt_3b067_9 (by decide) (s_iand dJ1_charAt_3b067_12 (s_i2c dJ1_charAt_3b067_13 (s_rC dJ1_charAt_3b067_14 (Nat.le_of_ble_eq_true rfl) (Nat.le_of_ble_eq_true rfl)))))))) (Nat.le_of_ble_eq_true rfl) (Nat.le_of_ble_eq_true rfl))))
def FJ1_charAt_3b067 (n : Nat) : List Value → mM → Option mR := mfn 2 (kJ1_charAt_3b067_0 n)
theorem CtJ1_charAt_3b067 {E : mE} {X : State → Heap → Prop} {l : Launch} (hX : mXok E X) (n : Nat) : Ct E X l yJ1_charAt_3b067 cJ1_charAt_3b067 2 (some .char) 3 0 0 (FJ1_charAt_3b067 n) := Ct_of (by decide) hX (okJ1_charAt_3b067_0 hX n)
theorem dX0_firstFreeAmong_0 : decode cX0_firstFreeAmong 0 = .ok (.iconst 0, 1) := by decide +kernel
theorem dX0_firstFreeAmong_1 : decode cX0_firstFreeAmong 1 = .ok (.istore_n 2, 1) := by decide +kernel
theorem dX0_firstFreeAmong_2 : decode cX0_firstFreeAmong 2 = .ok (.iload_n 2, 1) := by decide +kernel
theorem dX0_firstFreeAmong_3 : decode cX0_firstFreeAmong 3 = .ok (.bipush 8, 2) := by decide +kernel
theorem dX0_firstFreeAmong_5 : decode cX0_firstFreeAmong 5 = .ok (.if_icmp .ge 20, 3) := by decide +kernel
theorem dX0_firstFreeAmong_8 : decode cX0_firstFreeAmong 8 = .ok (.aload_n 0, 1) := by decide +kernel
theorem dX0_firstFreeAmong_9 : decode cX0_firstFreeAmong 9 = .ok (.iload_n 2, 1) := by decide +kernel
theorem dX0_firstFreeAmong_10 : decode cX0_firstFreeAmong 10 = .ok (.iload_n 1, 1) := by decide +kernel
theorem dX0_firstFreeAmong_11 : decode cX0_firstFreeAmong 11 = .ok (.invokevirtual 44, 3) := by decide +kernel
theorem dX0_firstFreeAmong_14 : decode cX0_firstFreeAmong 14 = .ok (.ifCond .eq 5, 3) := by decide +kernel
theorem dX0_firstFreeAmong_17 : decode cX0_firstFreeAmong 17 = .ok (.iload_n 2, 1) := by decide +kernel
theorem dX0_firstFreeAmong_18 : decode cX0_firstFreeAmong 18 = .ok (.ireturn, 1) := by decide +kernel
theorem dX0_firstFreeAmong_19 : decode cX0_firstFreeAmong 19 = .ok (.iinc 2 1, 3) := by decide +kernel
theorem dX0_firstFreeAmong_22 : decode cX0_firstFreeAmong 22 = .ok (.goto (-20), 3) := by decide +kernel
theorem dX0_firstFreeAmong_25 : decode cX0_firstFreeAmong 25 = .ok (.iconst (-1), 1) := by decide +kernel
theorem dX0_firstFreeAmong_26 : decode cX0_firstFreeAmong 26 = .ok (.ireturn, 1) := by decide +kernel
def kX0_firstFreeAmong_2 (n : Nat) (r2 : mK) : mK := i_ldI 2 (i_cst (.int (8)) (i_c2 (fun x y => decide (y ≤ x)) (i_cst (.int (-1)) (i_rI)) (i_ldA 0 (i_ldI 2 (i_ldI 1 (i_cV 0 2 (FX0_isFreeAmong n) (i_c0 (fun x => decide (x = 0)) (i_inc 2 (1) (r2)) (i_ldI 2 (i_rI)))))))))
set_option maxRecDepth 20000 in
theorem okX0_firstFreeAmong_2 {E : mE} {X : State → Heap → Prop} {l : Launch} (hX : mXok E X) (n : Nat) {r2 : mK} (h2 : Sd E X l yX0_firstFreeAmong cX0_firstFreeAmong 3 (some .int) 3 0 0 0 0 2 r2) : Sd E X l yX0_firstFreeAmong cX0_firstFreeAmong 3 (some .int) 3 0 0 0 0 2 (kX0_firstFreeAmong_2 n r2) := s_iload_n dX0_firstFreeAmong_2 rfl (s_bipush dX0_firstFreeAmong_3 (by decide) (s_icge dX0_firstFreeAmong_5 (by decide) (s_iconst dX0_firstFreeAmong_25 (by decide) (s_rI dX0_firstFreeAmong_26 (Nat.le_of_ble_eq_true rfl) (Nat.le_of_ble_eq_true rfl))) (s_aload_n dX0_firstFreeAmong_8 rfl (s_iload_n dX0_firstFreeAmong_9 rfl (s_iload_n dX0_firstFreeAmong_10 rfl (s_cV dX0_firstFreeAmong_11 lMX0_44 bVX0_isFreeAmong rfl (CtX0_isFreeAmong hX n) (Nat.le_of_ble_eq_true rfl) (s_ifeq dX0_firstFreeAmong_14 (by decide) (s_iinc dX0_firstFreeAmong_19 (by decide) (s_goto dX0_firstFreeAmong_22 (by decide) h2)) (s_iload_n dX0_firstFreeAmong_17 rfl (s_rI dX0_firstFreeAmong_18 (Nat.le_of_ble_eq_true rfl) (Nat.le_of_ble_eq_true rfl)))) (Nat.le_of_ble_eq_true rfl) (Nat.le_of_ble_eq_true rfl)))))))
def kX0_firstFreeAmong_0 (n : Nat) : mK := i_cst (.int (0)) (i_stI 2 (mit (kX0_firstFreeAmong_2 n ) n))
set_option maxRecDepth 20000 in
theorem okX0_firstFreeAmong_0 {E : mE} {X : State → Heap → Prop} {l : Launch} (hX : mXok E X) (n : Nat) : Sd E X l yX0_firstFreeAmong cX0_firstFreeAmong 3 (some .int) 3 0 0 0 0 0 (kX0_firstFreeAmong_0 n) := s_iconst dX0_firstFreeAmong_0 (by decide) (s_istore_n dX0_firstFreeAmong_1 rfl (s_mit (fun _ hk => okX0_firstFreeAmong_2 hX n hk) n))
def FX0_firstFreeAmong (n : Nat) : List Value → mM → Option mR := mfn 3 (kX0_firstFreeAmong_0 n)
theorem CtX0_firstFreeAmong {E : mE} {X : State → Heap → Prop} {l : Launch} (hX : mXok E X) (n : Nat) : Ct E X l yX0_firstFreeAmong cX0_firstFreeAmong 3 (some .int) 3 0 0 (FX0_firstFreeAmong n) := Ct_of (by decide) hX (okX0_firstFreeAmong_0 hX n)
theorem dX0_stuckOf_0 : decode cX0_stuckOf 0 = .ok (.iload_n 1, 1) := by decide +kernel
theorem dX0_stuckOf_1 : decode cX0_stuckOf 1 = .ok (.istore_n 2, 1) := by decide +kernel
theorem dX0_stuckOf_2 : decode cX0_stuckOf 2 = .ok (.iconst 0, 1) := by decide +kernel
theorem dX0_stuckOf_3 : decode cX0_stuckOf 3 = .ok (.istore_n 3, 1) := by decide +kernel
theorem dX0_stuckOf_4 : decode cX0_stuckOf 4 = .ok (.iload_n 3, 1) := by decide +kernel
theorem dX0_stuckOf_5 : decode cX0_stuckOf 5 = .ok (.bipush 8, 2) := by decide +kernel
theorem dX0_stuckOf_7 : decode cX0_stuckOf 7 = .ok (.if_icmp .ge 45, 3) := by decide +kernel
theorem dX0_stuckOf_10 : decode cX0_stuckOf 10 = .ok (.iconst 0, 1) := by decide +kernel
theorem dX0_stuckOf_11 : decode cX0_stuckOf 11 = .ok (.istore 4, 2) := by decide +kernel
theorem dX0_stuckOf_13 : decode cX0_stuckOf 13 = .ok (.iload 4, 2) := by decide +kernel
theorem dX0_stuckOf_15 : decode cX0_stuckOf 15 = .ok (.bipush 8, 2) := by decide +kernel
theorem dX0_stuckOf_17 : decode cX0_stuckOf 17 = .ok (.if_icmp .ge 29, 3) := by decide +kernel
theorem dX0_stuckOf_20 : decode cX0_stuckOf 20 = .ok (.aload_n 0, 1) := by decide +kernel
theorem dX0_stuckOf_21 : decode cX0_stuckOf 21 = .ok (.iload 4, 2) := by decide +kernel
theorem dX0_stuckOf_23 : decode cX0_stuckOf 23 = .ok (.iload_n 2, 1) := by decide +kernel
theorem dX0_stuckOf_24 : decode cX0_stuckOf 24 = .ok (.invokevirtual 44, 3) := by decide +kernel
theorem dX0_stuckOf_27 : decode cX0_stuckOf 27 = .ok (.ifCond .eq 13, 3) := by decide +kernel
theorem dX0_stuckOf_30 : decode cX0_stuckOf 30 = .ok (.iload_n 2, 1) := by decide +kernel
theorem dX0_stuckOf_31 : decode cX0_stuckOf 31 = .ok (.iload 4, 2) := by decide +kernel
theorem dX0_stuckOf_33 : decode cX0_stuckOf 33 = .ok (.invokestatic 37, 3) := by decide +kernel
theorem dX0_stuckOf_36 : decode cX0_stuckOf 36 = .ok (.iconst (-1), 1) := by decide +kernel
theorem dX0_stuckOf_37 : decode cX0_stuckOf 37 = .ok (.ixor, 1) := by decide +kernel
theorem dX0_stuckOf_38 : decode cX0_stuckOf 38 = .ok (.iand, 1) := by decide +kernel
theorem dX0_stuckOf_39 : decode cX0_stuckOf 39 = .ok (.istore_n 2, 1) := by decide +kernel
theorem dX0_stuckOf_40 : decode cX0_stuckOf 40 = .ok (.iinc 4 1, 3) := by decide +kernel
theorem dX0_stuckOf_43 : decode cX0_stuckOf 43 = .ok (.goto (-30), 3) := by decide +kernel
theorem dX0_stuckOf_46 : decode cX0_stuckOf 46 = .ok (.iinc 3 1, 3) := by decide +kernel
theorem dX0_stuckOf_49 : decode cX0_stuckOf 49 = .ok (.goto (-45), 3) := by decide +kernel
theorem dX0_stuckOf_52 : decode cX0_stuckOf 52 = .ok (.iload_n 2, 1) := by decide +kernel
theorem dX0_stuckOf_53 : decode cX0_stuckOf 53 = .ok (.ireturn, 1) := by decide +kernel
def kX0_stuckOf_40 (n : Nat) (r4 : mK) (r13 : mK) : mK := i_inc 4 (1) (r13)
set_option maxRecDepth 20000 in
theorem okX0_stuckOf_40 {E : mE} {X : State → Heap → Prop} {l : Launch} (hX : mXok E X) (n : Nat) {r4 : mK} (h4 : Sd E X l yX0_stuckOf cX0_stuckOf 5 (some .int) 3 0 0 0 0 4 r4) {r13 : mK} (h13 : Sd E X l yX0_stuckOf cX0_stuckOf 5 (some .int) 3 0 0 0 0 13 r13) : Sd E X l yX0_stuckOf cX0_stuckOf 5 (some .int) 3 0 0 0 0 40 (kX0_stuckOf_40 n r4 r13) := s_iinc dX0_stuckOf_40 (by decide) (s_goto dX0_stuckOf_43 (by decide) h13)
def kX0_stuckOf_13 (n : Nat) (r4 : mK) (r13 : mK) : mK := i_ldI 4 (i_cst (.int (8)) (i_c2 (fun x y => decide (y ≤ x)) (i_inc 3 (1) (r4)) (i_ldA 0 (i_ldI 4 (i_ldI 2 (i_cV 0 2 (FX0_isFreeAmong n) (i_c0 (fun x => decide (x = 0)) (kX0_stuckOf_40 n r4 r13) (i_ldI 2 (i_ldI 4 (i_cS 1 (FX11_bit n) (i_cst (.int (-1)) (i_bin (fun x y => x ^^^ y) (i_bin (fun x y => x &&& y) (i_stI 2 (kX0_stuckOf_40 n r4 r13)))))))))))))))
set_option maxRecDepth 20000 in
theorem okX0_stuckOf_13 {E : mE} {X : State → Heap → Prop} {l : Launch} (hX : mXok E X) (n : Nat) {r4 : mK} (h4 : Sd E X l yX0_stuckOf cX0_stuckOf 5 (some .int) 3 0 0 0 0 4 r4) {r13 : mK} (h13 : Sd E X l yX0_stuckOf cX0_stuckOf 5 (some .int) 3 0 0 0 0 13 r13) : Sd E X l yX0_stuckOf cX0_stuckOf 5 (some .int) 3 0 0 0 0 13 (kX0_stuckOf_13 n r4 r13) := s_iload dX0_stuckOf_13 (s_bipush dX0_stuckOf_15 (by decide) (s_icge dX0_stuckOf_17 (by decide) (s_iinc dX0_stuckOf_46 (by decide) (s_goto dX0_stuckOf_49 (by decide) h4)) (s_aload_n dX0_stuckOf_20 rfl (s_iload dX0_stuckOf_21 (s_iload_n dX0_stuckOf_23 rfl (s_cV dX0_stuckOf_24 lMX0_44 bVX0_isFreeAmong rfl (CtX0_isFreeAmong hX n) (Nat.le_of_ble_eq_true rfl) (s_ifeq dX0_stuckOf_27 (by decide) (okX0_stuckOf_40 hX n h4 h13) (s_iload_n dX0_stuckOf_30 rfl (s_iload dX0_stuckOf_31 (s_cN dX0_stuckOf_33 lNX0_37 bSX11_bit (CtX11_bit hX n) (Nat.le_of_ble_eq_true rfl) (s_iconst dX0_stuckOf_36 (by decide) (s_ixor dX0_stuckOf_37 (s_iand dX0_stuckOf_38 (s_istore_n dX0_stuckOf_39 rfl (okX0_stuckOf_40 hX n h4 h13))))) (Nat.le_of_ble_eq_true rfl) (Nat.le_of_ble_eq_true rfl))))) (Nat.le_of_ble_eq_true rfl) (Nat.le_of_ble_eq_true rfl)))))))
def kX0_stuckOf_4 (n : Nat) (r4 : mK) : mK := i_ldI 3 (i_cst (.int (8)) (i_c2 (fun x y => decide (y ≤ x)) (i_ldI 2 (i_rI)) (i_cst (.int (0)) (i_stI 4 (mit (kX0_stuckOf_13 n r4) n)))))
set_option maxRecDepth 20000 in
theorem okX0_stuckOf_4 {E : mE} {X : State → Heap → Prop} {l : Launch} (hX : mXok E X) (n : Nat) {r4 : mK} (h4 : Sd E X l yX0_stuckOf cX0_stuckOf 5 (some .int) 3 0 0 0 0 4 r4) : Sd E X l yX0_stuckOf cX0_stuckOf 5 (some .int) 3 0 0 0 0 4 (kX0_stuckOf_4 n r4) := s_iload_n dX0_stuckOf_4 rfl (s_bipush dX0_stuckOf_5 (by decide) (s_icge dX0_stuckOf_7 (by decide) (s_iload_n dX0_stuckOf_52 rfl (s_rI dX0_stuckOf_53 (Nat.le_of_ble_eq_true rfl) (Nat.le_of_ble_eq_true rfl))) (s_iconst dX0_stuckOf_10 (by decide) (s_istore dX0_stuckOf_11 (s_mit (fun _ hk => okX0_stuckOf_13 hX n h4 hk) n)))))
def kX0_stuckOf_0 (n : Nat) : mK := i_ldI 1 (i_stI 2 (i_cst (.int (0)) (i_stI 3 (mit (kX0_stuckOf_4 n ) n))))
set_option maxRecDepth 20000 in
theorem okX0_stuckOf_0 {E : mE} {X : State → Heap → Prop} {l : Launch} (hX : mXok E X) (n : Nat) : Sd E X l yX0_stuckOf cX0_stuckOf 5 (some .int) 3 0 0 0 0 0 (kX0_stuckOf_0 n) := s_iload_n dX0_stuckOf_0 rfl (s_istore_n dX0_stuckOf_1 rfl (s_iconst dX0_stuckOf_2 (by decide) (s_istore_n dX0_stuckOf_3 rfl (s_mit (fun _ hk => okX0_stuckOf_4 hX n hk) n))))
def FX0_stuckOf (n : Nat) : List Value → mM → Option mR := mfn 5 (kX0_stuckOf_0 n)
theorem CtX0_stuckOf {E : mE} {X : State → Heap → Prop} {l : Launch} (hX : mXok E X) (n : Nat) : Ct E X l yX0_stuckOf cX0_stuckOf 5 (some .int) 3 0 0 (FX0_stuckOf n) := Ct_of (by decide) hX (okX0_stuckOf_0 hX n)
theorem dX10_nearer_0 : decode cX10_nearer 0 = .ok (.aload_n 0, 1) := by decide +kernel
theorem dX10_nearer_1 : decode cX10_nearer 1 = .ok (.getfield 9, 3) := by decide +kernel
theorem dX10_nearer_4 : decode cX10_nearer 4 = .ok (.iload_n 1, 1) := by decide +kernel
theorem dX10_nearer_5 : decode cX10_nearer 5 = .ok (.invokestatic 46, 3) := by decide +kernel
theorem dX10_nearer_8 : decode cX10_nearer 8 = .ok (.iconst 1, 1) := by decide +kernel
theorem dX10_nearer_9 : decode cX10_nearer 9 = .ok (.isub, 1) := by decide +kernel
theorem dX10_nearer_10 : decode cX10_nearer 10 = .ok (.istore_n 2, 1) := by decide +kernel
theorem dX10_nearer_11 : decode cX10_nearer 11 = .ok (.iconst 0, 1) := by decide +kernel
theorem dX10_nearer_12 : decode cX10_nearer 12 = .ok (.istore_n 3, 1) := by decide +kernel
theorem dX10_nearer_13 : decode cX10_nearer 13 = .ok (.iload_n 3, 1) := by decide +kernel
theorem dX10_nearer_14 : decode cX10_nearer 14 = .ok (.iconst 4, 1) := by decide +kernel
theorem dX10_nearer_15 : decode cX10_nearer 15 = .ok (.if_icmp .ge 49, 3) := by decide +kernel
theorem dX10_nearer_18 : decode cX10_nearer 18 = .ok (.iload_n 2, 1) := by decide +kernel
theorem dX10_nearer_19 : decode cX10_nearer 19 = .ok (.ifCond .lt 45, 3) := by decide +kernel
theorem dX10_nearer_22 : decode cX10_nearer 22 = .ok (.aload_n 0, 1) := by decide +kernel
theorem dX10_nearer_23 : decode cX10_nearer 23 = .ok (.getfield 18, 3) := by decide +kernel
theorem dX10_nearer_26 : decode cX10_nearer 26 = .ok (.getfield 30, 3) := by decide +kernel
theorem dX10_nearer_29 : decode cX10_nearer 29 = .ok (.iload_n 1, 1) := by decide +kernel
theorem dX10_nearer_30 : decode cX10_nearer 30 = .ok (.iload_n 3, 1) := by decide +kernel
theorem dX10_nearer_31 : decode cX10_nearer 31 = .ok (.invokevirtual 54, 3) := by decide +kernel
theorem dX10_nearer_34 : decode cX10_nearer 34 = .ok (.istore 4, 2) := by decide +kernel
theorem dX10_nearer_36 : decode cX10_nearer 36 = .ok (.iload 4, 2) := by decide +kernel
theorem dX10_nearer_38 : decode cX10_nearer 38 = .ok (.iconst (-1), 1) := by decide +kernel
theorem dX10_nearer_39 : decode cX10_nearer 39 = .ok (.if_icmp .eq 19, 3) := by decide +kernel
theorem dX10_nearer_42 : decode cX10_nearer 42 = .ok (.aload_n 0, 1) := by decide +kernel
theorem dX10_nearer_43 : decode cX10_nearer 43 = .ok (.getfield 9, 3) := by decide +kernel
theorem dX10_nearer_46 : decode cX10_nearer 46 = .ok (.iload 4, 2) := by decide +kernel
theorem dX10_nearer_48 : decode cX10_nearer 48 = .ok (.invokestatic 46, 3) := by decide +kernel
theorem dX10_nearer_51 : decode cX10_nearer 51 = .ok (.iload_n 2, 1) := by decide +kernel
theorem dX10_nearer_52 : decode cX10_nearer 52 = .ok (.if_icmp .ne 6, 3) := by decide +kernel
theorem dX10_nearer_55 : decode cX10_nearer 55 = .ok (.iload 4, 2) := by decide +kernel
theorem dX10_nearer_57 : decode cX10_nearer 57 = .ok (.ireturn, 1) := by decide +kernel
theorem dX10_nearer_58 : decode cX10_nearer 58 = .ok (.iinc 3 1, 3) := by decide +kernel
theorem dX10_nearer_61 : decode cX10_nearer 61 = .ok (.goto (-48), 3) := by decide +kernel
theorem dX10_nearer_64 : decode cX10_nearer 64 = .ok (.iconst (-1), 1) := by decide +kernel
theorem dX10_nearer_65 : decode cX10_nearer 65 = .ok (.ireturn, 1) := by decide +kernel
def kX10_nearer_64 (n : Nat) : mK := i_cst (.int (-1)) (i_rI)
set_option maxRecDepth 20000 in
theorem okX10_nearer_64 {E : mE} {X : State → Heap → Prop} {l : Launch} (hX : mXok E X) (n : Nat) : Sd E X l yX10_nearer cX10_nearer 5 (some .int) 3 0 0 0 0 64 (kX10_nearer_64 n) := s_iconst dX10_nearer_64 (by decide) (s_rI dX10_nearer_65 (Nat.le_of_ble_eq_true rfl) (Nat.le_of_ble_eq_true rfl))
def kX10_nearer_58 (n : Nat) (r13 : mK) : mK := i_inc 3 (1) (r13)
set_option maxRecDepth 20000 in
theorem okX10_nearer_58 {E : mE} {X : State → Heap → Prop} {l : Launch} (hX : mXok E X) (n : Nat) {r13 : mK} (h13 : Sd E X l yX10_nearer cX10_nearer 5 (some .int) 3 0 0 0 0 13 r13) : Sd E X l yX10_nearer cX10_nearer 5 (some .int) 3 0 0 0 0 58 (kX10_nearer_58 n r13) := s_iinc dX10_nearer_58 (by decide) (s_goto dX10_nearer_61 (by decide) h13)
def kX10_nearer_13 (n : Nat) (r13 : mK) : mK := i_ldI 3 (i_cst (.int (4)) (i_c2 (fun x y => decide (y ≤ x)) (kX10_nearer_64 n) (i_ldI 2 (i_c0 (fun x => decide (x < 0)) (kX10_nearer_64 n) (i_ldA 0 (i_gA 10 0 (i_gA 8 0 (i_ldI 1 (i_ldI 3 (i_cV 4 2 (FX4_beside n) (i_stI 4 (i_ldI 4 (i_cst (.int (-1)) (i_c2 (fun x y => decide (x = y)) (kX10_nearer_58 n r13) (i_ldA 0 (i_gA 10 1 (i_ldI 4 (i_cS 2 (FX11_at n) (i_ldI 2 (i_c2 (fun x y => decide (¬ x = y)) (kX10_nearer_58 n r13) (i_ldI 4 (i_rI))))))))))))))))))))))
set_option maxRecDepth 20000 in
theorem okX10_nearer_13 {E : mE} {X : State → Heap → Prop} {l : Launch} (hX : mXok E X) (n : Nat) {r13 : mK} (h13 : Sd E X l yX10_nearer cX10_nearer 5 (some .int) 3 0 0 0 0 13 r13) : Sd E X l yX10_nearer cX10_nearer 5 (some .int) 3 0 0 0 0 13 (kX10_nearer_13 n r13) := s_iload_n dX10_nearer_13 rfl (s_iconst dX10_nearer_14 (by decide) (s_icge dX10_nearer_15 (by decide) (okX10_nearer_64 hX n) (s_iload_n dX10_nearer_18 rfl (s_iflt dX10_nearer_19 (by decide) (okX10_nearer_64 hX n) (s_aload_n dX10_nearer_22 rfl (s_gA dX10_nearer_23 lFX10_18 (s_gA dX10_nearer_26 lFX10_30 (s_iload_n dX10_nearer_29 rfl (s_iload_n dX10_nearer_30 rfl (s_cV dX10_nearer_31 lMX10_54 bVX4_beside rfl (CtX4_beside hX n) (Nat.le_of_ble_eq_true rfl) (s_istore dX10_nearer_34 (s_iload dX10_nearer_36 (s_iconst dX10_nearer_38 (by decide) (s_iceq dX10_nearer_39 (by decide) (okX10_nearer_58 hX n h13) (s_aload_n dX10_nearer_42 rfl (s_gA dX10_nearer_43 lFX10_9 (s_iload dX10_nearer_46 (s_cN dX10_nearer_48 lNX10_46 bSX11_at (CtX11_at hX n) (Nat.le_of_ble_eq_true rfl) (s_iload_n dX10_nearer_51 rfl (s_icne dX10_nearer_52 (by decide) (okX10_nearer_58 hX n h13) (s_iload dX10_nearer_55 (s_rI dX10_nearer_57 (Nat.le_of_ble_eq_true rfl) (Nat.le_of_ble_eq_true rfl))))) (Nat.le_of_ble_eq_true rfl) (Nat.le_of_ble_eq_true rfl))))))))) (Nat.le_of_ble_eq_true rfl) (Nat.le_of_ble_eq_true rfl)))))))))))
def kX10_nearer_0 (n : Nat) : mK := i_ldA 0 (i_gA 10 1 (i_ldI 1 (i_cS 2 (FX11_at n) (i_cst (.int (1)) (i_bin (fun x y => x - y) (i_stI 2 (i_cst (.int (0)) (i_stI 3 (mit (kX10_nearer_13 n ) n)))))))))
set_option maxRecDepth 20000 in
theorem okX10_nearer_0 {E : mE} {X : State → Heap → Prop} {l : Launch} (hX : mXok E X) (n : Nat) : Sd E X l yX10_nearer cX10_nearer 5 (some .int) 3 0 0 0 0 0 (kX10_nearer_0 n) := s_aload_n dX10_nearer_0 rfl (s_gA dX10_nearer_1 lFX10_9 (s_iload_n dX10_nearer_4 rfl (s_cN dX10_nearer_5 lNX10_46 bSX11_at (CtX11_at hX n) (Nat.le_of_ble_eq_true rfl) (s_iconst dX10_nearer_8 (by decide) (s_isub dX10_nearer_9 (s_istore_n dX10_nearer_10 rfl (s_iconst dX10_nearer_11 (by decide) (s_istore_n dX10_nearer_12 rfl (s_mit (fun _ hk => okX10_nearer_13 hX n hk) n)))))) (Nat.le_of_ble_eq_true rfl) (Nat.le_of_ble_eq_true rfl))))
def FX10_nearer (n : Nat) : List Value → mM → Option mR := mfn 5 (kX10_nearer_0 n)
theorem CtX10_nearer {E : mE} {X : State → Heap → Prop} {l : Launch} (hX : mXok E X) (n : Nat) : Ct E X l yX10_nearer cX10_nearer 5 (some .int) 3 0 0 (FX10_nearer n) := Ct_of (by decide) hX (okX10_nearer_0 hX n)
theorem dX11_feed_0 : decode cX11_feed 0 = .ok (.aload_n 0, 1) := by decide +kernel
theorem dX11_feed_1 : decode cX11_feed 1 = .ok (.getfield 104, 3) := by decide +kernel
theorem dX11_feed_4 : decode cX11_feed 4 = .ok (.sipush 1580, 3) := by decide +kernel
theorem dX11_feed_7 : decode cX11_feed 7 = .ok (.if_icmp .le 5, 3) := by decide +kernel
theorem dX11_feed_10 : decode cX11_feed 10 = .ok (.iconst (-1), 1) := by decide +kernel
theorem dX11_feed_11 : decode cX11_feed 11 = .ok (.ireturn, 1) := by decide +kernel
theorem dX11_feed_12 : decode cX11_feed 12 = .ok (.aload_n 0, 1) := by decide +kernel
theorem dX11_feed_13 : decode cX11_feed 13 = .ok (.iload_n 1, 1) := by decide +kernel
theorem dX11_feed_14 : decode cX11_feed 14 = .ok (.invokevirtual 108, 3) := by decide +kernel
theorem dX11_feed_17 : decode cX11_feed 17 = .ok (.aload_n 0, 1) := by decide +kernel
theorem dX11_feed_18 : decode cX11_feed 18 = .ok (.iload_n 2, 1) := by decide +kernel
theorem dX11_feed_19 : decode cX11_feed 19 = .ok (.invokevirtual 108, 3) := by decide +kernel
theorem dX11_feed_22 : decode cX11_feed 22 = .ok (.aload_n 0, 1) := by decide +kernel
theorem dX11_feed_23 : decode cX11_feed 23 = .ok (.iload_n 3, 1) := by decide +kernel
theorem dX11_feed_24 : decode cX11_feed 24 = .ok (.invokevirtual 108, 3) := by decide +kernel
theorem dX11_feed_27 : decode cX11_feed 27 = .ok (.aload_n 0, 1) := by decide +kernel
theorem dX11_feed_28 : decode cX11_feed 28 = .ok (.iload 4, 2) := by decide +kernel
theorem dX11_feed_30 : decode cX11_feed 30 = .ok (.invokevirtual 108, 3) := by decide +kernel
theorem dX11_feed_33 : decode cX11_feed 33 = .ok (.aload_n 0, 1) := by decide +kernel
theorem dX11_feed_34 : decode cX11_feed 34 = .ok (.iload 5, 2) := by decide +kernel
theorem dX11_feed_36 : decode cX11_feed 36 = .ok (.invokevirtual 108, 3) := by decide +kernel
theorem dX11_feed_39 : decode cX11_feed 39 = .ok (.aload_n 0, 1) := by decide +kernel
theorem dX11_feed_40 : decode cX11_feed 40 = .ok (.getfield 104, 3) := by decide +kernel
theorem dX11_feed_43 : decode cX11_feed 43 = .ok (.ireturn, 1) := by decide +kernel
def kX11_feed_0 (n : Nat) : mK := i_ldA 0 (i_gI 11 1 (i_cst (.int (1580)) (i_c2 (fun x y => decide (x ≤ y)) (i_ldA 0 (i_ldI 1 (i_cV 11 1 (FX11_feedOne n) (i_ldA 0 (i_ldI 2 (i_cV 11 1 (FX11_feedOne n) (i_ldA 0 (i_ldI 3 (i_cV 11 1 (FX11_feedOne n) (i_ldA 0 (i_ldI 4 (i_cV 11 1 (FX11_feedOne n) (i_ldA 0 (i_ldI 5 (i_cV 11 1 (FX11_feedOne n) (i_ldA 0 (i_gI 11 1 (i_rI)))))))))))))))))) (i_cst (.int (-1)) (i_rI)))))
set_option maxRecDepth 20000 in
theorem okX11_feed_0 {E : mE} {X : State → Heap → Prop} {l : Launch} (hX : mXok E X) (n : Nat) : Sd E X l yX11_feed cX11_feed 6 (some .int) 3 0 0 0 0 0 (kX11_feed_0 n) := s_aload_n dX11_feed_0 rfl (s_gI dX11_feed_1 lFX11_104 (by decide) (s_sipush dX11_feed_4 (by decide) (s_icle dX11_feed_7 (by decide) (s_aload_n dX11_feed_12 rfl (s_iload_n dX11_feed_13 rfl (s_cV dX11_feed_14 lMX11_108 bVX11_feedOne rfl (CtX11_feedOne hX n) (Nat.le_of_ble_eq_true rfl) (s_aload_n dX11_feed_17 rfl (s_iload_n dX11_feed_18 rfl (s_cV dX11_feed_19 lMX11_108 bVX11_feedOne rfl (CtX11_feedOne hX n) (Nat.le_of_ble_eq_true rfl) (s_aload_n dX11_feed_22 rfl (s_iload_n dX11_feed_23 rfl (s_cV dX11_feed_24 lMX11_108 bVX11_feedOne rfl (CtX11_feedOne hX n) (Nat.le_of_ble_eq_true rfl) (s_aload_n dX11_feed_27 rfl (s_iload dX11_feed_28 (s_cV dX11_feed_30 lMX11_108 bVX11_feedOne rfl (CtX11_feedOne hX n) (Nat.le_of_ble_eq_true rfl) (s_aload_n dX11_feed_33 rfl (s_iload dX11_feed_34 (s_cV dX11_feed_36 lMX11_108 bVX11_feedOne rfl (CtX11_feedOne hX n) (Nat.le_of_ble_eq_true rfl) (s_aload_n dX11_feed_39 rfl (s_gI dX11_feed_40 lFX11_104 (by decide) (s_rI dX11_feed_43 (Nat.le_of_ble_eq_true rfl) (Nat.le_of_ble_eq_true rfl)))) (Nat.le_of_ble_eq_true rfl) (Nat.le_of_ble_eq_true rfl)))) (Nat.le_of_ble_eq_true rfl) (Nat.le_of_ble_eq_true rfl)))) (Nat.le_of_ble_eq_true rfl) (Nat.le_of_ble_eq_true rfl)))) (Nat.le_of_ble_eq_true rfl) (Nat.le_of_ble_eq_true rfl)))) (Nat.le_of_ble_eq_true rfl) (Nat.le_of_ble_eq_true rfl)))) (s_iconst dX11_feed_10 (by decide) (s_rI dX11_feed_11 (Nat.le_of_ble_eq_true rfl) (Nat.le_of_ble_eq_true rfl))))))
def FX11_feed (n : Nat) : List Value → mM → Option mR := mfn 6 (kX11_feed_0 n)
theorem CtX11_feed {E : mE} {X : State → Heap → Prop} {l : Launch} (hX : mXok E X) (n : Nat) : Ct E X l yX11_feed cX11_feed 6 (some .int) 3 0 0 (FX11_feed n) := Ct_of (by decide) hX (okX11_feed_0 hX n)
theorem dX11_heard_0 : decode cX11_heard 0 = .ok (.aload_n 0, 1) := by decide +kernel
theorem dX11_heard_1 : decode cX11_heard 1 = .ok (.getfield 70, 3) := by decide +kernel
theorem dX11_heard_4 : decode cX11_heard 4 = .ok (.iload_n 1, 1) := by decide +kernel
theorem dX11_heard_5 : decode cX11_heard 5 = .ok (.iload_n 2, 1) := by decide +kernel
theorem dX11_heard_6 : decode cX11_heard 6 = .ok (.iload_n 3, 1) := by decide +kernel
theorem dX11_heard_7 : decode cX11_heard 7 = .ok (.invokevirtual 329, 3) := by decide +kernel
theorem dX11_heard_10 : decode cX11_heard 10 = .ok (.ireturn, 1) := by decide +kernel
def kX11_heard_0 (n : Nat) : mK := i_ldA 0 (i_gA 11 10 (i_ldI 1 (i_ldI 2 (i_ldI 3 (i_cV 2 3 (FX2_tell n) (i_rI))))))
set_option maxRecDepth 20000 in
theorem okX11_heard_0 {E : mE} {X : State → Heap → Prop} {l : Launch} (hX : mXok E X) (n : Nat) : Sd E X l yX11_heard cX11_heard 4 (some .int) 3 0 0 0 0 0 (kX11_heard_0 n) := s_aload_n dX11_heard_0 rfl (s_gA dX11_heard_1 lFX11_70 (s_iload_n dX11_heard_4 rfl (s_iload_n dX11_heard_5 rfl (s_iload_n dX11_heard_6 rfl (s_cV dX11_heard_7 lMX11_329 bVX2_tell rfl (CtX2_tell hX n) (Nat.le_of_ble_eq_true rfl) (s_rI dX11_heard_10 (Nat.le_of_ble_eq_true rfl) (Nat.le_of_ble_eq_true rfl)) (Nat.le_of_ble_eq_true rfl) (Nat.le_of_ble_eq_true rfl))))))
def FX11_heard (n : Nat) : List Value → mM → Option mR := mfn 4 (kX11_heard_0 n)
theorem CtX11_heard {E : mE} {X : State → Heap → Prop} {l : Launch} (hX : mXok E X) (n : Nat) : Ct E X l yX11_heard cX11_heard 4 (some .int) 3 0 0 (FX11_heard n) := Ct_of (by decide) hX (okX11_heard_0 hX n)
theorem dX11_image_0 : decode cX11_image 0 = .ok (.iload_n 1, 1) := by decide +kernel
theorem dX11_image_1 : decode cX11_image 1 = .ok (.ifCond .lt 12, 3) := by decide +kernel
theorem dX11_image_4 : decode cX11_image 4 = .ok (.iload_n 1, 1) := by decide +kernel
theorem dX11_image_5 : decode cX11_image 5 = .ok (.aload_n 0, 1) := by decide +kernel
theorem dX11_image_6 : decode cX11_image 6 = .ok (.getfield 94, 3) := by decide +kernel
theorem dX11_image_9 : decode cX11_image 9 = .ok (.arraylength, 1) := by decide +kernel
theorem dX11_image_10 : decode cX11_image 10 = .ok (.if_icmp .lt 5, 3) := by decide +kernel
theorem dX11_image_13 : decode cX11_image 13 = .ok (.iconst (-1), 1) := by decide +kernel
theorem dX11_image_14 : decode cX11_image 14 = .ok (.ireturn, 1) := by decide +kernel
theorem dX11_image_15 : decode cX11_image 15 = .ok (.aload_n 0, 1) := by decide +kernel
theorem dX11_image_16 : decode cX11_image 16 = .ok (.getfield 37, 3) := by decide +kernel
theorem dX11_image_19 : decode cX11_image 19 = .ok (.aload_n 0, 1) := by decide +kernel
theorem dX11_image_20 : decode cX11_image 20 = .ok (.getfield 91, 3) := by decide +kernel
theorem dX11_image_23 : decode cX11_image 23 = .ok (.iload_n 1, 1) := by decide +kernel
theorem dX11_image_24 : decode cX11_image 24 = .ok (.bipush 34, 2) := by decide +kernel
theorem dX11_image_26 : decode cX11_image 26 = .ok (.imul, 1) := by decide +kernel
theorem dX11_image_27 : decode cX11_image 27 = .ok (.invokevirtual 357, 3) := by decide +kernel
theorem dX11_image_30 : decode cX11_image 30 = .ok (.aload_n 0, 1) := by decide +kernel
theorem dX11_image_31 : decode cX11_image 31 = .ok (.getfield 94, 3) := by decide +kernel
theorem dX11_image_34 : decode cX11_image 34 = .ok (.iload_n 1, 1) := by decide +kernel
theorem dX11_image_35 : decode cX11_image 35 = .ok (.iconst 1, 1) := by decide +kernel
theorem dX11_image_36 : decode cX11_image 36 = .ok (.bastore, 1) := by decide +kernel
theorem dX11_image_37 : decode cX11_image 37 = .ok (.aload_n 0, 1) := by decide +kernel
theorem dX11_image_38 : decode cX11_image 38 = .ok (.getfield 37, 3) := by decide +kernel
theorem dX11_image_41 : decode cX11_image 41 = .ok (.getfield 179, 3) := by decide +kernel
theorem dX11_image_44 : decode cX11_image 44 = .ok (.ireturn, 1) := by decide +kernel
def kX11_image_13 (n : Nat) : mK := i_cst (.int (-1)) (i_rI)
set_option maxRecDepth 20000 in
theorem okX11_image_13 {E : mE} {X : State → Heap → Prop} {l : Launch} (hX : mXok E X) (n : Nat) : Sd E X l yX11_image cX11_image 2 (some .int) 3 0 0 0 0 13 (kX11_image_13 n) := s_iconst dX11_image_13 (by decide) (s_rI dX11_image_14 (Nat.le_of_ble_eq_true rfl) (Nat.le_of_ble_eq_true rfl))
def kX11_image_0 (n : Nat) : mK := i_ldI 1 (i_c0 (fun x => decide (x < 0)) (kX11_image_13 n) (i_ldI 1 (i_ldA 0 (i_gA 11 15 (i_len (i_c2 (fun x y => decide (x < y)) (i_ldA 0 (i_gA 11 5 (i_ldA 0 (i_gA 11 14 (i_ldI 1 (i_cst (.int (34)) (i_bin (fun x y => x * y) (i_cV 8 2 (FX8_save n) (i_ldA 0 (i_gA 11 15 (i_ldI 1 (i_cst (.int (1)) (i_as 2 (i_ldA 0 (i_gA 11 5 (i_gI 8 5 (i_rI))))))))))))))))) (kX11_image_13 n)))))))
set_option maxRecDepth 20000 in
theorem okX11_image_0 {E : mE} {X : State → Heap → Prop} {l : Launch} (hX : mXok E X) (n : Nat) : Sd E X l yX11_image cX11_image 2 (some .int) 3 0 0 0 0 0 (kX11_image_0 n) := s_iload_n dX11_image_0 rfl (s_iflt dX11_image_1 (by decide) (okX11_image_13 hX n) (s_iload_n dX11_image_4 rfl (s_aload_n dX11_image_5 rfl (s_gA dX11_image_6 lFX11_94 (s_len dX11_image_9 (s_iclt dX11_image_10 (by decide) (s_aload_n dX11_image_15 rfl (s_gA dX11_image_16 lFX11_37 (s_aload_n dX11_image_19 rfl (s_gA dX11_image_20 lFX11_91 (s_iload_n dX11_image_23 rfl (s_bipush dX11_image_24 (by decide) (s_imul dX11_image_26 (s_cV dX11_image_27 lMX11_357 bVX8_save rfl (CtX8_save hX n) (Nat.le_of_ble_eq_true rfl) (s_aload_n dX11_image_30 rfl (s_gA dX11_image_31 lFX11_94 (s_iload_n dX11_image_34 rfl (s_iconst dX11_image_35 (by decide) (s_zast dX11_image_36 (s_aload_n dX11_image_37 rfl (s_gA dX11_image_38 lFX11_37 (s_gI dX11_image_41 lFX11_179 (by decide) (s_rI dX11_image_44 (Nat.le_of_ble_eq_true rfl) (Nat.le_of_ble_eq_true rfl)))))))))) (Nat.le_of_ble_eq_true rfl) (Nat.le_of_ble_eq_true rfl))))))))) (okX11_image_13 hX n)))))))
def FX11_image (n : Nat) : List Value → mM → Option mR := mfn 2 (kX11_image_0 n)
theorem CtX11_image {E : mE} {X : State → Heap → Prop} {l : Launch} (hX : mXok E X) (n : Nat) : Ct E X l yX11_image cX11_image 2 (some .int) 3 0 0 (FX11_image n) := Ct_of (by decide) hX (okX11_image_0 hX n)
theorem dX11_isOff_0 : decode cX11_isOff 0 = .ok (.aload_n 0, 1) := by decide +kernel
theorem dX11_isOff_1 : decode cX11_isOff 1 = .ok (.getfield 16, 3) := by decide +kernel
theorem dX11_isOff_4 : decode cX11_isOff 4 = .ok (.iload_n 1, 1) := by decide +kernel
theorem dX11_isOff_5 : decode cX11_isOff 5 = .ok (.invokevirtual 138, 3) := by decide +kernel
theorem dX11_isOff_8 : decode cX11_isOff 8 = .ok (.ifCond .eq 18, 3) := by decide +kernel
theorem dX11_isOff_11 : decode cX11_isOff 11 = .ok (.aload_n 0, 1) := by decide +kernel
theorem dX11_isOff_12 : decode cX11_isOff 12 = .ok (.getfield 37, 3) := by decide +kernel
theorem dX11_isOff_15 : decode cX11_isOff 15 = .ok (.iload_n 1, 1) := by decide +kernel
theorem dX11_isOff_16 : decode cX11_isOff 16 = .ok (.invokevirtual 167, 3) := by decide +kernel
theorem dX11_isOff_19 : decode cX11_isOff 19 = .ok (.ifCond .ne 7, 3) := by decide +kernel
theorem dX11_isOff_22 : decode cX11_isOff 22 = .ok (.iconst 1, 1) := by decide +kernel
theorem dX11_isOff_23 : decode cX11_isOff 23 = .ok (.goto 4, 3) := by decide +kernel
theorem dX11_isOff_26 : decode cX11_isOff 26 = .ok (.iconst 0, 1) := by decide +kernel
theorem dX11_isOff_27 : decode cX11_isOff 27 = .ok (.ireturn, 1) := by decide +kernel
def kX11_isOff_27 (n : Nat) : mK := i_rZ
set_option maxRecDepth 20000 in
theorem okX11_isOff_27 {E : mE} {X : State → Heap → Prop} {l : Launch} (hX : mXok E X) (n : Nat) : Sd E X l yX11_isOff cX11_isOff 2 (some .boolean) 3 0 0 0 0 27 (kX11_isOff_27 n) := s_rZ dX11_isOff_27 (Nat.le_of_ble_eq_true rfl) (Nat.le_of_ble_eq_true rfl)
def kX11_isOff_26 (n : Nat) : mK := i_cst (.int (0)) (kX11_isOff_27 n)
set_option maxRecDepth 20000 in
theorem okX11_isOff_26 {E : mE} {X : State → Heap → Prop} {l : Launch} (hX : mXok E X) (n : Nat) : Sd E X l yX11_isOff cX11_isOff 2 (some .boolean) 3 0 0 0 0 26 (kX11_isOff_26 n) := s_iconst dX11_isOff_26 (by decide) (okX11_isOff_27 hX n)
def kX11_isOff_0 (n : Nat) : mK := i_ldA 0 (i_gA 11 2 (i_ldI 1 (i_cV 4 1 (FX4_hasCar n) (i_c0 (fun x => decide (x = 0)) (kX11_isOff_26 n) (i_ldA 0 (i_gA 11 5 (i_ldI 1 (i_cV 8 1 (FX8_isIn n) (i_c0 (fun x => decide (¬ x = 0)) (kX11_isOff_26 n) (i_cst (.int (1)) ((kX11_isOff_27 n))))))))))))
set_option maxRecDepth 20000 in
theorem okX11_isOff_0 {E : mE} {X : State → Heap → Prop} {l : Launch} (hX : mXok E X) (n : Nat) : Sd E X l yX11_isOff cX11_isOff 2 (some .boolean) 3 0 0 0 0 0 (kX11_isOff_0 n) := s_aload_n dX11_isOff_0 rfl (s_gA dX11_isOff_1 lFX11_16 (s_iload_n dX11_isOff_4 rfl (s_cV dX11_isOff_5 lMX11_138 bVX4_hasCar rfl (CtX4_hasCar hX n) (Nat.le_of_ble_eq_true rfl) (s_ifeq dX11_isOff_8 (by decide) (okX11_isOff_26 hX n) (s_aload_n dX11_isOff_11 rfl (s_gA dX11_isOff_12 lFX11_37 (s_iload_n dX11_isOff_15 rfl (s_cV dX11_isOff_16 lMX11_167 bVX8_isIn rfl (CtX8_isIn hX n) (Nat.le_of_ble_eq_true rfl) (s_ifne dX11_isOff_19 (by decide) (okX11_isOff_26 hX n) (s_iconst dX11_isOff_22 (by decide) (s_goto dX11_isOff_23 (by decide) (okX11_isOff_27 hX n)))) (Nat.le_of_ble_eq_true rfl) (Nat.le_of_ble_eq_true rfl)))))) (Nat.le_of_ble_eq_true rfl) (Nat.le_of_ble_eq_true rfl))))
def FX11_isOff (n : Nat) : List Value → mM → Option mR := mfn 2 (kX11_isOff_0 n)
theorem CtX11_isOff {E : mE} {X : State → Heap → Prop} {l : Launch} (hX : mXok E X) (n : Nat) : Ct E X l yX11_isOff cX11_isOff 2 (some .boolean) 3 0 0 (FX11_isOff n) := Ct_of (by decide) hX (okX11_isOff_0 hX n)
theorem dX11_odds_0 : decode cX11_odds 0 = .ok (.aload_n 0, 1) := by decide +kernel
theorem dX11_odds_1 : decode cX11_odds 1 = .ok (.getfield 37, 3) := by decide +kernel
theorem dX11_odds_4 : decode cX11_odds 4 = .ok (.iload_n 1, 1) := by decide +kernel
theorem dX11_odds_5 : decode cX11_odds 5 = .ok (.invokevirtual 167, 3) := by decide +kernel
theorem dX11_odds_8 : decode cX11_odds 8 = .ok (.ifCond .eq 21, 3) := by decide +kernel
theorem dX11_odds_11 : decode cX11_odds 11 = .ok (.iload_n 2, 1) := by decide +kernel
theorem dX11_odds_12 : decode cX11_odds 12 = .ok (.ifCond .lt 17, 3) := by decide +kernel
theorem dX11_odds_15 : decode cX11_odds 15 = .ok (.iload_n 2, 1) := by decide +kernel
theorem dX11_odds_16 : decode cX11_odds 16 = .ok (.iconst 4, 1) := by decide +kernel
theorem dX11_odds_17 : decode cX11_odds 17 = .ok (.if_icmp .gt 12, 3) := by decide +kernel
theorem dX11_odds_20 : decode cX11_odds 20 = .ok (.iload_n 3, 1) := by decide +kernel
theorem dX11_odds_21 : decode cX11_odds 21 = .ok (.ifCond .lt 8, 3) := by decide +kernel
theorem dX11_odds_24 : decode cX11_odds 24 = .ok (.iload_n 3, 1) := by decide +kernel
theorem dX11_odds_25 : decode cX11_odds 25 = .ok (.iconst 1, 1) := by decide +kernel
theorem dX11_odds_26 : decode cX11_odds 26 = .ok (.if_icmp .le 5, 3) := by decide +kernel
theorem dX11_odds_29 : decode cX11_odds 29 = .ok (.iconst (-1), 1) := by decide +kernel
theorem dX11_odds_30 : decode cX11_odds 30 = .ok (.ireturn, 1) := by decide +kernel
theorem dX11_odds_31 : decode cX11_odds 31 = .ok (.bipush 100, 2) := by decide +kernel
theorem dX11_odds_33 : decode cX11_odds 33 = .ok (.aload_n 0, 1) := by decide +kernel
theorem dX11_odds_34 : decode cX11_odds 34 = .ok (.getfield 16, 3) := by decide +kernel
theorem dX11_odds_37 : decode cX11_odds 37 = .ok (.getfield 320, 3) := by decide +kernel
theorem dX11_odds_40 : decode cX11_odds 40 = .ok (.isub, 1) := by decide +kernel
theorem dX11_odds_41 : decode cX11_odds 41 = .ok (.bipush 100, 2) := by decide +kernel
theorem dX11_odds_43 : decode cX11_odds 43 = .ok (.invokestatic 323, 3) := by decide +kernel
theorem dX11_odds_46 : decode cX11_odds 46 = .ok (.istore 4, 2) := by decide +kernel
theorem dX11_odds_48 : decode cX11_odds 48 = .ok (.iload_n 3, 1) := by decide +kernel
theorem dX11_odds_49 : decode cX11_odds 49 = .ok (.ifCond .ne 16, 3) := by decide +kernel
theorem dX11_odds_52 : decode cX11_odds 52 = .ok (.bipush 100, 2) := by decide +kernel
theorem dX11_odds_54 : decode cX11_odds 54 = .ok (.aload_n 0, 1) := by decide +kernel
theorem dX11_odds_55 : decode cX11_odds 55 = .ok (.getfield 16, 3) := by decide +kernel
theorem dX11_odds_58 : decode cX11_odds 58 = .ok (.getfield 320, 3) := by decide +kernel
theorem dX11_odds_61 : decode cX11_odds 61 = .ok (.isub, 1) := by decide +kernel
theorem dX11_odds_62 : decode cX11_odds 62 = .ok (.goto 5, 3) := by decide +kernel
theorem dX11_odds_65 : decode cX11_odds 65 = .ok (.bipush 100, 2) := by decide +kernel
theorem dX11_odds_67 : decode cX11_odds 67 = .ok (.istore 5, 2) := by decide +kernel
theorem dX11_odds_69 : decode cX11_odds 69 = .ok (.iload 4, 2) := by decide +kernel
theorem dX11_odds_71 : decode cX11_odds 71 = .ok (.ifCond .le 11, 3) := by decide +kernel
theorem dX11_odds_74 : decode cX11_odds 74 = .ok (.iload 5, 2) := by decide +kernel
theorem dX11_odds_76 : decode cX11_odds 76 = .ok (.iload 4, 2) := by decide +kernel
theorem dX11_odds_78 : decode cX11_odds 78 = .ok (.idiv, 1) := by decide +kernel
theorem dX11_odds_79 : decode cX11_odds 79 = .ok (.goto 5, 3) := by decide +kernel
theorem dX11_odds_82 : decode cX11_odds 82 = .ok (.iload 5, 2) := by decide +kernel
theorem dX11_odds_84 : decode cX11_odds 84 = .ok (.istore 6, 2) := by decide +kernel
theorem dX11_odds_86 : decode cX11_odds 86 = .ok (.iconst 1, 1) := by decide +kernel
theorem dX11_odds_87 : decode cX11_odds 87 = .ok (.istore 7, 2) := by decide +kernel
theorem dX11_odds_89 : decode cX11_odds 89 = .ok (.iconst 0, 1) := by decide +kernel
theorem dX11_odds_90 : decode cX11_odds 90 = .ok (.istore 8, 2) := by decide +kernel
theorem dX11_odds_92 : decode cX11_odds 92 = .ok (.iload 8, 2) := by decide +kernel
theorem dX11_odds_94 : decode cX11_odds 94 = .ok (.iload_n 2, 1) := by decide +kernel
theorem dX11_odds_95 : decode cX11_odds 95 = .ok (.if_icmp .ge 16, 3) := by decide +kernel
theorem dX11_odds_98 : decode cX11_odds 98 = .ok (.iload 7, 2) := by decide +kernel
theorem dX11_odds_100 : decode cX11_odds 100 = .ok (.iload 6, 2) := by decide +kernel
theorem dX11_odds_102 : decode cX11_odds 102 = .ok (.imul, 1) := by decide +kernel
theorem dX11_odds_103 : decode cX11_odds 103 = .ok (.istore 7, 2) := by decide +kernel
theorem dX11_odds_105 : decode cX11_odds 105 = .ok (.iinc 8 1, 3) := by decide +kernel
theorem dX11_odds_108 : decode cX11_odds 108 = .ok (.goto (-16), 3) := by decide +kernel
theorem dX11_odds_111 : decode cX11_odds 111 = .ok (.iload 7, 2) := by decide +kernel
theorem dX11_odds_113 : decode cX11_odds 113 = .ok (.ireturn, 1) := by decide +kernel
def kX11_odds_29 (n : Nat) : mK := i_cst (.int (-1)) (i_rI)
set_option maxRecDepth 20000 in
theorem okX11_odds_29 {E : mE} {X : State → Heap → Prop} {l : Launch} (hX : mXok E X) (n : Nat) : Sd E X l yX11_odds cX11_odds 9 (some .int) 3 0 0 0 0 29 (kX11_odds_29 n) := s_iconst dX11_odds_29 (by decide) (s_rI dX11_odds_30 (Nat.le_of_ble_eq_true rfl) (Nat.le_of_ble_eq_true rfl))
def kX11_odds_92 (n : Nat) (r92 : mK) : mK := i_ldI 8 (i_ldI 2 (i_c2 (fun x y => decide (y ≤ x)) (i_ldI 7 (i_rI)) (i_ldI 7 (i_ldI 6 (i_bin (fun x y => x * y) (i_stI 7 (i_inc 8 (1) (r92))))))))
set_option maxRecDepth 20000 in
theorem okX11_odds_92 {E : mE} {X : State → Heap → Prop} {l : Launch} (hX : mXok E X) (n : Nat) {r92 : mK} (h92 : Sd E X l yX11_odds cX11_odds 9 (some .int) 3 0 0 0 0 92 r92) : Sd E X l yX11_odds cX11_odds 9 (some .int) 3 0 0 0 0 92 (kX11_odds_92 n r92) := s_iload dX11_odds_92 (s_iload_n dX11_odds_94 rfl (s_icge dX11_odds_95 (by decide) (s_iload dX11_odds_111 (s_rI dX11_odds_113 (Nat.le_of_ble_eq_true rfl) (Nat.le_of_ble_eq_true rfl))) (s_iload dX11_odds_98 (s_iload dX11_odds_100 (s_imul dX11_odds_102 (s_istore dX11_odds_103 (s_iinc dX11_odds_105 (by decide) (s_goto dX11_odds_108 (by decide) h92))))))))
def kX11_odds_84 (n : Nat) : mK := i_stI 6 (i_cst (.int (1)) (i_stI 7 (i_cst (.int (0)) (i_stI 8 (mit (kX11_odds_92 n ) n)))))
set_option maxRecDepth 20000 in
theorem okX11_odds_84 {E : mE} {X : State → Heap → Prop} {l : Launch} (hX : mXok E X) (n : Nat) : Sd E X l yX11_odds cX11_odds 9 (some .int) 3 0 0 0 0 84 (kX11_odds_84 n) := s_istore dX11_odds_84 (s_iconst dX11_odds_86 (by decide) (s_istore dX11_odds_87 (s_iconst dX11_odds_89 (by decide) (s_istore dX11_odds_90 (s_mit (fun _ hk => okX11_odds_92 hX n hk) n)))))
def kX11_odds_67 (n : Nat) : mK := i_stI 5 (i_ldI 4 (i_c0 (fun x => decide (x ≤ 0)) (i_ldI 5 (kX11_odds_84 n)) (i_ldI 5 (i_ldI 4 (i_dv (fun x y => x / y) ((kX11_odds_84 n)))))))
set_option maxRecDepth 20000 in
theorem okX11_odds_67 {E : mE} {X : State → Heap → Prop} {l : Launch} (hX : mXok E X) (n : Nat) : Sd E X l yX11_odds cX11_odds 9 (some .int) 3 0 0 0 0 67 (kX11_odds_67 n) := s_istore dX11_odds_67 (s_iload dX11_odds_69 (s_ifle dX11_odds_71 (by decide) (s_iload dX11_odds_82 (okX11_odds_84 hX n)) (s_iload dX11_odds_74 (s_iload dX11_odds_76 (s_idiv dX11_odds_78 (s_goto dX11_odds_79 (by decide) (okX11_odds_84 hX n)))))))
def kX11_odds_49 (n : Nat) : mK := i_c0 (fun x => decide (¬ x = 0)) (i_cst (.int (100)) (kX11_odds_67 n)) (i_cst (.int (100)) (i_ldA 0 (i_gA 11 2 (i_gI 4 3 (i_bin (fun x y => x - y) ((kX11_odds_67 n)))))))
set_option maxRecDepth 20000 in
theorem okX11_odds_49 {E : mE} {X : State → Heap → Prop} {l : Launch} (hX : mXok E X) (n : Nat) : Sd E X l yX11_odds cX11_odds 9 (some .int) 3 0 0 0 0 49 (kX11_odds_49 n) := s_ifne dX11_odds_49 (by decide) (s_bipush dX11_odds_65 (by decide) (okX11_odds_67 hX n)) (s_bipush dX11_odds_52 (by decide) (s_aload_n dX11_odds_54 rfl (s_gA dX11_odds_55 lFX11_16 (s_gI dX11_odds_58 lFX11_320 (by decide) (s_isub dX11_odds_61 (s_goto dX11_odds_62 (by decide) (okX11_odds_67 hX n)))))))
def kX11_odds_0 (n : Nat) : mK := i_ldA 0 (i_gA 11 5 (i_ldI 1 (i_cV 8 1 (FX8_isIn n) (i_c0 (fun x => decide (x = 0)) (kX11_odds_29 n) (i_ldI 2 (i_c0 (fun x => decide (x < 0)) (kX11_odds_29 n) (i_ldI 2 (i_cst (.int (4)) (i_c2 (fun x y => decide (y < x)) (kX11_odds_29 n) (i_ldI 3 (i_c0 (fun x => decide (x < 0)) (kX11_odds_29 n) (i_ldI 3 (i_cst (.int (1)) (i_c2 (fun x y => decide (x ≤ y)) (i_cst (.int (100)) (i_ldA 0 (i_gA 11 2 (i_gI 4 3 (i_bin (fun x y => x - y) (i_cst (.int (100)) (i_cS 2 (FX11_commonDivisor n) (i_stI 4 (i_ldI 3 (kX11_odds_49 n)))))))))) (kX11_odds_29 n)))))))))))))))
set_option maxRecDepth 20000 in
theorem okX11_odds_0 {E : mE} {X : State → Heap → Prop} {l : Launch} (hX : mXok E X) (n : Nat) : Sd E X l yX11_odds cX11_odds 9 (some .int) 3 0 0 0 0 0 (kX11_odds_0 n) := s_aload_n dX11_odds_0 rfl (s_gA dX11_odds_1 lFX11_37 (s_iload_n dX11_odds_4 rfl (s_cV dX11_odds_5 lMX11_167 bVX8_isIn rfl (CtX8_isIn hX n) (Nat.le_of_ble_eq_true rfl) (s_ifeq dX11_odds_8 (by decide) (okX11_odds_29 hX n) (s_iload_n dX11_odds_11 rfl (s_iflt dX11_odds_12 (by decide) (okX11_odds_29 hX n) (s_iload_n dX11_odds_15 rfl (s_iconst dX11_odds_16 (by decide) (s_icgt dX11_odds_17 (by decide) (okX11_odds_29 hX n) (s_iload_n dX11_odds_20 rfl (s_iflt dX11_odds_21 (by decide) (okX11_odds_29 hX n) (s_iload_n dX11_odds_24 rfl (s_iconst dX11_odds_25 (by decide) (s_icle dX11_odds_26 (by decide) (s_bipush dX11_odds_31 (by decide) (s_aload_n dX11_odds_33 rfl (s_gA dX11_odds_34 lFX11_16 (s_gI dX11_odds_37 lFX11_320 (by decide) (s_isub dX11_odds_40 (s_bipush dX11_odds_41 (by decide) (s_cS dX11_odds_43 lMX11_323 bSX11_commonDivisor (CtX11_commonDivisor hX n) (Nat.le_of_ble_eq_true rfl) (s_istore dX11_odds_46 (s_iload_n dX11_odds_48 rfl (okX11_odds_49 hX n))) (Nat.le_of_ble_eq_true rfl) (Nat.le_of_ble_eq_true rfl)))))))) (okX11_odds_29 hX n)))))))))))) (Nat.le_of_ble_eq_true rfl) (Nat.le_of_ble_eq_true rfl))))
def FX11_odds (n : Nat) : List Value → mM → Option mR := mfn 9 (kX11_odds_0 n)
theorem CtX11_odds {E : mE} {X : State → Heap → Prop} {l : Launch} (hX : mXok E X) (n : Nat) : Ct E X l yX11_odds cX11_odds 9 (some .int) 3 0 0 (FX11_odds n) := Ct_of (by decide) hX (okX11_odds_0 hX n)
theorem dX11_untell_0 : decode cX11_untell 0 = .ok (.aload_n 0, 1) := by decide +kernel
theorem dX11_untell_1 : decode cX11_untell 1 = .ok (.getfield 70, 3) := by decide +kernel
theorem dX11_untell_4 : decode cX11_untell 4 = .ok (.iload_n 1, 1) := by decide +kernel
theorem dX11_untell_5 : decode cX11_untell 5 = .ok (.invokevirtual 333, 3) := by decide +kernel
theorem dX11_untell_8 : decode cX11_untell 8 = .ok (.ireturn, 1) := by decide +kernel
def kX11_untell_0 (n : Nat) : mK := i_ldA 0 (i_gA 11 10 (i_ldI 1 (i_cV 2 1 (FX2_takeBack n) (i_rZ))))
set_option maxRecDepth 20000 in
theorem okX11_untell_0 {E : mE} {X : State → Heap → Prop} {l : Launch} (hX : mXok E X) (n : Nat) : Sd E X l yX11_untell cX11_untell 2 (some .boolean) 3 0 0 0 0 0 (kX11_untell_0 n) := s_aload_n dX11_untell_0 rfl (s_gA dX11_untell_1 lFX11_70 (s_iload_n dX11_untell_4 rfl (s_cV dX11_untell_5 lMX11_333 bVX2_takeBack rfl (CtX2_takeBack hX n) (Nat.le_of_ble_eq_true rfl) (s_rZ dX11_untell_8 (Nat.le_of_ble_eq_true rfl) (Nat.le_of_ble_eq_true rfl)) (Nat.le_of_ble_eq_true rfl) (Nat.le_of_ble_eq_true rfl))))
def FX11_untell (n : Nat) : List Value → mM → Option mR := mfn 2 (kX11_untell_0 n)
theorem CtX11_untell {E : mE} {X : State → Heap → Prop} {l : Launch} (hX : mXok E X) (n : Nat) : Ct E X l yX11_untell cX11_untell 2 (some .boolean) 3 0 0 (FX11_untell n) := Ct_of (by decide) hX (okX11_untell_0 hX n)
theorem dX12_about_0 : decode cX12_about 0 = .ok (.iload_n 1, 1) := by decide +kernel
theorem dX12_about_1 : decode cX12_about 1 = .ok (.tableswitch 167 0 13 #[71, 76, 86, 96, 101, 109, 117, 122, 127, 132, 137, 142, 152, 157], 71) := by decide +kernel
theorem dX12_about_72 : decode cX12_about 72 = .ok (.aload_n 0, 1) := by decide +kernel
theorem dX12_about_73 : decode cX12_about 73 = .ok (.invokevirtual 341, 3) := by decide +kernel
theorem dX12_about_76 : decode cX12_about 76 = .ok (.ireturn, 1) := by decide +kernel
theorem dX12_about_77 : decode cX12_about 77 = .ok (.aload_n 0, 1) := by decide +kernel
theorem dX12_about_78 : decode cX12_about 78 = .ok (.getfield 20, 3) := by decide +kernel
theorem dX12_about_81 : decode cX12_about 81 = .ok (.aload_n 0, 1) := by decide +kernel
theorem dX12_about_82 : decode cX12_about 82 = .ok (.getfield 255, 3) := by decide +kernel
theorem dX12_about_85 : decode cX12_about 85 = .ok (.iaload, 1) := by decide +kernel
theorem dX12_about_86 : decode cX12_about 86 = .ok (.ireturn, 1) := by decide +kernel
theorem dX12_about_87 : decode cX12_about 87 = .ok (.aload_n 0, 1) := by decide +kernel
theorem dX12_about_88 : decode cX12_about 88 = .ok (.getfield 24, 3) := by decide +kernel
theorem dX12_about_91 : decode cX12_about 91 = .ok (.aload_n 0, 1) := by decide +kernel
theorem dX12_about_92 : decode cX12_about 92 = .ok (.getfield 255, 3) := by decide +kernel
theorem dX12_about_95 : decode cX12_about 95 = .ok (.iaload, 1) := by decide +kernel
theorem dX12_about_96 : decode cX12_about 96 = .ok (.ireturn, 1) := by decide +kernel
theorem dX12_about_97 : decode cX12_about 97 = .ok (.aload_n 0, 1) := by decide +kernel
theorem dX12_about_98 : decode cX12_about 98 = .ok (.invokevirtual 328, 3) := by decide +kernel
theorem dX12_about_101 : decode cX12_about 101 = .ok (.ireturn, 1) := by decide +kernel
theorem dX12_about_102 : decode cX12_about 102 = .ok (.aload_n 0, 1) := by decide +kernel
theorem dX12_about_103 : decode cX12_about 103 = .ok (.getfield 82, 3) := by decide +kernel
theorem dX12_about_106 : decode cX12_about 106 = .ok (.bipush 32, 2) := by decide +kernel
theorem dX12_about_108 : decode cX12_about 108 = .ok (.iaload, 1) := by decide +kernel
theorem dX12_about_109 : decode cX12_about 109 = .ok (.ireturn, 1) := by decide +kernel
theorem dX12_about_110 : decode cX12_about 110 = .ok (.aload_n 0, 1) := by decide +kernel
theorem dX12_about_111 : decode cX12_about 111 = .ok (.getfield 82, 3) := by decide +kernel
theorem dX12_about_114 : decode cX12_about 114 = .ok (.bipush 33, 2) := by decide +kernel
theorem dX12_about_116 : decode cX12_about 116 = .ok (.iaload, 1) := by decide +kernel
theorem dX12_about_117 : decode cX12_about 117 = .ok (.ireturn, 1) := by decide +kernel
theorem dX12_about_118 : decode cX12_about 118 = .ok (.aload_n 0, 1) := by decide +kernel
theorem dX12_about_119 : decode cX12_about 119 = .ok (.getfield 357, 3) := by decide +kernel
theorem dX12_about_122 : decode cX12_about 122 = .ok (.ireturn, 1) := by decide +kernel
theorem dX12_about_123 : decode cX12_about 123 = .ok (.aload_n 0, 1) := by decide +kernel
theorem dX12_about_124 : decode cX12_about 124 = .ok (.getfield 360, 3) := by decide +kernel
theorem dX12_about_127 : decode cX12_about 127 = .ok (.ireturn, 1) := by decide +kernel
theorem dX12_about_128 : decode cX12_about 128 = .ok (.aload_n 0, 1) := by decide +kernel
theorem dX12_about_129 : decode cX12_about 129 = .ok (.getfield 363, 3) := by decide +kernel
theorem dX12_about_132 : decode cX12_about 132 = .ok (.ireturn, 1) := by decide +kernel
theorem dX12_about_133 : decode cX12_about 133 = .ok (.aload_n 0, 1) := by decide +kernel
theorem dX12_about_134 : decode cX12_about 134 = .ok (.getfield 477, 3) := by decide +kernel
theorem dX12_about_137 : decode cX12_about 137 = .ok (.ireturn, 1) := by decide +kernel
theorem dX12_about_138 : decode cX12_about 138 = .ok (.aload_n 0, 1) := by decide +kernel
theorem dX12_about_139 : decode cX12_about 139 = .ok (.getfield 252, 3) := by decide +kernel
theorem dX12_about_142 : decode cX12_about 142 = .ok (.ireturn, 1) := by decide +kernel
theorem dX12_about_143 : decode cX12_about 143 = .ok (.aload_n 0, 1) := by decide +kernel
theorem dX12_about_144 : decode cX12_about 144 = .ok (.getfield 33, 3) := by decide +kernel
theorem dX12_about_147 : decode cX12_about 147 = .ok (.aload_n 0, 1) := by decide +kernel
theorem dX12_about_148 : decode cX12_about 148 = .ok (.getfield 255, 3) := by decide +kernel
theorem dX12_about_151 : decode cX12_about 151 = .ok (.iaload, 1) := by decide +kernel
theorem dX12_about_152 : decode cX12_about 152 = .ok (.ireturn, 1) := by decide +kernel
theorem dX12_about_153 : decode cX12_about 153 = .ok (.aload_n 0, 1) := by decide +kernel
theorem dX12_about_154 : decode cX12_about 154 = .ok (.getfield 366, 3) := by decide +kernel
theorem dX12_about_157 : decode cX12_about 157 = .ok (.ireturn, 1) := by decide +kernel
theorem dX12_about_158 : decode cX12_about 158 = .ok (.aload_n 0, 1) := by decide +kernel
theorem dX12_about_159 : decode cX12_about 159 = .ok (.getfield 36, 3) := by decide +kernel
theorem dX12_about_162 : decode cX12_about 162 = .ok (.aload_n 0, 1) := by decide +kernel
theorem dX12_about_163 : decode cX12_about 163 = .ok (.getfield 255, 3) := by decide +kernel
theorem dX12_about_166 : decode cX12_about 166 = .ok (.iaload, 1) := by decide +kernel
theorem dX12_about_167 : decode cX12_about 167 = .ok (.ireturn, 1) := by decide +kernel
theorem dX12_about_168 : decode cX12_about 168 = .ok (.iconst (-1), 1) := by decide +kernel
theorem dX12_about_169 : decode cX12_about 169 = .ok (.ireturn, 1) := by decide +kernel
def kX12_about_0 (n : Nat) : mK := i_ldI 1 (i_sw [(0, (i_ldA 0 (i_cV 12 0 (FX12_many n) (i_rI)))), (1, (i_ldA 0 (i_gA 12 11 (i_ldA 0 (i_gI 12 31 (i_al 0 (i_rI))))))), (2, (i_ldA 0 (i_gA 12 12 (i_ldA 0 (i_gI 12 31 (i_al 0 (i_rI))))))), (3, (i_ldA 0 (i_cV 12 0 (FX12_those n) (i_rI)))), (4, (i_ldA 0 (i_gA 12 39 (i_cst (.int (32)) (i_al 0 (i_rI)))))), (5, (i_ldA 0 (i_gA 12 39 (i_cst (.int (33)) (i_al 0 (i_rI)))))), (6, (i_ldA 0 (i_gI 12 43 (i_rI)))), (7, (i_ldA 0 (i_gI 12 44 (i_rI)))), (8, (i_ldA 0 (i_gI 12 57 (i_rI)))), (9, (i_ldA 0 (i_gI 12 58 (i_rI)))), (10, (i_ldA 0 (i_gI 12 2 (i_rI)))), (11, (i_ldA 0 (i_gA 12 15 (i_ldA 0 (i_gI 12 31 (i_al 0 (i_rI))))))), (12, (i_ldA 0 (i_gI 12 48 (i_rI)))), (13, (i_ldA 0 (i_gA 12 16 (i_ldA 0 (i_gI 12 31 (i_al 0 (i_rI)))))))] (i_cst (.int (-1)) (i_rI)))
set_option maxRecDepth 20000 in
theorem okX12_about_0 {E : mE} {X : State → Heap → Prop} {l : Launch} (hX : mXok E X) (n : Nat) : Sd E X l yX12_about cX12_about 2 (some .int) 3 0 0 0 0 0 (kX12_about_0 n) := s_iload_n dX12_about_0 rfl (s_tsw dX12_about_1 (by decide) (s_iconst dX12_about_168 (by decide) (s_rI dX12_about_169 (Nat.le_of_ble_eq_true rfl) (Nat.le_of_ble_eq_true rfl))) (by decide) (tsw_c (by decide) (by decide) (s_aload_n dX12_about_72 rfl (s_cV dX12_about_73 lMX12_341 bVX12_many rfl (CtX12_many hX n) (Nat.le_of_ble_eq_true rfl) (s_rI dX12_about_76 (Nat.le_of_ble_eq_true rfl) (Nat.le_of_ble_eq_true rfl)) (Nat.le_of_ble_eq_true rfl) (Nat.le_of_ble_eq_true rfl))) (tsw_c (by decide) (by decide) (s_aload_n dX12_about_77 rfl (s_gA dX12_about_78 lFX12_20 (s_aload_n dX12_about_81 rfl (s_gI dX12_about_82 lFX12_255 (by decide) (s_iald dX12_about_85 (s_rI dX12_about_86 (Nat.le_of_ble_eq_true rfl) (Nat.le_of_ble_eq_true rfl))))))) (tsw_c (by decide) (by decide) (s_aload_n dX12_about_87 rfl (s_gA dX12_about_88 lFX12_24 (s_aload_n dX12_about_91 rfl (s_gI dX12_about_92 lFX12_255 (by decide) (s_iald dX12_about_95 (s_rI dX12_about_96 (Nat.le_of_ble_eq_true rfl) (Nat.le_of_ble_eq_true rfl))))))) (tsw_c (by decide) (by decide) (s_aload_n dX12_about_97 rfl (s_cV dX12_about_98 lMX12_328 bVX12_those rfl (CtX12_those hX n) (Nat.le_of_ble_eq_true rfl) (s_rI dX12_about_101 (Nat.le_of_ble_eq_true rfl) (Nat.le_of_ble_eq_true rfl)) (Nat.le_of_ble_eq_true rfl) (Nat.le_of_ble_eq_true rfl))) (tsw_c (by decide) (by decide) (s_aload_n dX12_about_102 rfl (s_gA dX12_about_103 lFX12_82 (s_bipush dX12_about_106 (by decide) (s_iald dX12_about_108 (s_rI dX12_about_109 (Nat.le_of_ble_eq_true rfl) (Nat.le_of_ble_eq_true rfl)))))) (tsw_c (by decide) (by decide) (s_aload_n dX12_about_110 rfl (s_gA dX12_about_111 lFX12_82 (s_bipush dX12_about_114 (by decide) (s_iald dX12_about_116 (s_rI dX12_about_117 (Nat.le_of_ble_eq_true rfl) (Nat.le_of_ble_eq_true rfl)))))) (tsw_c (by decide) (by decide) (s_aload_n dX12_about_118 rfl (s_gI dX12_about_119 lFX12_357 (by decide) (s_rI dX12_about_122 (Nat.le_of_ble_eq_true rfl) (Nat.le_of_ble_eq_true rfl)))) (tsw_c (by decide) (by decide) (s_aload_n dX12_about_123 rfl (s_gI dX12_about_124 lFX12_360 (by decide) (s_rI dX12_about_127 (Nat.le_of_ble_eq_true rfl) (Nat.le_of_ble_eq_true rfl)))) (tsw_c (by decide) (by decide) (s_aload_n dX12_about_128 rfl (s_gI dX12_about_129 lFX12_363 (by decide) (s_rI dX12_about_132 (Nat.le_of_ble_eq_true rfl) (Nat.le_of_ble_eq_true rfl)))) (tsw_c (by decide) (by decide) (s_aload_n dX12_about_133 rfl (s_gI dX12_about_134 lFX12_477 (by decide) (s_rI dX12_about_137 (Nat.le_of_ble_eq_true rfl) (Nat.le_of_ble_eq_true rfl)))) (tsw_c (by decide) (by decide) (s_aload_n dX12_about_138 rfl (s_gI dX12_about_139 lFX12_252 (by decide) (s_rI dX12_about_142 (Nat.le_of_ble_eq_true rfl) (Nat.le_of_ble_eq_true rfl)))) (tsw_c (by decide) (by decide) (s_aload_n dX12_about_143 rfl (s_gA dX12_about_144 lFX12_33 (s_aload_n dX12_about_147 rfl (s_gI dX12_about_148 lFX12_255 (by decide) (s_iald dX12_about_151 (s_rI dX12_about_152 (Nat.le_of_ble_eq_true rfl) (Nat.le_of_ble_eq_true rfl))))))) (tsw_c (by decide) (by decide) (s_aload_n dX12_about_153 rfl (s_gI dX12_about_154 lFX12_366 (by decide) (s_rI dX12_about_157 (Nat.le_of_ble_eq_true rfl) (Nat.le_of_ble_eq_true rfl)))) (tsw_c (by decide) (by decide) (s_aload_n dX12_about_158 rfl (s_gA dX12_about_159 lFX12_36 (s_aload_n dX12_about_162 rfl (s_gI dX12_about_163 lFX12_255 (by decide) (s_iald dX12_about_166 (s_rI dX12_about_167 (Nat.le_of_ble_eq_true rfl) (Nat.le_of_ble_eq_true rfl))))))) tsw_n)))))))))))))))
def FX12_about (n : Nat) : List Value → mM → Option mR := mfn 2 (kX12_about_0 n)
theorem CtX12_about {E : mE} {X : State → Heap → Prop} {l : Launch} (hX : mXok E X) (n : Nat) : Ct E X l yX12_about cX12_about 2 (some .int) 3 0 0 (FX12_about n) := Ct_of (by decide) hX (okX12_about_0 hX n)
theorem dX12_barredBy_0 : decode cX12_barredBy 0 = .ok (.iconst 0, 1) := by decide +kernel
theorem dX12_barredBy_1 : decode cX12_barredBy 1 = .ok (.istore_n 2, 1) := by decide +kernel
theorem dX12_barredBy_2 : decode cX12_barredBy 2 = .ok (.iconst 0, 1) := by decide +kernel
theorem dX12_barredBy_3 : decode cX12_barredBy 3 = .ok (.istore_n 3, 1) := by decide +kernel
theorem dX12_barredBy_4 : decode cX12_barredBy 4 = .ok (.iload_n 3, 1) := by decide +kernel
theorem dX12_barredBy_5 : decode cX12_barredBy 5 = .ok (.aload_n 0, 1) := by decide +kernel
theorem dX12_barredBy_6 : decode cX12_barredBy 6 = .ok (.invokevirtual 341, 3) := by decide +kernel
theorem dX12_barredBy_9 : decode cX12_barredBy 9 = .ok (.if_icmp .ge 27, 3) := by decide +kernel
theorem dX12_barredBy_12 : decode cX12_barredBy 12 = .ok (.aload_n 0, 1) := by decide +kernel
theorem dX12_barredBy_13 : decode cX12_barredBy 13 = .ok (.iload_n 3, 1) := by decide +kernel
theorem dX12_barredBy_14 : decode cX12_barredBy 14 = .ok (.invokevirtual 372, 3) := by decide +kernel
theorem dX12_barredBy_17 : decode cX12_barredBy 17 = .ok (.iload_n 1, 1) := by decide +kernel
theorem dX12_barredBy_18 : decode cX12_barredBy 18 = .ok (.invokestatic 261, 3) := by decide +kernel
theorem dX12_barredBy_21 : decode cX12_barredBy 21 = .ok (.ifCond .eq 9, 3) := by decide +kernel
theorem dX12_barredBy_24 : decode cX12_barredBy 24 = .ok (.iload_n 2, 1) := by decide +kernel
theorem dX12_barredBy_25 : decode cX12_barredBy 25 = .ok (.iconst 1, 1) := by decide +kernel
theorem dX12_barredBy_26 : decode cX12_barredBy 26 = .ok (.iload_n 3, 1) := by decide +kernel
theorem dX12_barredBy_27 : decode cX12_barredBy 27 = .ok (.ishl, 1) := by decide +kernel
theorem dX12_barredBy_28 : decode cX12_barredBy 28 = .ok (.ior, 1) := by decide +kernel
theorem dX12_barredBy_29 : decode cX12_barredBy 29 = .ok (.istore_n 2, 1) := by decide +kernel
theorem dX12_barredBy_30 : decode cX12_barredBy 30 = .ok (.iinc 3 1, 3) := by decide +kernel
theorem dX12_barredBy_33 : decode cX12_barredBy 33 = .ok (.goto (-29), 3) := by decide +kernel
theorem dX12_barredBy_36 : decode cX12_barredBy 36 = .ok (.iload_n 2, 1) := by decide +kernel
theorem dX12_barredBy_37 : decode cX12_barredBy 37 = .ok (.ireturn, 1) := by decide +kernel
def kX12_barredBy_30 (n : Nat) (r4 : mK) : mK := i_inc 3 (1) (r4)
set_option maxRecDepth 20000 in
theorem okX12_barredBy_30 {E : mE} {X : State → Heap → Prop} {l : Launch} (hX : mXok E X) (n : Nat) {r4 : mK} (h4 : Sd E X l yX12_barredBy cX12_barredBy 4 (some .int) 3 0 0 0 0 4 r4) : Sd E X l yX12_barredBy cX12_barredBy 4 (some .int) 3 0 0 0 0 30 (kX12_barredBy_30 n r4) := s_iinc dX12_barredBy_30 (by decide) (s_goto dX12_barredBy_33 (by decide) h4)
def kX12_barredBy_4 (n : Nat) (r4 : mK) : mK := i_ldI 3 (i_ldA 0 (i_cV 12 0 (FX12_many n) (i_c2 (fun x y => decide (y ≤ x)) (i_ldI 2 (i_rI)) (i_ldA 0 (i_ldI 3 (i_cV 12 1 (FX12_barsOf n) (i_ldI 1 (i_cS 2 (FX12_bit n) (i_c0 (fun x => decide (x = 0)) (kX12_barredBy_30 n r4) (i_ldI 2 (i_cst (.int (1)) (i_ldI 3 (i_bin (fun x y => x <<< (y &&& 31)) (i_bin (fun x y => x ||| y) (i_stI 2 (kX12_barredBy_30 n r4))))))))))))))))
set_option maxRecDepth 20000 in
theorem okX12_barredBy_4 {E : mE} {X : State → Heap → Prop} {l : Launch} (hX : mXok E X) (n : Nat) {r4 : mK} (h4 : Sd E X l yX12_barredBy cX12_barredBy 4 (some .int) 3 0 0 0 0 4 r4) : Sd E X l yX12_barredBy cX12_barredBy 4 (some .int) 3 0 0 0 0 4 (kX12_barredBy_4 n r4) := s_iload_n dX12_barredBy_4 rfl (s_aload_n dX12_barredBy_5 rfl (s_cV dX12_barredBy_6 lMX12_341 bVX12_many rfl (CtX12_many hX n) (Nat.le_of_ble_eq_true rfl) (s_icge dX12_barredBy_9 (by decide) (s_iload_n dX12_barredBy_36 rfl (s_rI dX12_barredBy_37 (Nat.le_of_ble_eq_true rfl) (Nat.le_of_ble_eq_true rfl))) (s_aload_n dX12_barredBy_12 rfl (s_iload_n dX12_barredBy_13 rfl (s_cV dX12_barredBy_14 lMX12_372 bVX12_barsOf rfl (CtX12_barsOf hX n) (Nat.le_of_ble_eq_true rfl) (s_iload_n dX12_barredBy_17 rfl (s_cS dX12_barredBy_18 lMX12_261 bSX12_bit (CtX12_bit hX n) (Nat.le_of_ble_eq_true rfl) (s_ifeq dX12_barredBy_21 (by decide) (okX12_barredBy_30 hX n h4) (s_iload_n dX12_barredBy_24 rfl (s_iconst dX12_barredBy_25 (by decide) (s_iload_n dX12_barredBy_26 rfl (s_ishl dX12_barredBy_27 (s_ior dX12_barredBy_28 (s_istore_n dX12_barredBy_29 rfl (okX12_barredBy_30 hX n h4)))))))) (Nat.le_of_ble_eq_true rfl) (Nat.le_of_ble_eq_true rfl))) (Nat.le_of_ble_eq_true rfl) (Nat.le_of_ble_eq_true rfl))))) (Nat.le_of_ble_eq_true rfl) (Nat.le_of_ble_eq_true rfl)))
def kX12_barredBy_0 (n : Nat) : mK := i_cst (.int (0)) (i_stI 2 (i_cst (.int (0)) (i_stI 3 (mit (kX12_barredBy_4 n ) n))))
set_option maxRecDepth 20000 in
theorem okX12_barredBy_0 {E : mE} {X : State → Heap → Prop} {l : Launch} (hX : mXok E X) (n : Nat) : Sd E X l yX12_barredBy cX12_barredBy 4 (some .int) 3 0 0 0 0 0 (kX12_barredBy_0 n) := s_iconst dX12_barredBy_0 (by decide) (s_istore_n dX12_barredBy_1 rfl (s_iconst dX12_barredBy_2 (by decide) (s_istore_n dX12_barredBy_3 rfl (s_mit (fun _ hk => okX12_barredBy_4 hX n hk) n))))
def FX12_barredBy (n : Nat) : List Value → mM → Option mR := mfn 4 (kX12_barredBy_0 n)
theorem CtX12_barredBy {E : mE} {X : State → Heap → Prop} {l : Launch} (hX : mXok E X) (n : Nat) : Ct E X l yX12_barredBy cX12_barredBy 4 (some .int) 3 0 0 (FX12_barredBy n) := Ct_of (by decide) hX (okX12_barredBy_0 hX n)
theorem dX12_comes_0 : decode cX12_comes 0 = .ok (.aload_n 0, 1) := by decide +kernel
theorem dX12_comes_1 : decode cX12_comes 1 = .ok (.iload_n 2, 1) := by decide +kernel
theorem dX12_comes_2 : decode cX12_comes 2 = .ok (.putfield 322, 3) := by decide +kernel
theorem dX12_comes_5 : decode cX12_comes 5 = .ok (.aload_n 0, 1) := by decide +kernel
theorem dX12_comes_6 : decode cX12_comes 6 = .ok (.aload_n 0, 1) := by decide +kernel
theorem dX12_comes_7 : decode cX12_comes 7 = .ok (.invokevirtual 328, 3) := by decide +kernel
theorem dX12_comes_10 : decode cX12_comes 10 = .ok (.invokestatic 331, 3) := by decide +kernel
theorem dX12_comes_13 : decode cX12_comes 13 = .ok (.putfield 325, 3) := by decide +kernel
theorem dX12_comes_16 : decode cX12_comes 16 = .ok (.iconst 0, 1) := by decide +kernel
theorem dX12_comes_17 : decode cX12_comes 17 = .ok (.istore_n 3, 1) := by decide +kernel
theorem dX12_comes_18 : decode cX12_comes 18 = .ok (.aload_n 0, 1) := by decide +kernel
theorem dX12_comes_19 : decode cX12_comes 19 = .ok (.getfield 57, 3) := by decide +kernel
theorem dX12_comes_22 : decode cX12_comes 22 = .ok (.iconst 2, 1) := by decide +kernel
theorem dX12_comes_23 : decode cX12_comes 23 = .ok (.aload_n 0, 1) := by decide +kernel
theorem dX12_comes_24 : decode cX12_comes 24 = .ok (.getfield 255, 3) := by decide +kernel
theorem dX12_comes_27 : decode cX12_comes 27 = .ok (.imul, 1) := by decide +kernel
theorem dX12_comes_28 : decode cX12_comes 28 = .ok (.iload_n 1, 1) := by decide +kernel
theorem dX12_comes_29 : decode cX12_comes 29 = .ok (.iadd, 1) := by decide +kernel
theorem dX12_comes_30 : decode cX12_comes 30 = .ok (.iaload, 1) := by decide +kernel
theorem dX12_comes_31 : decode cX12_comes 31 = .ok (.istore 4, 2) := by decide +kernel
theorem dX12_comes_33 : decode cX12_comes 33 = .ok (.iload 4, 2) := by decide +kernel
theorem dX12_comes_35 : decode cX12_comes 35 = .ok (.aload_n 0, 1) := by decide +kernel
theorem dX12_comes_36 : decode cX12_comes 36 = .ok (.getfield 60, 3) := by decide +kernel
theorem dX12_comes_39 : decode cX12_comes 39 = .ok (.iconst 2, 1) := by decide +kernel
theorem dX12_comes_40 : decode cX12_comes 40 = .ok (.aload_n 0, 1) := by decide +kernel
theorem dX12_comes_41 : decode cX12_comes 41 = .ok (.getfield 255, 3) := by decide +kernel
theorem dX12_comes_44 : decode cX12_comes 44 = .ok (.imul, 1) := by decide +kernel
theorem dX12_comes_45 : decode cX12_comes 45 = .ok (.iload_n 1, 1) := by decide +kernel
theorem dX12_comes_46 : decode cX12_comes 46 = .ok (.iadd, 1) := by decide +kernel
theorem dX12_comes_47 : decode cX12_comes 47 = .ok (.iaload, 1) := by decide +kernel
theorem dX12_comes_48 : decode cX12_comes 48 = .ok (.if_icmp .ge 115, 3) := by decide +kernel
theorem dX12_comes_51 : decode cX12_comes 51 = .ok (.aload_n 0, 1) := by decide +kernel
theorem dX12_comes_52 : decode cX12_comes 52 = .ok (.getfield 67, 3) := by decide +kernel
theorem dX12_comes_55 : decode cX12_comes 55 = .ok (.iload 4, 2) := by decide +kernel
theorem dX12_comes_57 : decode cX12_comes 57 = .ok (.iaload, 1) := by decide +kernel
theorem dX12_comes_58 : decode cX12_comes 58 = .ok (.istore 5, 2) := by decide +kernel
theorem dX12_comes_60 : decode cX12_comes 60 = .ok (.iload 5, 2) := by decide +kernel
theorem dX12_comes_62 : decode cX12_comes 62 = .ok (.bipush 126, 2) := by decide +kernel
theorem dX12_comes_64 : decode cX12_comes 64 = .ok (.if_icmp .ne 30, 3) := by decide +kernel
theorem dX12_comes_67 : decode cX12_comes 67 = .ok (.aload_n 0, 1) := by decide +kernel
theorem dX12_comes_68 : decode cX12_comes 68 = .ok (.getfield 79, 3) := by decide +kernel
theorem dX12_comes_71 : decode cX12_comes 71 = .ok (.iload_n 3, 1) := by decide +kernel
theorem dX12_comes_72 : decode cX12_comes 72 = .ok (.iconst 1, 1) := by decide +kernel
theorem dX12_comes_73 : decode cX12_comes 73 = .ok (.isub, 1) := by decide +kernel
theorem dX12_comes_74 : decode cX12_comes 74 = .ok (.aload_n 0, 1) := by decide +kernel
theorem dX12_comes_75 : decode cX12_comes 75 = .ok (.getfield 79, 3) := by decide +kernel
theorem dX12_comes_78 : decode cX12_comes 78 = .ok (.iload_n 3, 1) := by decide +kernel
theorem dX12_comes_79 : decode cX12_comes 79 = .ok (.iconst 1, 1) := by decide +kernel
theorem dX12_comes_80 : decode cX12_comes 80 = .ok (.isub, 1) := by decide +kernel
theorem dX12_comes_81 : decode cX12_comes 81 = .ok (.iaload, 1) := by decide +kernel
theorem dX12_comes_82 : decode cX12_comes 82 = .ok (.ifCond .ne 7, 3) := by decide +kernel
theorem dX12_comes_85 : decode cX12_comes 85 = .ok (.iconst 1, 1) := by decide +kernel
theorem dX12_comes_86 : decode cX12_comes 86 = .ok (.goto 4, 3) := by decide +kernel
theorem dX12_comes_89 : decode cX12_comes 89 = .ok (.iconst 0, 1) := by decide +kernel
theorem dX12_comes_90 : decode cX12_comes 90 = .ok (.iastore, 1) := by decide +kernel
theorem dX12_comes_91 : decode cX12_comes 91 = .ok (.goto 66, 3) := by decide +kernel
theorem dX12_comes_94 : decode cX12_comes 94 = .ok (.iload 5, 2) := by decide +kernel
theorem dX12_comes_96 : decode cX12_comes 96 = .ok (.invokestatic 200, 3) := by decide +kernel
theorem dX12_comes_99 : decode cX12_comes 99 = .ok (.ifCond .eq 28, 3) := by decide +kernel
theorem dX12_comes_102 : decode cX12_comes 102 = .ok (.aload_n 0, 1) := by decide +kernel
theorem dX12_comes_103 : decode cX12_comes 103 = .ok (.getfield 79, 3) := by decide +kernel
theorem dX12_comes_106 : decode cX12_comes 106 = .ok (.iload_n 3, 1) := by decide +kernel
theorem dX12_comes_107 : decode cX12_comes 107 = .ok (.aload_n 0, 1) := by decide +kernel
theorem dX12_comes_108 : decode cX12_comes 108 = .ok (.iload 5, 2) := by decide +kernel
theorem dX12_comes_110 : decode cX12_comes 110 = .ok (.aload_n 0, 1) := by decide +kernel
theorem dX12_comes_111 : decode cX12_comes 111 = .ok (.getfield 70, 3) := by decide +kernel
theorem dX12_comes_114 : decode cX12_comes 114 = .ok (.iload 4, 2) := by decide +kernel
theorem dX12_comes_116 : decode cX12_comes 116 = .ok (.iaload, 1) := by decide +kernel
theorem dX12_comes_117 : decode cX12_comes 117 = .ok (.invokevirtual 334, 3) := by decide +kernel
theorem dX12_comes_120 : decode cX12_comes 120 = .ok (.iastore, 1) := by decide +kernel
theorem dX12_comes_121 : decode cX12_comes 121 = .ok (.iinc 3 1, 3) := by decide +kernel
theorem dX12_comes_124 : decode cX12_comes 124 = .ok (.goto 33, 3) := by decide +kernel
theorem dX12_comes_127 : decode cX12_comes 127 = .ok (.iinc 3 (-1), 3) := by decide +kernel
theorem dX12_comes_130 : decode cX12_comes 130 = .ok (.aload_n 0, 1) := by decide +kernel
theorem dX12_comes_131 : decode cX12_comes 131 = .ok (.getfield 79, 3) := by decide +kernel
theorem dX12_comes_134 : decode cX12_comes 134 = .ok (.iload_n 3, 1) := by decide +kernel
theorem dX12_comes_135 : decode cX12_comes 135 = .ok (.iconst 1, 1) := by decide +kernel
theorem dX12_comes_136 : decode cX12_comes 136 = .ok (.isub, 1) := by decide +kernel
theorem dX12_comes_137 : decode cX12_comes 137 = .ok (.iload 5, 2) := by decide +kernel
theorem dX12_comes_139 : decode cX12_comes 139 = .ok (.aload_n 0, 1) := by decide +kernel
theorem dX12_comes_140 : decode cX12_comes 140 = .ok (.getfield 79, 3) := by decide +kernel
theorem dX12_comes_143 : decode cX12_comes 143 = .ok (.iload_n 3, 1) := by decide +kernel
theorem dX12_comes_144 : decode cX12_comes 144 = .ok (.iconst 1, 1) := by decide +kernel
theorem dX12_comes_145 : decode cX12_comes 145 = .ok (.isub, 1) := by decide +kernel
theorem dX12_comes_146 : decode cX12_comes 146 = .ok (.iaload, 1) := by decide +kernel
theorem dX12_comes_147 : decode cX12_comes 147 = .ok (.aload_n 0, 1) := by decide +kernel
theorem dX12_comes_148 : decode cX12_comes 148 = .ok (.getfield 79, 3) := by decide +kernel
theorem dX12_comes_151 : decode cX12_comes 151 = .ok (.iload_n 3, 1) := by decide +kernel
theorem dX12_comes_152 : decode cX12_comes 152 = .ok (.iaload, 1) := by decide +kernel
theorem dX12_comes_153 : decode cX12_comes 153 = .ok (.invokestatic 337, 3) := by decide +kernel
theorem dX12_comes_156 : decode cX12_comes 156 = .ok (.iastore, 1) := by decide +kernel
theorem dX12_comes_157 : decode cX12_comes 157 = .ok (.iinc 4 1, 3) := by decide +kernel
theorem dX12_comes_160 : decode cX12_comes 160 = .ok (.goto (-127), 3) := by decide +kernel
theorem dX12_comes_163 : decode cX12_comes 163 = .ok (.aload_n 0, 1) := by decide +kernel
theorem dX12_comes_164 : decode cX12_comes 164 = .ok (.getfield 79, 3) := by decide +kernel
theorem dX12_comes_167 : decode cX12_comes 167 = .ok (.iconst 0, 1) := by decide +kernel
theorem dX12_comes_168 : decode cX12_comes 168 = .ok (.iaload, 1) := by decide +kernel
theorem dX12_comes_169 : decode cX12_comes 169 = .ok (.ireturn, 1) := by decide +kernel
def kX12_comes_157 (n : Nat) (r33 : mK) : mK := i_inc 4 (1) (r33)
set_option maxRecDepth 20000 in
theorem okX12_comes_157 {E : mE} {X : State → Heap → Prop} {l : Launch} (hX : mXok E X) (n : Nat) {r33 : mK} (h33 : Sd E X l yX12_comes cX12_comes 6 (some .int) 3 0 0 0 0 33 r33) : Sd E X l yX12_comes cX12_comes 6 (some .int) 3 0 0 0 0 157 (kX12_comes_157 n r33) := s_iinc dX12_comes_157 (by decide) (s_goto dX12_comes_160 (by decide) h33)
def kX12_comes_90 (n : Nat) (r33 : mK) : mK := i_as 0 ((kX12_comes_157 n r33))
set_option maxRecDepth 20000 in
theorem okX12_comes_90 {E : mE} {X : State → Heap → Prop} {l : Launch} (hX : mXok E X) (n : Nat) {r33 : mK} (h33 : Sd E X l yX12_comes cX12_comes 6 (some .int) 3 0 0 0 0 33 r33) : Sd E X l yX12_comes cX12_comes 6 (some .int) 3 0 0 0 0 90 (kX12_comes_90 n r33) := s_iast dX12_comes_90 (s_goto dX12_comes_91 (by decide) (okX12_comes_157 hX n h33))
def kX12_comes_74 (n : Nat) (r33 : mK) : mK := i_ldA 0 (i_gA 12 30 (i_ldI 3 (i_cst (.int (1)) (i_bin (fun x y => x - y) (i_al 0 (i_c0 (fun x => decide (¬ x = 0)) (i_cst (.int (0)) (kX12_comes_90 n r33)) (i_cst (.int (1)) ((kX12_comes_90 n r33)))))))))
set_option maxRecDepth 20000 in
theorem okX12_comes_74 {E : mE} {X : State → Heap → Prop} {l : Launch} (hX : mXok E X) (n : Nat) {r33 : mK} (h33 : Sd E X l yX12_comes cX12_comes 6 (some .int) 3 0 0 0 0 33 r33) : Sd E X l yX12_comes cX12_comes 6 (some .int) 3 0 0 0 0 74 (kX12_comes_74 n r33) := s_aload_n dX12_comes_74 rfl (s_gA dX12_comes_75 lFX12_79 (s_iload_n dX12_comes_78 rfl (s_iconst dX12_comes_79 (by decide) (s_isub dX12_comes_80 (s_iald dX12_comes_81 (s_ifne dX12_comes_82 (by decide) (s_iconst dX12_comes_89 (by decide) (okX12_comes_90 hX n h33)) (s_iconst dX12_comes_85 (by decide) (s_goto dX12_comes_86 (by decide) (okX12_comes_90 hX n h33)))))))))
def kX12_comes_106 (n : Nat) (r33 : mK) : mK := i_ldI 3 (i_ldA 0 (i_ldI 5 (i_ldA 0 (i_gA 12 27 (i_ldI 4 (i_al 0 (i_cV 12 2 (FX12_asked n) (i_as 0 (i_inc 3 (1) ((kX12_comes_157 n r33)))))))))))
set_option maxRecDepth 20000 in
theorem okX12_comes_106 {E : mE} {X : State → Heap → Prop} {l : Launch} (hX : mXok E X) (n : Nat) {r33 : mK} (h33 : Sd E X l yX12_comes cX12_comes 6 (some .int) 3 0 0 0 0 33 r33) : Sd E X l yX12_comes cX12_comes 6 (some .int) 3 0 0 0 0 106 (kX12_comes_106 n r33) := s_iload_n dX12_comes_106 rfl (s_aload_n dX12_comes_107 rfl (s_iload dX12_comes_108 (s_aload_n dX12_comes_110 rfl (s_gA dX12_comes_111 lFX12_70 (s_iload dX12_comes_114 (s_iald dX12_comes_116 (s_cV dX12_comes_117 lMX12_334 bVX12_asked rfl (CtX12_asked hX n) (Nat.le_of_ble_eq_true rfl) (s_iast dX12_comes_120 (s_iinc dX12_comes_121 (by decide) (s_goto dX12_comes_124 (by decide) (okX12_comes_157 hX n h33)))) (Nat.le_of_ble_eq_true rfl) (Nat.le_of_ble_eq_true rfl))))))))
def kX12_comes_131 (n : Nat) (r33 : mK) : mK := i_gA 12 30 (i_ldI 3 (i_cst (.int (1)) (i_bin (fun x y => x - y) (i_ldI 5 (i_ldA 0 (i_gA 12 30 (i_ldI 3 (i_cst (.int (1)) (i_bin (fun x y => x - y) (i_al 0 (i_ldA 0 (i_gA 12 30 (i_ldI 3 (i_al 0 (i_cS 3 (FX12_two n) (i_as 0 (kX12_comes_157 n r33)))))))))))))))))
set_option maxRecDepth 20000 in
theorem okX12_comes_131 {E : mE} {X : State → Heap → Prop} {l : Launch} (hX : mXok E X) (n : Nat) {r33 : mK} (h33 : Sd E X l yX12_comes cX12_comes 6 (some .int) 3 0 0 0 0 33 r33) : Sd E X l yX12_comes cX12_comes 6 (some .int) 3 0 0 0 0 131 (kX12_comes_131 n r33) := s_gA dX12_comes_131 lFX12_79 (s_iload_n dX12_comes_134 rfl (s_iconst dX12_comes_135 (by decide) (s_isub dX12_comes_136 (s_iload dX12_comes_137 (s_aload_n dX12_comes_139 rfl (s_gA dX12_comes_140 lFX12_79 (s_iload_n dX12_comes_143 rfl (s_iconst dX12_comes_144 (by decide) (s_isub dX12_comes_145 (s_iald dX12_comes_146 (s_aload_n dX12_comes_147 rfl (s_gA dX12_comes_148 lFX12_79 (s_iload_n dX12_comes_151 rfl (s_iald dX12_comes_152 (s_cS dX12_comes_153 lMX12_337 bSX12_two (CtX12_two hX n) (Nat.le_of_ble_eq_true rfl) (s_iast dX12_comes_156 (okX12_comes_157 hX n h33)) (Nat.le_of_ble_eq_true rfl) (Nat.le_of_ble_eq_true rfl))))))))))))))))
def kX12_comes_33 (n : Nat) (r33 : mK) : mK := i_ldI 4 (i_ldA 0 (i_gA 12 24 (i_cst (.int (2)) (i_ldA 0 (i_gI 12 31 (i_bin (fun x y => x * y) (i_ldI 1 (i_bin (fun x y => x + y) (i_al 0 (i_c2 (fun x y => decide (y ≤ x)) (i_ldA 0 (i_gA 12 30 (i_cst (.int (0)) (i_al 0 (i_rI))))) (i_ldA 0 (i_gA 12 26 (i_ldI 4 (i_al 0 (i_stI 5 (i_ldI 5 (i_cst (.int (126)) (i_c2 (fun x y => decide (¬ x = y)) (i_ldI 5 (i_cS 1 (FX12_isLetter n) (i_c0 (fun x => decide (x = 0)) (i_inc 3 (-1) (i_ldA 0 (kX12_comes_131 n r33))) (i_ldA 0 (i_gA 12 30 (kX12_comes_106 n r33)))))) (i_ldA 0 (i_gA 12 30 (i_ldI 3 (i_cst (.int (1)) (i_bin (fun x y => x - y) (kX12_comes_74 n r33))))))))))))))))))))))))
set_option maxRecDepth 20000 in
theorem okX12_comes_33 {E : mE} {X : State → Heap → Prop} {l : Launch} (hX : mXok E X) (n : Nat) {r33 : mK} (h33 : Sd E X l yX12_comes cX12_comes 6 (some .int) 3 0 0 0 0 33 r33) : Sd E X l yX12_comes cX12_comes 6 (some .int) 3 0 0 0 0 33 (kX12_comes_33 n r33) := s_iload dX12_comes_33 (s_aload_n dX12_comes_35 rfl (s_gA dX12_comes_36 lFX12_60 (s_iconst dX12_comes_39 (by decide) (s_aload_n dX12_comes_40 rfl (s_gI dX12_comes_41 lFX12_255 (by decide) (s_imul dX12_comes_44 (s_iload_n dX12_comes_45 rfl (s_iadd dX12_comes_46 (s_iald dX12_comes_47 (s_icge dX12_comes_48 (by decide) (s_aload_n dX12_comes_163 rfl (s_gA dX12_comes_164 lFX12_79 (s_iconst dX12_comes_167 (by decide) (s_iald dX12_comes_168 (s_rI dX12_comes_169 (Nat.le_of_ble_eq_true rfl) (Nat.le_of_ble_eq_true rfl)))))) (s_aload_n dX12_comes_51 rfl (s_gA dX12_comes_52 lFX12_67 (s_iload dX12_comes_55 (s_iald dX12_comes_57 (s_istore dX12_comes_58 (s_iload dX12_comes_60 (s_bipush dX12_comes_62 (by decide) (s_icne dX12_comes_64 (by decide) (s_iload dX12_comes_94 (s_cS dX12_comes_96 lMX12_200 bSX12_isLetter (CtX12_isLetter hX n) (Nat.le_of_ble_eq_true rfl) (s_ifeq dX12_comes_99 (by decide) (s_iinc dX12_comes_127 (by decide) (s_aload_n dX12_comes_130 rfl (okX12_comes_131 hX n h33))) (s_aload_n dX12_comes_102 rfl (s_gA dX12_comes_103 lFX12_79 (okX12_comes_106 hX n h33)))) (Nat.le_of_ble_eq_true rfl) (Nat.le_of_ble_eq_true rfl))) (s_aload_n dX12_comes_67 rfl (s_gA dX12_comes_68 lFX12_79 (s_iload_n dX12_comes_71 rfl (s_iconst dX12_comes_72 (by decide) (s_isub dX12_comes_73 (okX12_comes_74 hX n h33))))))))))))))))))))))))
def kX12_comes_0 (n : Nat) : mK := i_ldA 0 (i_ldI 2 (i_pI 12 37 (i_ldA 0 (i_ldA 0 (i_cV 12 0 (FX12_those n) (i_cS 1 (FX12_bitsOf n) (i_pI 12 38 (i_cst (.int (0)) (i_stI 3 (i_ldA 0 (i_gA 12 23 (i_cst (.int (2)) (i_ldA 0 (i_gI 12 31 (i_bin (fun x y => x * y) (i_ldI 1 (i_bin (fun x y => x + y) (i_al 0 (i_stI 4 (mit (kX12_comes_33 n ) n))))))))))))))))))))
set_option maxRecDepth 20000 in
theorem okX12_comes_0 {E : mE} {X : State → Heap → Prop} {l : Launch} (hX : mXok E X) (n : Nat) : Sd E X l yX12_comes cX12_comes 6 (some .int) 3 0 0 0 0 0 (kX12_comes_0 n) := s_aload_n dX12_comes_0 rfl (s_iload_n dX12_comes_1 rfl (s_pI dX12_comes_2 lFX12_322 (s_aload_n dX12_comes_5 rfl (s_aload_n dX12_comes_6 rfl (s_cV dX12_comes_7 lMX12_328 bVX12_those rfl (CtX12_those hX n) (Nat.le_of_ble_eq_true rfl) (s_cS dX12_comes_10 lMX12_331 bSX12_bitsOf (CtX12_bitsOf hX n) (Nat.le_of_ble_eq_true rfl) (s_pI dX12_comes_13 lFX12_325 (s_iconst dX12_comes_16 (by decide) (s_istore_n dX12_comes_17 rfl (s_aload_n dX12_comes_18 rfl (s_gA dX12_comes_19 lFX12_57 (s_iconst dX12_comes_22 (by decide) (s_aload_n dX12_comes_23 rfl (s_gI dX12_comes_24 lFX12_255 (by decide) (s_imul dX12_comes_27 (s_iload_n dX12_comes_28 rfl (s_iadd dX12_comes_29 (s_iald dX12_comes_30 (s_istore dX12_comes_31 (s_mit (fun _ hk => okX12_comes_33 hX n hk) n)))))))))))))) (Nat.le_of_ble_eq_true rfl) (Nat.le_of_ble_eq_true rfl)) (Nat.le_of_ble_eq_true rfl) (Nat.le_of_ble_eq_true rfl))))))
def FX12_comes (n : Nat) : List Value → mM → Option mR := mfn 6 (kX12_comes_0 n)
theorem CtX12_comes {E : mE} {X : State → Heap → Prop} {l : Launch} (hX : mXok E X) (n : Nat) : Ct E X l yX12_comes cX12_comes 6 (some .int) 3 0 0 (FX12_comes n) := Ct_of (by decide) hX (okX12_comes_0 hX n)
theorem dX12_freeNow_0 : decode cX12_freeNow 0 = .ok (.iconst 0, 1) := by decide +kernel
theorem dX12_freeNow_1 : decode cX12_freeNow 1 = .ok (.istore_n 1, 1) := by decide +kernel
theorem dX12_freeNow_2 : decode cX12_freeNow 2 = .ok (.iconst 0, 1) := by decide +kernel
theorem dX12_freeNow_3 : decode cX12_freeNow 3 = .ok (.istore_n 2, 1) := by decide +kernel
theorem dX12_freeNow_4 : decode cX12_freeNow 4 = .ok (.iload_n 2, 1) := by decide +kernel
theorem dX12_freeNow_5 : decode cX12_freeNow 5 = .ok (.aload_n 0, 1) := by decide +kernel
theorem dX12_freeNow_6 : decode cX12_freeNow 6 = .ok (.invokevirtual 341, 3) := by decide +kernel
theorem dX12_freeNow_9 : decode cX12_freeNow 9 = .ok (.if_icmp .ge 34, 3) := by decide +kernel
theorem dX12_freeNow_12 : decode cX12_freeNow 12 = .ok (.aload_n 0, 1) := by decide +kernel
theorem dX12_freeNow_13 : decode cX12_freeNow 13 = .ok (.getfield 82, 3) := by decide +kernel
theorem dX12_freeNow_16 : decode cX12_freeNow 16 = .ok (.iconst 0, 1) := by decide +kernel
theorem dX12_freeNow_17 : decode cX12_freeNow 17 = .ok (.iload_n 2, 1) := by decide +kernel
theorem dX12_freeNow_18 : decode cX12_freeNow 18 = .ok (.iadd, 1) := by decide +kernel
theorem dX12_freeNow_19 : decode cX12_freeNow 19 = .ok (.iaload, 1) := by decide +kernel
theorem dX12_freeNow_20 : decode cX12_freeNow 20 = .ok (.ifCond .lt 17, 3) := by decide +kernel
theorem dX12_freeNow_23 : decode cX12_freeNow 23 = .ok (.aload_n 0, 1) := by decide +kernel
theorem dX12_freeNow_24 : decode cX12_freeNow 24 = .ok (.iload_n 2, 1) := by decide +kernel
theorem dX12_freeNow_25 : decode cX12_freeNow 25 = .ok (.invokevirtual 372, 3) := by decide +kernel
theorem dX12_freeNow_28 : decode cX12_freeNow 28 = .ok (.ifCond .ne 9, 3) := by decide +kernel
theorem dX12_freeNow_31 : decode cX12_freeNow 31 = .ok (.iload_n 1, 1) := by decide +kernel
theorem dX12_freeNow_32 : decode cX12_freeNow 32 = .ok (.iconst 1, 1) := by decide +kernel
theorem dX12_freeNow_33 : decode cX12_freeNow 33 = .ok (.iload_n 2, 1) := by decide +kernel
theorem dX12_freeNow_34 : decode cX12_freeNow 34 = .ok (.ishl, 1) := by decide +kernel
theorem dX12_freeNow_35 : decode cX12_freeNow 35 = .ok (.ior, 1) := by decide +kernel
theorem dX12_freeNow_36 : decode cX12_freeNow 36 = .ok (.istore_n 1, 1) := by decide +kernel
theorem dX12_freeNow_37 : decode cX12_freeNow 37 = .ok (.iinc 2 1, 3) := by decide +kernel
theorem dX12_freeNow_40 : decode cX12_freeNow 40 = .ok (.goto (-36), 3) := by decide +kernel
theorem dX12_freeNow_43 : decode cX12_freeNow 43 = .ok (.iload_n 1, 1) := by decide +kernel
theorem dX12_freeNow_44 : decode cX12_freeNow 44 = .ok (.ireturn, 1) := by decide +kernel
def kX12_freeNow_37 (n : Nat) (r4 : mK) : mK := i_inc 2 (1) (r4)
set_option maxRecDepth 20000 in
theorem okX12_freeNow_37 {E : mE} {X : State → Heap → Prop} {l : Launch} (hX : mXok E X) (n : Nat) {r4 : mK} (h4 : Sd E X l yX12_freeNow cX12_freeNow 3 (some .int) 3 0 0 0 0 4 r4) : Sd E X l yX12_freeNow cX12_freeNow 3 (some .int) 3 0 0 0 0 37 (kX12_freeNow_37 n r4) := s_iinc dX12_freeNow_37 (by decide) (s_goto dX12_freeNow_40 (by decide) h4)
def kX12_freeNow_4 (n : Nat) (r4 : mK) : mK := i_ldI 2 (i_ldA 0 (i_cV 12 0 (FX12_many n) (i_c2 (fun x y => decide (y ≤ x)) (i_ldI 1 (i_rI)) (i_ldA 0 (i_gA 12 39 (i_cst (.int (0)) (i_ldI 2 (i_bin (fun x y => x + y) (i_al 0 (i_c0 (fun x => decide (x < 0)) (kX12_freeNow_37 n r4) (i_ldA 0 (i_ldI 2 (i_cV 12 1 (FX12_barsOf n) (i_c0 (fun x => decide (¬ x = 0)) (kX12_freeNow_37 n r4) (i_ldI 1 (i_cst (.int (1)) (i_ldI 2 (i_bin (fun x y => x <<< (y &&& 31)) (i_bin (fun x y => x ||| y) (i_stI 1 (kX12_freeNow_37 n r4)))))))))))))))))))))
set_option maxRecDepth 20000 in
theorem okX12_freeNow_4 {E : mE} {X : State → Heap → Prop} {l : Launch} (hX : mXok E X) (n : Nat) {r4 : mK} (h4 : Sd E X l yX12_freeNow cX12_freeNow 3 (some .int) 3 0 0 0 0 4 r4) : Sd E X l yX12_freeNow cX12_freeNow 3 (some .int) 3 0 0 0 0 4 (kX12_freeNow_4 n r4) := s_iload_n dX12_freeNow_4 rfl (s_aload_n dX12_freeNow_5 rfl (s_cV dX12_freeNow_6 lMX12_341 bVX12_many rfl (CtX12_many hX n) (Nat.le_of_ble_eq_true rfl) (s_icge dX12_freeNow_9 (by decide) (s_iload_n dX12_freeNow_43 rfl (s_rI dX12_freeNow_44 (Nat.le_of_ble_eq_true rfl) (Nat.le_of_ble_eq_true rfl))) (s_aload_n dX12_freeNow_12 rfl (s_gA dX12_freeNow_13 lFX12_82 (s_iconst dX12_freeNow_16 (by decide) (s_iload_n dX12_freeNow_17 rfl (s_iadd dX12_freeNow_18 (s_iald dX12_freeNow_19 (s_iflt dX12_freeNow_20 (by decide) (okX12_freeNow_37 hX n h4) (s_aload_n dX12_freeNow_23 rfl (s_iload_n dX12_freeNow_24 rfl (s_cV dX12_freeNow_25 lMX12_372 bVX12_barsOf rfl (CtX12_barsOf hX n) (Nat.le_of_ble_eq_true rfl) (s_ifne dX12_freeNow_28 (by decide) (okX12_freeNow_37 hX n h4) (s_iload_n dX12_freeNow_31 rfl (s_iconst dX12_freeNow_32 (by decide) (s_iload_n dX12_freeNow_33 rfl (s_ishl dX12_freeNow_34 (s_ior dX12_freeNow_35 (s_istore_n dX12_freeNow_36 rfl (okX12_freeNow_37 hX n h4)))))))) (Nat.le_of_ble_eq_true rfl) (Nat.le_of_ble_eq_true rfl)))))))))))) (Nat.le_of_ble_eq_true rfl) (Nat.le_of_ble_eq_true rfl)))
def kX12_freeNow_0 (n : Nat) : mK := i_cst (.int (0)) (i_stI 1 (i_cst (.int (0)) (i_stI 2 (mit (kX12_freeNow_4 n ) n))))
set_option maxRecDepth 20000 in
theorem okX12_freeNow_0 {E : mE} {X : State → Heap → Prop} {l : Launch} (hX : mXok E X) (n : Nat) : Sd E X l yX12_freeNow cX12_freeNow 3 (some .int) 3 0 0 0 0 0 (kX12_freeNow_0 n) := s_iconst dX12_freeNow_0 (by decide) (s_istore_n dX12_freeNow_1 rfl (s_iconst dX12_freeNow_2 (by decide) (s_istore_n dX12_freeNow_3 rfl (s_mit (fun _ hk => okX12_freeNow_4 hX n hk) n))))
def FX12_freeNow (n : Nat) : List Value → mM → Option mR := mfn 3 (kX12_freeNow_0 n)
theorem CtX12_freeNow {E : mE} {X : State → Heap → Prop} {l : Launch} (hX : mXok E X) (n : Nat) : Ct E X l yX12_freeNow cX12_freeNow 3 (some .int) 3 0 0 (FX12_freeNow n) := Ct_of (by decide) hX (okX12_freeNow_0 hX n)
theorem dX12_fullest_0 : decode cX12_fullest 0 = .ok (.iconst 0, 1) := by decide +kernel
theorem dX12_fullest_1 : decode cX12_fullest 1 = .ok (.istore_n 1, 1) := by decide +kernel
theorem dX12_fullest_2 : decode cX12_fullest 2 = .ok (.iconst 1, 1) := by decide +kernel
theorem dX12_fullest_3 : decode cX12_fullest 3 = .ok (.istore_n 2, 1) := by decide +kernel
theorem dX12_fullest_4 : decode cX12_fullest 4 = .ok (.iload_n 2, 1) := by decide +kernel
theorem dX12_fullest_5 : decode cX12_fullest 5 = .ok (.aload_n 0, 1) := by decide +kernel
theorem dX12_fullest_6 : decode cX12_fullest 6 = .ok (.getfield 24, 3) := by decide +kernel
theorem dX12_fullest_9 : decode cX12_fullest 9 = .ok (.aload_n 0, 1) := by decide +kernel
theorem dX12_fullest_10 : decode cX12_fullest 10 = .ok (.getfield 255, 3) := by decide +kernel
theorem dX12_fullest_13 : decode cX12_fullest 13 = .ok (.iaload, 1) := by decide +kernel
theorem dX12_fullest_14 : decode cX12_fullest 14 = .ok (.if_icmp .ge 24, 3) := by decide +kernel
theorem dX12_fullest_17 : decode cX12_fullest 17 = .ok (.aload_n 0, 1) := by decide +kernel
theorem dX12_fullest_18 : decode cX12_fullest 18 = .ok (.iload_n 2, 1) := by decide +kernel
theorem dX12_fullest_19 : decode cX12_fullest 19 = .ok (.invokevirtual 409, 3) := by decide +kernel
theorem dX12_fullest_22 : decode cX12_fullest 22 = .ok (.aload_n 0, 1) := by decide +kernel
theorem dX12_fullest_23 : decode cX12_fullest 23 = .ok (.iload_n 1, 1) := by decide +kernel
theorem dX12_fullest_24 : decode cX12_fullest 24 = .ok (.invokevirtual 409, 3) := by decide +kernel
theorem dX12_fullest_27 : decode cX12_fullest 27 = .ok (.if_icmp .le 5, 3) := by decide +kernel
theorem dX12_fullest_30 : decode cX12_fullest 30 = .ok (.iload_n 2, 1) := by decide +kernel
theorem dX12_fullest_31 : decode cX12_fullest 31 = .ok (.istore_n 1, 1) := by decide +kernel
theorem dX12_fullest_32 : decode cX12_fullest 32 = .ok (.iinc 2 1, 3) := by decide +kernel
theorem dX12_fullest_35 : decode cX12_fullest 35 = .ok (.goto (-31), 3) := by decide +kernel
theorem dX12_fullest_38 : decode cX12_fullest 38 = .ok (.iload_n 1, 1) := by decide +kernel
theorem dX12_fullest_39 : decode cX12_fullest 39 = .ok (.ireturn, 1) := by decide +kernel
def kX12_fullest_32 (n : Nat) (r4 : mK) : mK := i_inc 2 (1) (r4)
set_option maxRecDepth 20000 in
theorem okX12_fullest_32 {E : mE} {X : State → Heap → Prop} {l : Launch} (hX : mXok E X) (n : Nat) {r4 : mK} (h4 : Sd E X l yX12_fullest cX12_fullest 3 (some .int) 3 0 0 0 0 4 r4) : Sd E X l yX12_fullest cX12_fullest 3 (some .int) 3 0 0 0 0 32 (kX12_fullest_32 n r4) := s_iinc dX12_fullest_32 (by decide) (s_goto dX12_fullest_35 (by decide) h4)
def kX12_fullest_4 (n : Nat) (r4 : mK) : mK := i_ldI 2 (i_ldA 0 (i_gA 12 12 (i_ldA 0 (i_gI 12 31 (i_al 0 (i_c2 (fun x y => decide (y ≤ x)) (i_ldI 1 (i_rI)) (i_ldA 0 (i_ldI 2 (i_cV 12 1 (FX12_inRow n) (i_ldA 0 (i_ldI 1 (i_cV 12 1 (FX12_inRow n) (i_c2 (fun x y => decide (x ≤ y)) (kX12_fullest_32 n r4) (i_ldI 2 (i_stI 1 (kX12_fullest_32 n r4))))))))))))))))
set_option maxRecDepth 20000 in
theorem okX12_fullest_4 {E : mE} {X : State → Heap → Prop} {l : Launch} (hX : mXok E X) (n : Nat) {r4 : mK} (h4 : Sd E X l yX12_fullest cX12_fullest 3 (some .int) 3 0 0 0 0 4 r4) : Sd E X l yX12_fullest cX12_fullest 3 (some .int) 3 0 0 0 0 4 (kX12_fullest_4 n r4) := s_iload_n dX12_fullest_4 rfl (s_aload_n dX12_fullest_5 rfl (s_gA dX12_fullest_6 lFX12_24 (s_aload_n dX12_fullest_9 rfl (s_gI dX12_fullest_10 lFX12_255 (by decide) (s_iald dX12_fullest_13 (s_icge dX12_fullest_14 (by decide) (s_iload_n dX12_fullest_38 rfl (s_rI dX12_fullest_39 (Nat.le_of_ble_eq_true rfl) (Nat.le_of_ble_eq_true rfl))) (s_aload_n dX12_fullest_17 rfl (s_iload_n dX12_fullest_18 rfl (s_cV dX12_fullest_19 lMX12_409 bVX12_inRow rfl (CtX12_inRow hX n) (Nat.le_of_ble_eq_true rfl) (s_aload_n dX12_fullest_22 rfl (s_iload_n dX12_fullest_23 rfl (s_cV dX12_fullest_24 lMX12_409 bVX12_inRow rfl (CtX12_inRow hX n) (Nat.le_of_ble_eq_true rfl) (s_icle dX12_fullest_27 (by decide) (okX12_fullest_32 hX n h4) (s_iload_n dX12_fullest_30 rfl (s_istore_n dX12_fullest_31 rfl (okX12_fullest_32 hX n h4)))) (Nat.le_of_ble_eq_true rfl) (Nat.le_of_ble_eq_true rfl)))) (Nat.le_of_ble_eq_true rfl) (Nat.le_of_ble_eq_true rfl))))))))))
def kX12_fullest_0 (n : Nat) : mK := i_cst (.int (0)) (i_stI 1 (i_cst (.int (1)) (i_stI 2 (mit (kX12_fullest_4 n ) n))))
set_option maxRecDepth 20000 in
theorem okX12_fullest_0 {E : mE} {X : State → Heap → Prop} {l : Launch} (hX : mXok E X) (n : Nat) : Sd E X l yX12_fullest cX12_fullest 3 (some .int) 3 0 0 0 0 0 (kX12_fullest_0 n) := s_iconst dX12_fullest_0 (by decide) (s_istore_n dX12_fullest_1 rfl (s_iconst dX12_fullest_2 (by decide) (s_istore_n dX12_fullest_3 rfl (s_mit (fun _ hk => okX12_fullest_4 hX n hk) n))))
def FX12_fullest (n : Nat) : List Value → mM → Option mR := mfn 3 (kX12_fullest_0 n)
theorem CtX12_fullest {E : mE} {X : State → Heap → Prop} {l : Launch} (hX : mXok E X) (n : Nat) : Ct E X l yX12_fullest cX12_fullest 3 (some .int) 3 0 0 (FX12_fullest n) := Ct_of (by decide) hX (okX12_fullest_0 hX n)
theorem dX12_goOff_0 : decode cX12_goOff 0 = .ok (.aload_n 0, 1) := by decide +kernel
theorem dX12_goOff_1 : decode cX12_goOff 1 = .ok (.invokevirtual 412, 3) := by decide +kernel
theorem dX12_goOff_4 : decode cX12_goOff 4 = .ok (.aload_n 0, 1) := by decide +kernel
theorem dX12_goOff_5 : decode cX12_goOff 5 = .ok (.getfield 82, 3) := by decide +kernel
theorem dX12_goOff_8 : decode cX12_goOff 8 = .ok (.iconst 0, 1) := by decide +kernel
theorem dX12_goOff_9 : decode cX12_goOff 9 = .ok (.iload_n 1, 1) := by decide +kernel
theorem dX12_goOff_10 : decode cX12_goOff 10 = .ok (.iadd, 1) := by decide +kernel
theorem dX12_goOff_11 : decode cX12_goOff 11 = .ok (.iconst (-1), 1) := by decide +kernel
theorem dX12_goOff_12 : decode cX12_goOff 12 = .ok (.iastore, 1) := by decide +kernel
theorem dX12_goOff_13 : decode cX12_goOff 13 = .ok (.aload_n 0, 1) := by decide +kernel
theorem dX12_goOff_14 : decode cX12_goOff 14 = .ok (.invokevirtual 328, 3) := by decide +kernel
theorem dX12_goOff_17 : decode cX12_goOff 17 = .ok (.invokestatic 331, 3) := by decide +kernel
theorem dX12_goOff_20 : decode cX12_goOff 20 = .ok (.ireturn, 1) := by decide +kernel
def kX12_goOff_0 (n : Nat) : mK := i_ldA 0 (i_cV 12 0 (FX12_keepAct n) (i_ldA 0 (i_gA 12 39 (i_cst (.int (0)) (i_ldI 1 (i_bin (fun x y => x + y) (i_cst (.int (-1)) (i_as 0 (i_ldA 0 (i_cV 12 0 (FX12_those n) (i_cS 1 (FX12_bitsOf n) (i_rI))))))))))))
set_option maxRecDepth 20000 in
theorem okX12_goOff_0 {E : mE} {X : State → Heap → Prop} {l : Launch} (hX : mXok E X) (n : Nat) : Sd E X l yX12_goOff cX12_goOff 2 (some .int) 3 0 0 0 0 0 (kX12_goOff_0 n) := s_aload_n dX12_goOff_0 rfl (s_cV dX12_goOff_1 lMX12_412 bVX12_keepAct rfl (CtX12_keepAct hX n) (Nat.le_of_ble_eq_true rfl) (s_aload_n dX12_goOff_4 rfl (s_gA dX12_goOff_5 lFX12_82 (s_iconst dX12_goOff_8 (by decide) (s_iload_n dX12_goOff_9 rfl (s_iadd dX12_goOff_10 (s_iconst dX12_goOff_11 (by decide) (s_iast dX12_goOff_12 (s_aload_n dX12_goOff_13 rfl (s_cV dX12_goOff_14 lMX12_328 bVX12_those rfl (CtX12_those hX n) (Nat.le_of_ble_eq_true rfl) (s_cS dX12_goOff_17 lMX12_331 bSX12_bitsOf (CtX12_bitsOf hX n) (Nat.le_of_ble_eq_true rfl) (s_rI dX12_goOff_20 (Nat.le_of_ble_eq_true rfl) (Nat.le_of_ble_eq_true rfl)) (Nat.le_of_ble_eq_true rfl) (Nat.le_of_ble_eq_true rfl)) (Nat.le_of_ble_eq_true rfl) (Nat.le_of_ble_eq_true rfl)))))))))) (Nat.le_of_ble_eq_true rfl) (Nat.le_of_ble_eq_true rfl))
def FX12_goOff (n : Nat) : List Value → mM → Option mR := mfn 2 (kX12_goOff_0 n)
theorem CtX12_goOff {E : mE} {X : State → Heap → Prop} {l : Launch} (hX : mXok E X) (n : Nat) : Ct E X l yX12_goOff cX12_goOff 2 (some .int) 3 0 0 (FX12_goOff n) := Ct_of (by decide) hX (okX12_goOff_0 hX n)
theorem dX12_isHere_0 : decode cX12_isHere 0 = .ok (.aload_n 0, 1) := by decide +kernel
theorem dX12_isHere_1 : decode cX12_isHere 1 = .ok (.iload_n 1, 1) := by decide +kernel
theorem dX12_isHere_2 : decode cX12_isHere 2 = .ok (.invokevirtual 348, 3) := by decide +kernel
theorem dX12_isHere_5 : decode cX12_isHere 5 = .ok (.ifCond .eq 18, 3) := by decide +kernel
theorem dX12_isHere_8 : decode cX12_isHere 8 = .ok (.aload_n 0, 1) := by decide +kernel
theorem dX12_isHere_9 : decode cX12_isHere 9 = .ok (.getfield 82, 3) := by decide +kernel
theorem dX12_isHere_12 : decode cX12_isHere 12 = .ok (.iconst 0, 1) := by decide +kernel
theorem dX12_isHere_13 : decode cX12_isHere 13 = .ok (.iload_n 1, 1) := by decide +kernel
theorem dX12_isHere_14 : decode cX12_isHere 14 = .ok (.iadd, 1) := by decide +kernel
theorem dX12_isHere_15 : decode cX12_isHere 15 = .ok (.iaload, 1) := by decide +kernel
theorem dX12_isHere_16 : decode cX12_isHere 16 = .ok (.ifCond .lt 7, 3) := by decide +kernel
theorem dX12_isHere_19 : decode cX12_isHere 19 = .ok (.iconst 1, 1) := by decide +kernel
theorem dX12_isHere_20 : decode cX12_isHere 20 = .ok (.goto 4, 3) := by decide +kernel
theorem dX12_isHere_23 : decode cX12_isHere 23 = .ok (.iconst 0, 1) := by decide +kernel
theorem dX12_isHere_24 : decode cX12_isHere 24 = .ok (.ireturn, 1) := by decide +kernel
def kX12_isHere_24 (n : Nat) : mK := i_rZ
set_option maxRecDepth 20000 in
theorem okX12_isHere_24 {E : mE} {X : State → Heap → Prop} {l : Launch} (hX : mXok E X) (n : Nat) : Sd E X l yX12_isHere cX12_isHere 2 (some .boolean) 3 0 0 0 0 24 (kX12_isHere_24 n) := s_rZ dX12_isHere_24 (Nat.le_of_ble_eq_true rfl) (Nat.le_of_ble_eq_true rfl)
def kX12_isHere_23 (n : Nat) : mK := i_cst (.int (0)) (kX12_isHere_24 n)
set_option maxRecDepth 20000 in
theorem okX12_isHere_23 {E : mE} {X : State → Heap → Prop} {l : Launch} (hX : mXok E X) (n : Nat) : Sd E X l yX12_isHere cX12_isHere 2 (some .boolean) 3 0 0 0 0 23 (kX12_isHere_23 n) := s_iconst dX12_isHere_23 (by decide) (okX12_isHere_24 hX n)
def kX12_isHere_0 (n : Nat) : mK := i_ldA 0 (i_ldI 1 (i_cV 12 1 (FX12_isCar n) (i_c0 (fun x => decide (x = 0)) (kX12_isHere_23 n) (i_ldA 0 (i_gA 12 39 (i_cst (.int (0)) (i_ldI 1 (i_bin (fun x y => x + y) (i_al 0 (i_c0 (fun x => decide (x < 0)) (kX12_isHere_23 n) (i_cst (.int (1)) ((kX12_isHere_24 n)))))))))))))
set_option maxRecDepth 20000 in
theorem okX12_isHere_0 {E : mE} {X : State → Heap → Prop} {l : Launch} (hX : mXok E X) (n : Nat) : Sd E X l yX12_isHere cX12_isHere 2 (some .boolean) 3 0 0 0 0 0 (kX12_isHere_0 n) := s_aload_n dX12_isHere_0 rfl (s_iload_n dX12_isHere_1 rfl (s_cV dX12_isHere_2 lMX12_348 bVX12_isCar rfl (CtX12_isCar hX n) (Nat.le_of_ble_eq_true rfl) (s_ifeq dX12_isHere_5 (by decide) (okX12_isHere_23 hX n) (s_aload_n dX12_isHere_8 rfl (s_gA dX12_isHere_9 lFX12_82 (s_iconst dX12_isHere_12 (by decide) (s_iload_n dX12_isHere_13 rfl (s_iadd dX12_isHere_14 (s_iald dX12_isHere_15 (s_iflt dX12_isHere_16 (by decide) (okX12_isHere_23 hX n) (s_iconst dX12_isHere_19 (by decide) (s_goto dX12_isHere_20 (by decide) (okX12_isHere_24 hX n))))))))))) (Nat.le_of_ble_eq_true rfl) (Nat.le_of_ble_eq_true rfl)))
def FX12_isHere (n : Nat) : List Value → mM → Option mR := mfn 2 (kX12_isHere_0 n)
theorem CtX12_isHere {E : mE} {X : State → Heap → Prop} {l : Launch} (hX : mXok E X) (n : Nat) : Ct E X l yX12_isHere cX12_isHere 2 (some .boolean) 3 0 0 (FX12_isHere n) := Ct_of (by decide) hX (okX12_isHere_0 hX n)
theorem dX12_layBars_0 : decode cX12_layBars 0 = .ok (.iconst 0, 1) := by decide +kernel
theorem dX12_layBars_1 : decode cX12_layBars 1 = .ok (.istore_n 1, 1) := by decide +kernel
theorem dX12_layBars_2 : decode cX12_layBars 2 = .ok (.iload_n 1, 1) := by decide +kernel
theorem dX12_layBars_3 : decode cX12_layBars 3 = .ok (.aload_n 0, 1) := by decide +kernel
theorem dX12_layBars_4 : decode cX12_layBars 4 = .ok (.invokevirtual 341, 3) := by decide +kernel
theorem dX12_layBars_7 : decode cX12_layBars 7 = .ok (.if_icmp .ge 20, 3) := by decide +kernel
theorem dX12_layBars_10 : decode cX12_layBars 10 = .ok (.aload_n 0, 1) := by decide +kernel
theorem dX12_layBars_11 : decode cX12_layBars 11 = .ok (.getfield 100, 3) := by decide +kernel
theorem dX12_layBars_14 : decode cX12_layBars 14 = .ok (.iload_n 1, 1) := by decide +kernel
theorem dX12_layBars_15 : decode cX12_layBars 15 = .ok (.aload_n 0, 1) := by decide +kernel
theorem dX12_layBars_16 : decode cX12_layBars 16 = .ok (.iload_n 1, 1) := by decide +kernel
theorem dX12_layBars_17 : decode cX12_layBars 17 = .ok (.invokevirtual 372, 3) := by decide +kernel
theorem dX12_layBars_20 : decode cX12_layBars 20 = .ok (.iastore, 1) := by decide +kernel
theorem dX12_layBars_21 : decode cX12_layBars 21 = .ok (.iinc 1 1, 3) := by decide +kernel
theorem dX12_layBars_24 : decode cX12_layBars 24 = .ok (.goto (-22), 3) := by decide +kernel
theorem dX12_layBars_27 : decode cX12_layBars 27 = .ok (.return_, 1) := by decide +kernel
def kX12_layBars_2 (n : Nat) (r2 : mK) : mK := i_ldI 1 (i_ldA 0 (i_cV 12 0 (FX12_many n) (i_c2 (fun x y => decide (y ≤ x)) (i_rV) (i_ldA 0 (i_gA 12 47 (i_ldI 1 (i_ldA 0 (i_ldI 1 (i_cV 12 1 (FX12_barsOf n) (i_as 0 (i_inc 1 (1) (r2))))))))))))
set_option maxRecDepth 20000 in
theorem okX12_layBars_2 {E : mE} {X : State → Heap → Prop} {l : Launch} (hX : mXok E X) (n : Nat) {r2 : mK} (h2 : Sd E X l yX12_layBars cX12_layBars 2 none 3 0 0 0 0 2 r2) : Sd E X l yX12_layBars cX12_layBars 2 none 3 0 0 0 0 2 (kX12_layBars_2 n r2) := s_iload_n dX12_layBars_2 rfl (s_aload_n dX12_layBars_3 rfl (s_cV dX12_layBars_4 lMX12_341 bVX12_many rfl (CtX12_many hX n) (Nat.le_of_ble_eq_true rfl) (s_icge dX12_layBars_7 (by decide) (s_rV dX12_layBars_27 (Nat.le_of_ble_eq_true rfl) (Nat.le_of_ble_eq_true rfl)) (s_aload_n dX12_layBars_10 rfl (s_gA dX12_layBars_11 lFX12_100 (s_iload_n dX12_layBars_14 rfl (s_aload_n dX12_layBars_15 rfl (s_iload_n dX12_layBars_16 rfl (s_cV dX12_layBars_17 lMX12_372 bVX12_barsOf rfl (CtX12_barsOf hX n) (Nat.le_of_ble_eq_true rfl) (s_iast dX12_layBars_20 (s_iinc dX12_layBars_21 (by decide) (s_goto dX12_layBars_24 (by decide) h2))) (Nat.le_of_ble_eq_true rfl) (Nat.le_of_ble_eq_true rfl)))))))) (Nat.le_of_ble_eq_true rfl) (Nat.le_of_ble_eq_true rfl)))
def kX12_layBars_0 (n : Nat) : mK := i_cst (.int (0)) (i_stI 1 (mit (kX12_layBars_2 n ) n))
set_option maxRecDepth 20000 in
theorem okX12_layBars_0 {E : mE} {X : State → Heap → Prop} {l : Launch} (hX : mXok E X) (n : Nat) : Sd E X l yX12_layBars cX12_layBars 2 none 3 0 0 0 0 0 (kX12_layBars_0 n) := s_iconst dX12_layBars_0 (by decide) (s_istore_n dX12_layBars_1 rfl (s_mit (fun _ hk => okX12_layBars_2 hX n hk) n))
def FX12_layBars (n : Nat) : List Value → mM → Option mR := mfn 2 (kX12_layBars_0 n)
theorem CtX12_layBars {E : mE} {X : State → Heap → Prop} {l : Launch} (hX : mXok E X) (n : Nat) : Ct E X l yX12_layBars cX12_layBars 2 none 3 0 0 (FX12_layBars n) := Ct_of (by decide) hX (okX12_layBars_0 hX n)
theorem dX12_layFar_0 : decode cX12_layFar 0 = .ok (.iconst 0, 1) := by decide +kernel
theorem dX12_layFar_1 : decode cX12_layFar 1 = .ok (.istore_n 1, 1) := by decide +kernel
theorem dX12_layFar_2 : decode cX12_layFar 2 = .ok (.iload_n 1, 1) := by decide +kernel
theorem dX12_layFar_3 : decode cX12_layFar 3 = .ok (.aload_n 0, 1) := by decide +kernel
theorem dX12_layFar_4 : decode cX12_layFar 4 = .ok (.invokevirtual 351, 3) := by decide +kernel
theorem dX12_layFar_7 : decode cX12_layFar 7 = .ok (.if_icmp .ge 92, 3) := by decide +kernel
theorem dX12_layFar_10 : decode cX12_layFar 10 = .ok (.iconst 0, 1) := by decide +kernel
theorem dX12_layFar_11 : decode cX12_layFar 11 = .ok (.istore_n 2, 1) := by decide +kernel
theorem dX12_layFar_12 : decode cX12_layFar 12 = .ok (.iload_n 2, 1) := by decide +kernel
theorem dX12_layFar_13 : decode cX12_layFar 13 = .ok (.aload_n 0, 1) := by decide +kernel
theorem dX12_layFar_14 : decode cX12_layFar 14 = .ok (.invokevirtual 351, 3) := by decide +kernel
theorem dX12_layFar_17 : decode cX12_layFar 17 = .ok (.if_icmp .ge 76, 3) := by decide +kernel
theorem dX12_layFar_20 : decode cX12_layFar 20 = .ok (.aload_n 0, 1) := by decide +kernel
theorem dX12_layFar_21 : decode cX12_layFar 21 = .ok (.getfield 106, 3) := by decide +kernel
theorem dX12_layFar_24 : decode cX12_layFar 24 = .ok (.iload_n 2, 1) := by decide +kernel
theorem dX12_layFar_25 : decode cX12_layFar 25 = .ok (.iaload, 1) := by decide +kernel
theorem dX12_layFar_26 : decode cX12_layFar 26 = .ok (.sipush 1000, 3) := by decide +kernel
theorem dX12_layFar_29 : decode cX12_layFar 29 = .ok (.if_icmp .lt 58, 3) := by decide +kernel
theorem dX12_layFar_32 : decode cX12_layFar 32 = .ok (.aload_n 0, 1) := by decide +kernel
theorem dX12_layFar_33 : decode cX12_layFar 33 = .ok (.iload_n 2, 1) := by decide +kernel
theorem dX12_layFar_34 : decode cX12_layFar 34 = .ok (.invokevirtual 393, 3) := by decide +kernel
theorem dX12_layFar_37 : decode cX12_layFar 37 = .ok (.ifCond .lt 6, 3) := by decide +kernel
theorem dX12_layFar_40 : decode cX12_layFar 40 = .ok (.goto 47, 3) := by decide +kernel
theorem dX12_layFar_43 : decode cX12_layFar 43 = .ok (.iconst 0, 1) := by decide +kernel
theorem dX12_layFar_44 : decode cX12_layFar 44 = .ok (.istore_n 3, 1) := by decide +kernel
theorem dX12_layFar_45 : decode cX12_layFar 45 = .ok (.iload_n 3, 1) := by decide +kernel
theorem dX12_layFar_46 : decode cX12_layFar 46 = .ok (.aload_n 0, 1) := by decide +kernel
theorem dX12_layFar_47 : decode cX12_layFar 47 = .ok (.invokevirtual 351, 3) := by decide +kernel
theorem dX12_layFar_50 : decode cX12_layFar 50 = .ok (.if_icmp .ge 37, 3) := by decide +kernel
theorem dX12_layFar_53 : decode cX12_layFar 53 = .ok (.aload_n 0, 1) := by decide +kernel
theorem dX12_layFar_54 : decode cX12_layFar 54 = .ok (.getfield 106, 3) := by decide +kernel
theorem dX12_layFar_57 : decode cX12_layFar 57 = .ok (.iload_n 3, 1) := by decide +kernel
theorem dX12_layFar_58 : decode cX12_layFar 58 = .ok (.iaload, 1) := by decide +kernel
theorem dX12_layFar_59 : decode cX12_layFar 59 = .ok (.iload_n 1, 1) := by decide +kernel
theorem dX12_layFar_60 : decode cX12_layFar 60 = .ok (.if_icmp .ne 21, 3) := by decide +kernel
theorem dX12_layFar_63 : decode cX12_layFar 63 = .ok (.aload_n 0, 1) := by decide +kernel
theorem dX12_layFar_64 : decode cX12_layFar 64 = .ok (.iload_n 2, 1) := by decide +kernel
theorem dX12_layFar_65 : decode cX12_layFar 65 = .ok (.iload_n 3, 1) := by decide +kernel
theorem dX12_layFar_66 : decode cX12_layFar 66 = .ok (.invokevirtual 460, 3) := by decide +kernel
theorem dX12_layFar_69 : decode cX12_layFar 69 = .ok (.ifCond .eq 12, 3) := by decide +kernel
theorem dX12_layFar_72 : decode cX12_layFar 72 = .ok (.aload_n 0, 1) := by decide +kernel
theorem dX12_layFar_73 : decode cX12_layFar 73 = .ok (.getfield 106, 3) := by decide +kernel
theorem dX12_layFar_76 : decode cX12_layFar 76 = .ok (.iload_n 2, 1) := by decide +kernel
theorem dX12_layFar_77 : decode cX12_layFar 77 = .ok (.iload_n 1, 1) := by decide +kernel
theorem dX12_layFar_78 : decode cX12_layFar 78 = .ok (.iconst 1, 1) := by decide +kernel
theorem dX12_layFar_79 : decode cX12_layFar 79 = .ok (.iadd, 1) := by decide +kernel
theorem dX12_layFar_80 : decode cX12_layFar 80 = .ok (.iastore, 1) := by decide +kernel
theorem dX12_layFar_81 : decode cX12_layFar 81 = .ok (.iinc 3 1, 3) := by decide +kernel
theorem dX12_layFar_84 : decode cX12_layFar 84 = .ok (.goto (-39), 3) := by decide +kernel
theorem dX12_layFar_87 : decode cX12_layFar 87 = .ok (.iinc 2 1, 3) := by decide +kernel
theorem dX12_layFar_90 : decode cX12_layFar 90 = .ok (.goto (-78), 3) := by decide +kernel
theorem dX12_layFar_93 : decode cX12_layFar 93 = .ok (.iinc 1 1, 3) := by decide +kernel
theorem dX12_layFar_96 : decode cX12_layFar 96 = .ok (.goto (-94), 3) := by decide +kernel
theorem dX12_layFar_99 : decode cX12_layFar 99 = .ok (.return_, 1) := by decide +kernel
def kX12_layFar_87 (n : Nat) (r2 : mK) (r12 : mK) : mK := i_inc 2 (1) (r12)
set_option maxRecDepth 20000 in
theorem okX12_layFar_87 {E : mE} {X : State → Heap → Prop} {l : Launch} (hX : mXok E X) (n : Nat) {r2 : mK} (h2 : Sd E X l yX12_layFar cX12_layFar 4 none 3 0 0 0 0 2 r2) {r12 : mK} (h12 : Sd E X l yX12_layFar cX12_layFar 4 none 3 0 0 0 0 12 r12) : Sd E X l yX12_layFar cX12_layFar 4 none 3 0 0 0 0 87 (kX12_layFar_87 n r2 r12) := s_iinc dX12_layFar_87 (by decide) (s_goto dX12_layFar_90 (by decide) h12)
def kX12_layFar_81 (n : Nat) (r2 : mK) (r12 : mK) (r45 : mK) : mK := i_inc 3 (1) (r45)
set_option maxRecDepth 20000 in
theorem okX12_layFar_81 {E : mE} {X : State → Heap → Prop} {l : Launch} (hX : mXok E X) (n : Nat) {r2 : mK} (h2 : Sd E X l yX12_layFar cX12_layFar 4 none 3 0 0 0 0 2 r2) {r12 : mK} (h12 : Sd E X l yX12_layFar cX12_layFar 4 none 3 0 0 0 0 12 r12) {r45 : mK} (h45 : Sd E X l yX12_layFar cX12_layFar 4 none 3 0 0 0 0 45 r45) : Sd E X l yX12_layFar cX12_layFar 4 none 3 0 0 0 0 81 (kX12_layFar_81 n r2 r12 r45) := s_iinc dX12_layFar_81 (by decide) (s_goto dX12_layFar_84 (by decide) h45)
def kX12_layFar_45 (n : Nat) (r2 : mK) (r12 : mK) (r45 : mK) : mK := i_ldI 3 (i_ldA 0 (i_cV 12 0 (FX12_spots n) (i_c2 (fun x y => decide (y ≤ x)) (kX12_layFar_87 n r2 r12) (i_ldA 0 (i_gA 12 50 (i_ldI 3 (i_al 0 (i_ldI 1 (i_c2 (fun x y => decide (¬ x = y)) (kX12_layFar_81 n r2 r12 r45) (i_ldA 0 (i_ldI 2 (i_ldI 3 (i_cV 12 2 (FX12_areBeside n) (i_c0 (fun x => decide (x = 0)) (kX12_layFar_81 n r2 r12 r45) (i_ldA 0 (i_gA 12 50 (i_ldI 2 (i_ldI 1 (i_cst (.int (1)) (i_bin (fun x y => x + y) (i_as 0 (kX12_layFar_81 n r2 r12 r45))))))))))))))))))))))
set_option maxRecDepth 20000 in
theorem okX12_layFar_45 {E : mE} {X : State → Heap → Prop} {l : Launch} (hX : mXok E X) (n : Nat) {r2 : mK} (h2 : Sd E X l yX12_layFar cX12_layFar 4 none 3 0 0 0 0 2 r2) {r12 : mK} (h12 : Sd E X l yX12_layFar cX12_layFar 4 none 3 0 0 0 0 12 r12) {r45 : mK} (h45 : Sd E X l yX12_layFar cX12_layFar 4 none 3 0 0 0 0 45 r45) : Sd E X l yX12_layFar cX12_layFar 4 none 3 0 0 0 0 45 (kX12_layFar_45 n r2 r12 r45) := s_iload_n dX12_layFar_45 rfl (s_aload_n dX12_layFar_46 rfl (s_cV dX12_layFar_47 lMX12_351 bVX12_spots rfl (CtX12_spots hX n) (Nat.le_of_ble_eq_true rfl) (s_icge dX12_layFar_50 (by decide) (okX12_layFar_87 hX n h2 h12) (s_aload_n dX12_layFar_53 rfl (s_gA dX12_layFar_54 lFX12_106 (s_iload_n dX12_layFar_57 rfl (s_iald dX12_layFar_58 (s_iload_n dX12_layFar_59 rfl (s_icne dX12_layFar_60 (by decide) (okX12_layFar_81 hX n h2 h12 h45) (s_aload_n dX12_layFar_63 rfl (s_iload_n dX12_layFar_64 rfl (s_iload_n dX12_layFar_65 rfl (s_cV dX12_layFar_66 lMX12_460 bVX12_areBeside rfl (CtX12_areBeside hX n) (Nat.le_of_ble_eq_true rfl) (s_ifeq dX12_layFar_69 (by decide) (okX12_layFar_81 hX n h2 h12 h45) (s_aload_n dX12_layFar_72 rfl (s_gA dX12_layFar_73 lFX12_106 (s_iload_n dX12_layFar_76 rfl (s_iload_n dX12_layFar_77 rfl (s_iconst dX12_layFar_78 (by decide) (s_iadd dX12_layFar_79 (s_iast dX12_layFar_80 (okX12_layFar_81 hX n h2 h12 h45))))))))) (Nat.le_of_ble_eq_true rfl) (Nat.le_of_ble_eq_true rfl)))))))))))) (Nat.le_of_ble_eq_true rfl) (Nat.le_of_ble_eq_true rfl)))
def kX12_layFar_12 (n : Nat) (r2 : mK) (r12 : mK) : mK := i_ldI 2 (i_ldA 0 (i_cV 12 0 (FX12_spots n) (i_c2 (fun x y => decide (y ≤ x)) (i_inc 1 (1) (r2)) (i_ldA 0 (i_gA 12 50 (i_ldI 2 (i_al 0 (i_cst (.int (1000)) (i_c2 (fun x y => decide (x < y)) (kX12_layFar_87 n r2 r12) (i_ldA 0 (i_ldI 2 (i_cV 12 1 (FX12_whoAt n) (i_c0 (fun x => decide (x < 0)) (i_cst (.int (0)) (i_stI 3 (mit (kX12_layFar_45 n r2 r12) n))) ((kX12_layFar_87 n r2 r12)))))))))))))))
set_option maxRecDepth 20000 in
theorem okX12_layFar_12 {E : mE} {X : State → Heap → Prop} {l : Launch} (hX : mXok E X) (n : Nat) {r2 : mK} (h2 : Sd E X l yX12_layFar cX12_layFar 4 none 3 0 0 0 0 2 r2) {r12 : mK} (h12 : Sd E X l yX12_layFar cX12_layFar 4 none 3 0 0 0 0 12 r12) : Sd E X l yX12_layFar cX12_layFar 4 none 3 0 0 0 0 12 (kX12_layFar_12 n r2 r12) := s_iload_n dX12_layFar_12 rfl (s_aload_n dX12_layFar_13 rfl (s_cV dX12_layFar_14 lMX12_351 bVX12_spots rfl (CtX12_spots hX n) (Nat.le_of_ble_eq_true rfl) (s_icge dX12_layFar_17 (by decide) (s_iinc dX12_layFar_93 (by decide) (s_goto dX12_layFar_96 (by decide) h2)) (s_aload_n dX12_layFar_20 rfl (s_gA dX12_layFar_21 lFX12_106 (s_iload_n dX12_layFar_24 rfl (s_iald dX12_layFar_25 (s_sipush dX12_layFar_26 (by decide) (s_iclt dX12_layFar_29 (by decide) (okX12_layFar_87 hX n h2 h12) (s_aload_n dX12_layFar_32 rfl (s_iload_n dX12_layFar_33 rfl (s_cV dX12_layFar_34 lMX12_393 bVX12_whoAt rfl (CtX12_whoAt hX n) (Nat.le_of_ble_eq_true rfl) (s_iflt dX12_layFar_37 (by decide) (s_iconst dX12_layFar_43 (by decide) (s_istore_n dX12_layFar_44 rfl (s_mit (fun _ hk => okX12_layFar_45 hX n h2 h12 hk) n))) (s_goto dX12_layFar_40 (by decide) (okX12_layFar_87 hX n h2 h12))) (Nat.le_of_ble_eq_true rfl) (Nat.le_of_ble_eq_true rfl))))))))))) (Nat.le_of_ble_eq_true rfl) (Nat.le_of_ble_eq_true rfl)))
def kX12_layFar_2 (n : Nat) (r2 : mK) : mK := i_ldI 1 (i_ldA 0 (i_cV 12 0 (FX12_spots n) (i_c2 (fun x y => decide (y ≤ x)) (i_rV) (i_cst (.int (0)) (i_stI 2 (mit (kX12_layFar_12 n r2) n))))))
set_option maxRecDepth 20000 in
theorem okX12_layFar_2 {E : mE} {X : State → Heap → Prop} {l : Launch} (hX : mXok E X) (n : Nat) {r2 : mK} (h2 : Sd E X l yX12_layFar cX12_layFar 4 none 3 0 0 0 0 2 r2) : Sd E X l yX12_layFar cX12_layFar 4 none 3 0 0 0 0 2 (kX12_layFar_2 n r2) := s_iload_n dX12_layFar_2 rfl (s_aload_n dX12_layFar_3 rfl (s_cV dX12_layFar_4 lMX12_351 bVX12_spots rfl (CtX12_spots hX n) (Nat.le_of_ble_eq_true rfl) (s_icge dX12_layFar_7 (by decide) (s_rV dX12_layFar_99 (Nat.le_of_ble_eq_true rfl) (Nat.le_of_ble_eq_true rfl)) (s_iconst dX12_layFar_10 (by decide) (s_istore_n dX12_layFar_11 rfl (s_mit (fun _ hk => okX12_layFar_12 hX n h2 hk) n)))) (Nat.le_of_ble_eq_true rfl) (Nat.le_of_ble_eq_true rfl)))
def kX12_layFar_0 (n : Nat) : mK := i_cst (.int (0)) (i_stI 1 (mit (kX12_layFar_2 n ) n))
set_option maxRecDepth 20000 in
theorem okX12_layFar_0 {E : mE} {X : State → Heap → Prop} {l : Launch} (hX : mXok E X) (n : Nat) : Sd E X l yX12_layFar cX12_layFar 4 none 3 0 0 0 0 0 (kX12_layFar_0 n) := s_iconst dX12_layFar_0 (by decide) (s_istore_n dX12_layFar_1 rfl (s_mit (fun _ hk => okX12_layFar_2 hX n hk) n))
def FX12_layFar (n : Nat) : List Value → mM → Option mR := mfn 4 (kX12_layFar_0 n)
theorem CtX12_layFar {E : mE} {X : State → Heap → Prop} {l : Launch} (hX : mXok E X) (n : Nat) : Ct E X l yX12_layFar cX12_layFar 4 none 3 0 0 (FX12_layFar n) := Ct_of (by decide) hX (okX12_layFar_0 hX n)
