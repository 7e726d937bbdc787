theorem dX8_softeningAmong_0 : decode cX8_softeningAmong 0 = .ok (.aload_n 0, 1) := by decide +kernel
theorem dX8_softeningAmong_1 : decode cX8_softeningAmong 1 = .ok (.getfield 24, 3) := by decide +kernel
theorem dX8_softeningAmong_4 : decode cX8_softeningAmong 4 = .ok (.aload_n 0, 1) := by decide +kernel
theorem dX8_softeningAmong_5 : decode cX8_softeningAmong 5 = .ok (.getfield 9, 3) := by decide +kernel
theorem dX8_softeningAmong_8 : decode cX8_softeningAmong 8 = .ok (.iload_n 1, 1) := by decide +kernel
theorem dX8_softeningAmong_9 : decode cX8_softeningAmong 9 = .ok (.invokestatic 48, 3) := by decide +kernel
theorem dX8_softeningAmong_12 : decode cX8_softeningAmong 12 = .ok (.invokevirtual 76, 3) := by decide +kernel
theorem dX8_softeningAmong_15 : decode cX8_softeningAmong 15 = .ok (.istore_n 3, 1) := by decide +kernel
theorem dX8_softeningAmong_16 : decode cX8_softeningAmong 16 = .ok (.aload_n 0, 1) := by decide +kernel
theorem dX8_softeningAmong_17 : decode cX8_softeningAmong 17 = .ok (.getfield 24, 3) := by decide +kernel
theorem dX8_softeningAmong_20 : decode cX8_softeningAmong 20 = .ok (.aload_n 0, 1) := by decide +kernel
theorem dX8_softeningAmong_21 : decode cX8_softeningAmong 21 = .ok (.getfield 18, 3) := by decide +kernel
theorem dX8_softeningAmong_24 : decode cX8_softeningAmong 24 = .ok (.iload_n 1, 1) := by decide +kernel
theorem dX8_softeningAmong_25 : decode cX8_softeningAmong 25 = .ok (.invokestatic 48, 3) := by decide +kernel
theorem dX8_softeningAmong_28 : decode cX8_softeningAmong 28 = .ok (.aload_n 0, 1) := by decide +kernel
theorem dX8_softeningAmong_29 : decode cX8_softeningAmong 29 = .ok (.getfield 21, 3) := by decide +kernel
theorem dX8_softeningAmong_32 : decode cX8_softeningAmong 32 = .ok (.iload_n 1, 1) := by decide +kernel
theorem dX8_softeningAmong_33 : decode cX8_softeningAmong 33 = .ok (.invokestatic 48, 3) := by decide +kernel
theorem dX8_softeningAmong_36 : decode cX8_softeningAmong 36 = .ok (.iload_n 2, 1) := by decide +kernel
theorem dX8_softeningAmong_37 : decode cX8_softeningAmong 37 = .ok (.iload_n 3, 1) := by decide +kernel
theorem dX8_softeningAmong_38 : decode cX8_softeningAmong 38 = .ok (.aload_n 0, 1) := by decide +kernel
theorem dX8_softeningAmong_39 : decode cX8_softeningAmong 39 = .ok (.getfield 38, 3) := by decide +kernel
theorem dX8_softeningAmong_42 : decode cX8_softeningAmong 42 = .ok (.invokevirtual 94, 3) := by decide +kernel
theorem dX8_softeningAmong_45 : decode cX8_softeningAmong 45 = .ok (.ireturn, 1) := by decide +kernel
def kX8_softeningAmong_0 (n : Nat) : mK := i_ldA 0 (i_gA 8 0 (i_ldA 0 (i_gA 8 1 (i_ldI 1 (i_cS 2 (FX11_at n) (i_cV 4 1 (FX4_rowOf n) (i_stI 3 (i_ldA 0 (i_gA 8 0 (i_ldA 0 (i_gA 8 3 (i_ldI 1 (i_cS 2 (FX11_at n) (i_ldA 0 (i_gA 8 4 (i_ldI 1 (i_cS 2 (FX11_at n) (i_ldI 2 (i_ldI 3 (i_ldA 0 (i_gI 8 5 (i_cV 4 5 (FX4_softeningBy n) (i_rI)))))))))))))))))))))))
set_option maxRecDepth 20000 in
theorem okX8_softeningAmong_0 {E : mE} {X : State → Heap → Prop} {l : Launch} (hX : mXok E X) (n : Nat) : Sd E X l yX8_softeningAmong cX8_softeningAmong 4 (some .int) 4 0 0 0 0 0 (kX8_softeningAmong_0 n) := s_aload_n dX8_softeningAmong_0 rfl (s_gA dX8_softeningAmong_1 lFX8_24 (s_aload_n dX8_softeningAmong_4 rfl (s_gA dX8_softeningAmong_5 lFX8_9 (s_iload_n dX8_softeningAmong_8 rfl (s_cN dX8_softeningAmong_9 lNX8_48 bSX11_at (CtX11_at hX n) (Nat.le_of_ble_eq_true rfl) (s_cV dX8_softeningAmong_12 lMX8_76 bVX4_rowOf rfl (CtX4_rowOf hX n) (Nat.le_of_ble_eq_true rfl) (s_istore_n dX8_softeningAmong_15 rfl (s_aload_n dX8_softeningAmong_16 rfl (s_gA dX8_softeningAmong_17 lFX8_24 (s_aload_n dX8_softeningAmong_20 rfl (s_gA dX8_softeningAmong_21 lFX8_18 (s_iload_n dX8_softeningAmong_24 rfl (s_cN dX8_softeningAmong_25 lNX8_48 bSX11_at (CtX11_at hX n) (Nat.le_of_ble_eq_true rfl) (s_aload_n dX8_softeningAmong_28 rfl (s_gA dX8_softeningAmong_29 lFX8_21 (s_iload_n dX8_softeningAmong_32 rfl (s_cN dX8_softeningAmong_33 lNX8_48 bSX11_at (CtX11_at hX n) (Nat.le_of_ble_eq_true rfl) (s_iload_n dX8_softeningAmong_36 rfl (s_iload_n dX8_softeningAmong_37 rfl (s_aload_n dX8_softeningAmong_38 rfl (s_gI dX8_softeningAmong_39 lFX8_38 (by decide) (s_cV dX8_softeningAmong_42 lMX8_94 bVX4_softeningBy rfl (CtX4_softeningBy hX n) (Nat.le_of_ble_eq_true rfl) (s_rI dX8_softeningAmong_45 (Nat.le_of_ble_eq_true rfl) (Nat.le_of_ble_eq_true rfl)) (Nat.le_of_ble_eq_true rfl) (Nat.le_of_ble_eq_true rfl)))))) (Nat.le_of_ble_eq_true rfl) (Nat.le_of_ble_eq_true rfl))))) (Nat.le_of_ble_eq_true rfl) (Nat.le_of_ble_eq_true rfl)))))))) (Nat.le_of_ble_eq_true rfl) (Nat.le_of_ble_eq_true rfl)) (Nat.le_of_ble_eq_true rfl) (Nat.le_of_ble_eq_true rfl))))))
def FX8_softeningAmong (n : Nat) : List Value → mM → Option mR := mfn 4 (kX8_softeningAmong_0 n)
theorem CtX8_softeningAmong {E : mE} {X : State → Heap → Prop} {l : Launch} (hX : mXok E X) (n : Nat) : Ct E X l yX8_softeningAmong cX8_softeningAmong 4 (some .int) 4 0 0 (FX8_softeningAmong n) := Ct_of (by decide) hX (okX8_softeningAmong_0 hX n)
theorem dX8_whoBars_0 : decode cX8_whoBars 0 = .ok (.iconst 0, 1) := by decide +kernel
theorem dX8_whoBars_1 : decode cX8_whoBars 1 = .ok (.istore_n 2, 1) := by decide +kernel
theorem dX8_whoBars_2 : decode cX8_whoBars 2 = .ok (.iconst 0, 1) := by decide +kernel
theorem dX8_whoBars_3 : decode cX8_whoBars 3 = .ok (.istore_n 3, 1) := by decide +kernel
theorem dX8_whoBars_4 : decode cX8_whoBars 4 = .ok (.iload_n 3, 1) := by decide +kernel
theorem dX8_whoBars_5 : decode cX8_whoBars 5 = .ok (.bipush 8, 2) := by decide +kernel
theorem dX8_whoBars_7 : decode cX8_whoBars 7 = .ok (.if_icmp .ge 40, 3) := by decide +kernel
theorem dX8_whoBars_10 : decode cX8_whoBars 10 = .ok (.aload_n 0, 1) := by decide +kernel
theorem dX8_whoBars_11 : decode cX8_whoBars 11 = .ok (.iload_n 3, 1) := by decide +kernel
theorem dX8_whoBars_12 : decode cX8_whoBars 12 = .ok (.invokevirtual 60, 3) := by decide +kernel
theorem dX8_whoBars_15 : decode cX8_whoBars 15 = .ok (.ifCond .eq 26, 3) := by decide +kernel
theorem dX8_whoBars_18 : decode cX8_whoBars 18 = .ok (.aload_n 0, 1) := by decide +kernel
theorem dX8_whoBars_19 : decode cX8_whoBars 19 = .ok (.iload_n 1, 1) := by decide +kernel
theorem dX8_whoBars_20 : decode cX8_whoBars 20 = .ok (.aload_n 0, 1) := by decide +kernel
theorem dX8_whoBars_21 : decode cX8_whoBars 21 = .ok (.getfield 9, 3) := by decide +kernel
theorem dX8_whoBars_24 : decode cX8_whoBars 24 = .ok (.iload_n 3, 1) := by decide +kernel
theorem dX8_whoBars_25 : decode cX8_whoBars 25 = .ok (.invokestatic 48, 3) := by decide +kernel
theorem dX8_whoBars_28 : decode cX8_whoBars 28 = .ok (.invokevirtual 83, 3) := by decide +kernel
theorem dX8_whoBars_31 : decode cX8_whoBars 31 = .ok (.ifCond .eq 10, 3) := by decide +kernel
theorem dX8_whoBars_34 : decode cX8_whoBars 34 = .ok (.iload_n 2, 1) := by decide +kernel
theorem dX8_whoBars_35 : decode cX8_whoBars 35 = .ok (.iload_n 3, 1) := by decide +kernel
theorem dX8_whoBars_36 : decode cX8_whoBars 36 = .ok (.invokestatic 63, 3) := by decide +kernel
theorem dX8_whoBars_39 : decode cX8_whoBars 39 = .ok (.ior, 1) := by decide +kernel
theorem dX8_whoBars_40 : decode cX8_whoBars 40 = .ok (.istore_n 2, 1) := by decide +kernel
theorem dX8_whoBars_41 : decode cX8_whoBars 41 = .ok (.iinc 3 1, 3) := by decide +kernel
theorem dX8_whoBars_44 : decode cX8_whoBars 44 = .ok (.goto (-40), 3) := by decide +kernel
theorem dX8_whoBars_47 : decode cX8_whoBars 47 = .ok (.iload_n 2, 1) := by decide +kernel
theorem dX8_whoBars_48 : decode cX8_whoBars 48 = .ok (.ireturn, 1) := by decide +kernel
def kX8_whoBars_41 (n : Nat) (r4 : mK) : mK := i_inc 3 (1) (r4)
set_option maxRecDepth 20000 in
theorem okX8_whoBars_41 {E : mE} {X : State → Heap → Prop} {l : Launch} (hX : mXok E X) (n : Nat) {r4 : mK} (h4 : Sd E X l yX8_whoBars cX8_whoBars 4 (some .int) 4 0 0 0 0 4 r4) : Sd E X l yX8_whoBars cX8_whoBars 4 (some .int) 4 0 0 0 0 41 (kX8_whoBars_41 n r4) := s_iinc dX8_whoBars_41 (by decide) (s_goto dX8_whoBars_44 (by decide) h4)
def kX8_whoBars_4 (n : Nat) (r4 : mK) : mK := i_ldI 3 (i_cst (.int (8)) (i_c2 (fun x y => decide (y ≤ x)) (i_ldI 2 (i_rI)) (i_ldA 0 (i_ldI 3 (i_cV 8 1 (FX8_isIn n) (i_c0 (fun x => decide (x = 0)) (kX8_whoBars_41 n r4) (i_ldA 0 (i_ldI 1 (i_ldA 0 (i_gA 8 1 (i_ldI 3 (i_cS 2 (FX11_at n) (i_cV 8 2 (FX8_hasOnLine n) (i_c0 (fun x => decide (x = 0)) (kX8_whoBars_41 n r4) (i_ldI 2 (i_ldI 3 (i_cS 1 (FX11_bit n) (i_bin (fun x y => x ||| y) (i_stI 2 (kX8_whoBars_41 n r4))))))))))))))))))))
set_option maxRecDepth 20000 in
theorem okX8_whoBars_4 {E : mE} {X : State → Heap → Prop} {l : Launch} (hX : mXok E X) (n : Nat) {r4 : mK} (h4 : Sd E X l yX8_whoBars cX8_whoBars 4 (some .int) 4 0 0 0 0 4 r4) : Sd E X l yX8_whoBars cX8_whoBars 4 (some .int) 4 0 0 0 0 4 (kX8_whoBars_4 n r4) := s_iload_n dX8_whoBars_4 rfl (s_bipush dX8_whoBars_5 (by decide) (s_icge dX8_whoBars_7 (by decide) (s_iload_n dX8_whoBars_47 rfl (s_rI dX8_whoBars_48 (Nat.le_of_ble_eq_true rfl) (Nat.le_of_ble_eq_true rfl))) (s_aload_n dX8_whoBars_10 rfl (s_iload_n dX8_whoBars_11 rfl (s_cV dX8_whoBars_12 lMX8_60 bVX8_isIn rfl (CtX8_isIn hX n) (Nat.le_of_ble_eq_true rfl) (s_ifeq dX8_whoBars_15 (by decide) (okX8_whoBars_41 hX n h4) (s_aload_n dX8_whoBars_18 rfl (s_iload_n dX8_whoBars_19 rfl (s_aload_n dX8_whoBars_20 rfl (s_gA dX8_whoBars_21 lFX8_9 (s_iload_n dX8_whoBars_24 rfl (s_cN dX8_whoBars_25 lNX8_48 bSX11_at (CtX11_at hX n) (Nat.le_of_ble_eq_true rfl) (s_cV dX8_whoBars_28 lMX8_83 bVX8_hasOnLine rfl (CtX8_hasOnLine hX n) (Nat.le_of_ble_eq_true rfl) (s_ifeq dX8_whoBars_31 (by decide) (okX8_whoBars_41 hX n h4) (s_iload_n dX8_whoBars_34 rfl (s_iload_n dX8_whoBars_35 rfl (s_cN dX8_whoBars_36 lNX8_63 bSX11_bit (CtX11_bit hX n) (Nat.le_of_ble_eq_true rfl) (s_ior dX8_whoBars_39 (s_istore_n dX8_whoBars_40 rfl (okX8_whoBars_41 hX n h4))) (Nat.le_of_ble_eq_true rfl) (Nat.le_of_ble_eq_true rfl))))) (Nat.le_of_ble_eq_true rfl) (Nat.le_of_ble_eq_true rfl)) (Nat.le_of_ble_eq_true rfl) (Nat.le_of_ble_eq_true rfl)))))))) (Nat.le_of_ble_eq_true rfl) (Nat.le_of_ble_eq_true rfl))))))
def kX8_whoBars_0 (n : Nat) : mK := i_cst (.int (0)) (i_stI 2 (i_cst (.int (0)) (i_stI 3 (mit (kX8_whoBars_4 n ) n))))
set_option maxRecDepth 20000 in
theorem okX8_whoBars_0 {E : mE} {X : State → Heap → Prop} {l : Launch} (hX : mXok E X) (n : Nat) : Sd E X l yX8_whoBars cX8_whoBars 4 (some .int) 4 0 0 0 0 0 (kX8_whoBars_0 n) := s_iconst dX8_whoBars_0 (by decide) (s_istore_n dX8_whoBars_1 rfl (s_iconst dX8_whoBars_2 (by decide) (s_istore_n dX8_whoBars_3 rfl (s_mit (fun _ hk => okX8_whoBars_4 hX n hk) n))))
def FX8_whoBars (n : Nat) : List Value → mM → Option mR := mfn 4 (kX8_whoBars_0 n)
theorem CtX8_whoBars {E : mE} {X : State → Heap → Prop} {l : Launch} (hX : mXok E X) (n : Nat) : Ct E X l yX8_whoBars cX8_whoBars 4 (some .int) 4 0 0 (FX8_whoBars n) := Ct_of (by decide) hX (okX8_whoBars_0 hX n)
theorem dX8_whomItBars_0 : decode cX8_whomItBars 0 = .ok (.iconst 0, 1) := by decide +kernel
theorem dX8_whomItBars_1 : decode cX8_whomItBars 1 = .ok (.istore_n 2, 1) := by decide +kernel
theorem dX8_whomItBars_2 : decode cX8_whomItBars 2 = .ok (.iconst 0, 1) := by decide +kernel
theorem dX8_whomItBars_3 : decode cX8_whomItBars 3 = .ok (.istore_n 3, 1) := by decide +kernel
theorem dX8_whomItBars_4 : decode cX8_whomItBars 4 = .ok (.iload_n 3, 1) := by decide +kernel
theorem dX8_whomItBars_5 : decode cX8_whomItBars 5 = .ok (.bipush 8, 2) := by decide +kernel
theorem dX8_whomItBars_7 : decode cX8_whomItBars 7 = .ok (.if_icmp .ge 40, 3) := by decide +kernel
theorem dX8_whomItBars_10 : decode cX8_whomItBars 10 = .ok (.aload_n 0, 1) := by decide +kernel
theorem dX8_whomItBars_11 : decode cX8_whomItBars 11 = .ok (.iload_n 1, 1) := by decide +kernel
theorem dX8_whomItBars_12 : decode cX8_whomItBars 12 = .ok (.invokevirtual 60, 3) := by decide +kernel
theorem dX8_whomItBars_15 : decode cX8_whomItBars 15 = .ok (.ifCond .eq 26, 3) := by decide +kernel
theorem dX8_whomItBars_18 : decode cX8_whomItBars 18 = .ok (.aload_n 0, 1) := by decide +kernel
theorem dX8_whomItBars_19 : decode cX8_whomItBars 19 = .ok (.iload_n 3, 1) := by decide +kernel
theorem dX8_whomItBars_20 : decode cX8_whomItBars 20 = .ok (.aload_n 0, 1) := by decide +kernel
theorem dX8_whomItBars_21 : decode cX8_whomItBars 21 = .ok (.getfield 9, 3) := by decide +kernel
theorem dX8_whomItBars_24 : decode cX8_whomItBars 24 = .ok (.iload_n 1, 1) := by decide +kernel
theorem dX8_whomItBars_25 : decode cX8_whomItBars 25 = .ok (.invokestatic 48, 3) := by decide +kernel
theorem dX8_whomItBars_28 : decode cX8_whomItBars 28 = .ok (.invokevirtual 83, 3) := by decide +kernel
theorem dX8_whomItBars_31 : decode cX8_whomItBars 31 = .ok (.ifCond .eq 10, 3) := by decide +kernel
theorem dX8_whomItBars_34 : decode cX8_whomItBars 34 = .ok (.iload_n 2, 1) := by decide +kernel
theorem dX8_whomItBars_35 : decode cX8_whomItBars 35 = .ok (.iload_n 3, 1) := by decide +kernel
theorem dX8_whomItBars_36 : decode cX8_whomItBars 36 = .ok (.invokestatic 63, 3) := by decide +kernel
theorem dX8_whomItBars_39 : decode cX8_whomItBars 39 = .ok (.ior, 1) := by decide +kernel
theorem dX8_whomItBars_40 : decode cX8_whomItBars 40 = .ok (.istore_n 2, 1) := by decide +kernel
theorem dX8_whomItBars_41 : decode cX8_whomItBars 41 = .ok (.iinc 3 1, 3) := by decide +kernel
theorem dX8_whomItBars_44 : decode cX8_whomItBars 44 = .ok (.goto (-40), 3) := by decide +kernel
theorem dX8_whomItBars_47 : decode cX8_whomItBars 47 = .ok (.iload_n 2, 1) := by decide +kernel
theorem dX8_whomItBars_48 : decode cX8_whomItBars 48 = .ok (.ireturn, 1) := by decide +kernel
def kX8_whomItBars_41 (n : Nat) (r4 : mK) : mK := i_inc 3 (1) (r4)
set_option maxRecDepth 20000 in
theorem okX8_whomItBars_41 {E : mE} {X : State → Heap → Prop} {l : Launch} (hX : mXok E X) (n : Nat) {r4 : mK} (h4 : Sd E X l yX8_whomItBars cX8_whomItBars 4 (some .int) 4 0 0 0 0 4 r4) : Sd E X l yX8_whomItBars cX8_whomItBars 4 (some .int) 4 0 0 0 0 41 (kX8_whomItBars_41 n r4) := s_iinc dX8_whomItBars_41 (by decide) (s_goto dX8_whomItBars_44 (by decide) h4)
def kX8_whomItBars_4 (n : Nat) (r4 : mK) : mK := i_ldI 3 (i_cst (.int (8)) (i_c2 (fun x y => decide (y ≤ x)) (i_ldI 2 (i_rI)) (i_ldA 0 (i_ldI 1 (i_cV 8 1 (FX8_isIn n) (i_c0 (fun x => decide (x = 0)) (kX8_whomItBars_41 n r4) (i_ldA 0 (i_ldI 3 (i_ldA 0 (i_gA 8 1 (i_ldI 1 (i_cS 2 (FX11_at n) (i_cV 8 2 (FX8_hasOnLine n) (i_c0 (fun x => decide (x = 0)) (kX8_whomItBars_41 n r4) (i_ldI 2 (i_ldI 3 (i_cS 1 (FX11_bit n) (i_bin (fun x y => x ||| y) (i_stI 2 (kX8_whomItBars_41 n r4))))))))))))))))))))
set_option maxRecDepth 20000 in
theorem okX8_whomItBars_4 {E : mE} {X : State → Heap → Prop} {l : Launch} (hX : mXok E X) (n : Nat) {r4 : mK} (h4 : Sd E X l yX8_whomItBars cX8_whomItBars 4 (some .int) 4 0 0 0 0 4 r4) : Sd E X l yX8_whomItBars cX8_whomItBars 4 (some .int) 4 0 0 0 0 4 (kX8_whomItBars_4 n r4) := s_iload_n dX8_whomItBars_4 rfl (s_bipush dX8_whomItBars_5 (by decide) (s_icge dX8_whomItBars_7 (by decide) (s_iload_n dX8_whomItBars_47 rfl (s_rI dX8_whomItBars_48 (Nat.le_of_ble_eq_true rfl) (Nat.le_of_ble_eq_true rfl))) (s_aload_n dX8_whomItBars_10 rfl (s_iload_n dX8_whomItBars_11 rfl (s_cV dX8_whomItBars_12 lMX8_60 bVX8_isIn rfl (CtX8_isIn hX n) (Nat.le_of_ble_eq_true rfl) (s_ifeq dX8_whomItBars_15 (by decide) (okX8_whomItBars_41 hX n h4) (s_aload_n dX8_whomItBars_18 rfl (s_iload_n dX8_whomItBars_19 rfl (s_aload_n dX8_whomItBars_20 rfl (s_gA dX8_whomItBars_21 lFX8_9 (s_iload_n dX8_whomItBars_24 rfl (s_cN dX8_whomItBars_25 lNX8_48 bSX11_at (CtX11_at hX n) (Nat.le_of_ble_eq_true rfl) (s_cV dX8_whomItBars_28 lMX8_83 bVX8_hasOnLine rfl (CtX8_hasOnLine hX n) (Nat.le_of_ble_eq_true rfl) (s_ifeq dX8_whomItBars_31 (by decide) (okX8_whomItBars_41 hX n h4) (s_iload_n dX8_whomItBars_34 rfl (s_iload_n dX8_whomItBars_35 rfl (s_cN dX8_whomItBars_36 lNX8_63 bSX11_bit (CtX11_bit hX n) (Nat.le_of_ble_eq_true rfl) (s_ior dX8_whomItBars_39 (s_istore_n dX8_whomItBars_40 rfl (okX8_whomItBars_41 hX n h4))) (Nat.le_of_ble_eq_true rfl) (Nat.le_of_ble_eq_true rfl))))) (Nat.le_of_ble_eq_true rfl) (Nat.le_of_ble_eq_true rfl)) (Nat.le_of_ble_eq_true rfl) (Nat.le_of_ble_eq_true rfl)))))))) (Nat.le_of_ble_eq_true rfl) (Nat.le_of_ble_eq_true rfl))))))
def kX8_whomItBars_0 (n : Nat) : mK := i_cst (.int (0)) (i_stI 2 (i_cst (.int (0)) (i_stI 3 (mit (kX8_whomItBars_4 n ) n))))
set_option maxRecDepth 20000 in
theorem okX8_whomItBars_0 {E : mE} {X : State → Heap → Prop} {l : Launch} (hX : mXok E X) (n : Nat) : Sd E X l yX8_whomItBars cX8_whomItBars 4 (some .int) 4 0 0 0 0 0 (kX8_whomItBars_0 n) := s_iconst dX8_whomItBars_0 (by decide) (s_istore_n dX8_whomItBars_1 rfl (s_iconst dX8_whomItBars_2 (by decide) (s_istore_n dX8_whomItBars_3 rfl (s_mit (fun _ hk => okX8_whomItBars_4 hX n hk) n))))
def FX8_whomItBars (n : Nat) : List Value → mM → Option mR := mfn 4 (kX8_whomItBars_0 n)
theorem CtX8_whomItBars {E : mE} {X : State → Heap → Prop} {l : Launch} (hX : mXok E X) (n : Nat) : Ct E X l yX8_whomItBars cX8_whomItBars 4 (some .int) 4 0 0 (FX8_whomItBars n) := Ct_of (by decide) hX (okX8_whomItBars_0 hX n)
theorem dX8_worthAmong_0 : decode cX8_worthAmong 0 = .ok (.aload_n 0, 1) := by decide +kernel
theorem dX8_worthAmong_1 : decode cX8_worthAmong 1 = .ok (.getfield 24, 3) := by decide +kernel
theorem dX8_worthAmong_4 : decode cX8_worthAmong 4 = .ok (.aload_n 0, 1) := by decide +kernel
theorem dX8_worthAmong_5 : decode cX8_worthAmong 5 = .ok (.getfield 9, 3) := by decide +kernel
theorem dX8_worthAmong_8 : decode cX8_worthAmong 8 = .ok (.iload_n 1, 1) := by decide +kernel
theorem dX8_worthAmong_9 : decode cX8_worthAmong 9 = .ok (.invokestatic 48, 3) := by decide +kernel
theorem dX8_worthAmong_12 : decode cX8_worthAmong 12 = .ok (.invokevirtual 76, 3) := by decide +kernel
theorem dX8_worthAmong_15 : decode cX8_worthAmong 15 = .ok (.istore_n 3, 1) := by decide +kernel
theorem dX8_worthAmong_16 : decode cX8_worthAmong 16 = .ok (.aload_n 0, 1) := by decide +kernel
theorem dX8_worthAmong_17 : decode cX8_worthAmong 17 = .ok (.getfield 24, 3) := by decide +kernel
theorem dX8_worthAmong_20 : decode cX8_worthAmong 20 = .ok (.aload_n 0, 1) := by decide +kernel
theorem dX8_worthAmong_21 : decode cX8_worthAmong 21 = .ok (.getfield 18, 3) := by decide +kernel
theorem dX8_worthAmong_24 : decode cX8_worthAmong 24 = .ok (.iload_n 1, 1) := by decide +kernel
theorem dX8_worthAmong_25 : decode cX8_worthAmong 25 = .ok (.invokestatic 48, 3) := by decide +kernel
theorem dX8_worthAmong_28 : decode cX8_worthAmong 28 = .ok (.aload_n 0, 1) := by decide +kernel
theorem dX8_worthAmong_29 : decode cX8_worthAmong 29 = .ok (.getfield 21, 3) := by decide +kernel
theorem dX8_worthAmong_32 : decode cX8_worthAmong 32 = .ok (.iload_n 1, 1) := by decide +kernel
theorem dX8_worthAmong_33 : decode cX8_worthAmong 33 = .ok (.invokestatic 48, 3) := by decide +kernel
theorem dX8_worthAmong_36 : decode cX8_worthAmong 36 = .ok (.iload_n 2, 1) := by decide +kernel
theorem dX8_worthAmong_37 : decode cX8_worthAmong 37 = .ok (.iload_n 3, 1) := by decide +kernel
theorem dX8_worthAmong_38 : decode cX8_worthAmong 38 = .ok (.aload_n 0, 1) := by decide +kernel
theorem dX8_worthAmong_39 : decode cX8_worthAmong 39 = .ok (.getfield 38, 3) := by decide +kernel
theorem dX8_worthAmong_42 : decode cX8_worthAmong 42 = .ok (.invokevirtual 90, 3) := by decide +kernel
theorem dX8_worthAmong_45 : decode cX8_worthAmong 45 = .ok (.ireturn, 1) := by decide +kernel
def kX8_worthAmong_0 (n : Nat) : mK := i_ldA 0 (i_gA 8 0 (i_ldA 0 (i_gA 8 1 (i_ldI 1 (i_cS 2 (FX11_at n) (i_cV 4 1 (FX4_rowOf n) (i_stI 3 (i_ldA 0 (i_gA 8 0 (i_ldA 0 (i_gA 8 3 (i_ldI 1 (i_cS 2 (FX11_at n) (i_ldA 0 (i_gA 8 4 (i_ldI 1 (i_cS 2 (FX11_at n) (i_ldI 2 (i_ldI 3 (i_ldA 0 (i_gI 8 5 (i_cV 4 5 (FX4_worthBy n) (i_rI)))))))))))))))))))))))
set_option maxRecDepth 20000 in
theorem okX8_worthAmong_0 {E : mE} {X : State → Heap → Prop} {l : Launch} (hX : mXok E X) (n : Nat) : Sd E X l yX8_worthAmong cX8_worthAmong 4 (some .int) 4 0 0 0 0 0 (kX8_worthAmong_0 n) := s_aload_n dX8_worthAmong_0 rfl (s_gA dX8_worthAmong_1 lFX8_24 (s_aload_n dX8_worthAmong_4 rfl (s_gA dX8_worthAmong_5 lFX8_9 (s_iload_n dX8_worthAmong_8 rfl (s_cN dX8_worthAmong_9 lNX8_48 bSX11_at (CtX11_at hX n) (Nat.le_of_ble_eq_true rfl) (s_cV dX8_worthAmong_12 lMX8_76 bVX4_rowOf rfl (CtX4_rowOf hX n) (Nat.le_of_ble_eq_true rfl) (s_istore_n dX8_worthAmong_15 rfl (s_aload_n dX8_worthAmong_16 rfl (s_gA dX8_worthAmong_17 lFX8_24 (s_aload_n dX8_worthAmong_20 rfl (s_gA dX8_worthAmong_21 lFX8_18 (s_iload_n dX8_worthAmong_24 rfl (s_cN dX8_worthAmong_25 lNX8_48 bSX11_at (CtX11_at hX n) (Nat.le_of_ble_eq_true rfl) (s_aload_n dX8_worthAmong_28 rfl (s_gA dX8_worthAmong_29 lFX8_21 (s_iload_n dX8_worthAmong_32 rfl (s_cN dX8_worthAmong_33 lNX8_48 bSX11_at (CtX11_at hX n) (Nat.le_of_ble_eq_true rfl) (s_iload_n dX8_worthAmong_36 rfl (s_iload_n dX8_worthAmong_37 rfl (s_aload_n dX8_worthAmong_38 rfl (s_gI dX8_worthAmong_39 lFX8_38 (by decide) (s_cV dX8_worthAmong_42 lMX8_90 bVX4_worthBy rfl (CtX4_worthBy hX n) (Nat.le_of_ble_eq_true rfl) (s_rI dX8_worthAmong_45 (Nat.le_of_ble_eq_true rfl) (Nat.le_of_ble_eq_true rfl)) (Nat.le_of_ble_eq_true rfl) (Nat.le_of_ble_eq_true rfl)))))) (Nat.le_of_ble_eq_true rfl) (Nat.le_of_ble_eq_true rfl))))) (Nat.le_of_ble_eq_true rfl) (Nat.le_of_ble_eq_true rfl)))))))) (Nat.le_of_ble_eq_true rfl) (Nat.le_of_ble_eq_true rfl)) (Nat.le_of_ble_eq_true rfl) (Nat.le_of_ble_eq_true rfl))))))
def FX8_worthAmong (n : Nat) : List Value → mM → Option mR := mfn 4 (kX8_worthAmong_0 n)
theorem CtX8_worthAmong {E : mE} {X : State → Heap → Prop} {l : Launch} (hX : mXok E X) (n : Nat) : Ct E X l yX8_worthAmong cX8_worthAmong 4 (some .int) 4 0 0 (FX8_worthAmong n) := Ct_of (by decide) hX (okX8_worthAmong_0 hX n)
theorem dX0_look_0 : decode cX0_look 0 = .ok (.aload_n 0, 1) := by decide +kernel
theorem dX0_look_1 : decode cX0_look 1 = .ok (.aload_n 0, 1) := by decide +kernel
theorem dX0_look_2 : decode cX0_look 2 = .ok (.getfield 15, 3) := by decide +kernel
theorem dX0_look_5 : decode cX0_look 5 = .ok (.invokevirtual 19, 3) := by decide +kernel
theorem dX0_look_8 : decode cX0_look 8 = .ok (.putfield 25, 3) := by decide +kernel
theorem dX0_look_11 : decode cX0_look 11 = .ok (.iconst 0, 1) := by decide +kernel
theorem dX0_look_12 : decode cX0_look 12 = .ok (.istore_n 1, 1) := by decide +kernel
theorem dX0_look_13 : decode cX0_look 13 = .ok (.iload_n 1, 1) := by decide +kernel
theorem dX0_look_14 : decode cX0_look 14 = .ok (.bipush 8, 2) := by decide +kernel
theorem dX0_look_16 : decode cX0_look 16 = .ok (.if_icmp .ge 25, 3) := by decide +kernel
theorem dX0_look_19 : decode cX0_look 19 = .ok (.aload_n 0, 1) := by decide +kernel
theorem dX0_look_20 : decode cX0_look 20 = .ok (.getfield 9, 3) := by decide +kernel
theorem dX0_look_23 : decode cX0_look 23 = .ok (.iload_n 1, 1) := by decide +kernel
theorem dX0_look_24 : decode cX0_look 24 = .ok (.aload_n 0, 1) := by decide +kernel
theorem dX0_look_25 : decode cX0_look 25 = .ok (.getfield 15, 3) := by decide +kernel
theorem dX0_look_28 : decode cX0_look 28 = .ok (.iload_n 1, 1) := by decide +kernel
theorem dX0_look_29 : decode cX0_look 29 = .ok (.invokevirtual 29, 3) := by decide +kernel
theorem dX0_look_32 : decode cX0_look 32 = .ok (.invokestatic 33, 3) := by decide +kernel
theorem dX0_look_35 : decode cX0_look 35 = .ok (.iinc 1 1, 3) := by decide +kernel
theorem dX0_look_38 : decode cX0_look 38 = .ok (.goto (-25), 3) := by decide +kernel
theorem dX0_look_41 : decode cX0_look 41 = .ok (.return_, 1) := by decide +kernel
def kX0_look_13 (n : Nat) (r13 : mK) : mK := i_ldI 1 (i_cst (.int (8)) (i_c2 (fun x y => decide (y ≤ x)) (i_rV) (i_ldA 0 (i_gA 0 1 (i_ldI 1 (i_ldA 0 (i_gA 0 0 (i_ldI 1 (i_cV 8 1 (FX8_whoBars n) (i_cS 3 (FX11_set n) (i_inc 1 (1) (r13))))))))))))
set_option maxRecDepth 20000 in
theorem okX0_look_13 {E : mE} {X : State → Heap → Prop} {l : Launch} (hX : mXok E X) (n : Nat) {r13 : mK} (h13 : Sd E X l yX0_look cX0_look 2 none 5 0 0 0 0 13 r13) : Sd E X l yX0_look cX0_look 2 none 5 0 0 0 0 13 (kX0_look_13 n r13) := s_iload_n dX0_look_13 rfl (s_bipush dX0_look_14 (by decide) (s_icge dX0_look_16 (by decide) (s_rV dX0_look_41 (Nat.le_of_ble_eq_true rfl) (Nat.le_of_ble_eq_true rfl)) (s_aload_n dX0_look_19 rfl (s_gA dX0_look_20 lFX0_9 (s_iload_n dX0_look_23 rfl (s_aload_n dX0_look_24 rfl (s_gA dX0_look_25 lFX0_15 (s_iload_n dX0_look_28 rfl (s_cV dX0_look_29 lMX0_29 bVX8_whoBars rfl (CtX8_whoBars hX n) (Nat.le_of_ble_eq_true rfl) (s_cN dX0_look_32 lNX0_33 bSX11_set (CtX11_set hX n) (Nat.le_of_ble_eq_true rfl) (s_iinc dX0_look_35 (by decide) (s_goto dX0_look_38 (by decide) h13)) (Nat.le_of_ble_eq_true rfl) (Nat.le_of_ble_eq_true rfl)) (Nat.le_of_ble_eq_true rfl) (Nat.le_of_ble_eq_true rfl))))))))))
def kX0_look_0 (n : Nat) : mK := i_ldA 0 (i_ldA 0 (i_gA 0 0 (i_cV 8 0 (FX8_whoIsIn n) (i_pI 0 2 (i_cst (.int (0)) (i_stI 1 (mit (kX0_look_13 n ) n)))))))
set_option maxRecDepth 20000 in
theorem okX0_look_0 {E : mE} {X : State → Heap → Prop} {l : Launch} (hX : mXok E X) (n : Nat) : Sd E X l yX0_look cX0_look 2 none 5 0 0 0 0 0 (kX0_look_0 n) := s_aload_n dX0_look_0 rfl (s_aload_n dX0_look_1 rfl (s_gA dX0_look_2 lFX0_15 (s_cV dX0_look_5 lMX0_19 bVX8_whoIsIn rfl (CtX8_whoIsIn hX n) (Nat.le_of_ble_eq_true rfl) (s_pI dX0_look_8 lFX0_25 (s_iconst dX0_look_11 (by decide) (s_istore_n dX0_look_12 rfl (s_mit (fun _ hk => okX0_look_13 hX n hk) n)))) (Nat.le_of_ble_eq_true rfl) (Nat.le_of_ble_eq_true rfl))))
def FX0_look (n : Nat) : List Value → mM → Option mR := mfn 2 (kX0_look_0 n)
theorem CtX0_look {E : mE} {X : State → Heap → Prop} {l : Launch} (hX : mXok E X) (n : Nat) : Ct E X l yX0_look cX0_look 2 none 5 0 0 (FX0_look n) := Ct_of (by decide) hX (okX0_look_0 hX n)
theorem dX10_spread_0 : decode cX10_spread 0 = .ok (.iconst 0, 1) := by decide +kernel
theorem dX10_spread_1 : decode cX10_spread 1 = .ok (.istore_n 1, 1) := by decide +kernel
theorem dX10_spread_2 : decode cX10_spread 2 = .ok (.iload_n 1, 1) := by decide +kernel
theorem dX10_spread_3 : decode cX10_spread 3 = .ok (.aload_n 0, 1) := by decide +kernel
theorem dX10_spread_4 : decode cX10_spread 4 = .ok (.getfield 22, 3) := by decide +kernel
theorem dX10_spread_7 : decode cX10_spread 7 = .ok (.if_icmp .ge 64, 3) := by decide +kernel
theorem dX10_spread_10 : decode cX10_spread 10 = .ok (.iload_n 1, 1) := by decide +kernel
theorem dX10_spread_11 : decode cX10_spread 11 = .ok (.aload_n 0, 1) := by decide +kernel
theorem dX10_spread_12 : decode cX10_spread 12 = .ok (.getfield 15, 3) := by decide +kernel
theorem dX10_spread_15 : decode cX10_spread 15 = .ok (.arraylength, 1) := by decide +kernel
theorem dX10_spread_16 : decode cX10_spread 16 = .ok (.if_icmp .ge 55, 3) := by decide +kernel
theorem dX10_spread_19 : decode cX10_spread 19 = .ok (.aload_n 0, 1) := by decide +kernel
theorem dX10_spread_20 : decode cX10_spread 20 = .ok (.getfield 15, 3) := by decide +kernel
theorem dX10_spread_23 : decode cX10_spread 23 = .ok (.iload_n 1, 1) := by decide +kernel
theorem dX10_spread_24 : decode cX10_spread 24 = .ok (.iaload, 1) := by decide +kernel
theorem dX10_spread_25 : decode cX10_spread 25 = .ok (.istore_n 2, 1) := by decide +kernel
theorem dX10_spread_26 : decode cX10_spread 26 = .ok (.iconst 0, 1) := by decide +kernel
theorem dX10_spread_27 : decode cX10_spread 27 = .ok (.istore_n 3, 1) := by decide +kernel
theorem dX10_spread_28 : decode cX10_spread 28 = .ok (.iload_n 3, 1) := by decide +kernel
theorem dX10_spread_29 : decode cX10_spread 29 = .ok (.iconst 4, 1) := by decide +kernel
theorem dX10_spread_30 : decode cX10_spread 30 = .ok (.if_icmp .ge 35, 3) := by decide +kernel
theorem dX10_spread_33 : decode cX10_spread 33 = .ok (.aload_n 0, 1) := by decide +kernel
theorem dX10_spread_34 : decode cX10_spread 34 = .ok (.aload_n 0, 1) := by decide +kernel
theorem dX10_spread_35 : decode cX10_spread 35 = .ok (.getfield 18, 3) := by decide +kernel
theorem dX10_spread_38 : decode cX10_spread 38 = .ok (.getfield 30, 3) := by decide +kernel
theorem dX10_spread_41 : decode cX10_spread 41 = .ok (.iload_n 2, 1) := by decide +kernel
theorem dX10_spread_42 : decode cX10_spread 42 = .ok (.iload_n 3, 1) := by decide +kernel
theorem dX10_spread_43 : decode cX10_spread 43 = .ok (.invokevirtual 54, 3) := by decide +kernel
theorem dX10_spread_46 : decode cX10_spread 46 = .ok (.aload_n 0, 1) := by decide +kernel
theorem dX10_spread_47 : decode cX10_spread 47 = .ok (.getfield 9, 3) := by decide +kernel
theorem dX10_spread_50 : decode cX10_spread 50 = .ok (.iload_n 2, 1) := by decide +kernel
theorem dX10_spread_51 : decode cX10_spread 51 = .ok (.invokestatic 46, 3) := by decide +kernel
theorem dX10_spread_54 : decode cX10_spread 54 = .ok (.iconst 1, 1) := by decide +kernel
theorem dX10_spread_55 : decode cX10_spread 55 = .ok (.iadd, 1) := by decide +kernel
theorem dX10_spread_56 : decode cX10_spread 56 = .ok (.invokevirtual 26, 3) := by decide +kernel
theorem dX10_spread_59 : decode cX10_spread 59 = .ok (.iinc 3 1, 3) := by decide +kernel
theorem dX10_spread_62 : decode cX10_spread 62 = .ok (.goto (-34), 3) := by decide +kernel
theorem dX10_spread_65 : decode cX10_spread 65 = .ok (.iinc 1 1, 3) := by decide +kernel
theorem dX10_spread_68 : decode cX10_spread 68 = .ok (.goto (-66), 3) := by decide +kernel
theorem dX10_spread_71 : decode cX10_spread 71 = .ok (.return_, 1) := by decide +kernel
def kX10_spread_71 (n : Nat) : mK := i_rV
set_option maxRecDepth 20000 in
theorem okX10_spread_71 {E : mE} {X : State → Heap → Prop} {l : Launch} (hX : mXok E X) (n : Nat) : Sd E X l yX10_spread cX10_spread 4 none 5 0 0 0 0 71 (kX10_spread_71 n) := s_rV dX10_spread_71 (Nat.le_of_ble_eq_true rfl) (Nat.le_of_ble_eq_true rfl)
def kX10_spread_28 (n : Nat) (r2 : mK) (r28 : mK) : mK := i_ldI 3 (i_cst (.int (4)) (i_c2 (fun x y => decide (y ≤ x)) (i_inc 1 (1) (r2)) (i_ldA 0 (i_ldA 0 (i_gA 10 0 (i_gA 8 0 (i_ldI 2 (i_ldI 3 (i_cV 4 2 (FX4_beside n) (i_ldA 0 (i_gA 10 1 (i_ldI 2 (i_cS 2 (FX11_at n) (i_cst (.int (1)) (i_bin (fun x y => x + y) (i_cV 10 2 (FX10_come n) (i_inc 3 (1) (r28))))))))))))))))))
set_option maxRecDepth 20000 in
theorem okX10_spread_28 {E : mE} {X : State → Heap → Prop} {l : Launch} (hX : mXok E X) (n : Nat) {r2 : mK} (h2 : Sd E X l yX10_spread cX10_spread 4 none 5 0 0 0 0 2 r2) {r28 : mK} (h28 : Sd E X l yX10_spread cX10_spread 4 none 5 0 0 0 0 28 r28) : Sd E X l yX10_spread cX10_spread 4 none 5 0 0 0 0 28 (kX10_spread_28 n r2 r28) := s_iload_n dX10_spread_28 rfl (s_iconst dX10_spread_29 (by decide) (s_icge dX10_spread_30 (by decide) (s_iinc dX10_spread_65 (by decide) (s_goto dX10_spread_68 (by decide) h2)) (s_aload_n dX10_spread_33 rfl (s_aload_n dX10_spread_34 rfl (s_gA dX10_spread_35 lFX10_18 (s_gA dX10_spread_38 lFX10_30 (s_iload_n dX10_spread_41 rfl (s_iload_n dX10_spread_42 rfl (s_cV dX10_spread_43 lMX10_54 bVX4_beside rfl (CtX4_beside hX n) (Nat.le_of_ble_eq_true rfl) (s_aload_n dX10_spread_46 rfl (s_gA dX10_spread_47 lFX10_9 (s_iload_n dX10_spread_50 rfl (s_cN dX10_spread_51 lNX10_46 bSX11_at (CtX11_at hX n) (Nat.le_of_ble_eq_true rfl) (s_iconst dX10_spread_54 (by decide) (s_iadd dX10_spread_55 (s_cV dX10_spread_56 lMX10_26 bVX10_come rfl (CtX10_come hX n) (Nat.le_of_ble_eq_true rfl) (s_iinc dX10_spread_59 (by decide) (s_goto dX10_spread_62 (by decide) h28)) (Nat.le_of_ble_eq_true rfl) (Nat.le_of_ble_eq_true rfl)))) (Nat.le_of_ble_eq_true rfl) (Nat.le_of_ble_eq_true rfl))))) (Nat.le_of_ble_eq_true rfl) (Nat.le_of_ble_eq_true rfl))))))))))
def kX10_spread_2 (n : Nat) (r2 : mK) : mK := i_ldI 1 (i_ldA 0 (i_gI 10 3 (i_c2 (fun x y => decide (y ≤ x)) (kX10_spread_71 n) (i_ldI 1 (i_ldA 0 (i_gA 10 2 (i_len (i_c2 (fun x y => decide (y ≤ x)) (kX10_spread_71 n) (i_ldA 0 (i_gA 10 2 (i_ldI 1 (i_al 0 (i_stI 2 (i_cst (.int (0)) (i_stI 3 (mit (kX10_spread_28 n r2) n))))))))))))))))
set_option maxRecDepth 20000 in
theorem okX10_spread_2 {E : mE} {X : State → Heap → Prop} {l : Launch} (hX : mXok E X) (n : Nat) {r2 : mK} (h2 : Sd E X l yX10_spread cX10_spread 4 none 5 0 0 0 0 2 r2) : Sd E X l yX10_spread cX10_spread 4 none 5 0 0 0 0 2 (kX10_spread_2 n r2) := s_iload_n dX10_spread_2 rfl (s_aload_n dX10_spread_3 rfl (s_gI dX10_spread_4 lFX10_22 (by decide) (s_icge dX10_spread_7 (by decide) (okX10_spread_71 hX n) (s_iload_n dX10_spread_10 rfl (s_aload_n dX10_spread_11 rfl (s_gA dX10_spread_12 lFX10_15 (s_len dX10_spread_15 (s_icge dX10_spread_16 (by decide) (okX10_spread_71 hX n) (s_aload_n dX10_spread_19 rfl (s_gA dX10_spread_20 lFX10_15 (s_iload_n dX10_spread_23 rfl (s_iald dX10_spread_24 (s_istore_n dX10_spread_25 rfl (s_iconst dX10_spread_26 (by decide) (s_istore_n dX10_spread_27 rfl (s_mit (fun _ hk => okX10_spread_28 hX n h2 hk) n))))))))))))))))
def kX10_spread_0 (n : Nat) : mK := i_cst (.int (0)) (i_stI 1 (mit (kX10_spread_2 n ) n))
set_option maxRecDepth 20000 in
theorem okX10_spread_0 {E : mE} {X : State → Heap → Prop} {l : Launch} (hX : mXok E X) (n : Nat) : Sd E X l yX10_spread cX10_spread 4 none 5 0 0 0 0 0 (kX10_spread_0 n) := s_iconst dX10_spread_0 (by decide) (s_istore_n dX10_spread_1 rfl (s_mit (fun _ hk => okX10_spread_2 hX n hk) n))
def FX10_spread (n : Nat) : List Value → mM → Option mR := mfn 4 (kX10_spread_0 n)
theorem CtX10_spread {E : mE} {X : State → Heap → Prop} {l : Launch} (hX : mXok E X) (n : Nat) : Ct E X l yX10_spread cX10_spread 4 none 5 0 0 (FX10_spread n) := Ct_of (by decide) hX (okX10_spread_0 hX n)
theorem dX10_startAt_0 : decode cX10_startAt 0 = .ok (.aload_n 0, 1) := by decide +kernel
theorem dX10_startAt_1 : decode cX10_startAt 1 = .ok (.iload_n 1, 1) := by decide +kernel
theorem dX10_startAt_2 : decode cX10_startAt 2 = .ok (.iconst 0, 1) := by decide +kernel
theorem dX10_startAt_3 : decode cX10_startAt 3 = .ok (.invokevirtual 26, 3) := by decide +kernel
theorem dX10_startAt_6 : decode cX10_startAt 6 = .ok (.return_, 1) := by decide +kernel
def kX10_startAt_0 (n : Nat) : mK := i_ldA 0 (i_ldI 1 (i_cst (.int (0)) (i_cV 10 2 (FX10_come n) (i_rV))))
set_option maxRecDepth 20000 in
theorem okX10_startAt_0 {E : mE} {X : State → Heap → Prop} {l : Launch} (hX : mXok E X) (n : Nat) : Sd E X l yX10_startAt cX10_startAt 2 none 5 0 0 0 0 0 (kX10_startAt_0 n) := s_aload_n dX10_startAt_0 rfl (s_iload_n dX10_startAt_1 rfl (s_iconst dX10_startAt_2 (by decide) (s_cV dX10_startAt_3 lMX10_26 bVX10_come rfl (CtX10_come hX n) (Nat.le_of_ble_eq_true rfl) (s_rV dX10_startAt_6 (Nat.le_of_ble_eq_true rfl) (Nat.le_of_ble_eq_true rfl)) (Nat.le_of_ble_eq_true rfl) (Nat.le_of_ble_eq_true rfl))))
def FX10_startAt (n : Nat) : List Value → mM → Option mR := mfn 2 (kX10_startAt_0 n)
theorem CtX10_startAt {E : mE} {X : State → Heap → Prop} {l : Launch} (hX : mXok E X) (n : Nat) : Ct E X l yX10_startAt cX10_startAt 2 none 5 0 0 (FX10_startAt n) := Ct_of (by decide) hX (okX10_startAt_0 hX n)
theorem dX11_car_0 : decode cX11_car 0 = .ok (.aload_n 0, 1) := by decide +kernel
theorem dX11_car_1 : decode cX11_car 1 = .ok (.getfield 16, 3) := by decide +kernel
theorem dX11_car_4 : decode cX11_car 4 = .ok (.iload_n 1, 1) := by decide +kernel
theorem dX11_car_5 : decode cX11_car 5 = .ok (.invokevirtual 138, 3) := by decide +kernel
theorem dX11_car_8 : decode cX11_car 8 = .ok (.ifCond .ne 6, 3) := by decide +kernel
theorem dX11_car_11 : decode cX11_car 11 = .ok (.bipush (-2), 2) := by decide +kernel
theorem dX11_car_13 : decode cX11_car 13 = .ok (.ireturn, 1) := by decide +kernel
theorem dX11_car_14 : decode cX11_car 14 = .ok (.iload_n 2, 1) := by decide +kernel
theorem dX11_car_15 : decode cX11_car 15 = .ok (.tableswitch 103 0 5 #[37, 49, 61, 73, 85, 94], 37) := by decide +kernel
theorem dX11_car_52 : decode cX11_car 52 = .ok (.aload_n 0, 1) := by decide +kernel
theorem dX11_car_53 : decode cX11_car 53 = .ok (.getfield 37, 3) := by decide +kernel
theorem dX11_car_56 : decode cX11_car 56 = .ok (.getfield 141, 3) := by decide +kernel
theorem dX11_car_59 : decode cX11_car 59 = .ok (.iload_n 1, 1) := by decide +kernel
theorem dX11_car_60 : decode cX11_car 60 = .ok (.invokestatic 144, 3) := by decide +kernel
theorem dX11_car_63 : decode cX11_car 63 = .ok (.ireturn, 1) := by decide +kernel
theorem dX11_car_64 : decode cX11_car 64 = .ok (.aload_n 0, 1) := by decide +kernel
theorem dX11_car_65 : decode cX11_car 65 = .ok (.getfield 37, 3) := by decide +kernel
theorem dX11_car_68 : decode cX11_car 68 = .ok (.getfield 148, 3) := by decide +kernel
theorem dX11_car_71 : decode cX11_car 71 = .ok (.iload_n 1, 1) := by decide +kernel
theorem dX11_car_72 : decode cX11_car 72 = .ok (.invokestatic 144, 3) := by decide +kernel
theorem dX11_car_75 : decode cX11_car 75 = .ok (.ireturn, 1) := by decide +kernel
theorem dX11_car_76 : decode cX11_car 76 = .ok (.aload_n 0, 1) := by decide +kernel
theorem dX11_car_77 : decode cX11_car 77 = .ok (.getfield 37, 3) := by decide +kernel
theorem dX11_car_80 : decode cX11_car 80 = .ok (.getfield 151, 3) := by decide +kernel
theorem dX11_car_83 : decode cX11_car 83 = .ok (.iload_n 1, 1) := by decide +kernel
theorem dX11_car_84 : decode cX11_car 84 = .ok (.invokestatic 144, 3) := by decide +kernel
theorem dX11_car_87 : decode cX11_car 87 = .ok (.ireturn, 1) := by decide +kernel
theorem dX11_car_88 : decode cX11_car 88 = .ok (.aload_n 0, 1) := by decide +kernel
theorem dX11_car_89 : decode cX11_car 89 = .ok (.getfield 37, 3) := by decide +kernel
theorem dX11_car_92 : decode cX11_car 92 = .ok (.getfield 154, 3) := by decide +kernel
theorem dX11_car_95 : decode cX11_car 95 = .ok (.iload_n 1, 1) := by decide +kernel
theorem dX11_car_96 : decode cX11_car 96 = .ok (.invokestatic 144, 3) := by decide +kernel
theorem dX11_car_99 : decode cX11_car 99 = .ok (.ireturn, 1) := by decide +kernel
theorem dX11_car_100 : decode cX11_car 100 = .ok (.aload_n 0, 1) := by decide +kernel
theorem dX11_car_101 : decode cX11_car 101 = .ok (.getfield 37, 3) := by decide +kernel
theorem dX11_car_104 : decode cX11_car 104 = .ok (.iload_n 1, 1) := by decide +kernel
theorem dX11_car_105 : decode cX11_car 105 = .ok (.invokevirtual 157, 3) := by decide +kernel
theorem dX11_car_108 : decode cX11_car 108 = .ok (.ireturn, 1) := by decide +kernel
theorem dX11_car_109 : decode cX11_car 109 = .ok (.aload_n 0, 1) := by decide +kernel
theorem dX11_car_110 : decode cX11_car 110 = .ok (.getfield 37, 3) := by decide +kernel
theorem dX11_car_113 : decode cX11_car 113 = .ok (.iload_n 1, 1) := by decide +kernel
theorem dX11_car_114 : decode cX11_car 114 = .ok (.invokevirtual 161, 3) := by decide +kernel
theorem dX11_car_117 : decode cX11_car 117 = .ok (.ireturn, 1) := by decide +kernel
theorem dX11_car_118 : decode cX11_car 118 = .ok (.bipush (-2), 2) := by decide +kernel
theorem dX11_car_120 : decode cX11_car 120 = .ok (.ireturn, 1) := by decide +kernel
def kX11_car_0 (n : Nat) : mK := i_ldA 0 (i_gA 11 2 (i_ldI 1 (i_cV 4 1 (FX4_hasCar n) (i_c0 (fun x => decide (¬ x = 0)) (i_ldI 2 (i_sw [(0, (i_ldA 0 (i_gA 11 5 (i_gA 8 1 (i_ldI 1 (i_cS 2 (FX11_at n) (i_rI))))))), (1, (i_ldA 0 (i_gA 11 5 (i_gA 8 2 (i_ldI 1 (i_cS 2 (FX11_at n) (i_rI))))))), (2, (i_ldA 0 (i_gA 11 5 (i_gA 8 3 (i_ldI 1 (i_cS 2 (FX11_at n) (i_rI))))))), (3, (i_ldA 0 (i_gA 11 5 (i_gA 8 4 (i_ldI 1 (i_cS 2 (FX11_at n) (i_rI))))))), (4, (i_ldA 0 (i_gA 11 5 (i_ldI 1 (i_cV 8 1 (FX8_whoBars n) (i_rI)))))), (5, (i_ldA 0 (i_gA 11 5 (i_ldI 1 (i_cV 8 1 (FX8_whomItBars n) (i_rI))))))] (i_cst (.int (-2)) (i_rI)))) (i_cst (.int (-2)) (i_rI))))))
set_option maxRecDepth 20000 in
theorem okX11_car_0 {E : mE} {X : State → Heap → Prop} {l : Launch} (hX : mXok E X) (n : Nat) : Sd E X l yX11_car cX11_car 3 (some .int) 5 0 0 0 0 0 (kX11_car_0 n) := s_aload_n dX11_car_0 rfl (s_gA dX11_car_1 lFX11_16 (s_iload_n dX11_car_4 rfl (s_cV dX11_car_5 lMX11_138 bVX4_hasCar rfl (CtX4_hasCar hX n) (Nat.le_of_ble_eq_true rfl) (s_ifne dX11_car_8 (by decide) (s_iload_n dX11_car_14 rfl (s_tsw dX11_car_15 (by decide) (s_bipush dX11_car_118 (by decide) (s_rI dX11_car_120 (Nat.le_of_ble_eq_true rfl) (Nat.le_of_ble_eq_true rfl))) (by decide) (tsw_c (by decide) (by decide) (s_aload_n dX11_car_52 rfl (s_gA dX11_car_53 lFX11_37 (s_gA dX11_car_56 lFX11_141 (s_iload_n dX11_car_59 rfl (s_cS dX11_car_60 lMX11_144 bSX11_at (CtX11_at hX n) (Nat.le_of_ble_eq_true rfl) (s_rI dX11_car_63 (Nat.le_of_ble_eq_true rfl) (Nat.le_of_ble_eq_true rfl)) (Nat.le_of_ble_eq_true rfl) (Nat.le_of_ble_eq_true rfl)))))) (tsw_c (by decide) (by decide) (s_aload_n dX11_car_64 rfl (s_gA dX11_car_65 lFX11_37 (s_gA dX11_car_68 lFX11_148 (s_iload_n dX11_car_71 rfl (s_cS dX11_car_72 lMX11_144 bSX11_at (CtX11_at hX n) (Nat.le_of_ble_eq_true rfl) (s_rI dX11_car_75 (Nat.le_of_ble_eq_true rfl) (Nat.le_of_ble_eq_true rfl)) (Nat.le_of_ble_eq_true rfl) (Nat.le_of_ble_eq_true rfl)))))) (tsw_c (by decide) (by decide) (s_aload_n dX11_car_76 rfl (s_gA dX11_car_77 lFX11_37 (s_gA dX11_car_80 lFX11_151 (s_iload_n dX11_car_83 rfl (s_cS dX11_car_84 lMX11_144 bSX11_at (CtX11_at hX n) (Nat.le_of_ble_eq_true rfl) (s_rI dX11_car_87 (Nat.le_of_ble_eq_true rfl) (Nat.le_of_ble_eq_true rfl)) (Nat.le_of_ble_eq_true rfl) (Nat.le_of_ble_eq_true rfl)))))) (tsw_c (by decide) (by decide) (s_aload_n dX11_car_88 rfl (s_gA dX11_car_89 lFX11_37 (s_gA dX11_car_92 lFX11_154 (s_iload_n dX11_car_95 rfl (s_cS dX11_car_96 lMX11_144 bSX11_at (CtX11_at hX n) (Nat.le_of_ble_eq_true rfl) (s_rI dX11_car_99 (Nat.le_of_ble_eq_true rfl) (Nat.le_of_ble_eq_true rfl)) (Nat.le_of_ble_eq_true rfl) (Nat.le_of_ble_eq_true rfl)))))) (tsw_c (by decide) (by decide) (s_aload_n dX11_car_100 rfl (s_gA dX11_car_101 lFX11_37 (s_iload_n dX11_car_104 rfl (s_cV dX11_car_105 lMX11_157 bVX8_whoBars rfl (CtX8_whoBars hX n) (Nat.le_of_ble_eq_true rfl) (s_rI dX11_car_108 (Nat.le_of_ble_eq_true rfl) (Nat.le_of_ble_eq_true rfl)) (Nat.le_of_ble_eq_true rfl) (Nat.le_of_ble_eq_true rfl))))) (tsw_c (by decide) (by decide) (s_aload_n dX11_car_109 rfl (s_gA dX11_car_110 lFX11_37 (s_iload_n dX11_car_113 rfl (s_cV dX11_car_114 lMX11_161 bVX8_whomItBars rfl (CtX8_whomItBars hX n) (Nat.le_of_ble_eq_true rfl) (s_rI dX11_car_117 (Nat.le_of_ble_eq_true rfl) (Nat.le_of_ble_eq_true rfl)) (Nat.le_of_ble_eq_true rfl) (Nat.le_of_ble_eq_true rfl))))) tsw_n)))))))) (s_bipush dX11_car_11 (by decide) (s_rI dX11_car_13 (Nat.le_of_ble_eq_true rfl) (Nat.le_of_ble_eq_true rfl)))) (Nat.le_of_ble_eq_true rfl) (Nat.le_of_ble_eq_true rfl))))
def FX11_car (n : Nat) : List Value → mM → Option mR := mfn 3 (kX11_car_0 n)
theorem CtX11_car {E : mE} {X : State → Heap → Prop} {l : Launch} (hX : mXok E X) (n : Nat) : Ct E X l yX11_car cX11_car 3 (some .int) 5 0 0 (FX11_car n) := Ct_of (by decide) hX (okX11_car_0 hX n)
theorem dX11_dear_0 : decode cX11_dear 0 = .ok (.iconst 0, 1) := by decide +kernel
theorem dX11_dear_1 : decode cX11_dear 1 = .ok (.istore_n 2, 1) := by decide +kernel
theorem dX11_dear_2 : decode cX11_dear 2 = .ok (.aload_n 0, 1) := by decide +kernel
theorem dX11_dear_3 : decode cX11_dear 3 = .ok (.getfield 37, 3) := by decide +kernel
theorem dX11_dear_6 : decode cX11_dear 6 = .ok (.invokevirtual 170, 3) := by decide +kernel
theorem dX11_dear_9 : decode cX11_dear 9 = .ok (.istore_n 3, 1) := by decide +kernel
theorem dX11_dear_10 : decode cX11_dear 10 = .ok (.iconst 0, 1) := by decide +kernel
theorem dX11_dear_11 : decode cX11_dear 11 = .ok (.istore 4, 2) := by decide +kernel
theorem dX11_dear_13 : decode cX11_dear 13 = .ok (.iload 4, 2) := by decide +kernel
theorem dX11_dear_15 : decode cX11_dear 15 = .ok (.bipush 8, 2) := by decide +kernel
theorem dX11_dear_17 : decode cX11_dear 17 = .ok (.if_icmp .ge 43, 3) := by decide +kernel
theorem dX11_dear_20 : decode cX11_dear 20 = .ok (.aload_n 0, 1) := by decide +kernel
theorem dX11_dear_21 : decode cX11_dear 21 = .ok (.getfield 37, 3) := by decide +kernel
theorem dX11_dear_24 : decode cX11_dear 24 = .ok (.iload 4, 2) := by decide +kernel
theorem dX11_dear_26 : decode cX11_dear 26 = .ok (.invokevirtual 167, 3) := by decide +kernel
theorem dX11_dear_29 : decode cX11_dear 29 = .ok (.ifCond .eq 25, 3) := by decide +kernel
theorem dX11_dear_32 : decode cX11_dear 32 = .ok (.aload_n 0, 1) := by decide +kernel
theorem dX11_dear_33 : decode cX11_dear 33 = .ok (.getfield 37, 3) := by decide +kernel
theorem dX11_dear_36 : decode cX11_dear 36 = .ok (.iload 4, 2) := by decide +kernel
theorem dX11_dear_38 : decode cX11_dear 38 = .ok (.iload_n 3, 1) := by decide +kernel
theorem dX11_dear_39 : decode cX11_dear 39 = .ok (.invokevirtual 174, 3) := by decide +kernel
theorem dX11_dear_42 : decode cX11_dear 42 = .ok (.iload_n 1, 1) := by decide +kernel
theorem dX11_dear_43 : decode cX11_dear 43 = .ok (.if_icmp .lt 11, 3) := by decide +kernel
theorem dX11_dear_46 : decode cX11_dear 46 = .ok (.iload_n 2, 1) := by decide +kernel
theorem dX11_dear_47 : decode cX11_dear 47 = .ok (.iload 4, 2) := by decide +kernel
theorem dX11_dear_49 : decode cX11_dear 49 = .ok (.invokestatic 246, 3) := by decide +kernel
theorem dX11_dear_52 : decode cX11_dear 52 = .ok (.ior, 1) := by decide +kernel
theorem dX11_dear_53 : decode cX11_dear 53 = .ok (.istore_n 2, 1) := by decide +kernel
theorem dX11_dear_54 : decode cX11_dear 54 = .ok (.iinc 4 1, 3) := by decide +kernel
theorem dX11_dear_57 : decode cX11_dear 57 = .ok (.goto (-44), 3) := by decide +kernel
theorem dX11_dear_60 : decode cX11_dear 60 = .ok (.iload_n 2, 1) := by decide +kernel
theorem dX11_dear_61 : decode cX11_dear 61 = .ok (.ireturn, 1) := by decide +kernel
def kX11_dear_54 (n : Nat) (r13 : mK) : mK := i_inc 4 (1) (r13)
set_option maxRecDepth 20000 in
theorem okX11_dear_54 {E : mE} {X : State → Heap → Prop} {l : Launch} (hX : mXok E X) (n : Nat) {r13 : mK} (h13 : Sd E X l yX11_dear cX11_dear 5 (some .int) 5 0 0 0 0 13 r13) : Sd E X l yX11_dear cX11_dear 5 (some .int) 5 0 0 0 0 54 (kX11_dear_54 n r13) := s_iinc dX11_dear_54 (by decide) (s_goto dX11_dear_57 (by decide) h13)
def kX11_dear_13 (n : Nat) (r13 : mK) : mK := i_ldI 4 (i_cst (.int (8)) (i_c2 (fun x y => decide (y ≤ x)) (i_ldI 2 (i_rI)) (i_ldA 0 (i_gA 11 5 (i_ldI 4 (i_cV 8 1 (FX8_isIn n) (i_c0 (fun x => decide (x = 0)) (kX11_dear_54 n r13) (i_ldA 0 (i_gA 11 5 (i_ldI 4 (i_ldI 3 (i_cV 8 2 (FX8_worthAmong n) (i_ldI 1 (i_c2 (fun x y => decide (x < y)) (kX11_dear_54 n r13) (i_ldI 2 (i_ldI 4 (i_cS 1 (FX11_bit n) (i_bin (fun x y => x ||| y) (i_stI 2 (kX11_dear_54 n r13))))))))))))))))))))
set_option maxRecDepth 20000 in
theorem okX11_dear_13 {E : mE} {X : State → Heap → Prop} {l : Launch} (hX : mXok E X) (n : Nat) {r13 : mK} (h13 : Sd E X l yX11_dear cX11_dear 5 (some .int) 5 0 0 0 0 13 r13) : Sd E X l yX11_dear cX11_dear 5 (some .int) 5 0 0 0 0 13 (kX11_dear_13 n r13) := s_iload dX11_dear_13 (s_bipush dX11_dear_15 (by decide) (s_icge dX11_dear_17 (by decide) (s_iload_n dX11_dear_60 rfl (s_rI dX11_dear_61 (Nat.le_of_ble_eq_true rfl) (Nat.le_of_ble_eq_true rfl))) (s_aload_n dX11_dear_20 rfl (s_gA dX11_dear_21 lFX11_37 (s_iload dX11_dear_24 (s_cV dX11_dear_26 lMX11_167 bVX8_isIn rfl (CtX8_isIn hX n) (Nat.le_of_ble_eq_true rfl) (s_ifeq dX11_dear_29 (by decide) (okX11_dear_54 hX n h13) (s_aload_n dX11_dear_32 rfl (s_gA dX11_dear_33 lFX11_37 (s_iload dX11_dear_36 (s_iload_n dX11_dear_38 rfl (s_cV dX11_dear_39 lMX11_174 bVX8_worthAmong rfl (CtX8_worthAmong hX n) (Nat.le_of_ble_eq_true rfl) (s_iload_n dX11_dear_42 rfl (s_iclt dX11_dear_43 (by decide) (okX11_dear_54 hX n h13) (s_iload_n dX11_dear_46 rfl (s_iload dX11_dear_47 (s_cS dX11_dear_49 lMX11_246 bSX11_bit (CtX11_bit hX n) (Nat.le_of_ble_eq_true rfl) (s_ior dX11_dear_52 (s_istore_n dX11_dear_53 rfl (okX11_dear_54 hX n h13))) (Nat.le_of_ble_eq_true rfl) (Nat.le_of_ble_eq_true rfl)))))) (Nat.le_of_ble_eq_true rfl) (Nat.le_of_ble_eq_true rfl))))))) (Nat.le_of_ble_eq_true rfl) (Nat.le_of_ble_eq_true rfl)))))))
def kX11_dear_0 (n : Nat) : mK := i_cst (.int (0)) (i_stI 2 (i_ldA 0 (i_gA 11 5 (i_cV 8 0 (FX8_howMany n) (i_stI 3 (i_cst (.int (0)) (i_stI 4 (mit (kX11_dear_13 n ) n))))))))
set_option maxRecDepth 20000 in
theorem okX11_dear_0 {E : mE} {X : State → Heap → Prop} {l : Launch} (hX : mXok E X) (n : Nat) : Sd E X l yX11_dear cX11_dear 5 (some .int) 5 0 0 0 0 0 (kX11_dear_0 n) := s_iconst dX11_dear_0 (by decide) (s_istore_n dX11_dear_1 rfl (s_aload_n dX11_dear_2 rfl (s_gA dX11_dear_3 lFX11_37 (s_cV dX11_dear_6 lMX11_170 bVX8_howMany rfl (CtX8_howMany hX n) (Nat.le_of_ble_eq_true rfl) (s_istore_n dX11_dear_9 rfl (s_iconst dX11_dear_10 (by decide) (s_istore dX11_dear_11 (s_mit (fun _ hk => okX11_dear_13 hX n hk) n)))) (Nat.le_of_ble_eq_true rfl) (Nat.le_of_ble_eq_true rfl)))))
def FX11_dear (n : Nat) : List Value → mM → Option mR := mfn 5 (kX11_dear_0 n)
theorem CtX11_dear {E : mE} {X : State → Heap → Prop} {l : Launch} (hX : mXok E X) (n : Nat) : Ct E X l yX11_dear cX11_dear 5 (some .int) 5 0 0 (FX11_dear n) := Ct_of (by decide) hX (okX11_dear_0 hX n)
theorem dX11_finest_0 : decode cX11_finest 0 = .ok (.iconst (-1), 1) := by decide +kernel
theorem dX11_finest_1 : decode cX11_finest 1 = .ok (.istore_n 1, 1) := by decide +kernel
theorem dX11_finest_2 : decode cX11_finest 2 = .ok (.iconst 0, 1) := by decide +kernel
theorem dX11_finest_3 : decode cX11_finest 3 = .ok (.istore_n 2, 1) := by decide +kernel
theorem dX11_finest_4 : decode cX11_finest 4 = .ok (.aload_n 0, 1) := by decide +kernel
theorem dX11_finest_5 : decode cX11_finest 5 = .ok (.getfield 37, 3) := by decide +kernel
theorem dX11_finest_8 : decode cX11_finest 8 = .ok (.invokevirtual 170, 3) := by decide +kernel
theorem dX11_finest_11 : decode cX11_finest 11 = .ok (.istore_n 3, 1) := by decide +kernel
theorem dX11_finest_12 : decode cX11_finest 12 = .ok (.iconst 0, 1) := by decide +kernel
theorem dX11_finest_13 : decode cX11_finest 13 = .ok (.istore 4, 2) := by decide +kernel
theorem dX11_finest_15 : decode cX11_finest 15 = .ok (.iload 4, 2) := by decide +kernel
theorem dX11_finest_17 : decode cX11_finest 17 = .ok (.bipush 8, 2) := by decide +kernel
theorem dX11_finest_19 : decode cX11_finest 19 = .ok (.if_icmp .ge 50, 3) := by decide +kernel
theorem dX11_finest_22 : decode cX11_finest 22 = .ok (.aload_n 0, 1) := by decide +kernel
theorem dX11_finest_23 : decode cX11_finest 23 = .ok (.getfield 37, 3) := by decide +kernel
theorem dX11_finest_26 : decode cX11_finest 26 = .ok (.iload 4, 2) := by decide +kernel
theorem dX11_finest_28 : decode cX11_finest 28 = .ok (.invokevirtual 167, 3) := by decide +kernel
theorem dX11_finest_31 : decode cX11_finest 31 = .ok (.ifCond .eq 32, 3) := by decide +kernel
theorem dX11_finest_34 : decode cX11_finest 34 = .ok (.aload_n 0, 1) := by decide +kernel
theorem dX11_finest_35 : decode cX11_finest 35 = .ok (.getfield 37, 3) := by decide +kernel
theorem dX11_finest_38 : decode cX11_finest 38 = .ok (.iload 4, 2) := by decide +kernel
theorem dX11_finest_40 : decode cX11_finest 40 = .ok (.iload_n 3, 1) := by decide +kernel
theorem dX11_finest_41 : decode cX11_finest 41 = .ok (.invokevirtual 174, 3) := by decide +kernel
theorem dX11_finest_44 : decode cX11_finest 44 = .ok (.istore 5, 2) := by decide +kernel
theorem dX11_finest_46 : decode cX11_finest 46 = .ok (.iload_n 1, 1) := by decide +kernel
theorem dX11_finest_47 : decode cX11_finest 47 = .ok (.iconst (-1), 1) := by decide +kernel
theorem dX11_finest_48 : decode cX11_finest 48 = .ok (.if_icmp .eq 9, 3) := by decide +kernel
theorem dX11_finest_51 : decode cX11_finest 51 = .ok (.iload 5, 2) := by decide +kernel
theorem dX11_finest_53 : decode cX11_finest 53 = .ok (.iload_n 2, 1) := by decide +kernel
theorem dX11_finest_54 : decode cX11_finest 54 = .ok (.if_icmp .le 9, 3) := by decide +kernel
theorem dX11_finest_57 : decode cX11_finest 57 = .ok (.iload 4, 2) := by decide +kernel
theorem dX11_finest_59 : decode cX11_finest 59 = .ok (.istore_n 1, 1) := by decide +kernel
theorem dX11_finest_60 : decode cX11_finest 60 = .ok (.iload 5, 2) := by decide +kernel
theorem dX11_finest_62 : decode cX11_finest 62 = .ok (.istore_n 2, 1) := by decide +kernel
theorem dX11_finest_63 : decode cX11_finest 63 = .ok (.iinc 4 1, 3) := by decide +kernel
theorem dX11_finest_66 : decode cX11_finest 66 = .ok (.goto (-51), 3) := by decide +kernel
theorem dX11_finest_69 : decode cX11_finest 69 = .ok (.iload_n 1, 1) := by decide +kernel
theorem dX11_finest_70 : decode cX11_finest 70 = .ok (.ireturn, 1) := by decide +kernel
def kX11_finest_63 (n : Nat) (r15 : mK) : mK := i_inc 4 (1) (r15)
set_option maxRecDepth 20000 in
theorem okX11_finest_63 {E : mE} {X : State → Heap → Prop} {l : Launch} (hX : mXok E X) (n : Nat) {r15 : mK} (h15 : Sd E X l yX11_finest cX11_finest 6 (some .int) 5 0 0 0 0 15 r15) : Sd E X l yX11_finest cX11_finest 6 (some .int) 5 0 0 0 0 63 (kX11_finest_63 n r15) := s_iinc dX11_finest_63 (by decide) (s_goto dX11_finest_66 (by decide) h15)
def kX11_finest_57 (n : Nat) (r15 : mK) : mK := i_ldI 4 (i_stI 1 (i_ldI 5 (i_stI 2 (kX11_finest_63 n r15))))
set_option maxRecDepth 20000 in
theorem okX11_finest_57 {E : mE} {X : State → Heap → Prop} {l : Launch} (hX : mXok E X) (n : Nat) {r15 : mK} (h15 : Sd E X l yX11_finest cX11_finest 6 (some .int) 5 0 0 0 0 15 r15) : Sd E X l yX11_finest cX11_finest 6 (some .int) 5 0 0 0 0 57 (kX11_finest_57 n r15) := s_iload dX11_finest_57 (s_istore_n dX11_finest_59 rfl (s_iload dX11_finest_60 (s_istore_n dX11_finest_62 rfl (okX11_finest_63 hX n h15))))
def kX11_finest_15 (n : Nat) (r15 : mK) : mK := i_ldI 4 (i_cst (.int (8)) (i_c2 (fun x y => decide (y ≤ x)) (i_ldI 1 (i_rI)) (i_ldA 0 (i_gA 11 5 (i_ldI 4 (i_cV 8 1 (FX8_isIn n) (i_c0 (fun x => decide (x = 0)) (kX11_finest_63 n r15) (i_ldA 0 (i_gA 11 5 (i_ldI 4 (i_ldI 3 (i_cV 8 2 (FX8_worthAmong n) (i_stI 5 (i_ldI 1 (i_cst (.int (-1)) (i_c2 (fun x y => decide (x = y)) (kX11_finest_57 n r15) (i_ldI 5 (i_ldI 2 (i_c2 (fun x y => decide (x ≤ y)) (kX11_finest_63 n r15) (kX11_finest_57 n r15))))))))))))))))))))
set_option maxRecDepth 20000 in
theorem okX11_finest_15 {E : mE} {X : State → Heap → Prop} {l : Launch} (hX : mXok E X) (n : Nat) {r15 : mK} (h15 : Sd E X l yX11_finest cX11_finest 6 (some .int) 5 0 0 0 0 15 r15) : Sd E X l yX11_finest cX11_finest 6 (some .int) 5 0 0 0 0 15 (kX11_finest_15 n r15) := s_iload dX11_finest_15 (s_bipush dX11_finest_17 (by decide) (s_icge dX11_finest_19 (by decide) (s_iload_n dX11_finest_69 rfl (s_rI dX11_finest_70 (Nat.le_of_ble_eq_true rfl) (Nat.le_of_ble_eq_true rfl))) (s_aload_n dX11_finest_22 rfl (s_gA dX11_finest_23 lFX11_37 (s_iload dX11_finest_26 (s_cV dX11_finest_28 lMX11_167 bVX8_isIn rfl (CtX8_isIn hX n) (Nat.le_of_ble_eq_true rfl) (s_ifeq dX11_finest_31 (by decide) (okX11_finest_63 hX n h15) (s_aload_n dX11_finest_34 rfl (s_gA dX11_finest_35 lFX11_37 (s_iload dX11_finest_38 (s_iload_n dX11_finest_40 rfl (s_cV dX11_finest_41 lMX11_174 bVX8_worthAmong rfl (CtX8_worthAmong hX n) (Nat.le_of_ble_eq_true rfl) (s_istore dX11_finest_44 (s_iload_n dX11_finest_46 rfl (s_iconst dX11_finest_47 (by decide) (s_iceq dX11_finest_48 (by decide) (okX11_finest_57 hX n h15) (s_iload dX11_finest_51 (s_iload_n dX11_finest_53 rfl (s_icle dX11_finest_54 (by decide) (okX11_finest_63 hX n h15) (okX11_finest_57 hX n h15)))))))) (Nat.le_of_ble_eq_true rfl) (Nat.le_of_ble_eq_true rfl))))))) (Nat.le_of_ble_eq_true rfl) (Nat.le_of_ble_eq_true rfl)))))))
def kX11_finest_0 (n : Nat) : mK := i_cst (.int (-1)) (i_stI 1 (i_cst (.int (0)) (i_stI 2 (i_ldA 0 (i_gA 11 5 (i_cV 8 0 (FX8_howMany n) (i_stI 3 (i_cst (.int (0)) (i_stI 4 (mit (kX11_finest_15 n ) n))))))))))
set_option maxRecDepth 20000 in
theorem okX11_finest_0 {E : mE} {X : State → Heap → Prop} {l : Launch} (hX : mXok E X) (n : Nat) : Sd E X l yX11_finest cX11_finest 6 (some .int) 5 0 0 0 0 0 (kX11_finest_0 n) := s_iconst dX11_finest_0 (by decide) (s_istore_n dX11_finest_1 rfl (s_iconst dX11_finest_2 (by decide) (s_istore_n dX11_finest_3 rfl (s_aload_n dX11_finest_4 rfl (s_gA dX11_finest_5 lFX11_37 (s_cV dX11_finest_8 lMX11_170 bVX8_howMany rfl (CtX8_howMany hX n) (Nat.le_of_ble_eq_true rfl) (s_istore_n dX11_finest_11 rfl (s_iconst dX11_finest_12 (by decide) (s_istore dX11_finest_13 (s_mit (fun _ hk => okX11_finest_15 hX n hk) n)))) (Nat.le_of_ble_eq_true rfl) (Nat.le_of_ble_eq_true rfl)))))))
def FX11_finest (n : Nat) : List Value → mM → Option mR := mfn 6 (kX11_finest_0 n)
theorem CtX11_finest {E : mE} {X : State → Heap → Prop} {l : Launch} (hX : mXok E X) (n : Nat) : Ct E X l yX11_finest cX11_finest 6 (some .int) 5 0 0 (FX11_finest n) := Ct_of (by decide) hX (okX11_finest_0 hX n)
theorem dX11_put_0 : decode cX11_put 0 = .ok (.aload_n 0, 1) := by decide +kernel
theorem dX11_put_1 : decode cX11_put 1 = .ok (.iload_n 1, 1) := by decide +kernel
theorem dX11_put_2 : decode cX11_put 2 = .ok (.invokevirtual 197, 3) := by decide +kernel
theorem dX11_put_5 : decode cX11_put 5 = .ok (.ifCond .eq 26, 3) := by decide +kernel
theorem dX11_put_8 : decode cX11_put 8 = .ok (.aload_n 0, 1) := by decide +kernel
theorem dX11_put_9 : decode cX11_put 9 = .ok (.getfield 16, 3) := by decide +kernel
theorem dX11_put_12 : decode cX11_put 12 = .ok (.iload_n 2, 1) := by decide +kernel
theorem dX11_put_13 : decode cX11_put 13 = .ok (.invokevirtual 200, 3) := by decide +kernel
theorem dX11_put_16 : decode cX11_put 16 = .ok (.ifCond .eq 15, 3) := by decide +kernel
theorem dX11_put_19 : decode cX11_put 19 = .ok (.aload_n 0, 1) := by decide +kernel
theorem dX11_put_20 : decode cX11_put 20 = .ok (.getfield 37, 3) := by decide +kernel
theorem dX11_put_23 : decode cX11_put 23 = .ok (.iload_n 2, 1) := by decide +kernel
theorem dX11_put_24 : decode cX11_put 24 = .ok (.invokevirtual 164, 3) := by decide +kernel
theorem dX11_put_27 : decode cX11_put 27 = .ok (.iconst (-1), 1) := by decide +kernel
theorem dX11_put_28 : decode cX11_put 28 = .ok (.if_icmp .eq 5, 3) := by decide +kernel
theorem dX11_put_31 : decode cX11_put 31 = .ok (.iconst (-1), 1) := by decide +kernel
theorem dX11_put_32 : decode cX11_put 32 = .ok (.ireturn, 1) := by decide +kernel
theorem dX11_put_33 : decode cX11_put 33 = .ok (.aload_n 0, 1) := by decide +kernel
theorem dX11_put_34 : decode cX11_put 34 = .ok (.getfield 37, 3) := by decide +kernel
theorem dX11_put_37 : decode cX11_put 37 = .ok (.getfield 141, 3) := by decide +kernel
theorem dX11_put_40 : decode cX11_put 40 = .ok (.iload_n 1, 1) := by decide +kernel
theorem dX11_put_41 : decode cX11_put 41 = .ok (.iload_n 2, 1) := by decide +kernel
theorem dX11_put_42 : decode cX11_put 42 = .ok (.invokestatic 112, 3) := by decide +kernel
theorem dX11_put_45 : decode cX11_put 45 = .ok (.aload_n 0, 1) := by decide +kernel
theorem dX11_put_46 : decode cX11_put 46 = .ok (.getfield 63, 3) := by decide +kernel
theorem dX11_put_49 : decode cX11_put 49 = .ok (.invokevirtual 188, 3) := by decide +kernel
theorem dX11_put_52 : decode cX11_put 52 = .ok (.aload_n 0, 1) := by decide +kernel
theorem dX11_put_53 : decode cX11_put 53 = .ok (.getfield 37, 3) := by decide +kernel
theorem dX11_put_56 : decode cX11_put 56 = .ok (.iload_n 1, 1) := by decide +kernel
theorem dX11_put_57 : decode cX11_put 57 = .ok (.invokevirtual 157, 3) := by decide +kernel
theorem dX11_put_60 : decode cX11_put 60 = .ok (.ireturn, 1) := by decide +kernel
def kX11_put_31 (n : Nat) : mK := i_cst (.int (-1)) (i_rI)
set_option maxRecDepth 20000 in
theorem okX11_put_31 {E : mE} {X : State → Heap → Prop} {l : Launch} (hX : mXok E X) (n : Nat) : Sd E X l yX11_put cX11_put 3 (some .int) 5 0 0 0 0 31 (kX11_put_31 n) := s_iconst dX11_put_31 (by decide) (s_rI dX11_put_32 (Nat.le_of_ble_eq_true rfl) (Nat.le_of_ble_eq_true rfl))
def kX11_put_52 (n : Nat) : mK := i_ldA 0 (i_gA 11 5 (i_ldI 1 (i_cV 8 1 (FX8_whoBars n) (i_rI))))
set_option maxRecDepth 20000 in
theorem okX11_put_52 {E : mE} {X : State → Heap → Prop} {l : Launch} (hX : mXok E X) (n : Nat) : Sd E X l yX11_put cX11_put 3 (some .int) 5 0 0 0 0 52 (kX11_put_52 n) := s_aload_n dX11_put_52 rfl (s_gA dX11_put_53 lFX11_37 (s_iload_n dX11_put_56 rfl (s_cV dX11_put_57 lMX11_157 bVX8_whoBars rfl (CtX8_whoBars hX n) (Nat.le_of_ble_eq_true rfl) (s_rI dX11_put_60 (Nat.le_of_ble_eq_true rfl) (Nat.le_of_ble_eq_true rfl)) (Nat.le_of_ble_eq_true rfl) (Nat.le_of_ble_eq_true rfl))))
def kX11_put_0 (n : Nat) : mK := i_ldA 0 (i_ldI 1 (i_cV 11 1 (FX11_isOff n) (i_c0 (fun x => decide (x = 0)) (kX11_put_31 n) (i_ldA 0 (i_gA 11 2 (i_ldI 2 (i_cV 4 1 (FX4_hasCell n) (i_c0 (fun x => decide (x = 0)) (kX11_put_31 n) (i_ldA 0 (i_gA 11 5 (i_ldI 2 (i_cV 8 1 (FX8_whoIsAt n) (i_cst (.int (-1)) (i_c2 (fun x y => decide (x = y)) (i_ldA 0 (i_gA 11 5 (i_gA 8 1 (i_ldI 1 (i_ldI 2 (i_cS 3 (FX11_set n) (i_ldA 0 (i_gA 11 9 (i_cV 3 0 (FX3_keep n) (kX11_put_52 n)))))))))) (kX11_put_31 n)))))))))))))))
set_option maxRecDepth 20000 in
theorem okX11_put_0 {E : mE} {X : State → Heap → Prop} {l : Launch} (hX : mXok E X) (n : Nat) : Sd E X l yX11_put cX11_put 3 (some .int) 5 0 0 0 0 0 (kX11_put_0 n) := s_aload_n dX11_put_0 rfl (s_iload_n dX11_put_1 rfl (s_cV dX11_put_2 lMX11_197 bVX11_isOff rfl (CtX11_isOff hX n) (Nat.le_of_ble_eq_true rfl) (s_ifeq dX11_put_5 (by decide) (okX11_put_31 hX n) (s_aload_n dX11_put_8 rfl (s_gA dX11_put_9 lFX11_16 (s_iload_n dX11_put_12 rfl (s_cV dX11_put_13 lMX11_200 bVX4_hasCell rfl (CtX4_hasCell hX n) (Nat.le_of_ble_eq_true rfl) (s_ifeq dX11_put_16 (by decide) (okX11_put_31 hX n) (s_aload_n dX11_put_19 rfl (s_gA dX11_put_20 lFX11_37 (s_iload_n dX11_put_23 rfl (s_cV dX11_put_24 lMX11_164 bVX8_whoIsAt rfl (CtX8_whoIsAt hX n) (Nat.le_of_ble_eq_true rfl) (s_iconst dX11_put_27 (by decide) (s_iceq dX11_put_28 (by decide) (s_aload_n dX11_put_33 rfl (s_gA dX11_put_34 lFX11_37 (s_gA dX11_put_37 lFX11_141 (s_iload_n dX11_put_40 rfl (s_iload_n dX11_put_41 rfl (s_cS dX11_put_42 lMX11_112 bSX11_set (CtX11_set hX n) (Nat.le_of_ble_eq_true rfl) (s_aload_n dX11_put_45 rfl (s_gA dX11_put_46 lFX11_63 (s_cV dX11_put_49 lMX11_188 bVX3_keep rfl (CtX3_keep hX n) (Nat.le_of_ble_eq_true rfl) (okX11_put_52 hX n) (Nat.le_of_ble_eq_true rfl) (Nat.le_of_ble_eq_true rfl)))) (Nat.le_of_ble_eq_true rfl) (Nat.le_of_ble_eq_true rfl))))))) (okX11_put_31 hX n))) (Nat.le_of_ble_eq_true rfl) (Nat.le_of_ble_eq_true rfl)))))) (Nat.le_of_ble_eq_true rfl) (Nat.le_of_ble_eq_true rfl)))))) (Nat.le_of_ble_eq_true rfl) (Nat.le_of_ble_eq_true rfl)))
def FX11_put (n : Nat) : List Value → mM → Option mR := mfn 3 (kX11_put_0 n)
theorem CtX11_put {E : mE} {X : State → Heap → Prop} {l : Launch} (hX : mXok E X) (n : Nat) : Ct E X l yX11_put cX11_put 3 (some .int) 5 0 0 (FX11_put n) := Ct_of (by decide) hX (okX11_put_0 hX n)
theorem dX11_sale_0 : decode cX11_sale 0 = .ok (.aload_n 0, 1) := by decide +kernel
theorem dX11_sale_1 : decode cX11_sale 1 = .ok (.getfield 84, 3) := by decide +kernel
theorem dX11_sale_4 : decode cX11_sale 4 = .ok (.invokevirtual 126, 3) := by decide +kernel
theorem dX11_sale_7 : decode cX11_sale 7 = .ok (.iload_n 1, 1) := by decide +kernel
theorem dX11_sale_8 : decode cX11_sale 8 = .ok (.iload_n 2, 1) := by decide +kernel
theorem dX11_sale_9 : decode cX11_sale 9 = .ok (.if_icmp .eq 25, 3) := by decide +kernel
theorem dX11_sale_12 : decode cX11_sale 12 = .ok (.aload_n 0, 1) := by decide +kernel
theorem dX11_sale_13 : decode cX11_sale 13 = .ok (.getfield 37, 3) := by decide +kernel
theorem dX11_sale_16 : decode cX11_sale 16 = .ok (.iload_n 1, 1) := by decide +kernel
theorem dX11_sale_17 : decode cX11_sale 17 = .ok (.invokevirtual 167, 3) := by decide +kernel
theorem dX11_sale_20 : decode cX11_sale 20 = .ok (.ifCond .eq 14, 3) := by decide +kernel
theorem dX11_sale_23 : decode cX11_sale 23 = .ok (.aload_n 0, 1) := by decide +kernel
theorem dX11_sale_24 : decode cX11_sale 24 = .ok (.getfield 37, 3) := by decide +kernel
theorem dX11_sale_27 : decode cX11_sale 27 = .ok (.iload_n 2, 1) := by decide +kernel
theorem dX11_sale_28 : decode cX11_sale 28 = .ok (.invokevirtual 167, 3) := by decide +kernel
theorem dX11_sale_31 : decode cX11_sale 31 = .ok (.ifCond .ne 5, 3) := by decide +kernel
theorem dX11_sale_34 : decode cX11_sale 34 = .ok (.iconst (-1), 1) := by decide +kernel
theorem dX11_sale_35 : decode cX11_sale 35 = .ok (.ireturn, 1) := by decide +kernel
theorem dX11_sale_36 : decode cX11_sale 36 = .ok (.aload_n 0, 1) := by decide +kernel
theorem dX11_sale_37 : decode cX11_sale 37 = .ok (.getfield 37, 3) := by decide +kernel
theorem dX11_sale_40 : decode cX11_sale 40 = .ok (.invokevirtual 170, 3) := by decide +kernel
theorem dX11_sale_43 : decode cX11_sale 43 = .ok (.istore_n 3, 1) := by decide +kernel
theorem dX11_sale_44 : decode cX11_sale 44 = .ok (.aload_n 0, 1) := by decide +kernel
theorem dX11_sale_45 : decode cX11_sale 45 = .ok (.getfield 77, 3) := by decide +kernel
theorem dX11_sale_48 : decode cX11_sale 48 = .ok (.aload_n 0, 1) := by decide +kernel
theorem dX11_sale_49 : decode cX11_sale 49 = .ok (.getfield 37, 3) := by decide +kernel
theorem dX11_sale_52 : decode cX11_sale 52 = .ok (.iload_n 1, 1) := by decide +kernel
theorem dX11_sale_53 : decode cX11_sale 53 = .ok (.iload_n 3, 1) := by decide +kernel
theorem dX11_sale_54 : decode cX11_sale 54 = .ok (.invokevirtual 174, 3) := by decide +kernel
theorem dX11_sale_57 : decode cX11_sale 57 = .ok (.aload_n 0, 1) := by decide +kernel
theorem dX11_sale_58 : decode cX11_sale 58 = .ok (.getfield 37, 3) := by decide +kernel
theorem dX11_sale_61 : decode cX11_sale 61 = .ok (.iload_n 2, 1) := by decide +kernel
theorem dX11_sale_62 : decode cX11_sale 62 = .ok (.iload_n 3, 1) := by decide +kernel
theorem dX11_sale_63 : decode cX11_sale 63 = .ok (.invokevirtual 174, 3) := by decide +kernel
theorem dX11_sale_66 : decode cX11_sale 66 = .ok (.invokevirtual 304, 3) := by decide +kernel
theorem dX11_sale_69 : decode cX11_sale 69 = .ok (.aload_n 0, 1) := by decide +kernel
theorem dX11_sale_70 : decode cX11_sale 70 = .ok (.getfield 77, 3) := by decide +kernel
theorem dX11_sale_73 : decode cX11_sale 73 = .ok (.aload_n 0, 1) := by decide +kernel
theorem dX11_sale_74 : decode cX11_sale 74 = .ok (.getfield 84, 3) := by decide +kernel
theorem dX11_sale_77 : decode cX11_sale 77 = .ok (.invokevirtual 307, 3) := by decide +kernel
theorem dX11_sale_80 : decode cX11_sale 80 = .ok (.ireturn, 1) := by decide +kernel
def kX11_sale_34 (n : Nat) : mK := i_cst (.int (-1)) (i_rI)
set_option maxRecDepth 20000 in
theorem okX11_sale_34 {E : mE} {X : State → Heap → Prop} {l : Launch} (hX : mXok E X) (n : Nat) : Sd E X l yX11_sale cX11_sale 4 (some .int) 5 0 0 0 0 34 (kX11_sale_34 n) := s_iconst dX11_sale_34 (by decide) (s_rI dX11_sale_35 (Nat.le_of_ble_eq_true rfl) (Nat.le_of_ble_eq_true rfl))
def kX11_sale_52 (n : Nat) : mK := i_ldI 1 (i_ldI 3 (i_cV 8 2 (FX8_worthAmong n) (i_ldA 0 (i_gA 11 5 (i_ldI 2 (i_ldI 3 (i_cV 8 2 (FX8_worthAmong n) (i_cV 7 2 (FX7_open n) (i_ldA 0 (i_gA 11 11 (i_ldA 0 (i_gA 11 12 (i_cV 7 1 (FX7_layRests n) (i_rI))))))))))))))
set_option maxRecDepth 20000 in
theorem okX11_sale_52 {E : mE} {X : State → Heap → Prop} {l : Launch} (hX : mXok E X) (n : Nat) : Sd E X l yX11_sale cX11_sale 4 (some .int) 5 0 0 0 0 52 (kX11_sale_52 n) := s_iload_n dX11_sale_52 rfl (s_iload_n dX11_sale_53 rfl (s_cV dX11_sale_54 lMX11_174 bVX8_worthAmong rfl (CtX8_worthAmong hX n) (Nat.le_of_ble_eq_true rfl) (s_aload_n dX11_sale_57 rfl (s_gA dX11_sale_58 lFX11_37 (s_iload_n dX11_sale_61 rfl (s_iload_n dX11_sale_62 rfl (s_cV dX11_sale_63 lMX11_174 bVX8_worthAmong rfl (CtX8_worthAmong hX n) (Nat.le_of_ble_eq_true rfl) (s_cV dX11_sale_66 lMX11_304 bVX7_open rfl (CtX7_open hX n) (Nat.le_of_ble_eq_true rfl) (s_aload_n dX11_sale_69 rfl (s_gA dX11_sale_70 lFX11_77 (s_aload_n dX11_sale_73 rfl (s_gA dX11_sale_74 lFX11_84 (s_cV dX11_sale_77 lMX11_307 bVX7_layRests rfl (CtX7_layRests hX n) (Nat.le_of_ble_eq_true rfl) (s_rI dX11_sale_80 (Nat.le_of_ble_eq_true rfl) (Nat.le_of_ble_eq_true rfl)) (Nat.le_of_ble_eq_true rfl) (Nat.le_of_ble_eq_true rfl)))))) (Nat.le_of_ble_eq_true rfl) (Nat.le_of_ble_eq_true rfl)) (Nat.le_of_ble_eq_true rfl) (Nat.le_of_ble_eq_true rfl)))))) (Nat.le_of_ble_eq_true rfl) (Nat.le_of_ble_eq_true rfl)))
def kX11_sale_0 (n : Nat) : mK := i_ldA 0 (i_gA 11 12 (i_cV 6 0 (FX6_clear n) (i_ldI 1 (i_ldI 2 (i_c2 (fun x y => decide (x = y)) (kX11_sale_34 n) (i_ldA 0 (i_gA 11 5 (i_ldI 1 (i_cV 8 1 (FX8_isIn n) (i_c0 (fun x => decide (x = 0)) (kX11_sale_34 n) (i_ldA 0 (i_gA 11 5 (i_ldI 2 (i_cV 8 1 (FX8_isIn n) (i_c0 (fun x => decide (¬ x = 0)) (i_ldA 0 (i_gA 11 5 (i_cV 8 0 (FX8_howMany n) (i_stI 3 (i_ldA 0 (i_gA 11 11 (i_ldA 0 (i_gA 11 5 (kX11_sale_52 n))))))))) (kX11_sale_34 n))))))))))))))))
set_option maxRecDepth 20000 in
theorem okX11_sale_0 {E : mE} {X : State → Heap → Prop} {l : Launch} (hX : mXok E X) (n : Nat) : Sd E X l yX11_sale cX11_sale 4 (some .int) 5 0 0 0 0 0 (kX11_sale_0 n) := s_aload_n dX11_sale_0 rfl (s_gA dX11_sale_1 lFX11_84 (s_cV dX11_sale_4 lMX11_126 bVX6_clear rfl (CtX6_clear hX n) (Nat.le_of_ble_eq_true rfl) (s_iload_n dX11_sale_7 rfl (s_iload_n dX11_sale_8 rfl (s_iceq dX11_sale_9 (by decide) (okX11_sale_34 hX n) (s_aload_n dX11_sale_12 rfl (s_gA dX11_sale_13 lFX11_37 (s_iload_n dX11_sale_16 rfl (s_cV dX11_sale_17 lMX11_167 bVX8_isIn rfl (CtX8_isIn hX n) (Nat.le_of_ble_eq_true rfl) (s_ifeq dX11_sale_20 (by decide) (okX11_sale_34 hX n) (s_aload_n dX11_sale_23 rfl (s_gA dX11_sale_24 lFX11_37 (s_iload_n dX11_sale_27 rfl (s_cV dX11_sale_28 lMX11_167 bVX8_isIn rfl (CtX8_isIn hX n) (Nat.le_of_ble_eq_true rfl) (s_ifne dX11_sale_31 (by decide) (s_aload_n dX11_sale_36 rfl (s_gA dX11_sale_37 lFX11_37 (s_cV dX11_sale_40 lMX11_170 bVX8_howMany rfl (CtX8_howMany hX n) (Nat.le_of_ble_eq_true rfl) (s_istore_n dX11_sale_43 rfl (s_aload_n dX11_sale_44 rfl (s_gA dX11_sale_45 lFX11_77 (s_aload_n dX11_sale_48 rfl (s_gA dX11_sale_49 lFX11_37 (okX11_sale_52 hX n)))))) (Nat.le_of_ble_eq_true rfl) (Nat.le_of_ble_eq_true rfl)))) (okX11_sale_34 hX n)) (Nat.le_of_ble_eq_true rfl) (Nat.le_of_ble_eq_true rfl)))))) (Nat.le_of_ble_eq_true rfl) (Nat.le_of_ble_eq_true rfl)))))))) (Nat.le_of_ble_eq_true rfl) (Nat.le_of_ble_eq_true rfl)))
def FX11_sale (n : Nat) : List Value → mM → Option mR := mfn 4 (kX11_sale_0 n)
theorem CtX11_sale {E : mE} {X : State → Heap → Prop} {l : Launch} (hX : mXok E X) (n : Nat) : Ct E X l yX11_sale cX11_sale 4 (some .int) 5 0 0 (FX11_sale n) := Ct_of (by decide) hX (okX11_sale_0 hX n)
theorem dX11_softer_0 : decode cX11_softer 0 = .ok (.aload_n 0, 1) := by decide +kernel
theorem dX11_softer_1 : decode cX11_softer 1 = .ok (.getfield 37, 3) := by decide +kernel
theorem dX11_softer_4 : decode cX11_softer 4 = .ok (.iload_n 1, 1) := by decide +kernel
theorem dX11_softer_5 : decode cX11_softer 5 = .ok (.invokevirtual 167, 3) := by decide +kernel
theorem dX11_softer_8 : decode cX11_softer 8 = .ok (.ifCond .eq 21, 3) := by decide +kernel
theorem dX11_softer_11 : decode cX11_softer 11 = .ok (.aload_n 0, 1) := by decide +kernel
theorem dX11_softer_12 : decode cX11_softer 12 = .ok (.getfield 37, 3) := by decide +kernel
theorem dX11_softer_15 : decode cX11_softer 15 = .ok (.iload_n 1, 1) := by decide +kernel
theorem dX11_softer_16 : decode cX11_softer 16 = .ok (.aload_n 0, 1) := by decide +kernel
theorem dX11_softer_17 : decode cX11_softer 17 = .ok (.getfield 37, 3) := by decide +kernel
theorem dX11_softer_20 : decode cX11_softer 20 = .ok (.invokevirtual 170, 3) := by decide +kernel
theorem dX11_softer_23 : decode cX11_softer 23 = .ok (.invokevirtual 269, 3) := by decide +kernel
theorem dX11_softer_26 : decode cX11_softer 26 = .ok (.goto 4, 3) := by decide +kernel
theorem dX11_softer_29 : decode cX11_softer 29 = .ok (.iconst (-1), 1) := by decide +kernel
theorem dX11_softer_30 : decode cX11_softer 30 = .ok (.ireturn, 1) := by decide +kernel
def kX11_softer_30 (n : Nat) : mK := i_rI
set_option maxRecDepth 20000 in
theorem okX11_softer_30 {E : mE} {X : State → Heap → Prop} {l : Launch} (hX : mXok E X) (n : Nat) : Sd E X l yX11_softer cX11_softer 2 (some .int) 5 0 0 0 0 30 (kX11_softer_30 n) := s_rI dX11_softer_30 (Nat.le_of_ble_eq_true rfl) (Nat.le_of_ble_eq_true rfl)
def kX11_softer_0 (n : Nat) : mK := i_ldA 0 (i_gA 11 5 (i_ldI 1 (i_cV 8 1 (FX8_isIn n) (i_c0 (fun x => decide (x = 0)) (i_cst (.int (-1)) (kX11_softer_30 n)) (i_ldA 0 (i_gA 11 5 (i_ldI 1 (i_ldA 0 (i_gA 11 5 (i_cV 8 0 (FX8_howMany n) (i_cV 8 2 (FX8_softeningAmong n) ((kX11_softer_30 n)))))))))))))
set_option maxRecDepth 20000 in
theorem okX11_softer_0 {E : mE} {X : State → Heap → Prop} {l : Launch} (hX : mXok E X) (n : Nat) : Sd E X l yX11_softer cX11_softer 2 (some .int) 5 0 0 0 0 0 (kX11_softer_0 n) := s_aload_n dX11_softer_0 rfl (s_gA dX11_softer_1 lFX11_37 (s_iload_n dX11_softer_4 rfl (s_cV dX11_softer_5 lMX11_167 bVX8_isIn rfl (CtX8_isIn hX n) (Nat.le_of_ble_eq_true rfl) (s_ifeq dX11_softer_8 (by decide) (s_iconst dX11_softer_29 (by decide) (okX11_softer_30 hX n)) (s_aload_n dX11_softer_11 rfl (s_gA dX11_softer_12 lFX11_37 (s_iload_n dX11_softer_15 rfl (s_aload_n dX11_softer_16 rfl (s_gA dX11_softer_17 lFX11_37 (s_cV dX11_softer_20 lMX11_170 bVX8_howMany rfl (CtX8_howMany hX n) (Nat.le_of_ble_eq_true rfl) (s_cV dX11_softer_23 lMX11_269 bVX8_softeningAmong rfl (CtX8_softeningAmong hX n) (Nat.le_of_ble_eq_true rfl) (s_goto dX11_softer_26 (by decide) (okX11_softer_30 hX n)) (Nat.le_of_ble_eq_true rfl) (Nat.le_of_ble_eq_true rfl)) (Nat.le_of_ble_eq_true rfl) (Nat.le_of_ble_eq_true rfl)))))))) (Nat.le_of_ble_eq_true rfl) (Nat.le_of_ble_eq_true rfl))))
def FX11_softer (n : Nat) : List Value → mM → Option mR := mfn 2 (kX11_softer_0 n)
theorem CtX11_softer {E : mE} {X : State → Heap → Prop} {l : Launch} (hX : mXok E X) (n : Nat) : Ct E X l yX11_softer cX11_softer 2 (some .int) 5 0 0 (FX11_softer n) := Ct_of (by decide) hX (okX11_softer_0 hX n)
theorem dX11_steer_0 : decode cX11_steer 0 = .ok (.aload_n 0, 1) := by decide +kernel
theorem dX11_steer_1 : decode cX11_steer 1 = .ok (.getfield 37, 3) := by decide +kernel
theorem dX11_steer_4 : decode cX11_steer 4 = .ok (.iload_n 1, 1) := by decide +kernel
theorem dX11_steer_5 : decode cX11_steer 5 = .ok (.invokevirtual 167, 3) := by decide +kernel
theorem dX11_steer_8 : decode cX11_steer 8 = .ok (.ifCond .eq 25, 3) := by decide +kernel
theorem dX11_steer_11 : decode cX11_steer 11 = .ok (.iload_n 2, 1) := by decide +kernel
theorem dX11_steer_12 : decode cX11_steer 12 = .ok (.invokestatic 194, 3) := by decide +kernel
theorem dX11_steer_15 : decode cX11_steer 15 = .ok (.ifCond .eq 18, 3) := by decide +kernel
theorem dX11_steer_18 : decode cX11_steer 18 = .ok (.aload_n 0, 1) := by decide +kernel
theorem dX11_steer_19 : decode cX11_steer 19 = .ok (.getfield 37, 3) := by decide +kernel
theorem dX11_steer_22 : decode cX11_steer 22 = .ok (.getfield 148, 3) := by decide +kernel
theorem dX11_steer_25 : decode cX11_steer 25 = .ok (.iload_n 1, 1) := by decide +kernel
theorem dX11_steer_26 : decode cX11_steer 26 = .ok (.invokestatic 144, 3) := by decide +kernel
theorem dX11_steer_29 : decode cX11_steer 29 = .ok (.iload_n 2, 1) := by decide +kernel
theorem dX11_steer_30 : decode cX11_steer 30 = .ok (.if_icmp .ne 5, 3) := by decide +kernel
theorem dX11_steer_33 : decode cX11_steer 33 = .ok (.iconst (-1), 1) := by decide +kernel
theorem dX11_steer_34 : decode cX11_steer 34 = .ok (.ireturn, 1) := by decide +kernel
theorem dX11_steer_35 : decode cX11_steer 35 = .ok (.aload_n 0, 1) := by decide +kernel
theorem dX11_steer_36 : decode cX11_steer 36 = .ok (.getfield 37, 3) := by decide +kernel
theorem dX11_steer_39 : decode cX11_steer 39 = .ok (.getfield 148, 3) := by decide +kernel
theorem dX11_steer_42 : decode cX11_steer 42 = .ok (.iload_n 1, 1) := by decide +kernel
theorem dX11_steer_43 : decode cX11_steer 43 = .ok (.iload_n 2, 1) := by decide +kernel
theorem dX11_steer_44 : decode cX11_steer 44 = .ok (.invokestatic 112, 3) := by decide +kernel
theorem dX11_steer_47 : decode cX11_steer 47 = .ok (.aload_n 0, 1) := by decide +kernel
theorem dX11_steer_48 : decode cX11_steer 48 = .ok (.getfield 63, 3) := by decide +kernel
theorem dX11_steer_51 : decode cX11_steer 51 = .ok (.invokevirtual 188, 3) := by decide +kernel
theorem dX11_steer_54 : decode cX11_steer 54 = .ok (.aload_n 0, 1) := by decide +kernel
theorem dX11_steer_55 : decode cX11_steer 55 = .ok (.getfield 37, 3) := by decide +kernel
theorem dX11_steer_58 : decode cX11_steer 58 = .ok (.iload_n 1, 1) := by decide +kernel
theorem dX11_steer_59 : decode cX11_steer 59 = .ok (.invokevirtual 157, 3) := by decide +kernel
theorem dX11_steer_62 : decode cX11_steer 62 = .ok (.ireturn, 1) := by decide +kernel
def kX11_steer_33 (n : Nat) : mK := i_cst (.int (-1)) (i_rI)
set_option maxRecDepth 20000 in
theorem okX11_steer_33 {E : mE} {X : State → Heap → Prop} {l : Launch} (hX : mXok E X) (n : Nat) : Sd E X l yX11_steer cX11_steer 3 (some .int) 5 0 0 0 0 33 (kX11_steer_33 n) := s_iconst dX11_steer_33 (by decide) (s_rI dX11_steer_34 (Nat.le_of_ble_eq_true rfl) (Nat.le_of_ble_eq_true rfl))
def kX11_steer_54 (n : Nat) : mK := i_ldA 0 (i_gA 11 5 (i_ldI 1 (i_cV 8 1 (FX8_whoBars n) (i_rI))))
set_option maxRecDepth 20000 in
theorem okX11_steer_54 {E : mE} {X : State → Heap → Prop} {l : Launch} (hX : mXok E X) (n : Nat) : Sd E X l yX11_steer cX11_steer 3 (some .int) 5 0 0 0 0 54 (kX11_steer_54 n) := s_aload_n dX11_steer_54 rfl (s_gA dX11_steer_55 lFX11_37 (s_iload_n dX11_steer_58 rfl (s_cV dX11_steer_59 lMX11_157 bVX8_whoBars rfl (CtX8_whoBars hX n) (Nat.le_of_ble_eq_true rfl) (s_rI dX11_steer_62 (Nat.le_of_ble_eq_true rfl) (Nat.le_of_ble_eq_true rfl)) (Nat.le_of_ble_eq_true rfl) (Nat.le_of_ble_eq_true rfl))))
def kX11_steer_0 (n : Nat) : mK := i_ldA 0 (i_gA 11 5 (i_ldI 1 (i_cV 8 1 (FX8_isIn n) (i_c0 (fun x => decide (x = 0)) (kX11_steer_33 n) (i_ldI 2 (i_cS 1 (FX11_isHeading n) (i_c0 (fun x => decide (x = 0)) (kX11_steer_33 n) (i_ldA 0 (i_gA 11 5 (i_gA 8 2 (i_ldI 1 (i_cS 2 (FX11_at n) (i_ldI 2 (i_c2 (fun x y => decide (¬ x = y)) (i_ldA 0 (i_gA 11 5 (i_gA 8 2 (i_ldI 1 (i_ldI 2 (i_cS 3 (FX11_set n) (i_ldA 0 (i_gA 11 9 (i_cV 3 0 (FX3_keep n) (kX11_steer_54 n)))))))))) (kX11_steer_33 n)))))))))))))))
set_option maxRecDepth 20000 in
theorem okX11_steer_0 {E : mE} {X : State → Heap → Prop} {l : Launch} (hX : mXok E X) (n : Nat) : Sd E X l yX11_steer cX11_steer 3 (some .int) 5 0 0 0 0 0 (kX11_steer_0 n) := s_aload_n dX11_steer_0 rfl (s_gA dX11_steer_1 lFX11_37 (s_iload_n dX11_steer_4 rfl (s_cV dX11_steer_5 lMX11_167 bVX8_isIn rfl (CtX8_isIn hX n) (Nat.le_of_ble_eq_true rfl) (s_ifeq dX11_steer_8 (by decide) (okX11_steer_33 hX n) (s_iload_n dX11_steer_11 rfl (s_cS dX11_steer_12 lMX11_194 bSX11_isHeading (CtX11_isHeading hX n) (Nat.le_of_ble_eq_true rfl) (s_ifeq dX11_steer_15 (by decide) (okX11_steer_33 hX n) (s_aload_n dX11_steer_18 rfl (s_gA dX11_steer_19 lFX11_37 (s_gA dX11_steer_22 lFX11_148 (s_iload_n dX11_steer_25 rfl (s_cS dX11_steer_26 lMX11_144 bSX11_at (CtX11_at hX n) (Nat.le_of_ble_eq_true rfl) (s_iload_n dX11_steer_29 rfl (s_icne dX11_steer_30 (by decide) (s_aload_n dX11_steer_35 rfl (s_gA dX11_steer_36 lFX11_37 (s_gA dX11_steer_39 lFX11_148 (s_iload_n dX11_steer_42 rfl (s_iload_n dX11_steer_43 rfl (s_cS dX11_steer_44 lMX11_112 bSX11_set (CtX11_set hX n) (Nat.le_of_ble_eq_true rfl) (s_aload_n dX11_steer_47 rfl (s_gA dX11_steer_48 lFX11_63 (s_cV dX11_steer_51 lMX11_188 bVX3_keep rfl (CtX3_keep hX n) (Nat.le_of_ble_eq_true rfl) (okX11_steer_54 hX n) (Nat.le_of_ble_eq_true rfl) (Nat.le_of_ble_eq_true rfl)))) (Nat.le_of_ble_eq_true rfl) (Nat.le_of_ble_eq_true rfl))))))) (okX11_steer_33 hX n))) (Nat.le_of_ble_eq_true rfl) (Nat.le_of_ble_eq_true rfl))))))) (Nat.le_of_ble_eq_true rfl) (Nat.le_of_ble_eq_true rfl)))) (Nat.le_of_ble_eq_true rfl) (Nat.le_of_ble_eq_true rfl))))
def FX11_steer (n : Nat) : List Value → mM → Option mR := mfn 3 (kX11_steer_0 n)
theorem CtX11_steer {E : mE} {X : State → Heap → Prop} {l : Launch} (hX : mXok E X) (n : Nat) : Ct E X l yX11_steer cX11_steer 3 (some .int) 5 0 0 (FX11_steer n) := Ct_of (by decide) hX (okX11_steer_0 hX n)
theorem dX11_takeOff_0 : decode cX11_takeOff 0 = .ok (.aload_n 0, 1) := by decide +kernel
theorem dX11_takeOff_1 : decode cX11_takeOff 1 = .ok (.getfield 37, 3) := by decide +kernel
theorem dX11_takeOff_4 : decode cX11_takeOff 4 = .ok (.getfield 141, 3) := by decide +kernel
theorem dX11_takeOff_7 : decode cX11_takeOff 7 = .ok (.iload_n 1, 1) := by decide +kernel
theorem dX11_takeOff_8 : decode cX11_takeOff 8 = .ok (.iconst (-1), 1) := by decide +kernel
theorem dX11_takeOff_9 : decode cX11_takeOff 9 = .ok (.invokestatic 112, 3) := by decide +kernel
theorem dX11_takeOff_12 : decode cX11_takeOff 12 = .ok (.aload_n 0, 1) := by decide +kernel
theorem dX11_takeOff_13 : decode cX11_takeOff 13 = .ok (.getfield 63, 3) := by decide +kernel
theorem dX11_takeOff_16 : decode cX11_takeOff 16 = .ok (.invokevirtual 188, 3) := by decide +kernel
theorem dX11_takeOff_19 : decode cX11_takeOff 19 = .ok (.aload_n 0, 1) := by decide +kernel
theorem dX11_takeOff_20 : decode cX11_takeOff 20 = .ok (.getfield 37, 3) := by decide +kernel
theorem dX11_takeOff_23 : decode cX11_takeOff 23 = .ok (.invokevirtual 170, 3) := by decide +kernel
theorem dX11_takeOff_26 : decode cX11_takeOff 26 = .ok (.ireturn, 1) := by decide +kernel
def kX11_takeOff_0 (n : Nat) : mK := i_ldA 0 (i_gA 11 5 (i_gA 8 1 (i_ldI 1 (i_cst (.int (-1)) (i_cS 3 (FX11_set n) (i_ldA 0 (i_gA 11 9 (i_cV 3 0 (FX3_keep n) (i_ldA 0 (i_gA 11 5 (i_cV 8 0 (FX8_howMany n) (i_rI))))))))))))
set_option maxRecDepth 20000 in
theorem okX11_takeOff_0 {E : mE} {X : State → Heap → Prop} {l : Launch} (hX : mXok E X) (n : Nat) : Sd E X l yX11_takeOff cX11_takeOff 2 (some .int) 5 0 0 0 0 0 (kX11_takeOff_0 n) := s_aload_n dX11_takeOff_0 rfl (s_gA dX11_takeOff_1 lFX11_37 (s_gA dX11_takeOff_4 lFX11_141 (s_iload_n dX11_takeOff_7 rfl (s_iconst dX11_takeOff_8 (by decide) (s_cS dX11_takeOff_9 lMX11_112 bSX11_set (CtX11_set hX n) (Nat.le_of_ble_eq_true rfl) (s_aload_n dX11_takeOff_12 rfl (s_gA dX11_takeOff_13 lFX11_63 (s_cV dX11_takeOff_16 lMX11_188 bVX3_keep rfl (CtX3_keep hX n) (Nat.le_of_ble_eq_true rfl) (s_aload_n dX11_takeOff_19 rfl (s_gA dX11_takeOff_20 lFX11_37 (s_cV dX11_takeOff_23 lMX11_170 bVX8_howMany rfl (CtX8_howMany hX n) (Nat.le_of_ble_eq_true rfl) (s_rI dX11_takeOff_26 (Nat.le_of_ble_eq_true rfl) (Nat.le_of_ble_eq_true rfl)) (Nat.le_of_ble_eq_true rfl) (Nat.le_of_ble_eq_true rfl)))) (Nat.le_of_ble_eq_true rfl) (Nat.le_of_ble_eq_true rfl)))) (Nat.le_of_ble_eq_true rfl) (Nat.le_of_ble_eq_true rfl))))))
def FX11_takeOff (n : Nat) : List Value → mM → Option mR := mfn 2 (kX11_takeOff_0 n)
theorem CtX11_takeOff {E : mE} {X : State → Heap → Prop} {l : Launch} (hX : mXok E X) (n : Nat) : Ct E X l yX11_takeOff cX11_takeOff 2 (some .int) 5 0 0 (FX11_takeOff n) := Ct_of (by decide) hX (okX11_takeOff_0 hX n)
theorem dX11_worth_0 : decode cX11_worth 0 = .ok (.aload_n 0, 1) := by decide +kernel
theorem dX11_worth_1 : decode cX11_worth 1 = .ok (.getfield 37, 3) := by decide +kernel
theorem dX11_worth_4 : decode cX11_worth 4 = .ok (.iload_n 1, 1) := by decide +kernel
theorem dX11_worth_5 : decode cX11_worth 5 = .ok (.invokevirtual 167, 3) := by decide +kernel
theorem dX11_worth_8 : decode cX11_worth 8 = .ok (.ifCond .eq 21, 3) := by decide +kernel
theorem dX11_worth_11 : decode cX11_worth 11 = .ok (.aload_n 0, 1) := by decide +kernel
theorem dX11_worth_12 : decode cX11_worth 12 = .ok (.getfield 37, 3) := by decide +kernel
theorem dX11_worth_15 : decode cX11_worth 15 = .ok (.iload_n 1, 1) := by decide +kernel
theorem dX11_worth_16 : decode cX11_worth 16 = .ok (.aload_n 0, 1) := by decide +kernel
theorem dX11_worth_17 : decode cX11_worth 17 = .ok (.getfield 37, 3) := by decide +kernel
theorem dX11_worth_20 : decode cX11_worth 20 = .ok (.invokevirtual 170, 3) := by decide +kernel
theorem dX11_worth_23 : decode cX11_worth 23 = .ok (.invokevirtual 174, 3) := by decide +kernel
theorem dX11_worth_26 : decode cX11_worth 26 = .ok (.goto 5, 3) := by decide +kernel
theorem dX11_worth_29 : decode cX11_worth 29 = .ok (.ldc 178, 2) := by decide +kernel
theorem dX11_worth_31 : decode cX11_worth 31 = .ok (.ireturn, 1) := by decide +kernel
def kX11_worth_31 (n : Nat) : mK := i_rI
set_option maxRecDepth 20000 in
theorem okX11_worth_31 {E : mE} {X : State → Heap → Prop} {l : Launch} (hX : mXok E X) (n : Nat) : Sd E X l yX11_worth cX11_worth 2 (some .int) 5 0 0 0 0 31 (kX11_worth_31 n) := s_rI dX11_worth_31 (Nat.le_of_ble_eq_true rfl) (Nat.le_of_ble_eq_true rfl)
def kX11_worth_0 (n : Nat) : mK := i_ldA 0 (i_gA 11 5 (i_ldI 1 (i_cV 8 1 (FX8_isIn n) (i_c0 (fun x => decide (x = 0)) (i_cst (.int (-1000000000)) (kX11_worth_31 n)) (i_ldA 0 (i_gA 11 5 (i_ldI 1 (i_ldA 0 (i_gA 11 5 (i_cV 8 0 (FX8_howMany n) (i_cV 8 2 (FX8_worthAmong n) ((kX11_worth_31 n)))))))))))))
set_option maxRecDepth 20000 in
theorem okX11_worth_0 {E : mE} {X : State → Heap → Prop} {l : Launch} (hX : mXok E X) (n : Nat) : Sd E X l yX11_worth cX11_worth 2 (some .int) 5 0 0 0 0 0 (kX11_worth_0 n) := s_aload_n dX11_worth_0 rfl (s_gA dX11_worth_1 lFX11_37 (s_iload_n dX11_worth_4 rfl (s_cV dX11_worth_5 lMX11_167 bVX8_isIn rfl (CtX8_isIn hX n) (Nat.le_of_ble_eq_true rfl) (s_ifeq dX11_worth_8 (by decide) (s_ldc dX11_worth_29 lCX11_178 (okX11_worth_31 hX n)) (s_aload_n dX11_worth_11 rfl (s_gA dX11_worth_12 lFX11_37 (s_iload_n dX11_worth_15 rfl (s_aload_n dX11_worth_16 rfl (s_gA dX11_worth_17 lFX11_37 (s_cV dX11_worth_20 lMX11_170 bVX8_howMany rfl (CtX8_howMany hX n) (Nat.le_of_ble_eq_true rfl) (s_cV dX11_worth_23 lMX11_174 bVX8_worthAmong rfl (CtX8_worthAmong hX n) (Nat.le_of_ble_eq_true rfl) (s_goto dX11_worth_26 (by decide) (okX11_worth_31 hX n)) (Nat.le_of_ble_eq_true rfl) (Nat.le_of_ble_eq_true rfl)) (Nat.le_of_ble_eq_true rfl) (Nat.le_of_ble_eq_true rfl)))))))) (Nat.le_of_ble_eq_true rfl) (Nat.le_of_ble_eq_true rfl))))
def FX11_worth (n : Nat) : List Value → mM → Option mR := mfn 2 (kX11_worth_0 n)
theorem CtX11_worth {E : mE} {X : State → Heap → Prop} {l : Launch} (hX : mXok E X) (n : Nat) : Ct E X l yX11_worth cX11_worth 2 (some .int) 5 0 0 (FX11_worth n) := Ct_of (by decide) hX (okX11_worth_0 hX n)
theorem dX12_ahead_0 : decode cX12_ahead 0 = .ok (.aload_n 0, 1) := by decide +kernel
theorem dX12_ahead_1 : decode cX12_ahead 1 = .ok (.iload_n 1, 1) := by decide +kernel
theorem dX12_ahead_2 : decode cX12_ahead 2 = .ok (.invokevirtual 396, 3) := by decide +kernel
theorem dX12_ahead_5 : decode cX12_ahead 5 = .ok (.ifCond .eq 11, 3) := by decide +kernel
theorem dX12_ahead_8 : decode cX12_ahead 8 = .ok (.aload_n 0, 1) := by decide +kernel
theorem dX12_ahead_9 : decode cX12_ahead 9 = .ok (.iload_n 1, 1) := by decide +kernel
theorem dX12_ahead_10 : decode cX12_ahead 10 = .ok (.invokevirtual 436, 3) := by decide +kernel
theorem dX12_ahead_13 : decode cX12_ahead 13 = .ok (.goto 4, 3) := by decide +kernel
theorem dX12_ahead_16 : decode cX12_ahead 16 = .ok (.iconst (-1), 1) := by decide +kernel
theorem dX12_ahead_17 : decode cX12_ahead 17 = .ok (.ireturn, 1) := by decide +kernel
def kX12_ahead_17 (n : Nat) : mK := i_rI
set_option maxRecDepth 20000 in
theorem okX12_ahead_17 {E : mE} {X : State → Heap → Prop} {l : Launch} (hX : mXok E X) (n : Nat) : Sd E X l yX12_ahead cX12_ahead 2 (some .int) 5 0 0 0 0 17 (kX12_ahead_17 n) := s_rI dX12_ahead_17 (Nat.le_of_ble_eq_true rfl) (Nat.le_of_ble_eq_true rfl)
def kX12_ahead_0 (n : Nat) : mK := i_ldA 0 (i_ldI 1 (i_cV 12 1 (FX12_isHere n) (i_c0 (fun x => decide (x = 0)) (i_cst (.int (-1)) (kX12_ahead_17 n)) (i_ldA 0 (i_ldI 1 (i_cV 12 1 (FX12_aheadOf n) ((kX12_ahead_17 n))))))))
set_option maxRecDepth 20000 in
theorem okX12_ahead_0 {E : mE} {X : State → Heap → Prop} {l : Launch} (hX : mXok E X) (n : Nat) : Sd E X l yX12_ahead cX12_ahead 2 (some .int) 5 0 0 0 0 0 (kX12_ahead_0 n) := s_aload_n dX12_ahead_0 rfl (s_iload_n dX12_ahead_1 rfl (s_cV dX12_ahead_2 lMX12_396 bVX12_isHere rfl (CtX12_isHere hX n) (Nat.le_of_ble_eq_true rfl) (s_ifeq dX12_ahead_5 (by decide) (s_iconst dX12_ahead_16 (by decide) (okX12_ahead_17 hX n)) (s_aload_n dX12_ahead_8 rfl (s_iload_n dX12_ahead_9 rfl (s_cV dX12_ahead_10 lMX12_436 bVX12_aheadOf rfl (CtX12_aheadOf hX n) (Nat.le_of_ble_eq_true rfl) (s_goto dX12_ahead_13 (by decide) (okX12_ahead_17 hX n)) (Nat.le_of_ble_eq_true rfl) (Nat.le_of_ble_eq_true rfl))))) (Nat.le_of_ble_eq_true rfl) (Nat.le_of_ble_eq_true rfl)))
def FX12_ahead (n : Nat) : List Value → mM → Option mR := mfn 2 (kX12_ahead_0 n)
theorem CtX12_ahead {E : mE} {X : State → Heap → Prop} {l : Launch} (hX : mXok E X) (n : Nat) : Ct E X l yX12_ahead cX12_ahead 2 (some .int) 5 0 0 (FX12_ahead n) := Ct_of (by decide) hX (okX12_ahead_0 hX n)
theorem dX12_dear_0 : decode cX12_dear 0 = .ok (.iconst 0, 1) := by decide +kernel
theorem dX12_dear_1 : decode cX12_dear 1 = .ok (.istore_n 2, 1) := by decide +kernel
theorem dX12_dear_2 : decode cX12_dear 2 = .ok (.iconst 0, 1) := by decide +kernel
theorem dX12_dear_3 : decode cX12_dear 3 = .ok (.istore_n 3, 1) := by decide +kernel
theorem dX12_dear_4 : decode cX12_dear 4 = .ok (.iload_n 3, 1) := by decide +kernel
theorem dX12_dear_5 : decode cX12_dear 5 = .ok (.aload_n 0, 1) := by decide +kernel
theorem dX12_dear_6 : decode cX12_dear 6 = .ok (.invokevirtual 341, 3) := by decide +kernel
theorem dX12_dear_9 : decode cX12_dear 9 = .ok (.if_icmp .ge 35, 3) := by decide +kernel
theorem dX12_dear_12 : decode cX12_dear 12 = .ok (.aload_n 0, 1) := by decide +kernel
theorem dX12_dear_13 : decode cX12_dear 13 = .ok (.getfield 82, 3) := by decide +kernel
theorem dX12_dear_16 : decode cX12_dear 16 = .ok (.iconst 0, 1) := by decide +kernel
theorem dX12_dear_17 : decode cX12_dear 17 = .ok (.iload_n 3, 1) := by decide +kernel
theorem dX12_dear_18 : decode cX12_dear 18 = .ok (.iadd, 1) := by decide +kernel
theorem dX12_dear_19 : decode cX12_dear 19 = .ok (.iaload, 1) := by decide +kernel
theorem dX12_dear_20 : decode cX12_dear 20 = .ok (.ifCond .lt 18, 3) := by decide +kernel
theorem dX12_dear_23 : decode cX12_dear 23 = .ok (.aload_n 0, 1) := by decide +kernel
theorem dX12_dear_24 : decode cX12_dear 24 = .ok (.iload_n 3, 1) := by decide +kernel
theorem dX12_dear_25 : decode cX12_dear 25 = .ok (.invokevirtual 381, 3) := by decide +kernel
theorem dX12_dear_28 : decode cX12_dear 28 = .ok (.iload_n 1, 1) := by decide +kernel
theorem dX12_dear_29 : decode cX12_dear 29 = .ok (.if_icmp .lt 9, 3) := by decide +kernel
theorem dX12_dear_32 : decode cX12_dear 32 = .ok (.iload_n 2, 1) := by decide +kernel
theorem dX12_dear_33 : decode cX12_dear 33 = .ok (.iconst 1, 1) := by decide +kernel
theorem dX12_dear_34 : decode cX12_dear 34 = .ok (.iload_n 3, 1) := by decide +kernel
theorem dX12_dear_35 : decode cX12_dear 35 = .ok (.ishl, 1) := by decide +kernel
theorem dX12_dear_36 : decode cX12_dear 36 = .ok (.ior, 1) := by decide +kernel
theorem dX12_dear_37 : decode cX12_dear 37 = .ok (.istore_n 2, 1) := by decide +kernel
theorem dX12_dear_38 : decode cX12_dear 38 = .ok (.iinc 3 1, 3) := by decide +kernel
theorem dX12_dear_41 : decode cX12_dear 41 = .ok (.goto (-37), 3) := by decide +kernel
theorem dX12_dear_44 : decode cX12_dear 44 = .ok (.iload_n 2, 1) := by decide +kernel
theorem dX12_dear_45 : decode cX12_dear 45 = .ok (.ireturn, 1) := by decide +kernel
def kX12_dear_38 (n : Nat) (r4 : mK) : mK := i_inc 3 (1) (r4)
set_option maxRecDepth 20000 in
theorem okX12_dear_38 {E : mE} {X : State → Heap → Prop} {l : Launch} (hX : mXok E X) (n : Nat) {r4 : mK} (h4 : Sd E X l yX12_dear cX12_dear 4 (some .int) 5 0 0 0 0 4 r4) : Sd E X l yX12_dear cX12_dear 4 (some .int) 5 0 0 0 0 38 (kX12_dear_38 n r4) := s_iinc dX12_dear_38 (by decide) (s_goto dX12_dear_41 (by decide) h4)
def kX12_dear_4 (n : Nat) (r4 : mK) : mK := i_ldI 3 (i_ldA 0 (i_cV 12 0 (FX12_many n) (i_c2 (fun x y => decide (y ≤ x)) (i_ldI 2 (i_rI)) (i_ldA 0 (i_gA 12 39 (i_cst (.int (0)) (i_ldI 3 (i_bin (fun x y => x + y) (i_al 0 (i_c0 (fun x => decide (x < 0)) (kX12_dear_38 n r4) (i_ldA 0 (i_ldI 3 (i_cV 12 1 (FX12_worthOf n) (i_ldI 1 (i_c2 (fun x y => decide (x < y)) (kX12_dear_38 n r4) (i_ldI 2 (i_cst (.int (1)) (i_ldI 3 (i_bin (fun x y => x <<< (y &&& 31)) (i_bin (fun x y => x ||| y) (i_stI 2 (kX12_dear_38 n r4))))))))))))))))))))))
set_option maxRecDepth 20000 in
theorem okX12_dear_4 {E : mE} {X : State → Heap → Prop} {l : Launch} (hX : mXok E X) (n : Nat) {r4 : mK} (h4 : Sd E X l yX12_dear cX12_dear 4 (some .int) 5 0 0 0 0 4 r4) : Sd E X l yX12_dear cX12_dear 4 (some .int) 5 0 0 0 0 4 (kX12_dear_4 n r4) := s_iload_n dX12_dear_4 rfl (s_aload_n dX12_dear_5 rfl (s_cV dX12_dear_6 lMX12_341 bVX12_many rfl (CtX12_many hX n) (Nat.le_of_ble_eq_true rfl) (s_icge dX12_dear_9 (by decide) (s_iload_n dX12_dear_44 rfl (s_rI dX12_dear_45 (Nat.le_of_ble_eq_true rfl) (Nat.le_of_ble_eq_true rfl))) (s_aload_n dX12_dear_12 rfl (s_gA dX12_dear_13 lFX12_82 (s_iconst dX12_dear_16 (by decide) (s_iload_n dX12_dear_17 rfl (s_iadd dX12_dear_18 (s_iald dX12_dear_19 (s_iflt dX12_dear_20 (by decide) (okX12_dear_38 hX n h4) (s_aload_n dX12_dear_23 rfl (s_iload_n dX12_dear_24 rfl (s_cV dX12_dear_25 lMX12_381 bVX12_worthOf rfl (CtX12_worthOf hX n) (Nat.le_of_ble_eq_true rfl) (s_iload_n dX12_dear_28 rfl (s_iclt dX12_dear_29 (by decide) (okX12_dear_38 hX n h4) (s_iload_n dX12_dear_32 rfl (s_iconst dX12_dear_33 (by decide) (s_iload_n dX12_dear_34 rfl (s_ishl dX12_dear_35 (s_ior dX12_dear_36 (s_istore_n dX12_dear_37 rfl (okX12_dear_38 hX n h4))))))))) (Nat.le_of_ble_eq_true rfl) (Nat.le_of_ble_eq_true rfl)))))))))))) (Nat.le_of_ble_eq_true rfl) (Nat.le_of_ble_eq_true rfl)))
def kX12_dear_0 (n : Nat) : mK := i_cst (.int (0)) (i_stI 2 (i_cst (.int (0)) (i_stI 3 (mit (kX12_dear_4 n ) n))))
set_option maxRecDepth 20000 in
theorem okX12_dear_0 {E : mE} {X : State → Heap → Prop} {l : Launch} (hX : mXok E X) (n : Nat) : Sd E X l yX12_dear cX12_dear 4 (some .int) 5 0 0 0 0 0 (kX12_dear_0 n) := s_iconst dX12_dear_0 (by decide) (s_istore_n dX12_dear_1 rfl (s_iconst dX12_dear_2 (by decide) (s_istore_n dX12_dear_3 rfl (s_mit (fun _ hk => okX12_dear_4 hX n hk) n))))
def FX12_dear (n : Nat) : List Value → mM → Option mR := mfn 4 (kX12_dear_0 n)
theorem CtX12_dear {E : mE} {X : State → Heap → Prop} {l : Launch} (hX : mXok E X) (n : Nat) : Ct E X l yX12_dear cX12_dear 4 (some .int) 5 0 0 (FX12_dear n) := Ct_of (by decide) hX (okX12_dear_0 hX n)
theorem dX12_e_0 : decode cX12_e 0 = .ok (.aload_n 0, 1) := by decide +kernel
theorem dX12_e_1 : decode cX12_e 1 = .ok (.iconst 0, 1) := by decide +kernel
theorem dX12_e_2 : decode cX12_e 2 = .ok (.putfield 295, 3) := by decide +kernel
theorem dX12_e_5 : decode cX12_e 5 = .ok (.aload_n 0, 1) := by decide +kernel
theorem dX12_e_6 : decode cX12_e 6 = .ok (.iconst 0, 1) := by decide +kernel
theorem dX12_e_7 : decode cX12_e 7 = .ok (.putfield 298, 3) := by decide +kernel
theorem dX12_e_10 : decode cX12_e 10 = .ok (.aload_n 0, 1) := by decide +kernel
theorem dX12_e_11 : decode cX12_e 11 = .ok (.bipush 8, 2) := by decide +kernel
theorem dX12_e_13 : decode cX12_e 13 = .ok (.iconst 0, 1) := by decide +kernel
theorem dX12_e_14 : decode cX12_e 14 = .ok (.invokevirtual 301, 3) := by decide +kernel
theorem dX12_e_17 : decode cX12_e 17 = .ok (.iconst 1, 1) := by decide +kernel
theorem dX12_e_18 : decode cX12_e 18 = .ok (.istore_n 1, 1) := by decide +kernel
theorem dX12_e_19 : decode cX12_e 19 = .ok (.aload_n 0, 1) := by decide +kernel
theorem dX12_e_20 : decode cX12_e 20 = .ok (.invokevirtual 225, 3) := by decide +kernel
theorem dX12_e_23 : decode cX12_e 23 = .ok (.ifCond .eq 29, 3) := by decide +kernel
theorem dX12_e_26 : decode cX12_e 26 = .ok (.aload_n 0, 1) := by decide +kernel
theorem dX12_e_27 : decode cX12_e 27 = .ok (.getfield 295, 3) := by decide +kernel
theorem dX12_e_30 : decode cX12_e 30 = .ok (.ifCond .le 22, 3) := by decide +kernel
theorem dX12_e_33 : decode cX12_e 33 = .ok (.iload_n 1, 1) := by decide +kernel
theorem dX12_e_34 : decode cX12_e 34 = .ok (.ifCond .eq 10, 3) := by decide +kernel
theorem dX12_e_37 : decode cX12_e 37 = .ok (.aload_n 0, 1) := by decide +kernel
theorem dX12_e_38 : decode cX12_e 38 = .ok (.invokevirtual 304, 3) := by decide +kernel
theorem dX12_e_41 : decode cX12_e 41 = .ok (.goto 7, 3) := by decide +kernel
theorem dX12_e_44 : decode cX12_e 44 = .ok (.aload_n 0, 1) := by decide +kernel
theorem dX12_e_45 : decode cX12_e 45 = .ok (.invokevirtual 307, 3) := by decide +kernel
theorem dX12_e_48 : decode cX12_e 48 = .ok (.istore_n 1, 1) := by decide +kernel
theorem dX12_e_49 : decode cX12_e 49 = .ok (.goto (-30), 3) := by decide +kernel
theorem dX12_e_52 : decode cX12_e 52 = .ok (.return_, 1) := by decide +kernel
def kX12_e_52 (n : Nat) : mK := i_rV
set_option maxRecDepth 20000 in
theorem okX12_e_52 {E : mE} {X : State → Heap → Prop} {l : Launch} (hX : mXok E X) (n : Nat) : Sd E X l yX12_e cX12_e 2 none 5 0 0 0 0 52 (kX12_e_52 n) := s_rV dX12_e_52 (Nat.le_of_ble_eq_true rfl) (Nat.le_of_ble_eq_true rfl)
def kX12_e_48 (n : Nat) (r19 : mK) : mK := i_stI 1 (r19)
set_option maxRecDepth 20000 in
theorem okX12_e_48 {E : mE} {X : State → Heap → Prop} {l : Launch} (hX : mXok E X) (n : Nat) {r19 : mK} (h19 : Sd E X l yX12_e cX12_e 2 none 5 0 0 0 0 19 r19) : Sd E X l yX12_e cX12_e 2 none 5 0 0 0 0 48 (kX12_e_48 n r19) := s_istore_n dX12_e_48 rfl (s_goto dX12_e_49 (by decide) h19)
def kX12_e_19 (n : Nat) (r19 : mK) : mK := i_ldA 0 (i_cV 12 0 (FX12_isGood n) (i_c0 (fun x => decide (x = 0)) (kX12_e_52 n) (i_ldA 0 (i_gI 12 35 (i_c0 (fun x => decide (x ≤ 0)) (kX12_e_52 n) (i_ldI 1 (i_c0 (fun x => decide (x = 0)) (i_ldA 0 (i_cV 12 0 (FX12_behindUnit n) (kX12_e_48 n r19))) (i_ldA 0 (i_cV 12 0 (FX12_unit n) ((kX12_e_48 n r19)))))))))))
set_option maxRecDepth 20000 in
theorem okX12_e_19 {E : mE} {X : State → Heap → Prop} {l : Launch} (hX : mXok E X) (n : Nat) {r19 : mK} (h19 : Sd E X l yX12_e cX12_e 2 none 5 0 0 0 0 19 r19) : Sd E X l yX12_e cX12_e 2 none 5 0 0 0 0 19 (kX12_e_19 n r19) := s_aload_n dX12_e_19 rfl (s_cV dX12_e_20 lMX12_225 bVX12_isGood rfl (CtX12_isGood hX n) (Nat.le_of_ble_eq_true rfl) (s_ifeq dX12_e_23 (by decide) (okX12_e_52 hX n) (s_aload_n dX12_e_26 rfl (s_gI dX12_e_27 lFX12_295 (by decide) (s_ifle dX12_e_30 (by decide) (okX12_e_52 hX n) (s_iload_n dX12_e_33 rfl (s_ifeq dX12_e_34 (by decide) (s_aload_n dX12_e_44 rfl (s_cV dX12_e_45 lMX12_307 bVX12_behindUnit rfl (CtX12_behindUnit hX n) (Nat.le_of_ble_eq_true rfl) (okX12_e_48 hX n h19) (Nat.le_of_ble_eq_true rfl) (Nat.le_of_ble_eq_true rfl))) (s_aload_n dX12_e_37 rfl (s_cV dX12_e_38 lMX12_304 bVX12_unit rfl (CtX12_unit hX n) (Nat.le_of_ble_eq_true rfl) (s_goto dX12_e_41 (by decide) (okX12_e_48 hX n h19)) (Nat.le_of_ble_eq_true rfl) (Nat.le_of_ble_eq_true rfl))))))))) (Nat.le_of_ble_eq_true rfl) (Nat.le_of_ble_eq_true rfl))
def kX12_e_0 (n : Nat) : mK := i_ldA 0 (i_cst (.int (0)) (i_pI 12 35 (i_ldA 0 (i_cst (.int (0)) (i_pI 12 34 (i_ldA 0 (i_cst (.int (8)) (i_cst (.int (0)) (i_cV 12 2 (FX12_pushE n) (i_cst (.int (1)) (i_stI 1 (mit (kX12_e_19 n ) n))))))))))))
set_option maxRecDepth 20000 in
theorem okX12_e_0 {E : mE} {X : State → Heap → Prop} {l : Launch} (hX : mXok E X) (n : Nat) : Sd E X l yX12_e cX12_e 2 none 5 0 0 0 0 0 (kX12_e_0 n) := s_aload_n dX12_e_0 rfl (s_iconst dX12_e_1 (by decide) (s_pI dX12_e_2 lFX12_295 (s_aload_n dX12_e_5 rfl (s_iconst dX12_e_6 (by decide) (s_pI dX12_e_7 lFX12_298 (s_aload_n dX12_e_10 rfl (s_bipush dX12_e_11 (by decide) (s_iconst dX12_e_13 (by decide) (s_cV dX12_e_14 lMX12_301 bVX12_pushE rfl (CtX12_pushE hX n) (Nat.le_of_ble_eq_true rfl) (s_iconst dX12_e_17 (by decide) (s_istore_n dX12_e_18 rfl (s_mit (fun _ hk => okX12_e_19 hX n hk) n))) (Nat.le_of_ble_eq_true rfl) (Nat.le_of_ble_eq_true rfl))))))))))
def FX12_e (n : Nat) : List Value → mM → Option mR := mfn 2 (kX12_e_0 n)
theorem CtX12_e {E : mE} {X : State → Heap → Prop} {l : Launch} (hX : mXok E X) (n : Nat) : Ct E X l yX12_e cX12_e 2 none 5 0 0 (FX12_e n) := Ct_of (by decide) hX (okX12_e_0 hX n)
theorem dX12_finest_0 : decode cX12_finest 0 = .ok (.iconst (-1), 1) := by decide +kernel
theorem dX12_finest_1 : decode cX12_finest 1 = .ok (.istore_n 1, 1) := by decide +kernel
theorem dX12_finest_2 : decode cX12_finest 2 = .ok (.iconst 0, 1) := by decide +kernel
theorem dX12_finest_3 : decode cX12_finest 3 = .ok (.istore_n 2, 1) := by decide +kernel
theorem dX12_finest_4 : decode cX12_finest 4 = .ok (.iload_n 2, 1) := by decide +kernel
theorem dX12_finest_5 : decode cX12_finest 5 = .ok (.aload_n 0, 1) := by decide +kernel
theorem dX12_finest_6 : decode cX12_finest 6 = .ok (.invokevirtual 341, 3) := by decide +kernel
theorem dX12_finest_9 : decode cX12_finest 9 = .ok (.if_icmp .ge 39, 3) := by decide +kernel
theorem dX12_finest_12 : decode cX12_finest 12 = .ok (.aload_n 0, 1) := by decide +kernel
theorem dX12_finest_13 : decode cX12_finest 13 = .ok (.getfield 82, 3) := by decide +kernel
theorem dX12_finest_16 : decode cX12_finest 16 = .ok (.iconst 0, 1) := by decide +kernel
theorem dX12_finest_17 : decode cX12_finest 17 = .ok (.iload_n 2, 1) := by decide +kernel
theorem dX12_finest_18 : decode cX12_finest 18 = .ok (.iadd, 1) := by decide +kernel
theorem dX12_finest_19 : decode cX12_finest 19 = .ok (.iaload, 1) := by decide +kernel
theorem dX12_finest_20 : decode cX12_finest 20 = .ok (.ifCond .lt 22, 3) := by decide +kernel
theorem dX12_finest_23 : decode cX12_finest 23 = .ok (.iload_n 1, 1) := by decide +kernel
theorem dX12_finest_24 : decode cX12_finest 24 = .ok (.ifCond .lt 16, 3) := by decide +kernel
theorem dX12_finest_27 : decode cX12_finest 27 = .ok (.aload_n 0, 1) := by decide +kernel
theorem dX12_finest_28 : decode cX12_finest 28 = .ok (.iload_n 2, 1) := by decide +kernel
theorem dX12_finest_29 : decode cX12_finest 29 = .ok (.invokevirtual 381, 3) := by decide +kernel
theorem dX12_finest_32 : decode cX12_finest 32 = .ok (.aload_n 0, 1) := by decide +kernel
theorem dX12_finest_33 : decode cX12_finest 33 = .ok (.iload_n 1, 1) := by decide +kernel
theorem dX12_finest_34 : decode cX12_finest 34 = .ok (.invokevirtual 381, 3) := by decide +kernel
theorem dX12_finest_37 : decode cX12_finest 37 = .ok (.if_icmp .le 5, 3) := by decide +kernel
theorem dX12_finest_40 : decode cX12_finest 40 = .ok (.iload_n 2, 1) := by decide +kernel
theorem dX12_finest_41 : decode cX12_finest 41 = .ok (.istore_n 1, 1) := by decide +kernel
theorem dX12_finest_42 : decode cX12_finest 42 = .ok (.iinc 2 1, 3) := by decide +kernel
theorem dX12_finest_45 : decode cX12_finest 45 = .ok (.goto (-41), 3) := by decide +kernel
theorem dX12_finest_48 : decode cX12_finest 48 = .ok (.iload_n 1, 1) := by decide +kernel
theorem dX12_finest_49 : decode cX12_finest 49 = .ok (.ireturn, 1) := by decide +kernel
def kX12_finest_42 (n : Nat) (r4 : mK) : mK := i_inc 2 (1) (r4)
set_option maxRecDepth 20000 in
theorem okX12_finest_42 {E : mE} {X : State → Heap → Prop} {l : Launch} (hX : mXok E X) (n : Nat) {r4 : mK} (h4 : Sd E X l yX12_finest cX12_finest 3 (some .int) 5 0 0 0 0 4 r4) : Sd E X l yX12_finest cX12_finest 3 (some .int) 5 0 0 0 0 42 (kX12_finest_42 n r4) := s_iinc dX12_finest_42 (by decide) (s_goto dX12_finest_45 (by decide) h4)
def kX12_finest_40 (n : Nat) (r4 : mK) : mK := i_ldI 2 (i_stI 1 (kX12_finest_42 n r4))
set_option maxRecDepth 20000 in
theorem okX12_finest_40 {E : mE} {X : State → Heap → Prop} {l : Launch} (hX : mXok E X) (n : Nat) {r4 : mK} (h4 : Sd E X l yX12_finest cX12_finest 3 (some .int) 5 0 0 0 0 4 r4) : Sd E X l yX12_finest cX12_finest 3 (some .int) 5 0 0 0 0 40 (kX12_finest_40 n r4) := s_iload_n dX12_finest_40 rfl (s_istore_n dX12_finest_41 rfl (okX12_finest_42 hX n h4))
def kX12_finest_4 (n : Nat) (r4 : mK) : mK := i_ldI 2 (i_ldA 0 (i_cV 12 0 (FX12_many n) (i_c2 (fun x y => decide (y ≤ x)) (i_ldI 1 (i_rI)) (i_ldA 0 (i_gA 12 39 (i_cst (.int (0)) (i_ldI 2 (i_bin (fun x y => x + y) (i_al 0 (i_c0 (fun x => decide (x < 0)) (kX12_finest_42 n r4) (i_ldI 1 (i_c0 (fun x => decide (x < 0)) (kX12_finest_40 n r4) (i_ldA 0 (i_ldI 2 (i_cV 12 1 (FX12_worthOf n) (i_ldA 0 (i_ldI 1 (i_cV 12 1 (FX12_worthOf n) (i_c2 (fun x y => decide (x ≤ y)) (kX12_finest_42 n r4) (kX12_finest_40 n r4))))))))))))))))))))
set_option maxRecDepth 20000 in
theorem okX12_finest_4 {E : mE} {X : State → Heap → Prop} {l : Launch} (hX : mXok E X) (n : Nat) {r4 : mK} (h4 : Sd E X l yX12_finest cX12_finest 3 (some .int) 5 0 0 0 0 4 r4) : Sd E X l yX12_finest cX12_finest 3 (some .int) 5 0 0 0 0 4 (kX12_finest_4 n r4) := s_iload_n dX12_finest_4 rfl (s_aload_n dX12_finest_5 rfl (s_cV dX12_finest_6 lMX12_341 bVX12_many rfl (CtX12_many hX n) (Nat.le_of_ble_eq_true rfl) (s_icge dX12_finest_9 (by decide) (s_iload_n dX12_finest_48 rfl (s_rI dX12_finest_49 (Nat.le_of_ble_eq_true rfl) (Nat.le_of_ble_eq_true rfl))) (s_aload_n dX12_finest_12 rfl (s_gA dX12_finest_13 lFX12_82 (s_iconst dX12_finest_16 (by decide) (s_iload_n dX12_finest_17 rfl (s_iadd dX12_finest_18 (s_iald dX12_finest_19 (s_iflt dX12_finest_20 (by decide) (okX12_finest_42 hX n h4) (s_iload_n dX12_finest_23 rfl (s_iflt dX12_finest_24 (by decide) (okX12_finest_40 hX n h4) (s_aload_n dX12_finest_27 rfl (s_iload_n dX12_finest_28 rfl (s_cV dX12_finest_29 lMX12_381 bVX12_worthOf rfl (CtX12_worthOf hX n) (Nat.le_of_ble_eq_true rfl) (s_aload_n dX12_finest_32 rfl (s_iload_n dX12_finest_33 rfl (s_cV dX12_finest_34 lMX12_381 bVX12_worthOf rfl (CtX12_worthOf hX n) (Nat.le_of_ble_eq_true rfl) (s_icle dX12_finest_37 (by decide) (okX12_finest_42 hX n h4) (okX12_finest_40 hX n h4)) (Nat.le_of_ble_eq_true rfl) (Nat.le_of_ble_eq_true rfl)))) (Nat.le_of_ble_eq_true rfl) (Nat.le_of_ble_eq_true rfl)))))))))))))) (Nat.le_of_ble_eq_true rfl) (Nat.le_of_ble_eq_true rfl)))
def kX12_finest_0 (n : Nat) : mK := i_cst (.int (-1)) (i_stI 1 (i_cst (.int (0)) (i_stI 2 (mit (kX12_finest_4 n ) n))))
set_option maxRecDepth 20000 in
theorem okX12_finest_0 {E : mE} {X : State → Heap → Prop} {l : Launch} (hX : mXok E X) (n : Nat) : Sd E X l yX12_finest cX12_finest 3 (some .int) 5 0 0 0 0 0 (kX12_finest_0 n) := s_iconst dX12_finest_0 (by decide) (s_istore_n dX12_finest_1 rfl (s_iconst dX12_finest_2 (by decide) (s_istore_n dX12_finest_3 rfl (s_mit (fun _ hk => okX12_finest_4 hX n hk) n))))
def FX12_finest (n : Nat) : List Value → mM → Option mR := mfn 3 (kX12_finest_0 n)
theorem CtX12_finest {E : mE} {X : State → Heap → Prop} {l : Launch} (hX : mXok E X) (n : Nat) : Ct E X l yX12_finest cX12_finest 3 (some .int) 5 0 0 (FX12_finest n) := Ct_of (by decide) hX (okX12_finest_0 hX n)
theorem dX12_goYear_0 : decode cX12_goYear 0 = .ok (.iconst 0, 1) := by decide +kernel
theorem dX12_goYear_1 : decode cX12_goYear 1 = .ok (.istore_n 1, 1) := by decide +kernel
theorem dX12_goYear_2 : decode cX12_goYear 2 = .ok (.iload_n 1, 1) := by decide +kernel
theorem dX12_goYear_3 : decode cX12_goYear 3 = .ok (.aload_n 0, 1) := by decide +kernel
theorem dX12_goYear_4 : decode cX12_goYear 4 = .ok (.invokevirtual 341, 3) := by decide +kernel
theorem dX12_goYear_7 : decode cX12_goYear 7 = .ok (.if_icmp .ge 35, 3) := by decide +kernel
theorem dX12_goYear_10 : decode cX12_goYear 10 = .ok (.aload_n 0, 1) := by decide +kernel
theorem dX12_goYear_11 : decode cX12_goYear 11 = .ok (.getfield 88, 3) := by decide +kernel
theorem dX12_goYear_14 : decode cX12_goYear 14 = .ok (.iload_n 1, 1) := by decide +kernel
theorem dX12_goYear_15 : decode cX12_goYear 15 = .ok (.aload_n 0, 1) := by decide +kernel
theorem dX12_goYear_16 : decode cX12_goYear 16 = .ok (.getfield 82, 3) := by decide +kernel
theorem dX12_goYear_19 : decode cX12_goYear 19 = .ok (.iconst 0, 1) := by decide +kernel
theorem dX12_goYear_20 : decode cX12_goYear 20 = .ok (.iload_n 1, 1) := by decide +kernel
theorem dX12_goYear_21 : decode cX12_goYear 21 = .ok (.iadd, 1) := by decide +kernel
theorem dX12_goYear_22 : decode cX12_goYear 22 = .ok (.iaload, 1) := by decide +kernel
theorem dX12_goYear_23 : decode cX12_goYear 23 = .ok (.ifCond .lt 11, 3) := by decide +kernel
theorem dX12_goYear_26 : decode cX12_goYear 26 = .ok (.aload_n 0, 1) := by decide +kernel
theorem dX12_goYear_27 : decode cX12_goYear 27 = .ok (.iload_n 1, 1) := by decide +kernel
theorem dX12_goYear_28 : decode cX12_goYear 28 = .ok (.invokevirtual 384, 3) := by decide +kernel
theorem dX12_goYear_31 : decode cX12_goYear 31 = .ok (.goto 4, 3) := by decide +kernel
theorem dX12_goYear_34 : decode cX12_goYear 34 = .ok (.iconst 0, 1) := by decide +kernel
theorem dX12_goYear_35 : decode cX12_goYear 35 = .ok (.iastore, 1) := by decide +kernel
theorem dX12_goYear_36 : decode cX12_goYear 36 = .ok (.iinc 1 1, 3) := by decide +kernel
theorem dX12_goYear_39 : decode cX12_goYear 39 = .ok (.goto (-37), 3) := by decide +kernel
theorem dX12_goYear_42 : decode cX12_goYear 42 = .ok (.iconst 0, 1) := by decide +kernel
theorem dX12_goYear_43 : decode cX12_goYear 43 = .ok (.istore_n 1, 1) := by decide +kernel
theorem dX12_goYear_44 : decode cX12_goYear 44 = .ok (.iload_n 1, 1) := by decide +kernel
theorem dX12_goYear_45 : decode cX12_goYear 45 = .ok (.aload_n 0, 1) := by decide +kernel
theorem dX12_goYear_46 : decode cX12_goYear 46 = .ok (.invokevirtual 341, 3) := by decide +kernel
theorem dX12_goYear_49 : decode cX12_goYear 49 = .ok (.if_icmp .ge 27, 3) := by decide +kernel
theorem dX12_goYear_52 : decode cX12_goYear 52 = .ok (.aload_n 0, 1) := by decide +kernel
theorem dX12_goYear_53 : decode cX12_goYear 53 = .ok (.getfield 82, 3) := by decide +kernel
theorem dX12_goYear_56 : decode cX12_goYear 56 = .ok (.bipush 16, 2) := by decide +kernel
theorem dX12_goYear_58 : decode cX12_goYear 58 = .ok (.iload_n 1, 1) := by decide +kernel
theorem dX12_goYear_59 : decode cX12_goYear 59 = .ok (.iadd, 1) := by decide +kernel
theorem dX12_goYear_60 : decode cX12_goYear 60 = .ok (.dup2, 1) := by decide +kernel
theorem dX12_goYear_61 : decode cX12_goYear 61 = .ok (.iaload, 1) := by decide +kernel
theorem dX12_goYear_62 : decode cX12_goYear 62 = .ok (.aload_n 0, 1) := by decide +kernel
theorem dX12_goYear_63 : decode cX12_goYear 63 = .ok (.getfield 88, 3) := by decide +kernel
theorem dX12_goYear_66 : decode cX12_goYear 66 = .ok (.iload_n 1, 1) := by decide +kernel
theorem dX12_goYear_67 : decode cX12_goYear 67 = .ok (.iaload, 1) := by decide +kernel
theorem dX12_goYear_68 : decode cX12_goYear 68 = .ok (.isub, 1) := by decide +kernel
theorem dX12_goYear_69 : decode cX12_goYear 69 = .ok (.iastore, 1) := by decide +kernel
theorem dX12_goYear_70 : decode cX12_goYear 70 = .ok (.iinc 1 1, 3) := by decide +kernel
theorem dX12_goYear_73 : decode cX12_goYear 73 = .ok (.goto (-29), 3) := by decide +kernel
theorem dX12_goYear_76 : decode cX12_goYear 76 = .ok (.aload_n 0, 1) := by decide +kernel
theorem dX12_goYear_77 : decode cX12_goYear 77 = .ok (.getfield 82, 3) := by decide +kernel
theorem dX12_goYear_80 : decode cX12_goYear 80 = .ok (.bipush 32, 2) := by decide +kernel
theorem dX12_goYear_82 : decode cX12_goYear 82 = .ok (.dup2, 1) := by decide +kernel
theorem dX12_goYear_83 : decode cX12_goYear 83 = .ok (.iaload, 1) := by decide +kernel
theorem dX12_goYear_84 : decode cX12_goYear 84 = .ok (.iconst 1, 1) := by decide +kernel
theorem dX12_goYear_85 : decode cX12_goYear 85 = .ok (.iadd, 1) := by decide +kernel
theorem dX12_goYear_86 : decode cX12_goYear 86 = .ok (.iastore, 1) := by decide +kernel
theorem dX12_goYear_87 : decode cX12_goYear 87 = .ok (.return_, 1) := by decide +kernel
def kX12_goYear_35 (n : Nat) (r2 : mK) : mK := i_as 0 (i_inc 1 (1) (r2))
set_option maxRecDepth 20000 in
theorem okX12_goYear_35 {E : mE} {X : State → Heap → Prop} {l : Launch} (hX : mXok E X) (n : Nat) {r2 : mK} (h2 : Sd E X l yX12_goYear cX12_goYear 2 none 5 0 0 0 0 2 r2) : Sd E X l yX12_goYear cX12_goYear 2 none 5 0 0 0 0 35 (kX12_goYear_35 n r2) := s_iast dX12_goYear_35 (s_iinc dX12_goYear_36 (by decide) (s_goto dX12_goYear_39 (by decide) h2))
def kX12_goYear_44 (n : Nat) (r44 : mK) : mK := i_ldI 1 (i_ldA 0 (i_cV 12 0 (FX12_many n) (i_c2 (fun x y => decide (y ≤ x)) (i_ldA 0 (i_gA 12 39 (i_cst (.int (32)) (i_dp2 (i_al 0 (i_cst (.int (1)) (i_bin (fun x y => x + y) (i_as 0 (i_rV))))))))) (i_ldA 0 (i_gA 12 39 (i_cst (.int (16)) (i_ldI 1 (i_bin (fun x y => x + y) (i_dp2 (i_al 0 (i_ldA 0 (i_gA 12 41 (i_ldI 1 (i_al 0 (i_bin (fun x y => x - y) (i_as 0 (i_inc 1 (1) (r44))))))))))))))))))
set_option maxRecDepth 20000 in
theorem okX12_goYear_44 {E : mE} {X : State → Heap → Prop} {l : Launch} (hX : mXok E X) (n : Nat) {r44 : mK} (h44 : Sd E X l yX12_goYear cX12_goYear 2 none 5 0 0 0 0 44 r44) : Sd E X l yX12_goYear cX12_goYear 2 none 5 0 0 0 0 44 (kX12_goYear_44 n r44) := s_iload_n dX12_goYear_44 rfl (s_aload_n dX12_goYear_45 rfl (s_cV dX12_goYear_46 lMX12_341 bVX12_many rfl (CtX12_many hX n) (Nat.le_of_ble_eq_true rfl) (s_icge dX12_goYear_49 (by decide) (s_aload_n dX12_goYear_76 rfl (s_gA dX12_goYear_77 lFX12_82 (s_bipush dX12_goYear_80 (by decide) (s_dup2 dX12_goYear_82 (s_iald dX12_goYear_83 (s_iconst dX12_goYear_84 (by decide) (s_iadd dX12_goYear_85 (s_iast dX12_goYear_86 (s_rV dX12_goYear_87 (Nat.le_of_ble_eq_true rfl) (Nat.le_of_ble_eq_true rfl)))))))))) (s_aload_n dX12_goYear_52 rfl (s_gA dX12_goYear_53 lFX12_82 (s_bipush dX12_goYear_56 (by decide) (s_iload_n dX12_goYear_58 rfl (s_iadd dX12_goYear_59 (s_dup2 dX12_goYear_60 (s_iald dX12_goYear_61 (s_aload_n dX12_goYear_62 rfl (s_gA dX12_goYear_63 lFX12_88 (s_iload_n dX12_goYear_66 rfl (s_iald dX12_goYear_67 (s_isub dX12_goYear_68 (s_iast dX12_goYear_69 (s_iinc dX12_goYear_70 (by decide) (s_goto dX12_goYear_73 (by decide) h44)))))))))))))))) (Nat.le_of_ble_eq_true rfl) (Nat.le_of_ble_eq_true rfl)))
def kX12_goYear_2 (n : Nat) (r2 : mK) : mK := i_ldI 1 (i_ldA 0 (i_cV 12 0 (FX12_many n) (i_c2 (fun x y => decide (y ≤ x)) (i_cst (.int (0)) (i_stI 1 (mit (kX12_goYear_44 n ) n))) (i_ldA 0 (i_gA 12 41 (i_ldI 1 (i_ldA 0 (i_gA 12 39 (i_cst (.int (0)) (i_ldI 1 (i_bin (fun x y => x + y) (i_al 0 (i_c0 (fun x => decide (x < 0)) (i_cst (.int (0)) (kX12_goYear_35 n r2)) (i_ldA 0 (i_ldI 1 (i_cV 12 1 (FX12_softerOf n) ((kX12_goYear_35 n r2))))))))))))))))))
set_option maxRecDepth 20000 in
theorem okX12_goYear_2 {E : mE} {X : State → Heap → Prop} {l : Launch} (hX : mXok E X) (n : Nat) {r2 : mK} (h2 : Sd E X l yX12_goYear cX12_goYear 2 none 5 0 0 0 0 2 r2) : Sd E X l yX12_goYear cX12_goYear 2 none 5 0 0 0 0 2 (kX12_goYear_2 n r2) := s_iload_n dX12_goYear_2 rfl (s_aload_n dX12_goYear_3 rfl (s_cV dX12_goYear_4 lMX12_341 bVX12_many rfl (CtX12_many hX n) (Nat.le_of_ble_eq_true rfl) (s_icge dX12_goYear_7 (by decide) (s_iconst dX12_goYear_42 (by decide) (s_istore_n dX12_goYear_43 rfl (s_mit (fun _ hk => okX12_goYear_44 hX n hk) n))) (s_aload_n dX12_goYear_10 rfl (s_gA dX12_goYear_11 lFX12_88 (s_iload_n dX12_goYear_14 rfl (s_aload_n dX12_goYear_15 rfl (s_gA dX12_goYear_16 lFX12_82 (s_iconst dX12_goYear_19 (by decide) (s_iload_n dX12_goYear_20 rfl (s_iadd dX12_goYear_21 (s_iald dX12_goYear_22 (s_iflt dX12_goYear_23 (by decide) (s_iconst dX12_goYear_34 (by decide) (okX12_goYear_35 hX n h2)) (s_aload_n dX12_goYear_26 rfl (s_iload_n dX12_goYear_27 rfl (s_cV dX12_goYear_28 lMX12_384 bVX12_softerOf rfl (CtX12_softerOf hX n) (Nat.le_of_ble_eq_true rfl) (s_goto dX12_goYear_31 (by decide) (okX12_goYear_35 hX n h2)) (Nat.le_of_ble_eq_true rfl) (Nat.le_of_ble_eq_true rfl))))))))))))))) (Nat.le_of_ble_eq_true rfl) (Nat.le_of_ble_eq_true rfl)))
def kX12_goYear_0 (n : Nat) : mK := i_cst (.int (0)) (i_stI 1 (mit (kX12_goYear_2 n ) n))
set_option maxRecDepth 20000 in
theorem okX12_goYear_0 {E : mE} {X : State → Heap → Prop} {l : Launch} (hX : mXok E X) (n : Nat) : Sd E X l yX12_goYear cX12_goYear 2 none 5 0 0 0 0 0 (kX12_goYear_0 n) := s_iconst dX12_goYear_0 (by decide) (s_istore_n dX12_goYear_1 rfl (s_mit (fun _ hk => okX12_goYear_2 hX n hk) n))
def FX12_goYear (n : Nat) : List Value → mM → Option mR := mfn 2 (kX12_goYear_0 n)
theorem CtX12_goYear {E : mE} {X : State → Heap → Prop} {l : Launch} (hX : mXok E X) (n : Nat) : Ct E X l yX12_goYear cX12_goYear 2 none 5 0 0 (FX12_goYear n) := Ct_of (by decide) hX (okX12_goYear_0 hX n)
theorem dX12_priceNow_0 : decode cX12_priceNow 0 = .ok (.iconst 0, 1) := by decide +kernel
theorem dX12_priceNow_1 : decode cX12_priceNow 1 = .ok (.istore_n 1, 1) := by decide +kernel
theorem dX12_priceNow_2 : decode cX12_priceNow 2 = .ok (.iconst 0, 1) := by decide +kernel
theorem dX12_priceNow_3 : decode cX12_priceNow 3 = .ok (.istore_n 2, 1) := by decide +kernel
theorem dX12_priceNow_4 : decode cX12_priceNow 4 = .ok (.iload_n 2, 1) := by decide +kernel
theorem dX12_priceNow_5 : decode cX12_priceNow 5 = .ok (.aload_n 0, 1) := by decide +kernel
theorem dX12_priceNow_6 : decode cX12_priceNow 6 = .ok (.invokevirtual 341, 3) := by decide +kernel
theorem dX12_priceNow_9 : decode cX12_priceNow 9 = .ok (.if_icmp .ge 28, 3) := by decide +kernel
theorem dX12_priceNow_12 : decode cX12_priceNow 12 = .ok (.aload_n 0, 1) := by decide +kernel
theorem dX12_priceNow_13 : decode cX12_priceNow 13 = .ok (.getfield 82, 3) := by decide +kernel
theorem dX12_priceNow_16 : decode cX12_priceNow 16 = .ok (.iconst 0, 1) := by decide +kernel
theorem dX12_priceNow_17 : decode cX12_priceNow 17 = .ok (.iload_n 2, 1) := by decide +kernel
theorem dX12_priceNow_18 : decode cX12_priceNow 18 = .ok (.iadd, 1) := by decide +kernel
theorem dX12_priceNow_19 : decode cX12_priceNow 19 = .ok (.iaload, 1) := by decide +kernel
theorem dX12_priceNow_20 : decode cX12_priceNow 20 = .ok (.ifCond .lt 11, 3) := by decide +kernel
theorem dX12_priceNow_23 : decode cX12_priceNow 23 = .ok (.iload_n 1, 1) := by decide +kernel
theorem dX12_priceNow_24 : decode cX12_priceNow 24 = .ok (.aload_n 0, 1) := by decide +kernel
theorem dX12_priceNow_25 : decode cX12_priceNow 25 = .ok (.iload_n 2, 1) := by decide +kernel
theorem dX12_priceNow_26 : decode cX12_priceNow 26 = .ok (.invokevirtual 381, 3) := by decide +kernel
theorem dX12_priceNow_29 : decode cX12_priceNow 29 = .ok (.iadd, 1) := by decide +kernel
theorem dX12_priceNow_30 : decode cX12_priceNow 30 = .ok (.istore_n 1, 1) := by decide +kernel
theorem dX12_priceNow_31 : decode cX12_priceNow 31 = .ok (.iinc 2 1, 3) := by decide +kernel
theorem dX12_priceNow_34 : decode cX12_priceNow 34 = .ok (.goto (-30), 3) := by decide +kernel
theorem dX12_priceNow_37 : decode cX12_priceNow 37 = .ok (.iload_n 1, 1) := by decide +kernel
theorem dX12_priceNow_38 : decode cX12_priceNow 38 = .ok (.ireturn, 1) := by decide +kernel
def kX12_priceNow_31 (n : Nat) (r4 : mK) : mK := i_inc 2 (1) (r4)
set_option maxRecDepth 20000 in
theorem okX12_priceNow_31 {E : mE} {X : State → Heap → Prop} {l : Launch} (hX : mXok E X) (n : Nat) {r4 : mK} (h4 : Sd E X l yX12_priceNow cX12_priceNow 3 (some .int) 5 0 0 0 0 4 r4) : Sd E X l yX12_priceNow cX12_priceNow 3 (some .int) 5 0 0 0 0 31 (kX12_priceNow_31 n r4) := s_iinc dX12_priceNow_31 (by decide) (s_goto dX12_priceNow_34 (by decide) h4)
def kX12_priceNow_4 (n : Nat) (r4 : mK) : mK := i_ldI 2 (i_ldA 0 (i_cV 12 0 (FX12_many n) (i_c2 (fun x y => decide (y ≤ x)) (i_ldI 1 (i_rI)) (i_ldA 0 (i_gA 12 39 (i_cst (.int (0)) (i_ldI 2 (i_bin (fun x y => x + y) (i_al 0 (i_c0 (fun x => decide (x < 0)) (kX12_priceNow_31 n r4) (i_ldI 1 (i_ldA 0 (i_ldI 2 (i_cV 12 1 (FX12_worthOf n) (i_bin (fun x y => x + y) (i_stI 1 (kX12_priceNow_31 n r4)))))))))))))))))
set_option maxRecDepth 20000 in
theorem okX12_priceNow_4 {E : mE} {X : State → Heap → Prop} {l : Launch} (hX : mXok E X) (n : Nat) {r4 : mK} (h4 : Sd E X l yX12_priceNow cX12_priceNow 3 (some .int) 5 0 0 0 0 4 r4) : Sd E X l yX12_priceNow cX12_priceNow 3 (some .int) 5 0 0 0 0 4 (kX12_priceNow_4 n r4) := s_iload_n dX12_priceNow_4 rfl (s_aload_n dX12_priceNow_5 rfl (s_cV dX12_priceNow_6 lMX12_341 bVX12_many rfl (CtX12_many hX n) (Nat.le_of_ble_eq_true rfl) (s_icge dX12_priceNow_9 (by decide) (s_iload_n dX12_priceNow_37 rfl (s_rI dX12_priceNow_38 (Nat.le_of_ble_eq_true rfl) (Nat.le_of_ble_eq_true rfl))) (s_aload_n dX12_priceNow_12 rfl (s_gA dX12_priceNow_13 lFX12_82 (s_iconst dX12_priceNow_16 (by decide) (s_iload_n dX12_priceNow_17 rfl (s_iadd dX12_priceNow_18 (s_iald dX12_priceNow_19 (s_iflt dX12_priceNow_20 (by decide) (okX12_priceNow_31 hX n h4) (s_iload_n dX12_priceNow_23 rfl (s_aload_n dX12_priceNow_24 rfl (s_iload_n dX12_priceNow_25 rfl (s_cV dX12_priceNow_26 lMX12_381 bVX12_worthOf rfl (CtX12_worthOf hX n) (Nat.le_of_ble_eq_true rfl) (s_iadd dX12_priceNow_29 (s_istore_n dX12_priceNow_30 rfl (okX12_priceNow_31 hX n h4))) (Nat.le_of_ble_eq_true rfl) (Nat.le_of_ble_eq_true rfl))))))))))))) (Nat.le_of_ble_eq_true rfl) (Nat.le_of_ble_eq_true rfl)))
def kX12_priceNow_0 (n : Nat) : mK := i_cst (.int (0)) (i_stI 1 (i_cst (.int (0)) (i_stI 2 (mit (kX12_priceNow_4 n ) n))))
set_option maxRecDepth 20000 in
theorem okX12_priceNow_0 {E : mE} {X : State → Heap → Prop} {l : Launch} (hX : mXok E X) (n : Nat) : Sd E X l yX12_priceNow cX12_priceNow 3 (some .int) 5 0 0 0 0 0 (kX12_priceNow_0 n) := s_iconst dX12_priceNow_0 (by decide) (s_istore_n dX12_priceNow_1 rfl (s_iconst dX12_priceNow_2 (by decide) (s_istore_n dX12_priceNow_3 rfl (s_mit (fun _ hk => okX12_priceNow_4 hX n hk) n))))
def FX12_priceNow (n : Nat) : List Value → mM → Option mR := mfn 3 (kX12_priceNow_0 n)
theorem CtX12_priceNow {E : mE} {X : State → Heap → Prop} {l : Launch} (hX : mXok E X) (n : Nat) : Ct E X l yX12_priceNow cX12_priceNow 3 (some .int) 5 0 0 (FX12_priceNow n) := Ct_of (by decide) hX (okX12_priceNow_0 hX n)
theorem dX12_reach_0 : decode cX12_reach 0 = .ok (.aload_n 0, 1) := by decide +kernel
theorem dX12_reach_1 : decode cX12_reach 1 = .ok (.iload_n 1, 1) := by decide +kernel
theorem dX12_reach_2 : decode cX12_reach 2 = .ok (.invokevirtual 390, 3) := by decide +kernel
theorem dX12_reach_5 : decode cX12_reach 5 = .ok (.ifCond .ne 5, 3) := by decide +kernel
theorem dX12_reach_8 : decode cX12_reach 8 = .ok (.iconst (-1), 1) := by decide +kernel
theorem dX12_reach_9 : decode cX12_reach 9 = .ok (.ireturn, 1) := by decide +kernel
theorem dX12_reach_10 : decode cX12_reach 10 = .ok (.aload_n 0, 1) := by decide +kernel
theorem dX12_reach_11 : decode cX12_reach 11 = .ok (.iload_n 1, 1) := by decide +kernel
theorem dX12_reach_12 : decode cX12_reach 12 = .ok (.invokevirtual 466, 3) := by decide +kernel
theorem dX12_reach_15 : decode cX12_reach 15 = .ok (.iconst 0, 1) := by decide +kernel
theorem dX12_reach_16 : decode cX12_reach 16 = .ok (.istore_n 2, 1) := by decide +kernel
theorem dX12_reach_17 : decode cX12_reach 17 = .ok (.iconst 0, 1) := by decide +kernel
theorem dX12_reach_18 : decode cX12_reach 18 = .ok (.istore_n 3, 1) := by decide +kernel
theorem dX12_reach_19 : decode cX12_reach 19 = .ok (.iload_n 3, 1) := by decide +kernel
theorem dX12_reach_20 : decode cX12_reach 20 = .ok (.aload_n 0, 1) := by decide +kernel
theorem dX12_reach_21 : decode cX12_reach 21 = .ok (.invokevirtual 351, 3) := by decide +kernel
theorem dX12_reach_24 : decode cX12_reach 24 = .ok (.if_icmp .ge 29, 3) := by decide +kernel
theorem dX12_reach_27 : decode cX12_reach 27 = .ok (.iload_n 2, 1) := by decide +kernel
theorem dX12_reach_28 : decode cX12_reach 28 = .ok (.aload_n 0, 1) := by decide +kernel
theorem dX12_reach_29 : decode cX12_reach 29 = .ok (.getfield 106, 3) := by decide +kernel
theorem dX12_reach_32 : decode cX12_reach 32 = .ok (.iload_n 3, 1) := by decide +kernel
theorem dX12_reach_33 : decode cX12_reach 33 = .ok (.iaload, 1) := by decide +kernel
theorem dX12_reach_34 : decode cX12_reach 34 = .ok (.sipush 1000, 3) := by decide +kernel
theorem dX12_reach_37 : decode cX12_reach 37 = .ok (.if_icmp .ge 7, 3) := by decide +kernel
theorem dX12_reach_40 : decode cX12_reach 40 = .ok (.iconst 1, 1) := by decide +kernel
theorem dX12_reach_41 : decode cX12_reach 41 = .ok (.goto 4, 3) := by decide +kernel
theorem dX12_reach_44 : decode cX12_reach 44 = .ok (.iconst 0, 1) := by decide +kernel
theorem dX12_reach_45 : decode cX12_reach 45 = .ok (.iadd, 1) := by decide +kernel
theorem dX12_reach_46 : decode cX12_reach 46 = .ok (.istore_n 2, 1) := by decide +kernel
theorem dX12_reach_47 : decode cX12_reach 47 = .ok (.iinc 3 1, 3) := by decide +kernel
theorem dX12_reach_50 : decode cX12_reach 50 = .ok (.goto (-31), 3) := by decide +kernel
theorem dX12_reach_53 : decode cX12_reach 53 = .ok (.iload_n 2, 1) := by decide +kernel
theorem dX12_reach_54 : decode cX12_reach 54 = .ok (.ireturn, 1) := by decide +kernel
def kX12_reach_45 (n : Nat) (r19 : mK) : mK := i_bin (fun x y => x + y) (i_stI 2 (i_inc 3 (1) (r19)))
set_option maxRecDepth 20000 in
theorem okX12_reach_45 {E : mE} {X : State → Heap → Prop} {l : Launch} (hX : mXok E X) (n : Nat) {r19 : mK} (h19 : Sd E X l yX12_reach cX12_reach 4 (some .int) 5 0 0 0 0 19 r19) : Sd E X l yX12_reach cX12_reach 4 (some .int) 5 0 0 0 0 45 (kX12_reach_45 n r19) := s_iadd dX12_reach_45 (s_istore_n dX12_reach_46 rfl (s_iinc dX12_reach_47 (by decide) (s_goto dX12_reach_50 (by decide) h19)))
def kX12_reach_19 (n : Nat) (r19 : mK) : mK := i_ldI 3 (i_ldA 0 (i_cV 12 0 (FX12_spots n) (i_c2 (fun x y => decide (y ≤ x)) (i_ldI 2 (i_rI)) (i_ldI 2 (i_ldA 0 (i_gA 12 50 (i_ldI 3 (i_al 0 (i_cst (.int (1000)) (i_c2 (fun x y => decide (y ≤ x)) (i_cst (.int (0)) (kX12_reach_45 n r19)) (i_cst (.int (1)) ((kX12_reach_45 n r19)))))))))))))
set_option maxRecDepth 20000 in
theorem okX12_reach_19 {E : mE} {X : State → Heap → Prop} {l : Launch} (hX : mXok E X) (n : Nat) {r19 : mK} (h19 : Sd E X l yX12_reach cX12_reach 4 (some .int) 5 0 0 0 0 19 r19) : Sd E X l yX12_reach cX12_reach 4 (some .int) 5 0 0 0 0 19 (kX12_reach_19 n r19) := s_iload_n dX12_reach_19 rfl (s_aload_n dX12_reach_20 rfl (s_cV dX12_reach_21 lMX12_351 bVX12_spots rfl (CtX12_spots hX n) (Nat.le_of_ble_eq_true rfl) (s_icge dX12_reach_24 (by decide) (s_iload_n dX12_reach_53 rfl (s_rI dX12_reach_54 (Nat.le_of_ble_eq_true rfl) (Nat.le_of_ble_eq_true rfl))) (s_iload_n dX12_reach_27 rfl (s_aload_n dX12_reach_28 rfl (s_gA dX12_reach_29 lFX12_106 (s_iload_n dX12_reach_32 rfl (s_iald dX12_reach_33 (s_sipush dX12_reach_34 (by decide) (s_icge dX12_reach_37 (by decide) (s_iconst dX12_reach_44 (by decide) (okX12_reach_45 hX n h19)) (s_iconst dX12_reach_40 (by decide) (s_goto dX12_reach_41 (by decide) (okX12_reach_45 hX n h19))))))))))) (Nat.le_of_ble_eq_true rfl) (Nat.le_of_ble_eq_true rfl)))
def kX12_reach_0 (n : Nat) : mK := i_ldA 0 (i_ldI 1 (i_cV 12 1 (FX12_isSpot n) (i_c0 (fun x => decide (¬ x = 0)) (i_ldA 0 (i_ldI 1 (i_cV 12 1 (FX12_layFrom n) (i_cst (.int (0)) (i_stI 2 (i_cst (.int (0)) (i_stI 3 (mit (kX12_reach_19 n ) n)))))))) (i_cst (.int (-1)) (i_rI)))))
set_option maxRecDepth 20000 in
theorem okX12_reach_0 {E : mE} {X : State → Heap → Prop} {l : Launch} (hX : mXok E X) (n : Nat) : Sd E X l yX12_reach cX12_reach 4 (some .int) 5 0 0 0 0 0 (kX12_reach_0 n) := s_aload_n dX12_reach_0 rfl (s_iload_n dX12_reach_1 rfl (s_cV dX12_reach_2 lMX12_390 bVX12_isSpot rfl (CtX12_isSpot hX n) (Nat.le_of_ble_eq_true rfl) (s_ifne dX12_reach_5 (by decide) (s_aload_n dX12_reach_10 rfl (s_iload_n dX12_reach_11 rfl (s_cV dX12_reach_12 lMX12_466 bVX12_layFrom rfl (CtX12_layFrom hX n) (Nat.le_of_ble_eq_true rfl) (s_iconst dX12_reach_15 (by decide) (s_istore_n dX12_reach_16 rfl (s_iconst dX12_reach_17 (by decide) (s_istore_n dX12_reach_18 rfl (s_mit (fun _ hk => okX12_reach_19 hX n hk) n))))) (Nat.le_of_ble_eq_true rfl) (Nat.le_of_ble_eq_true rfl)))) (s_iconst dX12_reach_8 (by decide) (s_rI dX12_reach_9 (Nat.le_of_ble_eq_true rfl) (Nat.le_of_ble_eq_true rfl)))) (Nat.le_of_ble_eq_true rfl) (Nat.le_of_ble_eq_true rfl)))
def FX12_reach (n : Nat) : List Value → mM → Option mR := mfn 4 (kX12_reach_0 n)
theorem CtX12_reach {E : mE} {X : State → Heap → Prop} {l : Launch} (hX : mXok E X) (n : Nat) : Ct E X l yX12_reach cX12_reach 4 (some .int) 5 0 0 (FX12_reach n) := Ct_of (by decide) hX (okX12_reach_0 hX n)
theorem dX12_readCell_0 : decode cX12_readCell 0 = .ok (.aload_n 0, 1) := by decide +kernel
theorem dX12_readCell_1 : decode cX12_readCell 1 = .ok (.ldc2_w 155, 3) := by decide +kernel
theorem dX12_readCell_4 : decode cX12_readCell 4 = .ok (.iconst 0, 1) := by decide +kernel
theorem dX12_readCell_5 : decode cX12_readCell 5 = .ok (.aload_n 0, 1) := by decide +kernel
theorem dX12_readCell_6 : decode cX12_readCell 6 = .ok (.getfield 20, 3) := by decide +kernel
theorem dX12_readCell_9 : decode cX12_readCell 9 = .ok (.aload_n 0, 1) := by decide +kernel
theorem dX12_readCell_10 : decode cX12_readCell 10 = .ok (.getfield 246, 3) := by decide +kernel
theorem dX12_readCell_13 : decode cX12_readCell 13 = .ok (.iaload, 1) := by decide +kernel
theorem dX12_readCell_14 : decode cX12_readCell 14 = .ok (.iconst 1, 1) := by decide +kernel
theorem dX12_readCell_15 : decode cX12_readCell 15 = .ok (.isub, 1) := by decide +kernel
theorem dX12_readCell_16 : decode cX12_readCell 16 = .ok (.invokevirtual 268, 3) := by decide +kernel
theorem dX12_readCell_19 : decode cX12_readCell 19 = .ok (.istore_n 1, 1) := by decide +kernel
theorem dX12_readCell_20 : decode cX12_readCell 20 = .ok (.aload_n 0, 1) := by decide +kernel
theorem dX12_readCell_21 : decode cX12_readCell 21 = .ok (.getfield 190, 3) := by decide +kernel
theorem dX12_readCell_24 : decode cX12_readCell 24 = .ok (.istore_n 2, 1) := by decide +kernel
theorem dX12_readCell_25 : decode cX12_readCell 25 = .ok (.aload_n 0, 1) := by decide +kernel
theorem dX12_readCell_26 : decode cX12_readCell 26 = .ok (.iconst 0, 1) := by decide +kernel
theorem dX12_readCell_27 : decode cX12_readCell 27 = .ok (.aload_n 0, 1) := by decide +kernel
theorem dX12_readCell_28 : decode cX12_readCell 28 = .ok (.getfield 24, 3) := by decide +kernel
theorem dX12_readCell_31 : decode cX12_readCell 31 = .ok (.aload_n 0, 1) := by decide +kernel
theorem dX12_readCell_32 : decode cX12_readCell 32 = .ok (.getfield 246, 3) := by decide +kernel
theorem dX12_readCell_35 : decode cX12_readCell 35 = .ok (.iaload, 1) := by decide +kernel
theorem dX12_readCell_36 : decode cX12_readCell 36 = .ok (.iconst 1, 1) := by decide +kernel
theorem dX12_readCell_37 : decode cX12_readCell 37 = .ok (.isub, 1) := by decide +kernel
theorem dX12_readCell_38 : decode cX12_readCell 38 = .ok (.invokevirtual 242, 3) := by decide +kernel
theorem dX12_readCell_41 : decode cX12_readCell 41 = .ok (.aload_n 0, 1) := by decide +kernel
theorem dX12_readCell_42 : decode cX12_readCell 42 = .ok (.getfield 20, 3) := by decide +kernel
theorem dX12_readCell_45 : decode cX12_readCell 45 = .ok (.aload_n 0, 1) := by decide +kernel
theorem dX12_readCell_46 : decode cX12_readCell 46 = .ok (.getfield 246, 3) := by decide +kernel
theorem dX12_readCell_49 : decode cX12_readCell 49 = .ok (.iaload, 1) := by decide +kernel
theorem dX12_readCell_50 : decode cX12_readCell 50 = .ok (.imul, 1) := by decide +kernel
theorem dX12_readCell_51 : decode cX12_readCell 51 = .ok (.iload_n 1, 1) := by decide +kernel
theorem dX12_readCell_52 : decode cX12_readCell 52 = .ok (.iadd, 1) := by decide +kernel
theorem dX12_readCell_53 : decode cX12_readCell 53 = .ok (.istore_n 3, 1) := by decide +kernel
theorem dX12_readCell_54 : decode cX12_readCell 54 = .ok (.iconst 0, 1) := by decide +kernel
theorem dX12_readCell_55 : decode cX12_readCell 55 = .ok (.istore 4, 2) := by decide +kernel
theorem dX12_readCell_57 : decode cX12_readCell 57 = .ok (.iload 4, 2) := by decide +kernel
theorem dX12_readCell_59 : decode cX12_readCell 59 = .ok (.aload_n 0, 1) := by decide +kernel
theorem dX12_readCell_60 : decode cX12_readCell 60 = .ok (.getfield 30, 3) := by decide +kernel
theorem dX12_readCell_63 : decode cX12_readCell 63 = .ok (.aload_n 0, 1) := by decide +kernel
theorem dX12_readCell_64 : decode cX12_readCell 64 = .ok (.getfield 246, 3) := by decide +kernel
theorem dX12_readCell_67 : decode cX12_readCell 67 = .ok (.iaload, 1) := by decide +kernel
theorem dX12_readCell_68 : decode cX12_readCell 68 = .ok (.if_icmp .ge 41, 3) := by decide +kernel
theorem dX12_readCell_71 : decode cX12_readCell 71 = .ok (.aload_n 0, 1) := by decide +kernel
theorem dX12_readCell_72 : decode cX12_readCell 72 = .ok (.invokevirtual 225, 3) := by decide +kernel
theorem dX12_readCell_75 : decode cX12_readCell 75 = .ok (.ifCond .eq 28, 3) := by decide +kernel
theorem dX12_readCell_78 : decode cX12_readCell 78 = .ok (.aload_n 0, 1) := by decide +kernel
theorem dX12_readCell_79 : decode cX12_readCell 79 = .ok (.getfield 45, 3) := by decide +kernel
theorem dX12_readCell_82 : decode cX12_readCell 82 = .ok (.bipush 8, 2) := by decide +kernel
theorem dX12_readCell_84 : decode cX12_readCell 84 = .ok (.aload_n 0, 1) := by decide +kernel
theorem dX12_readCell_85 : decode cX12_readCell 85 = .ok (.getfield 246, 3) := by decide +kernel
theorem dX12_readCell_88 : decode cX12_readCell 88 = .ok (.imul, 1) := by decide +kernel
theorem dX12_readCell_89 : decode cX12_readCell 89 = .ok (.iload 4, 2) := by decide +kernel
theorem dX12_readCell_91 : decode cX12_readCell 91 = .ok (.iadd, 1) := by decide +kernel
theorem dX12_readCell_92 : decode cX12_readCell 92 = .ok (.iaload, 1) := by decide +kernel
theorem dX12_readCell_93 : decode cX12_readCell 93 = .ok (.iload_n 3, 1) := by decide +kernel
theorem dX12_readCell_94 : decode cX12_readCell 94 = .ok (.if_icmp .ne 9, 3) := by decide +kernel
theorem dX12_readCell_97 : decode cX12_readCell 97 = .ok (.aload_n 0, 1) := by decide +kernel
theorem dX12_readCell_98 : decode cX12_readCell 98 = .ok (.iconst 3, 1) := by decide +kernel
theorem dX12_readCell_99 : decode cX12_readCell 99 = .ok (.iload_n 2, 1) := by decide +kernel
theorem dX12_readCell_100 : decode cX12_readCell 100 = .ok (.invokevirtual 221, 3) := by decide +kernel
theorem dX12_readCell_103 : decode cX12_readCell 103 = .ok (.iinc 4 1, 3) := by decide +kernel
theorem dX12_readCell_106 : decode cX12_readCell 106 = .ok (.goto (-49), 3) := by decide +kernel
theorem dX12_readCell_109 : decode cX12_readCell 109 = .ok (.iload_n 3, 1) := by decide +kernel
theorem dX12_readCell_110 : decode cX12_readCell 110 = .ok (.ireturn, 1) := by decide +kernel
def kX12_readCell_103 (n : Nat) (r57 : mK) : mK := i_inc 4 (1) (r57)
set_option maxRecDepth 20000 in
theorem okX12_readCell_103 {E : mE} {X : State → Heap → Prop} {l : Launch} (hX : mXok E X) (n : Nat) {r57 : mK} (h57 : Sd E X l yX12_readCell cX12_readCell 5 (some .int) 5 0 0 0 0 57 r57) : Sd E X l yX12_readCell cX12_readCell 5 (some .int) 5 0 0 0 0 103 (kX12_readCell_103 n r57) := s_iinc dX12_readCell_103 (by decide) (s_goto dX12_readCell_106 (by decide) h57)
def kX12_readCell_100 (n : Nat) (r57 : mK) : mK := i_cV 12 2 (FX12_fails n) (kX12_readCell_103 n r57)
set_option maxRecDepth 20000 in
theorem okX12_readCell_100 {E : mE} {X : State → Heap → Prop} {l : Launch} (hX : mXok E X) (n : Nat) {r57 : mK} (h57 : Sd E X l yX12_readCell cX12_readCell 5 (some .int) 5 0 0 0 0 57 r57) : Sd E X l yX12_readCell cX12_readCell 5 (some .int) 5 0 0 0 0 100 (kX12_readCell_100 n r57) := s_cV dX12_readCell_100 lMX12_221 bVX12_fails rfl (CtX12_fails hX n) (Nat.le_of_ble_eq_true rfl) (okX12_readCell_103 hX n h57) (Nat.le_of_ble_eq_true rfl) (Nat.le_of_ble_eq_true rfl)
def kX12_readCell_57 (n : Nat) (r57 : mK) : mK := i_ldI 4 (i_ldA 0 (i_gA 12 14 (i_ldA 0 (i_gI 12 32 (i_al 0 (i_c2 (fun x y => decide (y ≤ x)) (i_ldI 3 (i_rI)) (i_ldA 0 (i_cV 12 0 (FX12_isGood n) (i_c0 (fun x => decide (x = 0)) (kX12_readCell_103 n r57) (i_ldA 0 (i_gA 12 19 (i_cst (.int (8)) (i_ldA 0 (i_gI 12 32 (i_bin (fun x y => x * y) (i_ldI 4 (i_bin (fun x y => x + y) (i_al 0 (i_ldI 3 (i_c2 (fun x y => decide (¬ x = y)) (kX12_readCell_103 n r57) (i_ldA 0 (i_cst (.int (3)) (i_ldI 2 (kX12_readCell_100 n r57))))))))))))))))))))))))
set_option maxRecDepth 20000 in
theorem okX12_readCell_57 {E : mE} {X : State → Heap → Prop} {l : Launch} (hX : mXok E X) (n : Nat) {r57 : mK} (h57 : Sd E X l yX12_readCell cX12_readCell 5 (some .int) 5 0 0 0 0 57 r57) : Sd E X l yX12_readCell cX12_readCell 5 (some .int) 5 0 0 0 0 57 (kX12_readCell_57 n r57) := s_iload dX12_readCell_57 (s_aload_n dX12_readCell_59 rfl (s_gA dX12_readCell_60 lFX12_30 (s_aload_n dX12_readCell_63 rfl (s_gI dX12_readCell_64 lFX12_246 (by decide) (s_iald dX12_readCell_67 (s_icge dX12_readCell_68 (by decide) (s_iload_n dX12_readCell_109 rfl (s_rI dX12_readCell_110 (Nat.le_of_ble_eq_true rfl) (Nat.le_of_ble_eq_true rfl))) (s_aload_n dX12_readCell_71 rfl (s_cV dX12_readCell_72 lMX12_225 bVX12_isGood rfl (CtX12_isGood hX n) (Nat.le_of_ble_eq_true rfl) (s_ifeq dX12_readCell_75 (by decide) (okX12_readCell_103 hX n h57) (s_aload_n dX12_readCell_78 rfl (s_gA dX12_readCell_79 lFX12_45 (s_bipush dX12_readCell_82 (by decide) (s_aload_n dX12_readCell_84 rfl (s_gI dX12_readCell_85 lFX12_246 (by decide) (s_imul dX12_readCell_88 (s_iload dX12_readCell_89 (s_iadd dX12_readCell_91 (s_iald dX12_readCell_92 (s_iload_n dX12_readCell_93 rfl (s_icne dX12_readCell_94 (by decide) (okX12_readCell_103 hX n h57) (s_aload_n dX12_readCell_97 rfl (s_iconst dX12_readCell_98 (by decide) (s_iload_n dX12_readCell_99 rfl (okX12_readCell_100 hX n h57)))))))))))))))) (Nat.le_of_ble_eq_true rfl) (Nat.le_of_ble_eq_true rfl)))))))))
def kX12_readCell_38 (n : Nat) : mK := i_cV 12 2 (FX12_numeral n) (i_ldA 0 (i_gA 12 11 (i_ldA 0 (i_gI 12 32 (i_al 0 (i_bin (fun x y => x * y) (i_ldI 1 (i_bin (fun x y => x + y) (i_stI 3 (i_cst (.int (0)) (i_stI 4 (mit (kX12_readCell_57 n ) n))))))))))))
set_option maxRecDepth 20000 in
theorem okX12_readCell_38 {E : mE} {X : State → Heap → Prop} {l : Launch} (hX : mXok E X) (n : Nat) : Sd E X l yX12_readCell cX12_readCell 5 (some .int) 5 0 0 0 0 38 (kX12_readCell_38 n) := s_cV dX12_readCell_38 lMX12_242 bVX12_numeral rfl (CtX12_numeral hX n) (Nat.le_of_ble_eq_true rfl) (s_aload_n dX12_readCell_41 rfl (s_gA dX12_readCell_42 lFX12_20 (s_aload_n dX12_readCell_45 rfl (s_gI dX12_readCell_46 lFX12_246 (by decide) (s_iald dX12_readCell_49 (s_imul dX12_readCell_50 (s_iload_n dX12_readCell_51 rfl (s_iadd dX12_readCell_52 (s_istore_n dX12_readCell_53 rfl (s_iconst dX12_readCell_54 (by decide) (s_istore dX12_readCell_55 (s_mit (fun _ hk => okX12_readCell_57 hX n hk) n)))))))))))) (Nat.le_of_ble_eq_true rfl) (Nat.le_of_ble_eq_true rfl)
def kX12_readCell_0 (n : Nat) : mK := i_ldA 0 (i_cst (.long (24948)) (i_cst (.int (0)) (i_ldA 0 (i_gA 12 11 (i_ldA 0 (i_gI 12 32 (i_al 0 (i_cst (.int (1)) (i_bin (fun x y => x - y) (i_cV 12 3 (FX12_after n) (i_stI 1 (i_ldA 0 (i_gI 12 6 (i_stI 2 (i_ldA 0 (i_cst (.int (0)) (i_ldA 0 (i_gA 12 12 (i_ldA 0 (i_gI 12 32 (i_al 0 (i_cst (.int (1)) (i_bin (fun x y => x - y) (kX12_readCell_38 n))))))))))))))))))))))))
set_option maxRecDepth 20000 in
theorem okX12_readCell_0 {E : mE} {X : State → Heap → Prop} {l : Launch} (hX : mXok E X) (n : Nat) : Sd E X l yX12_readCell cX12_readCell 5 (some .int) 5 0 0 0 0 0 (kX12_readCell_0 n) := s_aload_n dX12_readCell_0 rfl (s_ldc2 dX12_readCell_1 lCX12_155 (s_iconst dX12_readCell_4 (by decide) (s_aload_n dX12_readCell_5 rfl (s_gA dX12_readCell_6 lFX12_20 (s_aload_n dX12_readCell_9 rfl (s_gI dX12_readCell_10 lFX12_246 (by decide) (s_iald dX12_readCell_13 (s_iconst dX12_readCell_14 (by decide) (s_isub dX12_readCell_15 (s_cV dX12_readCell_16 lMX12_268 bVX12_after rfl (CtX12_after hX n) (Nat.le_of_ble_eq_true rfl) (s_istore_n dX12_readCell_19 rfl (s_aload_n dX12_readCell_20 rfl (s_gI dX12_readCell_21 lFX12_190 (by decide) (s_istore_n dX12_readCell_24 rfl (s_aload_n dX12_readCell_25 rfl (s_iconst dX12_readCell_26 (by decide) (s_aload_n dX12_readCell_27 rfl (s_gA dX12_readCell_28 lFX12_24 (s_aload_n dX12_readCell_31 rfl (s_gI dX12_readCell_32 lFX12_246 (by decide) (s_iald dX12_readCell_35 (s_iconst dX12_readCell_36 (by decide) (s_isub dX12_readCell_37 (okX12_readCell_38 hX n)))))))))))))) (Nat.le_of_ble_eq_true rfl) (Nat.le_of_ble_eq_true rfl)))))))))))
def FX12_readCell (n : Nat) : List Value → mM → Option mR := mfn 5 (kX12_readCell_0 n)
theorem CtX12_readCell {E : mE} {X : State → Heap → Prop} {l : Launch} (hX : mXok E X) (n : Nat) : Ct E X l yX12_readCell cX12_readCell 5 (some .int) 5 0 0 (FX12_readCell n) := Ct_of (by decide) hX (okX12_readCell_0 hX n)
