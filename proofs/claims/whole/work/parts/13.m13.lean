theorem dX11_fits_0 : decode cX11_fits 0 = .ok (.aload_n 0, 1) := by decide +kernel
theorem dX11_fits_1 : decode cX11_fits 1 = .ok (.getfield 70, 3) := by decide +kernel
theorem dX11_fits_4 : decode cX11_fits 4 = .ok (.iload_n 1, 1) := by decide +kernel
theorem dX11_fits_5 : decode cX11_fits 5 = .ok (.invokevirtual 339, 3) := by decide +kernel
theorem dX11_fits_8 : decode cX11_fits 8 = .ok (.ireturn, 1) := by decide +kernel
def kX11_fits_0 (n : Nat) : mK := i_ldA 0 (i_gA 11 10 (i_ldI 1 (i_cV 2 1 (FX2_countFits n) (i_rI))))
set_option maxRecDepth 20000 in
theorem okX11_fits_0 {E : mE} {X : State → Heap → Prop} {l : Launch} (hX : mXok E X) (n : Nat) : Sd E X l yX11_fits cX11_fits 2 (some .int) 7 0 0 0 0 0 (kX11_fits_0 n) := s_aload_n dX11_fits_0 rfl (s_gA dX11_fits_1 lFX11_70 (s_iload_n dX11_fits_4 rfl (s_cV dX11_fits_5 lMX11_339 bVX2_countFits rfl (CtX2_countFits hX n) (Nat.le_of_ble_eq_true rfl) (s_rI dX11_fits_8 (Nat.le_of_ble_eq_true rfl) (Nat.le_of_ble_eq_true rfl)) (Nat.le_of_ble_eq_true rfl) (Nat.le_of_ble_eq_true rfl))))
def FX11_fits (n : Nat) : List Value → mM → Option mR := mfn 2 (kX11_fits_0 n)
theorem CtX11_fits {E : mE} {X : State → Heap → Prop} {l : Launch} (hX : mXok E X) (n : Nat) : Ct E X l yX11_fits cX11_fits 2 (some .int) 7 0 0 (FX11_fits n) := Ct_of (by decide) hX (okX11_fits_0 hX n)
theorem dX11_quiet_0 : decode cX11_quiet 0 = .ok (.aload_n 0, 1) := by decide +kernel
theorem dX11_quiet_1 : decode cX11_quiet 1 = .ok (.getfield 41, 3) := by decide +kernel
theorem dX11_quiet_4 : decode cX11_quiet 4 = .ok (.aload_n 0, 1) := by decide +kernel
theorem dX11_quiet_5 : decode cX11_quiet 5 = .ok (.getfield 37, 3) := by decide +kernel
theorem dX11_quiet_8 : decode cX11_quiet 8 = .ok (.invokevirtual 253, 3) := by decide +kernel
theorem dX11_quiet_11 : decode cX11_quiet 11 = .ok (.iconst 0, 1) := by decide +kernel
theorem dX11_quiet_12 : decode cX11_quiet 12 = .ok (.istore_n 1, 1) := by decide +kernel
theorem dX11_quiet_13 : decode cX11_quiet 13 = .ok (.iload_n 1, 1) := by decide +kernel
theorem dX11_quiet_14 : decode cX11_quiet 14 = .ok (.bipush 99, 2) := by decide +kernel
theorem dX11_quiet_16 : decode cX11_quiet 16 = .ok (.if_icmp .gt 28, 3) := by decide +kernel
theorem dX11_quiet_19 : decode cX11_quiet 19 = .ok (.aload_n 0, 1) := by decide +kernel
theorem dX11_quiet_20 : decode cX11_quiet 20 = .ok (.getfield 41, 3) := by decide +kernel
theorem dX11_quiet_23 : decode cX11_quiet 23 = .ok (.invokevirtual 266, 3) := by decide +kernel
theorem dX11_quiet_26 : decode cX11_quiet 26 = .ok (.ifCond .ne 5, 3) := by decide +kernel
theorem dX11_quiet_29 : decode cX11_quiet 29 = .ok (.iload_n 1, 1) := by decide +kernel
theorem dX11_quiet_30 : decode cX11_quiet 30 = .ok (.ireturn, 1) := by decide +kernel
theorem dX11_quiet_31 : decode cX11_quiet 31 = .ok (.aload_n 0, 1) := by decide +kernel
theorem dX11_quiet_32 : decode cX11_quiet 32 = .ok (.getfield 41, 3) := by decide +kernel
theorem dX11_quiet_35 : decode cX11_quiet 35 = .ok (.invokevirtual 281, 3) := by decide +kernel
theorem dX11_quiet_38 : decode cX11_quiet 38 = .ok (.iinc 1 1, 3) := by decide +kernel
theorem dX11_quiet_41 : decode cX11_quiet 41 = .ok (.goto (-28), 3) := by decide +kernel
theorem dX11_quiet_44 : decode cX11_quiet 44 = .ok (.iconst (-1), 1) := by decide +kernel
theorem dX11_quiet_45 : decode cX11_quiet 45 = .ok (.ireturn, 1) := by decide +kernel
def kX11_quiet_13 (n : Nat) (r13 : mK) : mK := i_ldI 1 (i_cst (.int (99)) (i_c2 (fun x y => decide (y < x)) (i_cst (.int (-1)) (i_rI)) (i_ldA 0 (i_gA 11 6 (i_cV 8 0 (FX8_allHoots n) (i_c0 (fun x => decide (¬ x = 0)) (i_ldA 0 (i_gA 11 6 (i_cV 8 0 (FX8_passQuietly n) (i_inc 1 (1) (r13))))) (i_ldI 1 (i_rI))))))))
set_option maxRecDepth 20000 in
theorem okX11_quiet_13 {E : mE} {X : State → Heap → Prop} {l : Launch} (hX : mXok E X) (n : Nat) {r13 : mK} (h13 : Sd E X l yX11_quiet cX11_quiet 2 (some .int) 7 0 0 0 0 13 r13) : Sd E X l yX11_quiet cX11_quiet 2 (some .int) 7 0 0 0 0 13 (kX11_quiet_13 n r13) := s_iload_n dX11_quiet_13 rfl (s_bipush dX11_quiet_14 (by decide) (s_icgt dX11_quiet_16 (by decide) (s_iconst dX11_quiet_44 (by decide) (s_rI dX11_quiet_45 (Nat.le_of_ble_eq_true rfl) (Nat.le_of_ble_eq_true rfl))) (s_aload_n dX11_quiet_19 rfl (s_gA dX11_quiet_20 lFX11_41 (s_cV dX11_quiet_23 lMX11_266 bVX8_allHoots rfl (CtX8_allHoots hX n) (Nat.le_of_ble_eq_true rfl) (s_ifne dX11_quiet_26 (by decide) (s_aload_n dX11_quiet_31 rfl (s_gA dX11_quiet_32 lFX11_41 (s_cV dX11_quiet_35 lMX11_281 bVX8_passQuietly rfl (CtX8_passQuietly hX n) (Nat.le_of_ble_eq_true rfl) (s_iinc dX11_quiet_38 (by decide) (s_goto dX11_quiet_41 (by decide) h13)) (Nat.le_of_ble_eq_true rfl) (Nat.le_of_ble_eq_true rfl)))) (s_iload_n dX11_quiet_29 rfl (s_rI dX11_quiet_30 (Nat.le_of_ble_eq_true rfl) (Nat.le_of_ble_eq_true rfl)))) (Nat.le_of_ble_eq_true rfl) (Nat.le_of_ble_eq_true rfl))))))
def kX11_quiet_0 (n : Nat) : mK := i_ldA 0 (i_gA 11 6 (i_ldA 0 (i_gA 11 5 (i_cV 8 1 (FX8_copyFrom n) (i_cst (.int (0)) (i_stI 1 (mit (kX11_quiet_13 n ) n)))))))
set_option maxRecDepth 20000 in
theorem okX11_quiet_0 {E : mE} {X : State → Heap → Prop} {l : Launch} (hX : mXok E X) (n : Nat) : Sd E X l yX11_quiet cX11_quiet 2 (some .int) 7 0 0 0 0 0 (kX11_quiet_0 n) := s_aload_n dX11_quiet_0 rfl (s_gA dX11_quiet_1 lFX11_41 (s_aload_n dX11_quiet_4 rfl (s_gA dX11_quiet_5 lFX11_37 (s_cV dX11_quiet_8 lMX11_253 bVX8_copyFrom rfl (CtX8_copyFrom hX n) (Nat.le_of_ble_eq_true rfl) (s_iconst dX11_quiet_11 (by decide) (s_istore_n dX11_quiet_12 rfl (s_mit (fun _ hk => okX11_quiet_13 hX n hk) n))) (Nat.le_of_ble_eq_true rfl) (Nat.le_of_ble_eq_true rfl)))))
def FX11_quiet (n : Nat) : List Value → mM → Option mR := mfn 2 (kX11_quiet_0 n)
theorem CtX11_quiet {E : mE} {X : State → Heap → Prop} {l : Launch} (hX : mXok E X) (n : Nat) : Ct E X l yX11_quiet cX11_quiet 2 (some .int) 7 0 0 (FX11_quiet n) := Ct_of (by decide) hX (okX11_quiet_0 hX n)
theorem dX11_ripe_0 : decode cX11_ripe 0 = .ok (.aload_n 0, 1) := by decide +kernel
theorem dX11_ripe_1 : decode cX11_ripe 1 = .ok (.getfield 41, 3) := by decide +kernel
theorem dX11_ripe_4 : decode cX11_ripe 4 = .ok (.aload_n 0, 1) := by decide +kernel
theorem dX11_ripe_5 : decode cX11_ripe 5 = .ok (.getfield 37, 3) := by decide +kernel
theorem dX11_ripe_8 : decode cX11_ripe 8 = .ok (.invokevirtual 253, 3) := by decide +kernel
theorem dX11_ripe_11 : decode cX11_ripe 11 = .ok (.iconst 0, 1) := by decide +kernel
theorem dX11_ripe_12 : decode cX11_ripe 12 = .ok (.istore_n 2, 1) := by decide +kernel
theorem dX11_ripe_13 : decode cX11_ripe 13 = .ok (.iload_n 2, 1) := by decide +kernel
theorem dX11_ripe_14 : decode cX11_ripe 14 = .ok (.bipush 60, 2) := by decide +kernel
theorem dX11_ripe_16 : decode cX11_ripe 16 = .ok (.if_icmp .gt 29, 3) := by decide +kernel
theorem dX11_ripe_19 : decode cX11_ripe 19 = .ok (.aload_n 0, 1) := by decide +kernel
theorem dX11_ripe_20 : decode cX11_ripe 20 = .ok (.getfield 41, 3) := by decide +kernel
theorem dX11_ripe_23 : decode cX11_ripe 23 = .ok (.invokevirtual 272, 3) := by decide +kernel
theorem dX11_ripe_26 : decode cX11_ripe 26 = .ok (.iload_n 1, 1) := by decide +kernel
theorem dX11_ripe_27 : decode cX11_ripe 27 = .ok (.if_icmp .lt 5, 3) := by decide +kernel
theorem dX11_ripe_30 : decode cX11_ripe 30 = .ok (.iload_n 2, 1) := by decide +kernel
theorem dX11_ripe_31 : decode cX11_ripe 31 = .ok (.ireturn, 1) := by decide +kernel
theorem dX11_ripe_32 : decode cX11_ripe 32 = .ok (.aload_n 0, 1) := by decide +kernel
theorem dX11_ripe_33 : decode cX11_ripe 33 = .ok (.getfield 41, 3) := by decide +kernel
theorem dX11_ripe_36 : decode cX11_ripe 36 = .ok (.invokevirtual 281, 3) := by decide +kernel
theorem dX11_ripe_39 : decode cX11_ripe 39 = .ok (.iinc 2 1, 3) := by decide +kernel
theorem dX11_ripe_42 : decode cX11_ripe 42 = .ok (.goto (-29), 3) := by decide +kernel
theorem dX11_ripe_45 : decode cX11_ripe 45 = .ok (.iconst (-1), 1) := by decide +kernel
theorem dX11_ripe_46 : decode cX11_ripe 46 = .ok (.ireturn, 1) := by decide +kernel
def kX11_ripe_13 (n : Nat) (r13 : mK) : mK := i_ldI 2 (i_cst (.int (60)) (i_c2 (fun x y => decide (y < x)) (i_cst (.int (-1)) (i_rI)) (i_ldA 0 (i_gA 11 6 (i_cV 8 0 (FX8_priceOfAll n) (i_ldI 1 (i_c2 (fun x y => decide (x < y)) (i_ldA 0 (i_gA 11 6 (i_cV 8 0 (FX8_passQuietly n) (i_inc 2 (1) (r13))))) (i_ldI 2 (i_rI)))))))))
set_option maxRecDepth 20000 in
theorem okX11_ripe_13 {E : mE} {X : State → Heap → Prop} {l : Launch} (hX : mXok E X) (n : Nat) {r13 : mK} (h13 : Sd E X l yX11_ripe cX11_ripe 3 (some .int) 7 0 0 0 0 13 r13) : Sd E X l yX11_ripe cX11_ripe 3 (some .int) 7 0 0 0 0 13 (kX11_ripe_13 n r13) := s_iload_n dX11_ripe_13 rfl (s_bipush dX11_ripe_14 (by decide) (s_icgt dX11_ripe_16 (by decide) (s_iconst dX11_ripe_45 (by decide) (s_rI dX11_ripe_46 (Nat.le_of_ble_eq_true rfl) (Nat.le_of_ble_eq_true rfl))) (s_aload_n dX11_ripe_19 rfl (s_gA dX11_ripe_20 lFX11_41 (s_cV dX11_ripe_23 lMX11_272 bVX8_priceOfAll rfl (CtX8_priceOfAll hX n) (Nat.le_of_ble_eq_true rfl) (s_iload_n dX11_ripe_26 rfl (s_iclt dX11_ripe_27 (by decide) (s_aload_n dX11_ripe_32 rfl (s_gA dX11_ripe_33 lFX11_41 (s_cV dX11_ripe_36 lMX11_281 bVX8_passQuietly rfl (CtX8_passQuietly hX n) (Nat.le_of_ble_eq_true rfl) (s_iinc dX11_ripe_39 (by decide) (s_goto dX11_ripe_42 (by decide) h13)) (Nat.le_of_ble_eq_true rfl) (Nat.le_of_ble_eq_true rfl)))) (s_iload_n dX11_ripe_30 rfl (s_rI dX11_ripe_31 (Nat.le_of_ble_eq_true rfl) (Nat.le_of_ble_eq_true rfl))))) (Nat.le_of_ble_eq_true rfl) (Nat.le_of_ble_eq_true rfl))))))
def kX11_ripe_0 (n : Nat) : mK := i_ldA 0 (i_gA 11 6 (i_ldA 0 (i_gA 11 5 (i_cV 8 1 (FX8_copyFrom n) (i_cst (.int (0)) (i_stI 2 (mit (kX11_ripe_13 n ) n)))))))
set_option maxRecDepth 20000 in
theorem okX11_ripe_0 {E : mE} {X : State → Heap → Prop} {l : Launch} (hX : mXok E X) (n : Nat) : Sd E X l yX11_ripe cX11_ripe 3 (some .int) 7 0 0 0 0 0 (kX11_ripe_0 n) := s_aload_n dX11_ripe_0 rfl (s_gA dX11_ripe_1 lFX11_41 (s_aload_n dX11_ripe_4 rfl (s_gA dX11_ripe_5 lFX11_37 (s_cV dX11_ripe_8 lMX11_253 bVX8_copyFrom rfl (CtX8_copyFrom hX n) (Nat.le_of_ble_eq_true rfl) (s_iconst dX11_ripe_11 (by decide) (s_istore_n dX11_ripe_12 rfl (s_mit (fun _ hk => okX11_ripe_13 hX n hk) n))) (Nat.le_of_ble_eq_true rfl) (Nat.le_of_ble_eq_true rfl)))))
def FX11_ripe (n : Nat) : List Value → mM → Option mR := mfn 3 (kX11_ripe_0 n)
theorem CtX11_ripe {E : mE} {X : State → Heap → Prop} {l : Launch} (hX : mXok E X) (n : Nat) : Ct E X l yX11_ripe cX11_ripe 3 (some .int) 7 0 0 (FX11_ripe n) := Ct_of (by decide) hX (okX11_ripe_0 hX n)
theorem dX11_sure_0 : decode cX11_sure 0 = .ok (.aload_n 0, 1) := by decide +kernel
theorem dX11_sure_1 : decode cX11_sure 1 = .ok (.getfield 70, 3) := by decide +kernel
theorem dX11_sure_4 : decode cX11_sure 4 = .ok (.iload_n 2, 1) := by decide +kernel
theorem dX11_sure_5 : decode cX11_sure 5 = .ok (.invokevirtual 339, 3) := by decide +kernel
theorem dX11_sure_8 : decode cX11_sure 8 = .ok (.ifCond .ne 5, 3) := by decide +kernel
theorem dX11_sure_11 : decode cX11_sure 11 = .ok (.iconst (-1), 1) := by decide +kernel
theorem dX11_sure_12 : decode cX11_sure 12 = .ok (.ireturn, 1) := by decide +kernel
theorem dX11_sure_13 : decode cX11_sure 13 = .ok (.iload_n 1, 1) := by decide +kernel
theorem dX11_sure_14 : decode cX11_sure 14 = .ok (.ifCond .ne 11, 3) := by decide +kernel
theorem dX11_sure_17 : decode cX11_sure 17 = .ok (.aload_n 0, 1) := by decide +kernel
theorem dX11_sure_18 : decode cX11_sure 18 = .ok (.getfield 70, 3) := by decide +kernel
theorem dX11_sure_21 : decode cX11_sure 21 = .ok (.invokevirtual 342, 3) := by decide +kernel
theorem dX11_sure_24 : decode cX11_sure 24 = .ok (.ireturn, 1) := by decide +kernel
theorem dX11_sure_25 : decode cX11_sure 25 = .ok (.iload_n 1, 1) := by decide +kernel
theorem dX11_sure_26 : decode cX11_sure 26 = .ok (.iconst 1, 1) := by decide +kernel
theorem dX11_sure_27 : decode cX11_sure 27 = .ok (.if_icmp .ne 13, 3) := by decide +kernel
theorem dX11_sure_30 : decode cX11_sure 30 = .ok (.aload_n 0, 1) := by decide +kernel
theorem dX11_sure_31 : decode cX11_sure 31 = .ok (.getfield 70, 3) := by decide +kernel
theorem dX11_sure_34 : decode cX11_sure 34 = .ok (.invokevirtual 345, 3) := by decide +kernel
theorem dX11_sure_37 : decode cX11_sure 37 = .ok (.goto 4, 3) := by decide +kernel
theorem dX11_sure_40 : decode cX11_sure 40 = .ok (.iconst (-1), 1) := by decide +kernel
theorem dX11_sure_41 : decode cX11_sure 41 = .ok (.ireturn, 1) := by decide +kernel
def kX11_sure_41 (n : Nat) : mK := i_rI
set_option maxRecDepth 20000 in
theorem okX11_sure_41 {E : mE} {X : State → Heap → Prop} {l : Launch} (hX : mXok E X) (n : Nat) : Sd E X l yX11_sure cX11_sure 3 (some .int) 7 0 0 0 0 41 (kX11_sure_41 n) := s_rI dX11_sure_41 (Nat.le_of_ble_eq_true rfl) (Nat.le_of_ble_eq_true rfl)
def kX11_sure_0 (n : Nat) : mK := i_ldA 0 (i_gA 11 10 (i_ldI 2 (i_cV 2 1 (FX2_countFits n) (i_c0 (fun x => decide (¬ x = 0)) (i_ldI 1 (i_c0 (fun x => decide (¬ x = 0)) (i_ldI 1 (i_cst (.int (1)) (i_c2 (fun x y => decide (¬ x = y)) (i_cst (.int (-1)) (kX11_sure_41 n)) (i_ldA 0 (i_gA 11 10 (i_cV 2 0 (FX2_greatestFit n) ((kX11_sure_41 n)))))))) (i_ldA 0 (i_gA 11 10 (i_cV 2 0 (FX2_leastFit n) (i_rI)))))) (i_cst (.int (-1)) (i_rI))))))
set_option maxRecDepth 20000 in
theorem okX11_sure_0 {E : mE} {X : State → Heap → Prop} {l : Launch} (hX : mXok E X) (n : Nat) : Sd E X l yX11_sure cX11_sure 3 (some .int) 7 0 0 0 0 0 (kX11_sure_0 n) := s_aload_n dX11_sure_0 rfl (s_gA dX11_sure_1 lFX11_70 (s_iload_n dX11_sure_4 rfl (s_cV dX11_sure_5 lMX11_339 bVX2_countFits rfl (CtX2_countFits hX n) (Nat.le_of_ble_eq_true rfl) (s_ifne dX11_sure_8 (by decide) (s_iload_n dX11_sure_13 rfl (s_ifne dX11_sure_14 (by decide) (s_iload_n dX11_sure_25 rfl (s_iconst dX11_sure_26 (by decide) (s_icne dX11_sure_27 (by decide) (s_iconst dX11_sure_40 (by decide) (okX11_sure_41 hX n)) (s_aload_n dX11_sure_30 rfl (s_gA dX11_sure_31 lFX11_70 (s_cV dX11_sure_34 lMX11_345 bVX2_greatestFit rfl (CtX2_greatestFit hX n) (Nat.le_of_ble_eq_true rfl) (s_goto dX11_sure_37 (by decide) (okX11_sure_41 hX n)) (Nat.le_of_ble_eq_true rfl) (Nat.le_of_ble_eq_true rfl))))))) (s_aload_n dX11_sure_17 rfl (s_gA dX11_sure_18 lFX11_70 (s_cV dX11_sure_21 lMX11_342 bVX2_leastFit rfl (CtX2_leastFit hX n) (Nat.le_of_ble_eq_true rfl) (s_rI dX11_sure_24 (Nat.le_of_ble_eq_true rfl) (Nat.le_of_ble_eq_true rfl)) (Nat.le_of_ble_eq_true rfl) (Nat.le_of_ble_eq_true rfl)))))) (s_iconst dX11_sure_11 (by decide) (s_rI dX11_sure_12 (Nat.le_of_ble_eq_true rfl) (Nat.le_of_ble_eq_true rfl)))) (Nat.le_of_ble_eq_true rfl) (Nat.le_of_ble_eq_true rfl))))
def FX11_sure (n : Nat) : List Value → mM → Option mR := mfn 3 (kX11_sure_0 n)
theorem CtX11_sure {E : mE} {X : State → Heap → Prop} {l : Launch} (hX : mXok E X) (n : Nat) : Ct E X l yX11_sure cX11_sure 3 (some .int) 7 0 0 (FX11_sure n) := Ct_of (by decide) hX (okX11_sure_0 hX n)
theorem dX11_thinkAhead_0 : decode cX11_thinkAhead 0 = .ok (.aload_n 0, 1) := by decide +kernel
theorem dX11_thinkAhead_1 : decode cX11_thinkAhead 1 = .ok (.getfield 41, 3) := by decide +kernel
theorem dX11_thinkAhead_4 : decode cX11_thinkAhead 4 = .ok (.aload_n 0, 1) := by decide +kernel
theorem dX11_thinkAhead_5 : decode cX11_thinkAhead 5 = .ok (.getfield 37, 3) := by decide +kernel
theorem dX11_thinkAhead_8 : decode cX11_thinkAhead 8 = .ok (.invokevirtual 253, 3) := by decide +kernel
theorem dX11_thinkAhead_11 : decode cX11_thinkAhead 11 = .ok (.iconst 0, 1) := by decide +kernel
theorem dX11_thinkAhead_12 : decode cX11_thinkAhead 12 = .ok (.istore_n 2, 1) := by decide +kernel
theorem dX11_thinkAhead_13 : decode cX11_thinkAhead 13 = .ok (.iload_n 2, 1) := by decide +kernel
theorem dX11_thinkAhead_14 : decode cX11_thinkAhead 14 = .ok (.iload_n 1, 1) := by decide +kernel
theorem dX11_thinkAhead_15 : decode cX11_thinkAhead 15 = .ok (.if_icmp .ge 16, 3) := by decide +kernel
theorem dX11_thinkAhead_18 : decode cX11_thinkAhead 18 = .ok (.aload_n 0, 1) := by decide +kernel
theorem dX11_thinkAhead_19 : decode cX11_thinkAhead 19 = .ok (.getfield 41, 3) := by decide +kernel
theorem dX11_thinkAhead_22 : decode cX11_thinkAhead 22 = .ok (.invokevirtual 281, 3) := by decide +kernel
theorem dX11_thinkAhead_25 : decode cX11_thinkAhead 25 = .ok (.iinc 2 1, 3) := by decide +kernel
theorem dX11_thinkAhead_28 : decode cX11_thinkAhead 28 = .ok (.goto (-15), 3) := by decide +kernel
theorem dX11_thinkAhead_31 : decode cX11_thinkAhead 31 = .ok (.return_, 1) := by decide +kernel
def kX11_thinkAhead_13 (n : Nat) (r13 : mK) : mK := i_ldI 2 (i_ldI 1 (i_c2 (fun x y => decide (y ≤ x)) (i_rV) (i_ldA 0 (i_gA 11 6 (i_cV 8 0 (FX8_passQuietly n) (i_inc 2 (1) (r13)))))))
set_option maxRecDepth 20000 in
theorem okX11_thinkAhead_13 {E : mE} {X : State → Heap → Prop} {l : Launch} (hX : mXok E X) (n : Nat) {r13 : mK} (h13 : Sd E X l yX11_thinkAhead cX11_thinkAhead 3 none 7 0 0 0 0 13 r13) : Sd E X l yX11_thinkAhead cX11_thinkAhead 3 none 7 0 0 0 0 13 (kX11_thinkAhead_13 n r13) := s_iload_n dX11_thinkAhead_13 rfl (s_iload_n dX11_thinkAhead_14 rfl (s_icge dX11_thinkAhead_15 (by decide) (s_rV dX11_thinkAhead_31 (Nat.le_of_ble_eq_true rfl) (Nat.le_of_ble_eq_true rfl)) (s_aload_n dX11_thinkAhead_18 rfl (s_gA dX11_thinkAhead_19 lFX11_41 (s_cV dX11_thinkAhead_22 lMX11_281 bVX8_passQuietly rfl (CtX8_passQuietly hX n) (Nat.le_of_ble_eq_true rfl) (s_iinc dX11_thinkAhead_25 (by decide) (s_goto dX11_thinkAhead_28 (by decide) h13)) (Nat.le_of_ble_eq_true rfl) (Nat.le_of_ble_eq_true rfl))))))
def kX11_thinkAhead_0 (n : Nat) : mK := i_ldA 0 (i_gA 11 6 (i_ldA 0 (i_gA 11 5 (i_cV 8 1 (FX8_copyFrom n) (i_cst (.int (0)) (i_stI 2 (mit (kX11_thinkAhead_13 n ) n)))))))
set_option maxRecDepth 20000 in
theorem okX11_thinkAhead_0 {E : mE} {X : State → Heap → Prop} {l : Launch} (hX : mXok E X) (n : Nat) : Sd E X l yX11_thinkAhead cX11_thinkAhead 3 none 7 0 0 0 0 0 (kX11_thinkAhead_0 n) := s_aload_n dX11_thinkAhead_0 rfl (s_gA dX11_thinkAhead_1 lFX11_41 (s_aload_n dX11_thinkAhead_4 rfl (s_gA dX11_thinkAhead_5 lFX11_37 (s_cV dX11_thinkAhead_8 lMX11_253 bVX8_copyFrom rfl (CtX8_copyFrom hX n) (Nat.le_of_ble_eq_true rfl) (s_iconst dX11_thinkAhead_11 (by decide) (s_istore_n dX11_thinkAhead_12 rfl (s_mit (fun _ hk => okX11_thinkAhead_13 hX n hk) n))) (Nat.le_of_ble_eq_true rfl) (Nat.le_of_ble_eq_true rfl)))))
def FX11_thinkAhead (n : Nat) : List Value → mM → Option mR := mfn 3 (kX11_thinkAhead_0 n)
theorem CtX11_thinkAhead {E : mE} {X : State → Heap → Prop} {l : Launch} (hX : mXok E X) (n : Nat) : Ct E X l yX11_thinkAhead cX11_thinkAhead 3 none 7 0 0 (FX11_thinkAhead n) := Ct_of (by decide) hX (okX11_thinkAhead_0 hX n)
theorem dX11_turn_0 : decode cX11_turn 0 = .ok (.iload_n 1, 1) := by decide +kernel
theorem dX11_turn_1 : decode cX11_turn 1 = .ok (.ifCond .lt 22, 3) := by decide +kernel
theorem dX11_turn_4 : decode cX11_turn 4 = .ok (.iload_n 1, 1) := by decide +kernel
theorem dX11_turn_5 : decode cX11_turn 5 = .ok (.aload_n 0, 1) := by decide +kernel
theorem dX11_turn_6 : decode cX11_turn 6 = .ok (.getfield 88, 3) := by decide +kernel
theorem dX11_turn_9 : decode cX11_turn 9 = .ok (.arraylength, 1) := by decide +kernel
theorem dX11_turn_10 : decode cX11_turn 10 = .ok (.if_icmp .ge 13, 3) := by decide +kernel
theorem dX11_turn_13 : decode cX11_turn 13 = .ok (.aload_n 0, 1) := by decide +kernel
theorem dX11_turn_14 : decode cX11_turn 14 = .ok (.getfield 37, 3) := by decide +kernel
theorem dX11_turn_17 : decode cX11_turn 17 = .ok (.invokevirtual 170, 3) := by decide +kernel
theorem dX11_turn_20 : decode cX11_turn 20 = .ok (.ifCond .ne 5, 3) := by decide +kernel
theorem dX11_turn_23 : decode cX11_turn 23 = .ok (.iconst (-1), 1) := by decide +kernel
theorem dX11_turn_24 : decode cX11_turn 24 = .ok (.ireturn, 1) := by decide +kernel
theorem dX11_turn_25 : decode cX11_turn 25 = .ok (.aload_n 0, 1) := by decide +kernel
theorem dX11_turn_26 : decode cX11_turn 26 = .ok (.getfield 41, 3) := by decide +kernel
theorem dX11_turn_29 : decode cX11_turn 29 = .ok (.aload_n 0, 1) := by decide +kernel
theorem dX11_turn_30 : decode cX11_turn 30 = .ok (.getfield 37, 3) := by decide +kernel
theorem dX11_turn_33 : decode cX11_turn 33 = .ok (.invokevirtual 253, 3) := by decide +kernel
theorem dX11_turn_36 : decode cX11_turn 36 = .ok (.aload_n 0, 1) := by decide +kernel
theorem dX11_turn_37 : decode cX11_turn 37 = .ok (.iconst (-1), 1) := by decide +kernel
theorem dX11_turn_38 : decode cX11_turn 38 = .ok (.iconst (-1), 1) := by decide +kernel
theorem dX11_turn_39 : decode cX11_turn 39 = .ok (.iconst (-1), 1) := by decide +kernel
theorem dX11_turn_40 : decode cX11_turn 40 = .ok (.invokevirtual 255, 3) := by decide +kernel
theorem dX11_turn_43 : decode cX11_turn 43 = .ok (.iconst 0, 1) := by decide +kernel
theorem dX11_turn_44 : decode cX11_turn 44 = .ok (.istore_n 2, 1) := by decide +kernel
theorem dX11_turn_45 : decode cX11_turn 45 = .ok (.iload_n 2, 1) := by decide +kernel
theorem dX11_turn_46 : decode cX11_turn 46 = .ok (.bipush 8, 2) := by decide +kernel
theorem dX11_turn_48 : decode cX11_turn 48 = .ok (.if_icmp .ge 25, 3) := by decide +kernel
theorem dX11_turn_51 : decode cX11_turn 51 = .ok (.aload_n 0, 1) := by decide +kernel
theorem dX11_turn_52 : decode cX11_turn 52 = .ok (.getfield 37, 3) := by decide +kernel
theorem dX11_turn_55 : decode cX11_turn 55 = .ok (.iload_n 2, 1) := by decide +kernel
theorem dX11_turn_56 : decode cX11_turn 56 = .ok (.invokevirtual 167, 3) := by decide +kernel
theorem dX11_turn_59 : decode cX11_turn 59 = .ok (.ifCond .eq 8, 3) := by decide +kernel
theorem dX11_turn_62 : decode cX11_turn 62 = .ok (.aload_n 0, 1) := by decide +kernel
theorem dX11_turn_63 : decode cX11_turn 63 = .ok (.iload_n 2, 1) := by decide +kernel
theorem dX11_turn_64 : decode cX11_turn 64 = .ok (.invokevirtual 259, 3) := by decide +kernel
theorem dX11_turn_67 : decode cX11_turn 67 = .ok (.iinc 2 1, 3) := by decide +kernel
theorem dX11_turn_70 : decode cX11_turn 70 = .ok (.goto (-25), 3) := by decide +kernel
theorem dX11_turn_73 : decode cX11_turn 73 = .ok (.aload_n 0, 1) := by decide +kernel
theorem dX11_turn_74 : decode cX11_turn 74 = .ok (.getfield 88, 3) := by decide +kernel
theorem dX11_turn_77 : decode cX11_turn 77 = .ok (.iload_n 1, 1) := by decide +kernel
theorem dX11_turn_78 : decode cX11_turn 78 = .ok (.invokestatic 144, 3) := by decide +kernel
theorem dX11_turn_81 : decode cX11_turn 81 = .ok (.ireturn, 1) := by decide +kernel
def kX11_turn_23 (n : Nat) : mK := i_cst (.int (-1)) (i_rI)
set_option maxRecDepth 20000 in
theorem okX11_turn_23 {E : mE} {X : State → Heap → Prop} {l : Launch} (hX : mXok E X) (n : Nat) : Sd E X l yX11_turn cX11_turn 3 (some .int) 7 0 0 0 0 23 (kX11_turn_23 n) := s_iconst dX11_turn_23 (by decide) (s_rI dX11_turn_24 (Nat.le_of_ble_eq_true rfl) (Nat.le_of_ble_eq_true rfl))
def kX11_turn_67 (n : Nat) (r45 : mK) : mK := i_inc 2 (1) (r45)
set_option maxRecDepth 20000 in
theorem okX11_turn_67 {E : mE} {X : State → Heap → Prop} {l : Launch} (hX : mXok E X) (n : Nat) {r45 : mK} (h45 : Sd E X l yX11_turn cX11_turn 3 (some .int) 7 0 0 0 0 45 r45) : Sd E X l yX11_turn cX11_turn 3 (some .int) 7 0 0 0 0 67 (kX11_turn_67 n r45) := s_iinc dX11_turn_67 (by decide) (s_goto dX11_turn_70 (by decide) h45)
def kX11_turn_45 (n : Nat) (r45 : mK) : mK := i_ldI 2 (i_cst (.int (8)) (i_c2 (fun x y => decide (y ≤ x)) (i_ldA 0 (i_gA 11 13 (i_ldI 1 (i_cS 2 (FX11_at n) (i_rI))))) (i_ldA 0 (i_gA 11 5 (i_ldI 2 (i_cV 8 1 (FX8_isIn n) (i_c0 (fun x => decide (x = 0)) (kX11_turn_67 n r45) (i_ldA 0 (i_ldI 2 (i_cV 11 1 (FX11_tryTurns n) (kX11_turn_67 n r45)))))))))))
set_option maxRecDepth 20000 in
theorem okX11_turn_45 {E : mE} {X : State → Heap → Prop} {l : Launch} (hX : mXok E X) (n : Nat) {r45 : mK} (h45 : Sd E X l yX11_turn cX11_turn 3 (some .int) 7 0 0 0 0 45 r45) : Sd E X l yX11_turn cX11_turn 3 (some .int) 7 0 0 0 0 45 (kX11_turn_45 n r45) := s_iload_n dX11_turn_45 rfl (s_bipush dX11_turn_46 (by decide) (s_icge dX11_turn_48 (by decide) (s_aload_n dX11_turn_73 rfl (s_gA dX11_turn_74 lFX11_88 (s_iload_n dX11_turn_77 rfl (s_cS dX11_turn_78 lMX11_144 bSX11_at (CtX11_at hX n) (Nat.le_of_ble_eq_true rfl) (s_rI dX11_turn_81 (Nat.le_of_ble_eq_true rfl) (Nat.le_of_ble_eq_true rfl)) (Nat.le_of_ble_eq_true rfl) (Nat.le_of_ble_eq_true rfl))))) (s_aload_n dX11_turn_51 rfl (s_gA dX11_turn_52 lFX11_37 (s_iload_n dX11_turn_55 rfl (s_cV dX11_turn_56 lMX11_167 bVX8_isIn rfl (CtX8_isIn hX n) (Nat.le_of_ble_eq_true rfl) (s_ifeq dX11_turn_59 (by decide) (okX11_turn_67 hX n h45) (s_aload_n dX11_turn_62 rfl (s_iload_n dX11_turn_63 rfl (s_cV dX11_turn_64 lMX11_259 bVX11_tryTurns rfl (CtX11_tryTurns hX n) (Nat.le_of_ble_eq_true rfl) (okX11_turn_67 hX n h45) (Nat.le_of_ble_eq_true rfl) (Nat.le_of_ble_eq_true rfl))))) (Nat.le_of_ble_eq_true rfl) (Nat.le_of_ble_eq_true rfl)))))))
def kX11_turn_0 (n : Nat) : mK := i_ldI 1 (i_c0 (fun x => decide (x < 0)) (kX11_turn_23 n) (i_ldI 1 (i_ldA 0 (i_gA 11 13 (i_len (i_c2 (fun x y => decide (y ≤ x)) (kX11_turn_23 n) (i_ldA 0 (i_gA 11 5 (i_cV 8 0 (FX8_howMany n) (i_c0 (fun x => decide (¬ x = 0)) (i_ldA 0 (i_gA 11 6 (i_ldA 0 (i_gA 11 5 (i_cV 8 1 (FX8_copyFrom n) (i_ldA 0 (i_cst (.int (-1)) (i_cst (.int (-1)) (i_cst (.int (-1)) (i_cV 11 3 (FX11_find n) (i_cst (.int (0)) (i_stI 2 (mit (kX11_turn_45 n ) n))))))))))))) (kX11_turn_23 n)))))))))))
set_option maxRecDepth 20000 in
theorem okX11_turn_0 {E : mE} {X : State → Heap → Prop} {l : Launch} (hX : mXok E X) (n : Nat) : Sd E X l yX11_turn cX11_turn 3 (some .int) 7 0 0 0 0 0 (kX11_turn_0 n) := s_iload_n dX11_turn_0 rfl (s_iflt dX11_turn_1 (by decide) (okX11_turn_23 hX n) (s_iload_n dX11_turn_4 rfl (s_aload_n dX11_turn_5 rfl (s_gA dX11_turn_6 lFX11_88 (s_len dX11_turn_9 (s_icge dX11_turn_10 (by decide) (okX11_turn_23 hX n) (s_aload_n dX11_turn_13 rfl (s_gA dX11_turn_14 lFX11_37 (s_cV dX11_turn_17 lMX11_170 bVX8_howMany rfl (CtX8_howMany hX n) (Nat.le_of_ble_eq_true rfl) (s_ifne dX11_turn_20 (by decide) (s_aload_n dX11_turn_25 rfl (s_gA dX11_turn_26 lFX11_41 (s_aload_n dX11_turn_29 rfl (s_gA dX11_turn_30 lFX11_37 (s_cV dX11_turn_33 lMX11_253 bVX8_copyFrom rfl (CtX8_copyFrom hX n) (Nat.le_of_ble_eq_true rfl) (s_aload_n dX11_turn_36 rfl (s_iconst dX11_turn_37 (by decide) (s_iconst dX11_turn_38 (by decide) (s_iconst dX11_turn_39 (by decide) (s_cV dX11_turn_40 lMX11_255 bVX11_find rfl (CtX11_find hX n) (Nat.le_of_ble_eq_true rfl) (s_iconst dX11_turn_43 (by decide) (s_istore_n dX11_turn_44 rfl (s_mit (fun _ hk => okX11_turn_45 hX n hk) n))) (Nat.le_of_ble_eq_true rfl) (Nat.le_of_ble_eq_true rfl)))))) (Nat.le_of_ble_eq_true rfl) (Nat.le_of_ble_eq_true rfl)))))) (okX11_turn_23 hX n)) (Nat.le_of_ble_eq_true rfl) (Nat.le_of_ble_eq_true rfl))))))))))
def FX11_turn (n : Nat) : List Value → mM → Option mR := mfn 3 (kX11_turn_0 n)
theorem CtX11_turn {E : mE} {X : State → Heap → Prop} {l : Launch} (hX : mXok E X) (n : Nat) : Ct E X l yX11_turn cX11_turn 3 (some .int) 7 0 0 (FX11_turn n) := Ct_of (by decide) hX (okX11_turn_0 hX n)
theorem dX11_vintage_0 : decode cX11_vintage 0 = .ok (.iload_n 1, 1) := by decide +kernel
theorem dX11_vintage_1 : decode cX11_vintage 1 = .ok (.ifCond .eq 11, 3) := by decide +kernel
theorem dX11_vintage_4 : decode cX11_vintage 4 = .ok (.iload_n 1, 1) := by decide +kernel
theorem dX11_vintage_5 : decode cX11_vintage 5 = .ok (.iconst 1, 1) := by decide +kernel
theorem dX11_vintage_6 : decode cX11_vintage 6 = .ok (.if_icmp .eq 6, 3) := by decide +kernel
theorem dX11_vintage_9 : decode cX11_vintage 9 = .ok (.ldc 178, 2) := by decide +kernel
theorem dX11_vintage_11 : decode cX11_vintage 11 = .ok (.ireturn, 1) := by decide +kernel
theorem dX11_vintage_12 : decode cX11_vintage 12 = .ok (.aload_n 0, 1) := by decide +kernel
theorem dX11_vintage_13 : decode cX11_vintage 13 = .ok (.getfield 41, 3) := by decide +kernel
theorem dX11_vintage_16 : decode cX11_vintage 16 = .ok (.aload_n 0, 1) := by decide +kernel
theorem dX11_vintage_17 : decode cX11_vintage 17 = .ok (.getfield 37, 3) := by decide +kernel
theorem dX11_vintage_20 : decode cX11_vintage 20 = .ok (.invokevirtual 253, 3) := by decide +kernel
theorem dX11_vintage_23 : decode cX11_vintage 23 = .ok (.iconst 0, 1) := by decide +kernel
theorem dX11_vintage_24 : decode cX11_vintage 24 = .ok (.istore_n 2, 1) := by decide +kernel
theorem dX11_vintage_25 : decode cX11_vintage 25 = .ok (.aload_n 0, 1) := by decide +kernel
theorem dX11_vintage_26 : decode cX11_vintage 26 = .ok (.getfield 41, 3) := by decide +kernel
theorem dX11_vintage_29 : decode cX11_vintage 29 = .ok (.invokevirtual 272, 3) := by decide +kernel
theorem dX11_vintage_32 : decode cX11_vintage 32 = .ok (.istore_n 3, 1) := by decide +kernel
theorem dX11_vintage_33 : decode cX11_vintage 33 = .ok (.iconst 1, 1) := by decide +kernel
theorem dX11_vintage_34 : decode cX11_vintage 34 = .ok (.istore 4, 2) := by decide +kernel
theorem dX11_vintage_36 : decode cX11_vintage 36 = .ok (.iload 4, 2) := by decide +kernel
theorem dX11_vintage_38 : decode cX11_vintage 38 = .ok (.bipush 30, 2) := by decide +kernel
theorem dX11_vintage_40 : decode cX11_vintage 40 = .ok (.if_icmp .gt 37, 3) := by decide +kernel
theorem dX11_vintage_43 : decode cX11_vintage 43 = .ok (.aload_n 0, 1) := by decide +kernel
theorem dX11_vintage_44 : decode cX11_vintage 44 = .ok (.getfield 41, 3) := by decide +kernel
theorem dX11_vintage_47 : decode cX11_vintage 47 = .ok (.invokevirtual 281, 3) := by decide +kernel
theorem dX11_vintage_50 : decode cX11_vintage 50 = .ok (.aload_n 0, 1) := by decide +kernel
theorem dX11_vintage_51 : decode cX11_vintage 51 = .ok (.getfield 41, 3) := by decide +kernel
theorem dX11_vintage_54 : decode cX11_vintage 54 = .ok (.invokevirtual 272, 3) := by decide +kernel
theorem dX11_vintage_57 : decode cX11_vintage 57 = .ok (.istore 5, 2) := by decide +kernel
theorem dX11_vintage_59 : decode cX11_vintage 59 = .ok (.iload 5, 2) := by decide +kernel
theorem dX11_vintage_61 : decode cX11_vintage 61 = .ok (.iload_n 3, 1) := by decide +kernel
theorem dX11_vintage_62 : decode cX11_vintage 62 = .ok (.if_icmp .le 9, 3) := by decide +kernel
theorem dX11_vintage_65 : decode cX11_vintage 65 = .ok (.iload 4, 2) := by decide +kernel
theorem dX11_vintage_67 : decode cX11_vintage 67 = .ok (.istore_n 2, 1) := by decide +kernel
theorem dX11_vintage_68 : decode cX11_vintage 68 = .ok (.iload 5, 2) := by decide +kernel
theorem dX11_vintage_70 : decode cX11_vintage 70 = .ok (.istore_n 3, 1) := by decide +kernel
theorem dX11_vintage_71 : decode cX11_vintage 71 = .ok (.iinc 4 1, 3) := by decide +kernel
theorem dX11_vintage_74 : decode cX11_vintage 74 = .ok (.goto (-38), 3) := by decide +kernel
theorem dX11_vintage_77 : decode cX11_vintage 77 = .ok (.iload_n 1, 1) := by decide +kernel
theorem dX11_vintage_78 : decode cX11_vintage 78 = .ok (.ifCond .ne 7, 3) := by decide +kernel
theorem dX11_vintage_81 : decode cX11_vintage 81 = .ok (.iload_n 2, 1) := by decide +kernel
theorem dX11_vintage_82 : decode cX11_vintage 82 = .ok (.goto 4, 3) := by decide +kernel
theorem dX11_vintage_85 : decode cX11_vintage 85 = .ok (.iload_n 3, 1) := by decide +kernel
theorem dX11_vintage_86 : decode cX11_vintage 86 = .ok (.ireturn, 1) := by decide +kernel
def kX11_vintage_71 (n : Nat) (r36 : mK) : mK := i_inc 4 (1) (r36)
set_option maxRecDepth 20000 in
theorem okX11_vintage_71 {E : mE} {X : State → Heap → Prop} {l : Launch} (hX : mXok E X) (n : Nat) {r36 : mK} (h36 : Sd E X l yX11_vintage cX11_vintage 6 (some .int) 7 0 0 0 0 36 r36) : Sd E X l yX11_vintage cX11_vintage 6 (some .int) 7 0 0 0 0 71 (kX11_vintage_71 n r36) := s_iinc dX11_vintage_71 (by decide) (s_goto dX11_vintage_74 (by decide) h36)
def kX11_vintage_86 (n : Nat) : mK := i_rI
set_option maxRecDepth 20000 in
theorem okX11_vintage_86 {E : mE} {X : State → Heap → Prop} {l : Launch} (hX : mXok E X) (n : Nat) : Sd E X l yX11_vintage cX11_vintage 6 (some .int) 7 0 0 0 0 86 (kX11_vintage_86 n) := s_rI dX11_vintage_86 (Nat.le_of_ble_eq_true rfl) (Nat.le_of_ble_eq_true rfl)
def kX11_vintage_36 (n : Nat) (r36 : mK) : mK := i_ldI 4 (i_cst (.int (30)) (i_c2 (fun x y => decide (y < x)) (i_ldI 1 (i_c0 (fun x => decide (¬ x = 0)) (i_ldI 3 (kX11_vintage_86 n)) (i_ldI 2 ((kX11_vintage_86 n))))) (i_ldA 0 (i_gA 11 6 (i_cV 8 0 (FX8_passQuietly n) (i_ldA 0 (i_gA 11 6 (i_cV 8 0 (FX8_priceOfAll n) (i_stI 5 (i_ldI 5 (i_ldI 3 (i_c2 (fun x y => decide (x ≤ y)) (kX11_vintage_71 n r36) (i_ldI 4 (i_stI 2 (i_ldI 5 (i_stI 3 (kX11_vintage_71 n r36)))))))))))))))))
set_option maxRecDepth 20000 in
theorem okX11_vintage_36 {E : mE} {X : State → Heap → Prop} {l : Launch} (hX : mXok E X) (n : Nat) {r36 : mK} (h36 : Sd E X l yX11_vintage cX11_vintage 6 (some .int) 7 0 0 0 0 36 r36) : Sd E X l yX11_vintage cX11_vintage 6 (some .int) 7 0 0 0 0 36 (kX11_vintage_36 n r36) := s_iload dX11_vintage_36 (s_bipush dX11_vintage_38 (by decide) (s_icgt dX11_vintage_40 (by decide) (s_iload_n dX11_vintage_77 rfl (s_ifne dX11_vintage_78 (by decide) (s_iload_n dX11_vintage_85 rfl (okX11_vintage_86 hX n)) (s_iload_n dX11_vintage_81 rfl (s_goto dX11_vintage_82 (by decide) (okX11_vintage_86 hX n))))) (s_aload_n dX11_vintage_43 rfl (s_gA dX11_vintage_44 lFX11_41 (s_cV dX11_vintage_47 lMX11_281 bVX8_passQuietly rfl (CtX8_passQuietly hX n) (Nat.le_of_ble_eq_true rfl) (s_aload_n dX11_vintage_50 rfl (s_gA dX11_vintage_51 lFX11_41 (s_cV dX11_vintage_54 lMX11_272 bVX8_priceOfAll rfl (CtX8_priceOfAll hX n) (Nat.le_of_ble_eq_true rfl) (s_istore dX11_vintage_57 (s_iload dX11_vintage_59 (s_iload_n dX11_vintage_61 rfl (s_icle dX11_vintage_62 (by decide) (okX11_vintage_71 hX n h36) (s_iload dX11_vintage_65 (s_istore_n dX11_vintage_67 rfl (s_iload dX11_vintage_68 (s_istore_n dX11_vintage_70 rfl (okX11_vintage_71 hX n h36))))))))) (Nat.le_of_ble_eq_true rfl) (Nat.le_of_ble_eq_true rfl)))) (Nat.le_of_ble_eq_true rfl) (Nat.le_of_ble_eq_true rfl))))))
def kX11_vintage_12 (n : Nat) : mK := i_ldA 0 (i_gA 11 6 (i_ldA 0 (i_gA 11 5 (i_cV 8 1 (FX8_copyFrom n) (i_cst (.int (0)) (i_stI 2 (i_ldA 0 (i_gA 11 6 (i_cV 8 0 (FX8_priceOfAll n) (i_stI 3 (i_cst (.int (1)) (i_stI 4 (mit (kX11_vintage_36 n ) n)))))))))))))
set_option maxRecDepth 20000 in
theorem okX11_vintage_12 {E : mE} {X : State → Heap → Prop} {l : Launch} (hX : mXok E X) (n : Nat) : Sd E X l yX11_vintage cX11_vintage 6 (some .int) 7 0 0 0 0 12 (kX11_vintage_12 n) := s_aload_n dX11_vintage_12 rfl (s_gA dX11_vintage_13 lFX11_41 (s_aload_n dX11_vintage_16 rfl (s_gA dX11_vintage_17 lFX11_37 (s_cV dX11_vintage_20 lMX11_253 bVX8_copyFrom rfl (CtX8_copyFrom hX n) (Nat.le_of_ble_eq_true rfl) (s_iconst dX11_vintage_23 (by decide) (s_istore_n dX11_vintage_24 rfl (s_aload_n dX11_vintage_25 rfl (s_gA dX11_vintage_26 lFX11_41 (s_cV dX11_vintage_29 lMX11_272 bVX8_priceOfAll rfl (CtX8_priceOfAll hX n) (Nat.le_of_ble_eq_true rfl) (s_istore_n dX11_vintage_32 rfl (s_iconst dX11_vintage_33 (by decide) (s_istore dX11_vintage_34 (s_mit (fun _ hk => okX11_vintage_36 hX n hk) n)))) (Nat.le_of_ble_eq_true rfl) (Nat.le_of_ble_eq_true rfl)))))) (Nat.le_of_ble_eq_true rfl) (Nat.le_of_ble_eq_true rfl)))))
def kX11_vintage_0 (n : Nat) : mK := i_ldI 1 (i_c0 (fun x => decide (x = 0)) (kX11_vintage_12 n) (i_ldI 1 (i_cst (.int (1)) (i_c2 (fun x y => decide (x = y)) (kX11_vintage_12 n) (i_cst (.int (-1000000000)) (i_rI))))))
set_option maxRecDepth 20000 in
theorem okX11_vintage_0 {E : mE} {X : State → Heap → Prop} {l : Launch} (hX : mXok E X) (n : Nat) : Sd E X l yX11_vintage cX11_vintage 6 (some .int) 7 0 0 0 0 0 (kX11_vintage_0 n) := s_iload_n dX11_vintage_0 rfl (s_ifeq dX11_vintage_1 (by decide) (okX11_vintage_12 hX n) (s_iload_n dX11_vintage_4 rfl (s_iconst dX11_vintage_5 (by decide) (s_iceq dX11_vintage_6 (by decide) (okX11_vintage_12 hX n) (s_ldc dX11_vintage_9 lCX11_178 (s_rI dX11_vintage_11 (Nat.le_of_ble_eq_true rfl) (Nat.le_of_ble_eq_true rfl)))))))
def FX11_vintage (n : Nat) : List Value → mM → Option mR := mfn 6 (kX11_vintage_0 n)
theorem CtX11_vintage {E : mE} {X : State → Heap → Prop} {l : Launch} (hX : mXok E X) (n : Nat) : Ct E X l yX11_vintage cX11_vintage 6 (some .int) 7 0 0 (FX11_vintage n) := Ct_of (by decide) hX (okX11_vintage_0 hX n)
theorem dX12_fits_0 : decode cX12_fits 0 = .ok (.aload_n 0, 1) := by decide +kernel
theorem dX12_fits_1 : decode cX12_fits 1 = .ok (.invokevirtual 341, 3) := by decide +kernel
theorem dX12_fits_4 : decode cX12_fits 4 = .ok (.ifCond .ne 5, 3) := by decide +kernel
theorem dX12_fits_7 : decode cX12_fits 7 = .ok (.iconst 0, 1) := by decide +kernel
theorem dX12_fits_8 : decode cX12_fits 8 = .ok (.ireturn, 1) := by decide +kernel
theorem dX12_fits_9 : decode cX12_fits 9 = .ok (.aload_n 0, 1) := by decide +kernel
theorem dX12_fits_10 : decode cX12_fits 10 = .ok (.invokevirtual 481, 3) := by decide +kernel
theorem dX12_fits_13 : decode cX12_fits 13 = .ok (.iconst 0, 1) := by decide +kernel
theorem dX12_fits_14 : decode cX12_fits 14 = .ok (.istore_n 2, 1) := by decide +kernel
theorem dX12_fits_15 : decode cX12_fits 15 = .ok (.iconst 0, 1) := by decide +kernel
theorem dX12_fits_16 : decode cX12_fits 16 = .ok (.istore_n 3, 1) := by decide +kernel
theorem dX12_fits_17 : decode cX12_fits 17 = .ok (.iload_n 3, 1) := by decide +kernel
theorem dX12_fits_18 : decode cX12_fits 18 = .ok (.bipush 99, 2) := by decide +kernel
theorem dX12_fits_20 : decode cX12_fits 20 = .ok (.if_icmp .gt 26, 3) := by decide +kernel
theorem dX12_fits_23 : decode cX12_fits 23 = .ok (.iload_n 2, 1) := by decide +kernel
theorem dX12_fits_24 : decode cX12_fits 24 = .ok (.aload_n 0, 1) := by decide +kernel
theorem dX12_fits_25 : decode cX12_fits 25 = .ok (.iload_n 3, 1) := by decide +kernel
theorem dX12_fits_26 : decode cX12_fits 26 = .ok (.iload_n 1, 1) := by decide +kernel
theorem dX12_fits_27 : decode cX12_fits 27 = .ok (.invokevirtual 484, 3) := by decide +kernel
theorem dX12_fits_30 : decode cX12_fits 30 = .ok (.ifCond .eq 7, 3) := by decide +kernel
theorem dX12_fits_33 : decode cX12_fits 33 = .ok (.iconst 1, 1) := by decide +kernel
theorem dX12_fits_34 : decode cX12_fits 34 = .ok (.goto 4, 3) := by decide +kernel
theorem dX12_fits_37 : decode cX12_fits 37 = .ok (.iconst 0, 1) := by decide +kernel
theorem dX12_fits_38 : decode cX12_fits 38 = .ok (.iadd, 1) := by decide +kernel
theorem dX12_fits_39 : decode cX12_fits 39 = .ok (.istore_n 2, 1) := by decide +kernel
theorem dX12_fits_40 : decode cX12_fits 40 = .ok (.iinc 3 1, 3) := by decide +kernel
theorem dX12_fits_43 : decode cX12_fits 43 = .ok (.goto (-26), 3) := by decide +kernel
theorem dX12_fits_46 : decode cX12_fits 46 = .ok (.iload_n 2, 1) := by decide +kernel
theorem dX12_fits_47 : decode cX12_fits 47 = .ok (.ireturn, 1) := by decide +kernel
def kX12_fits_38 (n : Nat) (r17 : mK) : mK := i_bin (fun x y => x + y) (i_stI 2 (i_inc 3 (1) (r17)))
set_option maxRecDepth 20000 in
theorem okX12_fits_38 {E : mE} {X : State → Heap → Prop} {l : Launch} (hX : mXok E X) (n : Nat) {r17 : mK} (h17 : Sd E X l yX12_fits cX12_fits 4 (some .int) 7 0 0 0 0 17 r17) : Sd E X l yX12_fits cX12_fits 4 (some .int) 7 0 0 0 0 38 (kX12_fits_38 n r17) := s_iadd dX12_fits_38 (s_istore_n dX12_fits_39 rfl (s_iinc dX12_fits_40 (by decide) (s_goto dX12_fits_43 (by decide) h17)))
def kX12_fits_17 (n : Nat) (r17 : mK) : mK := i_ldI 3 (i_cst (.int (99)) (i_c2 (fun x y => decide (y < x)) (i_ldI 2 (i_rI)) (i_ldI 2 (i_ldA 0 (i_ldI 3 (i_ldI 1 (i_cV 12 2 (FX12_doesFit n) (i_c0 (fun x => decide (x = 0)) (i_cst (.int (0)) (kX12_fits_38 n r17)) (i_cst (.int (1)) ((kX12_fits_38 n r17)))))))))))
set_option maxRecDepth 20000 in
theorem okX12_fits_17 {E : mE} {X : State → Heap → Prop} {l : Launch} (hX : mXok E X) (n : Nat) {r17 : mK} (h17 : Sd E X l yX12_fits cX12_fits 4 (some .int) 7 0 0 0 0 17 r17) : Sd E X l yX12_fits cX12_fits 4 (some .int) 7 0 0 0 0 17 (kX12_fits_17 n r17) := s_iload_n dX12_fits_17 rfl (s_bipush dX12_fits_18 (by decide) (s_icgt dX12_fits_20 (by decide) (s_iload_n dX12_fits_46 rfl (s_rI dX12_fits_47 (Nat.le_of_ble_eq_true rfl) (Nat.le_of_ble_eq_true rfl))) (s_iload_n dX12_fits_23 rfl (s_aload_n dX12_fits_24 rfl (s_iload_n dX12_fits_25 rfl (s_iload_n dX12_fits_26 rfl (s_cV dX12_fits_27 lMX12_484 bVX12_doesFit rfl (CtX12_doesFit hX n) (Nat.le_of_ble_eq_true rfl) (s_ifeq dX12_fits_30 (by decide) (s_iconst dX12_fits_37 (by decide) (okX12_fits_38 hX n h17)) (s_iconst dX12_fits_33 (by decide) (s_goto dX12_fits_34 (by decide) (okX12_fits_38 hX n h17)))) (Nat.le_of_ble_eq_true rfl) (Nat.le_of_ble_eq_true rfl))))))))
def kX12_fits_0 (n : Nat) : mK := i_ldA 0 (i_cV 12 0 (FX12_many n) (i_c0 (fun x => decide (¬ x = 0)) (i_ldA 0 (i_cV 12 0 (FX12_layWorths n) (i_cst (.int (0)) (i_stI 2 (i_cst (.int (0)) (i_stI 3 (mit (kX12_fits_17 n ) n))))))) (i_cst (.int (0)) (i_rI))))
set_option maxRecDepth 20000 in
theorem okX12_fits_0 {E : mE} {X : State → Heap → Prop} {l : Launch} (hX : mXok E X) (n : Nat) : Sd E X l yX12_fits cX12_fits 4 (some .int) 7 0 0 0 0 0 (kX12_fits_0 n) := s_aload_n dX12_fits_0 rfl (s_cV dX12_fits_1 lMX12_341 bVX12_many rfl (CtX12_many hX n) (Nat.le_of_ble_eq_true rfl) (s_ifne dX12_fits_4 (by decide) (s_aload_n dX12_fits_9 rfl (s_cV dX12_fits_10 lMX12_481 bVX12_layWorths rfl (CtX12_layWorths hX n) (Nat.le_of_ble_eq_true rfl) (s_iconst dX12_fits_13 (by decide) (s_istore_n dX12_fits_14 rfl (s_iconst dX12_fits_15 (by decide) (s_istore_n dX12_fits_16 rfl (s_mit (fun _ hk => okX12_fits_17 hX n hk) n))))) (Nat.le_of_ble_eq_true rfl) (Nat.le_of_ble_eq_true rfl))) (s_iconst dX12_fits_7 (by decide) (s_rI dX12_fits_8 (Nat.le_of_ble_eq_true rfl) (Nat.le_of_ble_eq_true rfl)))) (Nat.le_of_ble_eq_true rfl) (Nat.le_of_ble_eq_true rfl))
def FX12_fits (n : Nat) : List Value → mM → Option mR := mfn 4 (kX12_fits_0 n)
theorem CtX12_fits {E : mE} {X : State → Heap → Prop} {l : Launch} (hX : mXok E X) (n : Nat) : Ct E X l yX12_fits cX12_fits 4 (some .int) 7 0 0 (FX12_fits n) := Ct_of (by decide) hX (okX12_fits_0 hX n)
theorem dX12_readLine_0 : decode cX12_readLine 0 = .ok (.aload_n 0, 1) := by decide +kernel
theorem dX12_readLine_1 : decode cX12_readLine 1 = .ok (.getfield 204, 3) := by decide +kernel
theorem dX12_readLine_4 : decode cX12_readLine 4 = .ok (.lstore_n 1, 1) := by decide +kernel
theorem dX12_readLine_5 : decode cX12_readLine 5 = .ok (.aload_n 0, 1) := by decide +kernel
theorem dX12_readLine_6 : decode cX12_readLine 6 = .ok (.getfield 197, 3) := by decide +kernel
theorem dX12_readLine_9 : decode cX12_readLine 9 = .ok (.iconst 3, 1) := by decide +kernel
theorem dX12_readLine_10 : decode cX12_readLine 10 = .ok (.if_icmp .ne 10, 3) := by decide +kernel
theorem dX12_readLine_13 : decode cX12_readLine 13 = .ok (.aload_n 0, 1) := by decide +kernel
theorem dX12_readLine_14 : decode cX12_readLine 14 = .ok (.invokevirtual 265, 3) := by decide +kernel
theorem dX12_readLine_17 : decode cX12_readLine 17 = .ok (.ifCond .eq 7, 3) := by decide +kernel
theorem dX12_readLine_20 : decode cX12_readLine 20 = .ok (.aload_n 0, 1) := by decide +kernel
theorem dX12_readLine_21 : decode cX12_readLine 21 = .ok (.invokevirtual 232, 3) := by decide +kernel
theorem dX12_readLine_24 : decode cX12_readLine 24 = .ok (.aload_n 0, 1) := by decide +kernel
theorem dX12_readLine_25 : decode cX12_readLine 25 = .ok (.invokevirtual 225, 3) := by decide +kernel
theorem dX12_readLine_28 : decode cX12_readLine 28 = .ok (.ifCond .ne 4, 3) := by decide +kernel
theorem dX12_readLine_31 : decode cX12_readLine 31 = .ok (.return_, 1) := by decide +kernel
theorem dX12_readLine_32 : decode cX12_readLine 32 = .ok (.aload_n 0, 1) := by decide +kernel
theorem dX12_readLine_33 : decode cX12_readLine 33 = .ok (.getfield 27, 3) := by decide +kernel
theorem dX12_readLine_36 : decode cX12_readLine 36 = .ok (.aload_n 0, 1) := by decide +kernel
theorem dX12_readLine_37 : decode cX12_readLine 37 = .ok (.getfield 246, 3) := by decide +kernel
theorem dX12_readLine_40 : decode cX12_readLine 40 = .ok (.dup2, 1) := by decide +kernel
theorem dX12_readLine_41 : decode cX12_readLine 41 = .ok (.iaload, 1) := by decide +kernel
theorem dX12_readLine_42 : decode cX12_readLine 42 = .ok (.iconst 1, 1) := by decide +kernel
theorem dX12_readLine_43 : decode cX12_readLine 43 = .ok (.iadd, 1) := by decide +kernel
theorem dX12_readLine_44 : decode cX12_readLine 44 = .ok (.iastore, 1) := by decide +kernel
theorem dX12_readLine_45 : decode cX12_readLine 45 = .ok (.aload_n 0, 1) := by decide +kernel
theorem dX12_readLine_46 : decode cX12_readLine 46 = .ok (.invokevirtual 229, 3) := by decide +kernel
theorem dX12_readLine_49 : decode cX12_readLine 49 = .ok (.lload_n 1, 1) := by decide +kernel
theorem dX12_readLine_50 : decode cX12_readLine 50 = .ok (.ldc2_w 149, 3) := by decide +kernel
theorem dX12_readLine_53 : decode cX12_readLine 53 = .ok (.lcmp, 1) := by decide +kernel
theorem dX12_readLine_54 : decode cX12_readLine 54 = .ok (.ifCond .ne 38, 3) := by decide +kernel
theorem dX12_readLine_57 : decode cX12_readLine 57 = .ok (.aload_n 0, 1) := by decide +kernel
theorem dX12_readLine_58 : decode cX12_readLine 58 = .ok (.getfield 20, 3) := by decide +kernel
theorem dX12_readLine_61 : decode cX12_readLine 61 = .ok (.aload_n 0, 1) := by decide +kernel
theorem dX12_readLine_62 : decode cX12_readLine 62 = .ok (.getfield 246, 3) := by decide +kernel
theorem dX12_readLine_65 : decode cX12_readLine 65 = .ok (.aload_n 0, 1) := by decide +kernel
theorem dX12_readLine_66 : decode cX12_readLine 66 = .ok (.iconst 1, 1) := by decide +kernel
theorem dX12_readLine_67 : decode cX12_readLine 67 = .ok (.bipush 8, 2) := by decide +kernel
theorem dX12_readLine_69 : decode cX12_readLine 69 = .ok (.invokevirtual 242, 3) := by decide +kernel
theorem dX12_readLine_72 : decode cX12_readLine 72 = .ok (.iastore, 1) := by decide +kernel
theorem dX12_readLine_73 : decode cX12_readLine 73 = .ok (.aload_n 0, 1) := by decide +kernel
theorem dX12_readLine_74 : decode cX12_readLine 74 = .ok (.getfield 24, 3) := by decide +kernel
theorem dX12_readLine_77 : decode cX12_readLine 77 = .ok (.aload_n 0, 1) := by decide +kernel
theorem dX12_readLine_78 : decode cX12_readLine 78 = .ok (.getfield 246, 3) := by decide +kernel
theorem dX12_readLine_81 : decode cX12_readLine 81 = .ok (.aload_n 0, 1) := by decide +kernel
theorem dX12_readLine_82 : decode cX12_readLine 82 = .ok (.ldc2_w 151, 3) := by decide +kernel
theorem dX12_readLine_85 : decode cX12_readLine 85 = .ok (.iconst 1, 1) := by decide +kernel
theorem dX12_readLine_86 : decode cX12_readLine 86 = .ok (.bipush 8, 2) := by decide +kernel
theorem dX12_readLine_88 : decode cX12_readLine 88 = .ok (.invokevirtual 268, 3) := by decide +kernel
theorem dX12_readLine_91 : decode cX12_readLine 91 = .ok (.iastore, 1) := by decide +kernel
theorem dX12_readLine_92 : decode cX12_readLine 92 = .ok (.lload_n 1, 1) := by decide +kernel
theorem dX12_readLine_93 : decode cX12_readLine 93 = .ok (.ldc2_w 153, 3) := by decide +kernel
theorem dX12_readLine_96 : decode cX12_readLine 96 = .ok (.lcmp, 1) := by decide +kernel
theorem dX12_readLine_97 : decode cX12_readLine 97 = .ok (.ifCond .ne 7, 3) := by decide +kernel
theorem dX12_readLine_100 : decode cX12_readLine 100 = .ok (.aload_n 0, 1) := by decide +kernel
theorem dX12_readLine_101 : decode cX12_readLine 101 = .ok (.invokevirtual 272, 3) := by decide +kernel
theorem dX12_readLine_104 : decode cX12_readLine 104 = .ok (.lload_n 1, 1) := by decide +kernel
theorem dX12_readLine_105 : decode cX12_readLine 105 = .ok (.ldc2_w 163, 3) := by decide +kernel
theorem dX12_readLine_108 : decode cX12_readLine 108 = .ok (.lcmp, 1) := by decide +kernel
theorem dX12_readLine_109 : decode cX12_readLine 109 = .ok (.ifCond .ne 8, 3) := by decide +kernel
theorem dX12_readLine_112 : decode cX12_readLine 112 = .ok (.aload_n 0, 1) := by decide +kernel
theorem dX12_readLine_113 : decode cX12_readLine 113 = .ok (.iconst 0, 1) := by decide +kernel
theorem dX12_readLine_114 : decode cX12_readLine 114 = .ok (.invokevirtual 275, 3) := by decide +kernel
theorem dX12_readLine_117 : decode cX12_readLine 117 = .ok (.lload_n 1, 1) := by decide +kernel
theorem dX12_readLine_118 : decode cX12_readLine 118 = .ok (.ldc2_w 165, 3) := by decide +kernel
theorem dX12_readLine_121 : decode cX12_readLine 121 = .ok (.lcmp, 1) := by decide +kernel
theorem dX12_readLine_122 : decode cX12_readLine 122 = .ok (.ifCond .ne 8, 3) := by decide +kernel
theorem dX12_readLine_125 : decode cX12_readLine 125 = .ok (.aload_n 0, 1) := by decide +kernel
theorem dX12_readLine_126 : decode cX12_readLine 126 = .ok (.iconst 1, 1) := by decide +kernel
theorem dX12_readLine_127 : decode cX12_readLine 127 = .ok (.invokevirtual 275, 3) := by decide +kernel
theorem dX12_readLine_130 : decode cX12_readLine 130 = .ok (.lload_n 1, 1) := by decide +kernel
theorem dX12_readLine_131 : decode cX12_readLine 131 = .ok (.ldc2_w 167, 3) := by decide +kernel
theorem dX12_readLine_134 : decode cX12_readLine 134 = .ok (.lcmp, 1) := by decide +kernel
theorem dX12_readLine_135 : decode cX12_readLine 135 = .ok (.ifCond .ne 32, 3) := by decide +kernel
theorem dX12_readLine_138 : decode cX12_readLine 138 = .ok (.aload_n 0, 1) := by decide +kernel
theorem dX12_readLine_139 : decode cX12_readLine 139 = .ok (.getfield 42, 3) := by decide +kernel
theorem dX12_readLine_142 : decode cX12_readLine 142 = .ok (.aload_n 0, 1) := by decide +kernel
theorem dX12_readLine_143 : decode cX12_readLine 143 = .ok (.getfield 246, 3) := by decide +kernel
theorem dX12_readLine_146 : decode cX12_readLine 146 = .ok (.dup2, 1) := by decide +kernel
theorem dX12_readLine_147 : decode cX12_readLine 147 = .ok (.iaload, 1) := by decide +kernel
theorem dX12_readLine_148 : decode cX12_readLine 148 = .ok (.iconst 4, 1) := by decide +kernel
theorem dX12_readLine_149 : decode cX12_readLine 149 = .ok (.ior, 1) := by decide +kernel
theorem dX12_readLine_150 : decode cX12_readLine 150 = .ok (.iastore, 1) := by decide +kernel
theorem dX12_readLine_151 : decode cX12_readLine 151 = .ok (.aload_n 0, 1) := by decide +kernel
theorem dX12_readLine_152 : decode cX12_readLine 152 = .ok (.getfield 36, 3) := by decide +kernel
theorem dX12_readLine_155 : decode cX12_readLine 155 = .ok (.aload_n 0, 1) := by decide +kernel
theorem dX12_readLine_156 : decode cX12_readLine 156 = .ok (.getfield 246, 3) := by decide +kernel
theorem dX12_readLine_159 : decode cX12_readLine 159 = .ok (.aload_n 0, 1) := by decide +kernel
theorem dX12_readLine_160 : decode cX12_readLine 160 = .ok (.iconst 0, 1) := by decide +kernel
theorem dX12_readLine_161 : decode cX12_readLine 161 = .ok (.bipush 100, 2) := by decide +kernel
theorem dX12_readLine_163 : decode cX12_readLine 163 = .ok (.invokevirtual 242, 3) := by decide +kernel
theorem dX12_readLine_166 : decode cX12_readLine 166 = .ok (.iastore, 1) := by decide +kernel
theorem dX12_readLine_167 : decode cX12_readLine 167 = .ok (.lload_n 1, 1) := by decide +kernel
theorem dX12_readLine_168 : decode cX12_readLine 168 = .ok (.ldc2_w 169, 3) := by decide +kernel
theorem dX12_readLine_171 : decode cX12_readLine 171 = .ok (.lcmp, 1) := by decide +kernel
theorem dX12_readLine_172 : decode cX12_readLine 172 = .ok (.ifCond .ne 34, 3) := by decide +kernel
theorem dX12_readLine_175 : decode cX12_readLine 175 = .ok (.aload_n 0, 1) := by decide +kernel
theorem dX12_readLine_176 : decode cX12_readLine 176 = .ok (.getfield 42, 3) := by decide +kernel
theorem dX12_readLine_179 : decode cX12_readLine 179 = .ok (.aload_n 0, 1) := by decide +kernel
theorem dX12_readLine_180 : decode cX12_readLine 180 = .ok (.getfield 246, 3) := by decide +kernel
theorem dX12_readLine_183 : decode cX12_readLine 183 = .ok (.dup2, 1) := by decide +kernel
theorem dX12_readLine_184 : decode cX12_readLine 184 = .ok (.iaload, 1) := by decide +kernel
theorem dX12_readLine_185 : decode cX12_readLine 185 = .ok (.bipush 8, 2) := by decide +kernel
theorem dX12_readLine_187 : decode cX12_readLine 187 = .ok (.ior, 1) := by decide +kernel
theorem dX12_readLine_188 : decode cX12_readLine 188 = .ok (.iastore, 1) := by decide +kernel
theorem dX12_readLine_189 : decode cX12_readLine 189 = .ok (.aload_n 0, 1) := by decide +kernel
theorem dX12_readLine_190 : decode cX12_readLine 190 = .ok (.getfield 39, 3) := by decide +kernel
theorem dX12_readLine_193 : decode cX12_readLine 193 = .ok (.aload_n 0, 1) := by decide +kernel
theorem dX12_readLine_194 : decode cX12_readLine 194 = .ok (.getfield 246, 3) := by decide +kernel
theorem dX12_readLine_197 : decode cX12_readLine 197 = .ok (.aload_n 0, 1) := by decide +kernel
theorem dX12_readLine_198 : decode cX12_readLine 198 = .ok (.iconst 0, 1) := by decide +kernel
theorem dX12_readLine_199 : decode cX12_readLine 199 = .ok (.sipush 999, 3) := by decide +kernel
theorem dX12_readLine_202 : decode cX12_readLine 202 = .ok (.invokevirtual 242, 3) := by decide +kernel
theorem dX12_readLine_205 : decode cX12_readLine 205 = .ok (.iastore, 1) := by decide +kernel
theorem dX12_readLine_206 : decode cX12_readLine 206 = .ok (.aload_n 0, 1) := by decide +kernel
theorem dX12_readLine_207 : decode cX12_readLine 207 = .ok (.aload_n 0, 1) := by decide +kernel
theorem dX12_readLine_208 : decode cX12_readLine 208 = .ok (.bipush 59, 2) := by decide +kernel
theorem dX12_readLine_210 : decode cX12_readLine 210 = .ok (.invokevirtual 279, 3) := by decide +kernel
theorem dX12_readLine_213 : decode cX12_readLine 213 = .ok (.invokevirtual 238, 3) := by decide +kernel
theorem dX12_readLine_216 : decode cX12_readLine 216 = .ok (.return_, 1) := by decide +kernel
def kX12_readLine_206 (n : Nat) : mK := i_ldA 0 (i_ldA 0 (i_cst (.int (59)) (i_cV 12 1 (FX12_isSignHere n) (i_cV 12 1 (FX12_must n) (i_rV)))))
set_option maxRecDepth 20000 in
theorem okX12_readLine_206 {E : mE} {X : State → Heap → Prop} {l : Launch} (hX : mXok E X) (n : Nat) : Sd E X l yX12_readLine cX12_readLine 3 none 7 0 0 0 0 206 (kX12_readLine_206 n) := s_aload_n dX12_readLine_206 rfl (s_aload_n dX12_readLine_207 rfl (s_bipush dX12_readLine_208 (by decide) (s_cV dX12_readLine_210 lMX12_279 bVX12_isSignHere rfl (CtX12_isSignHere hX n) (Nat.le_of_ble_eq_true rfl) (s_cV dX12_readLine_213 lMX12_238 bVX12_must rfl (CtX12_must hX n) (Nat.le_of_ble_eq_true rfl) (s_rV dX12_readLine_216 (Nat.le_of_ble_eq_true rfl) (Nat.le_of_ble_eq_true rfl)) (Nat.le_of_ble_eq_true rfl) (Nat.le_of_ble_eq_true rfl)) (Nat.le_of_ble_eq_true rfl) (Nat.le_of_ble_eq_true rfl))))
def kX12_readLine_167 (n : Nat) : mK := i_ldJ 1 (i_cst (.long (1685217655)) (i_lcmp (i_c0 (fun x => decide (¬ x = 0)) (kX12_readLine_206 n) (i_ldA 0 (i_gA 12 18 (i_ldA 0 (i_gI 12 32 (i_dp2 (i_al 0 (i_cst (.int (8)) (i_bin (fun x y => x ||| y) (i_as 0 (i_ldA 0 (i_gA 12 17 (i_ldA 0 (i_gI 12 32 (i_ldA 0 (i_cst (.int (0)) (i_cst (.int (999)) (i_cV 12 2 (FX12_numeral n) (i_as 0 (kX12_readLine_206 n))))))))))))))))))))))
set_option maxRecDepth 20000 in
theorem okX12_readLine_167 {E : mE} {X : State → Heap → Prop} {l : Launch} (hX : mXok E X) (n : Nat) : Sd E X l yX12_readLine cX12_readLine 3 none 7 0 0 0 0 167 (kX12_readLine_167 n) := s_lload_n dX12_readLine_167 rfl (s_ldc2 dX12_readLine_168 lCX12_169 (s_lcmp dX12_readLine_171 (s_ifne dX12_readLine_172 (by decide) (okX12_readLine_206 hX n) (s_aload_n dX12_readLine_175 rfl (s_gA dX12_readLine_176 lFX12_42 (s_aload_n dX12_readLine_179 rfl (s_gI dX12_readLine_180 lFX12_246 (by decide) (s_dup2 dX12_readLine_183 (s_iald dX12_readLine_184 (s_bipush dX12_readLine_185 (by decide) (s_ior dX12_readLine_187 (s_iast dX12_readLine_188 (s_aload_n dX12_readLine_189 rfl (s_gA dX12_readLine_190 lFX12_39 (s_aload_n dX12_readLine_193 rfl (s_gI dX12_readLine_194 lFX12_246 (by decide) (s_aload_n dX12_readLine_197 rfl (s_iconst dX12_readLine_198 (by decide) (s_sipush dX12_readLine_199 (by decide) (s_cV dX12_readLine_202 lMX12_242 bVX12_numeral rfl (CtX12_numeral hX n) (Nat.le_of_ble_eq_true rfl) (s_iast dX12_readLine_205 (okX12_readLine_206 hX n)) (Nat.le_of_ble_eq_true rfl) (Nat.le_of_ble_eq_true rfl)))))))))))))))))))))
def kX12_readLine_130 (n : Nat) : mK := i_ldJ 1 (i_cst (.long (108243466677107)) (i_lcmp (i_c0 (fun x => decide (¬ x = 0)) (kX12_readLine_167 n) (i_ldA 0 (i_gA 12 18 (i_ldA 0 (i_gI 12 32 (i_dp2 (i_al 0 (i_cst (.int (4)) (i_bin (fun x y => x ||| y) (i_as 0 (i_ldA 0 (i_gA 12 16 (i_ldA 0 (i_gI 12 32 (i_ldA 0 (i_cst (.int (0)) (i_cst (.int (100)) (i_cV 12 2 (FX12_numeral n) (i_as 0 (kX12_readLine_167 n))))))))))))))))))))))
set_option maxRecDepth 20000 in
theorem okX12_readLine_130 {E : mE} {X : State → Heap → Prop} {l : Launch} (hX : mXok E X) (n : Nat) : Sd E X l yX12_readLine cX12_readLine 3 none 7 0 0 0 0 130 (kX12_readLine_130 n) := s_lload_n dX12_readLine_130 rfl (s_ldc2 dX12_readLine_131 lCX12_167 (s_lcmp dX12_readLine_134 (s_ifne dX12_readLine_135 (by decide) (okX12_readLine_167 hX n) (s_aload_n dX12_readLine_138 rfl (s_gA dX12_readLine_139 lFX12_42 (s_aload_n dX12_readLine_142 rfl (s_gI dX12_readLine_143 lFX12_246 (by decide) (s_dup2 dX12_readLine_146 (s_iald dX12_readLine_147 (s_iconst dX12_readLine_148 (by decide) (s_ior dX12_readLine_149 (s_iast dX12_readLine_150 (s_aload_n dX12_readLine_151 rfl (s_gA dX12_readLine_152 lFX12_36 (s_aload_n dX12_readLine_155 rfl (s_gI dX12_readLine_156 lFX12_246 (by decide) (s_aload_n dX12_readLine_159 rfl (s_iconst dX12_readLine_160 (by decide) (s_bipush dX12_readLine_161 (by decide) (s_cV dX12_readLine_163 lMX12_242 bVX12_numeral rfl (CtX12_numeral hX n) (Nat.le_of_ble_eq_true rfl) (s_iast dX12_readLine_166 (okX12_readLine_167 hX n)) (Nat.le_of_ble_eq_true rfl) (Nat.le_of_ble_eq_true rfl)))))))))))))))))))))
def kX12_readLine_117 (n : Nat) : mK := i_ldJ 1 (i_cst (.long (512970880104)) (i_lcmp (i_c0 (fun x => decide (¬ x = 0)) (kX12_readLine_130 n) (i_ldA 0 (i_cst (.int (1)) (i_cV 12 1 (FX12_readRule n) (kX12_readLine_130 n)))))))
set_option maxRecDepth 20000 in
theorem okX12_readLine_117 {E : mE} {X : State → Heap → Prop} {l : Launch} (hX : mXok E X) (n : Nat) : Sd E X l yX12_readLine cX12_readLine 3 none 7 0 0 0 0 117 (kX12_readLine_117 n) := s_lload_n dX12_readLine_117 rfl (s_ldc2 dX12_readLine_118 lCX12_165 (s_lcmp dX12_readLine_121 (s_ifne dX12_readLine_122 (by decide) (okX12_readLine_130 hX n) (s_aload_n dX12_readLine_125 rfl (s_iconst dX12_readLine_126 (by decide) (s_cV dX12_readLine_127 lMX12_275 bVX12_readRule rfl (CtX12_readRule hX n) (Nat.le_of_ble_eq_true rfl) (okX12_readLine_130 hX n) (Nat.le_of_ble_eq_true rfl) (Nat.le_of_ble_eq_true rfl)))))))
def kX12_readLine_104 (n : Nat) : mK := i_ldJ 1 (i_cst (.long (32492108151877235)) (i_lcmp (i_c0 (fun x => decide (¬ x = 0)) (kX12_readLine_117 n) (i_ldA 0 (i_cst (.int (0)) (i_cV 12 1 (FX12_readRule n) (kX12_readLine_117 n)))))))
set_option maxRecDepth 20000 in
theorem okX12_readLine_104 {E : mE} {X : State → Heap → Prop} {l : Launch} (hX : mXok E X) (n : Nat) : Sd E X l yX12_readLine cX12_readLine 3 none 7 0 0 0 0 104 (kX12_readLine_104 n) := s_lload_n dX12_readLine_104 rfl (s_ldc2 dX12_readLine_105 lCX12_163 (s_lcmp dX12_readLine_108 (s_ifne dX12_readLine_109 (by decide) (okX12_readLine_117 hX n) (s_aload_n dX12_readLine_112 rfl (s_iconst dX12_readLine_113 (by decide) (s_cV dX12_readLine_114 lMX12_275 bVX12_readRule rfl (CtX12_readRule hX n) (Nat.le_of_ble_eq_true rfl) (okX12_readLine_117 hX n) (Nat.le_of_ble_eq_true rfl) (Nat.le_of_ble_eq_true rfl)))))))
def kX12_readLine_92 (n : Nat) : mK := i_ldJ 1 (i_cst (.long (6513010)) (i_lcmp (i_c0 (fun x => decide (¬ x = 0)) (kX12_readLine_104 n) (i_ldA 0 (i_cV 12 0 (FX12_readCar n) (kX12_readLine_104 n))))))
set_option maxRecDepth 20000 in
theorem okX12_readLine_92 {E : mE} {X : State → Heap → Prop} {l : Launch} (hX : mXok E X) (n : Nat) : Sd E X l yX12_readLine cX12_readLine 3 none 7 0 0 0 0 92 (kX12_readLine_92 n) := s_lload_n dX12_readLine_92 rfl (s_ldc2 dX12_readLine_93 lCX12_153 (s_lcmp dX12_readLine_96 (s_ifne dX12_readLine_97 (by decide) (okX12_readLine_104 hX n) (s_aload_n dX12_readLine_100 rfl (s_cV dX12_readLine_101 lMX12_272 bVX12_readCar rfl (CtX12_readCar hX n) (Nat.le_of_ble_eq_true rfl) (okX12_readLine_104 hX n) (Nat.le_of_ble_eq_true rfl) (Nat.le_of_ble_eq_true rfl))))))
def kX12_readLine_67 (n : Nat) : mK := i_cst (.int (8)) (i_cV 12 2 (FX12_numeral n) (i_as 0 (i_ldA 0 (i_gA 12 12 (i_ldA 0 (i_gI 12 32 (i_ldA 0 (i_cst (.long (25209)) (i_cst (.int (1)) (i_cst (.int (8)) (i_cV 12 3 (FX12_after n) (i_as 0 (kX12_readLine_92 n)))))))))))))
set_option maxRecDepth 20000 in
theorem okX12_readLine_67 {E : mE} {X : State → Heap → Prop} {l : Launch} (hX : mXok E X) (n : Nat) : Sd E X l yX12_readLine cX12_readLine 3 none 7 0 0 0 0 67 (kX12_readLine_67 n) := s_bipush dX12_readLine_67 (by decide) (s_cV dX12_readLine_69 lMX12_242 bVX12_numeral rfl (CtX12_numeral hX n) (Nat.le_of_ble_eq_true rfl) (s_iast dX12_readLine_72 (s_aload_n dX12_readLine_73 rfl (s_gA dX12_readLine_74 lFX12_24 (s_aload_n dX12_readLine_77 rfl (s_gI dX12_readLine_78 lFX12_246 (by decide) (s_aload_n dX12_readLine_81 rfl (s_ldc2 dX12_readLine_82 lCX12_151 (s_iconst dX12_readLine_85 (by decide) (s_bipush dX12_readLine_86 (by decide) (s_cV dX12_readLine_88 lMX12_268 bVX12_after rfl (CtX12_after hX n) (Nat.le_of_ble_eq_true rfl) (s_iast dX12_readLine_91 (okX12_readLine_92 hX n)) (Nat.le_of_ble_eq_true rfl) (Nat.le_of_ble_eq_true rfl))))))))))) (Nat.le_of_ble_eq_true rfl) (Nat.le_of_ble_eq_true rfl))
def kX12_readLine_24 (n : Nat) : mK := i_ldA 0 (i_cV 12 0 (FX12_isGood n) (i_c0 (fun x => decide (¬ x = 0)) (i_ldA 0 (i_gA 12 13 (i_ldA 0 (i_gI 12 32 (i_dp2 (i_al 0 (i_cst (.int (1)) (i_bin (fun x y => x + y) (i_as 0 (i_ldA 0 (i_cV 12 0 (FX12_goOn n) (i_ldJ 1 (i_cst (.long (126943972648308)) (i_lcmp (i_c0 (fun x => decide (¬ x = 0)) (kX12_readLine_92 n) (i_ldA 0 (i_gA 12 11 (i_ldA 0 (i_gI 12 32 (i_ldA 0 (i_cst (.int (1)) (kX12_readLine_67 n)))))))))))))))))))))) (i_rV)))
set_option maxRecDepth 20000 in
theorem okX12_readLine_24 {E : mE} {X : State → Heap → Prop} {l : Launch} (hX : mXok E X) (n : Nat) : Sd E X l yX12_readLine cX12_readLine 3 none 7 0 0 0 0 24 (kX12_readLine_24 n) := s_aload_n dX12_readLine_24 rfl (s_cV dX12_readLine_25 lMX12_225 bVX12_isGood rfl (CtX12_isGood hX n) (Nat.le_of_ble_eq_true rfl) (s_ifne dX12_readLine_28 (by decide) (s_aload_n dX12_readLine_32 rfl (s_gA dX12_readLine_33 lFX12_27 (s_aload_n dX12_readLine_36 rfl (s_gI dX12_readLine_37 lFX12_246 (by decide) (s_dup2 dX12_readLine_40 (s_iald dX12_readLine_41 (s_iconst dX12_readLine_42 (by decide) (s_iadd dX12_readLine_43 (s_iast dX12_readLine_44 (s_aload_n dX12_readLine_45 rfl (s_cV dX12_readLine_46 lMX12_229 bVX12_goOn rfl (CtX12_goOn hX n) (Nat.le_of_ble_eq_true rfl) (s_lload_n dX12_readLine_49 rfl (s_ldc2 dX12_readLine_50 lCX12_149 (s_lcmp dX12_readLine_53 (s_ifne dX12_readLine_54 (by decide) (okX12_readLine_92 hX n) (s_aload_n dX12_readLine_57 rfl (s_gA dX12_readLine_58 lFX12_20 (s_aload_n dX12_readLine_61 rfl (s_gI dX12_readLine_62 lFX12_246 (by decide) (s_aload_n dX12_readLine_65 rfl (s_iconst dX12_readLine_66 (by decide) (okX12_readLine_67 hX n))))))))))) (Nat.le_of_ble_eq_true rfl) (Nat.le_of_ble_eq_true rfl)))))))))))) (s_rV dX12_readLine_31 (Nat.le_of_ble_eq_true rfl) (Nat.le_of_ble_eq_true rfl))) (Nat.le_of_ble_eq_true rfl) (Nat.le_of_ble_eq_true rfl))
def kX12_readLine_20 (n : Nat) : mK := i_ldA 0 (i_cV 12 0 (FX12_misplaced n) (kX12_readLine_24 n))
set_option maxRecDepth 20000 in
theorem okX12_readLine_20 {E : mE} {X : State → Heap → Prop} {l : Launch} (hX : mXok E X) (n : Nat) : Sd E X l yX12_readLine cX12_readLine 3 none 7 0 0 0 0 20 (kX12_readLine_20 n) := s_aload_n dX12_readLine_20 rfl (s_cV dX12_readLine_21 lMX12_232 bVX12_misplaced rfl (CtX12_misplaced hX n) (Nat.le_of_ble_eq_true rfl) (okX12_readLine_24 hX n) (Nat.le_of_ble_eq_true rfl) (Nat.le_of_ble_eq_true rfl))
def kX12_readLine_0 (n : Nat) : mK := i_ldA 0 (i_gJ 12 10 (i_stJ 1 (i_ldA 0 (i_gI 12 8 (i_cst (.int (3)) (i_c2 (fun x y => decide (¬ x = y)) (kX12_readLine_20 n) (i_ldA 0 (i_cV 12 0 (FX12_isFull n) (i_c0 (fun x => decide (x = 0)) (kX12_readLine_24 n) (kX12_readLine_20 n))))))))))
set_option maxRecDepth 20000 in
theorem okX12_readLine_0 {E : mE} {X : State → Heap → Prop} {l : Launch} (hX : mXok E X) (n : Nat) : Sd E X l yX12_readLine cX12_readLine 3 none 7 0 0 0 0 0 (kX12_readLine_0 n) := s_aload_n dX12_readLine_0 rfl (s_gJ dX12_readLine_1 lFX12_204 (s_lstore_n dX12_readLine_4 rfl (s_aload_n dX12_readLine_5 rfl (s_gI dX12_readLine_6 lFX12_197 (by decide) (s_iconst dX12_readLine_9 (by decide) (s_icne dX12_readLine_10 (by decide) (okX12_readLine_20 hX n) (s_aload_n dX12_readLine_13 rfl (s_cV dX12_readLine_14 lMX12_265 bVX12_isFull rfl (CtX12_isFull hX n) (Nat.le_of_ble_eq_true rfl) (s_ifeq dX12_readLine_17 (by decide) (okX12_readLine_24 hX n) (okX12_readLine_20 hX n)) (Nat.le_of_ble_eq_true rfl) (Nat.le_of_ble_eq_true rfl)))))))))
def FX12_readLine (n : Nat) : List Value → mM → Option mR := mfn 3 (kX12_readLine_0 n)
theorem CtX12_readLine {E : mE} {X : State → Heap → Prop} {l : Launch} (hX : mXok E X) (n : Nat) : Ct E X l yX12_readLine cX12_readLine 3 none 7 0 0 (FX12_readLine n) := Ct_of (by decide) hX (okX12_readLine_0 hX n)
theorem dX12_ripe_0 : decode cX12_ripe 0 = .ok (.iconst 0, 1) := by decide +kernel
theorem dX12_ripe_1 : decode cX12_ripe 1 = .ok (.istore_n 2, 1) := by decide +kernel
theorem dX12_ripe_2 : decode cX12_ripe 2 = .ok (.iload_n 2, 1) := by decide +kernel
theorem dX12_ripe_3 : decode cX12_ripe 3 = .ok (.bipush 60, 2) := by decide +kernel
theorem dX12_ripe_5 : decode cX12_ripe 5 = .ok (.if_icmp .gt 20, 3) := by decide +kernel
theorem dX12_ripe_8 : decode cX12_ripe 8 = .ok (.aload_n 0, 1) := by decide +kernel
theorem dX12_ripe_9 : decode cX12_ripe 9 = .ok (.iload_n 2, 1) := by decide +kernel
theorem dX12_ripe_10 : decode cX12_ripe 10 = .ok (.invokevirtual 451, 3) := by decide +kernel
theorem dX12_ripe_13 : decode cX12_ripe 13 = .ok (.iload_n 1, 1) := by decide +kernel
theorem dX12_ripe_14 : decode cX12_ripe 14 = .ok (.if_icmp .lt 5, 3) := by decide +kernel
theorem dX12_ripe_17 : decode cX12_ripe 17 = .ok (.iload_n 2, 1) := by decide +kernel
theorem dX12_ripe_18 : decode cX12_ripe 18 = .ok (.ireturn, 1) := by decide +kernel
theorem dX12_ripe_19 : decode cX12_ripe 19 = .ok (.iinc 2 1, 3) := by decide +kernel
theorem dX12_ripe_22 : decode cX12_ripe 22 = .ok (.goto (-20), 3) := by decide +kernel
theorem dX12_ripe_25 : decode cX12_ripe 25 = .ok (.iconst (-1), 1) := by decide +kernel
theorem dX12_ripe_26 : decode cX12_ripe 26 = .ok (.ireturn, 1) := by decide +kernel
def kX12_ripe_2 (n : Nat) (r2 : mK) : mK := i_ldI 2 (i_cst (.int (60)) (i_c2 (fun x y => decide (y < x)) (i_cst (.int (-1)) (i_rI)) (i_ldA 0 (i_ldI 2 (i_cV 12 1 (FX12_priceBehind n) (i_ldI 1 (i_c2 (fun x y => decide (x < y)) (i_inc 2 (1) (r2)) (i_ldI 2 (i_rI)))))))))
set_option maxRecDepth 20000 in
theorem okX12_ripe_2 {E : mE} {X : State → Heap → Prop} {l : Launch} (hX : mXok E X) (n : Nat) {r2 : mK} (h2 : Sd E X l yX12_ripe cX12_ripe 3 (some .int) 7 0 0 0 0 2 r2) : Sd E X l yX12_ripe cX12_ripe 3 (some .int) 7 0 0 0 0 2 (kX12_ripe_2 n r2) := s_iload_n dX12_ripe_2 rfl (s_bipush dX12_ripe_3 (by decide) (s_icgt dX12_ripe_5 (by decide) (s_iconst dX12_ripe_25 (by decide) (s_rI dX12_ripe_26 (Nat.le_of_ble_eq_true rfl) (Nat.le_of_ble_eq_true rfl))) (s_aload_n dX12_ripe_8 rfl (s_iload_n dX12_ripe_9 rfl (s_cV dX12_ripe_10 lMX12_451 bVX12_priceBehind rfl (CtX12_priceBehind hX n) (Nat.le_of_ble_eq_true rfl) (s_iload_n dX12_ripe_13 rfl (s_iclt dX12_ripe_14 (by decide) (s_iinc dX12_ripe_19 (by decide) (s_goto dX12_ripe_22 (by decide) h2)) (s_iload_n dX12_ripe_17 rfl (s_rI dX12_ripe_18 (Nat.le_of_ble_eq_true rfl) (Nat.le_of_ble_eq_true rfl))))) (Nat.le_of_ble_eq_true rfl) (Nat.le_of_ble_eq_true rfl))))))
def kX12_ripe_0 (n : Nat) : mK := i_cst (.int (0)) (i_stI 2 (mit (kX12_ripe_2 n ) n))
set_option maxRecDepth 20000 in
theorem okX12_ripe_0 {E : mE} {X : State → Heap → Prop} {l : Launch} (hX : mXok E X) (n : Nat) : Sd E X l yX12_ripe cX12_ripe 3 (some .int) 7 0 0 0 0 0 (kX12_ripe_0 n) := s_iconst dX12_ripe_0 (by decide) (s_istore_n dX12_ripe_1 rfl (s_mit (fun _ hk => okX12_ripe_2 hX n hk) n))
def FX12_ripe (n : Nat) : List Value → mM → Option mR := mfn 3 (kX12_ripe_0 n)
theorem CtX12_ripe {E : mE} {X : State → Heap → Prop} {l : Launch} (hX : mXok E X) (n : Nat) : Ct E X l yX12_ripe cX12_ripe 3 (some .int) 7 0 0 (FX12_ripe n) := Ct_of (by decide) hX (okX12_ripe_0 hX n)
theorem dX12_sale_0 : decode cX12_sale 0 = .ok (.aload_n 0, 1) := by decide +kernel
theorem dX12_sale_1 : decode cX12_sale 1 = .ok (.iconst 0, 1) := by decide +kernel
theorem dX12_sale_2 : decode cX12_sale 2 = .ok (.putfield 366, 3) := by decide +kernel
theorem dX12_sale_5 : decode cX12_sale 5 = .ok (.aload_n 0, 1) := by decide +kernel
theorem dX12_sale_6 : decode cX12_sale 6 = .ok (.iload_n 1, 1) := by decide +kernel
theorem dX12_sale_7 : decode cX12_sale 7 = .ok (.invokevirtual 396, 3) := by decide +kernel
theorem dX12_sale_10 : decode cX12_sale 10 = .ok (.ifCond .eq 16, 3) := by decide +kernel
theorem dX12_sale_13 : decode cX12_sale 13 = .ok (.aload_n 0, 1) := by decide +kernel
theorem dX12_sale_14 : decode cX12_sale 14 = .ok (.iload_n 2, 1) := by decide +kernel
theorem dX12_sale_15 : decode cX12_sale 15 = .ok (.invokevirtual 396, 3) := by decide +kernel
theorem dX12_sale_18 : decode cX12_sale 18 = .ok (.ifCond .eq 8, 3) := by decide +kernel
theorem dX12_sale_21 : decode cX12_sale 21 = .ok (.iload_n 1, 1) := by decide +kernel
theorem dX12_sale_22 : decode cX12_sale 22 = .ok (.iload_n 2, 1) := by decide +kernel
theorem dX12_sale_23 : decode cX12_sale 23 = .ok (.if_icmp .ne 5, 3) := by decide +kernel
theorem dX12_sale_26 : decode cX12_sale 26 = .ok (.iconst (-1), 1) := by decide +kernel
theorem dX12_sale_27 : decode cX12_sale 27 = .ok (.ireturn, 1) := by decide +kernel
theorem dX12_sale_28 : decode cX12_sale 28 = .ok (.iconst 0, 1) := by decide +kernel
theorem dX12_sale_29 : decode cX12_sale 29 = .ok (.istore_n 3, 1) := by decide +kernel
theorem dX12_sale_30 : decode cX12_sale 30 = .ok (.iconst 0, 1) := by decide +kernel
theorem dX12_sale_31 : decode cX12_sale 31 = .ok (.istore 4, 2) := by decide +kernel
theorem dX12_sale_33 : decode cX12_sale 33 = .ok (.iload 4, 2) := by decide +kernel
theorem dX12_sale_35 : decode cX12_sale 35 = .ok (.bipush 100, 2) := by decide +kernel
theorem dX12_sale_37 : decode cX12_sale 37 = .ok (.if_icmp .ge 65, 3) := by decide +kernel
theorem dX12_sale_40 : decode cX12_sale 40 = .ok (.aload_n 0, 1) := by decide +kernel
theorem dX12_sale_41 : decode cX12_sale 41 = .ok (.iload_n 1, 1) := by decide +kernel
theorem dX12_sale_42 : decode cX12_sale 42 = .ok (.iload_n 2, 1) := by decide +kernel
theorem dX12_sale_43 : decode cX12_sale 43 = .ok (.iload 4, 2) := by decide +kernel
theorem dX12_sale_45 : decode cX12_sale 45 = .ok (.bipush 10, 2) := by decide +kernel
theorem dX12_sale_47 : decode cX12_sale 47 = .ok (.idiv, 1) := by decide +kernel
theorem dX12_sale_48 : decode cX12_sale 48 = .ok (.iload 4, 2) := by decide +kernel
theorem dX12_sale_50 : decode cX12_sale 50 = .ok (.bipush 10, 2) := by decide +kernel
theorem dX12_sale_52 : decode cX12_sale 52 = .ok (.irem, 1) := by decide +kernel
theorem dX12_sale_53 : decode cX12_sale 53 = .ok (.invokevirtual 473, 3) := by decide +kernel
theorem dX12_sale_56 : decode cX12_sale 56 = .ok (.ifCond .ne 6, 3) := by decide +kernel
theorem dX12_sale_59 : decode cX12_sale 59 = .ok (.goto 37, 3) := by decide +kernel
theorem dX12_sale_62 : decode cX12_sale 62 = .ok (.iload_n 3, 1) := by decide +kernel
theorem dX12_sale_63 : decode cX12_sale 63 = .ok (.ifCond .ne 30, 3) := by decide +kernel
theorem dX12_sale_66 : decode cX12_sale 66 = .ok (.aload_n 0, 1) := by decide +kernel
theorem dX12_sale_67 : decode cX12_sale 67 = .ok (.getfield 97, 3) := by decide +kernel
theorem dX12_sale_70 : decode cX12_sale 70 = .ok (.iconst 0, 1) := by decide +kernel
theorem dX12_sale_71 : decode cX12_sale 71 = .ok (.iload 4, 2) := by decide +kernel
theorem dX12_sale_73 : decode cX12_sale 73 = .ok (.bipush 10, 2) := by decide +kernel
theorem dX12_sale_75 : decode cX12_sale 75 = .ok (.idiv, 1) := by decide +kernel
theorem dX12_sale_76 : decode cX12_sale 76 = .ok (.iastore, 1) := by decide +kernel
theorem dX12_sale_77 : decode cX12_sale 77 = .ok (.aload_n 0, 1) := by decide +kernel
theorem dX12_sale_78 : decode cX12_sale 78 = .ok (.getfield 97, 3) := by decide +kernel
theorem dX12_sale_81 : decode cX12_sale 81 = .ok (.iconst 1, 1) := by decide +kernel
theorem dX12_sale_82 : decode cX12_sale 82 = .ok (.iload 4, 2) := by decide +kernel
theorem dX12_sale_84 : decode cX12_sale 84 = .ok (.bipush 10, 2) := by decide +kernel
theorem dX12_sale_86 : decode cX12_sale 86 = .ok (.irem, 1) := by decide +kernel
theorem dX12_sale_87 : decode cX12_sale 87 = .ok (.iastore, 1) := by decide +kernel
theorem dX12_sale_88 : decode cX12_sale 88 = .ok (.aload_n 0, 1) := by decide +kernel
theorem dX12_sale_89 : decode cX12_sale 89 = .ok (.iconst 2, 1) := by decide +kernel
theorem dX12_sale_90 : decode cX12_sale 90 = .ok (.putfield 366, 3) := by decide +kernel
theorem dX12_sale_93 : decode cX12_sale 93 = .ok (.iinc 3 1, 3) := by decide +kernel
theorem dX12_sale_96 : decode cX12_sale 96 = .ok (.iinc 4 1, 3) := by decide +kernel
theorem dX12_sale_99 : decode cX12_sale 99 = .ok (.goto (-66), 3) := by decide +kernel
theorem dX12_sale_102 : decode cX12_sale 102 = .ok (.iload_n 3, 1) := by decide +kernel
theorem dX12_sale_103 : decode cX12_sale 103 = .ok (.ireturn, 1) := by decide +kernel
def kX12_sale_26 (n : Nat) : mK := i_cst (.int (-1)) (i_rI)
set_option maxRecDepth 20000 in
theorem okX12_sale_26 {E : mE} {X : State → Heap → Prop} {l : Launch} (hX : mXok E X) (n : Nat) : Sd E X l yX12_sale cX12_sale 5 (some .int) 7 0 0 0 0 26 (kX12_sale_26 n) := s_iconst dX12_sale_26 (by decide) (s_rI dX12_sale_27 (Nat.le_of_ble_eq_true rfl) (Nat.le_of_ble_eq_true rfl))
def kX12_sale_96 (n : Nat) (r33 : mK) : mK := i_inc 4 (1) (r33)
set_option maxRecDepth 20000 in
theorem okX12_sale_96 {E : mE} {X : State → Heap → Prop} {l : Launch} (hX : mXok E X) (n : Nat) {r33 : mK} (h33 : Sd E X l yX12_sale cX12_sale 5 (some .int) 7 0 0 0 0 33 r33) : Sd E X l yX12_sale cX12_sale 5 (some .int) 7 0 0 0 0 96 (kX12_sale_96 n r33) := s_iinc dX12_sale_96 (by decide) (s_goto dX12_sale_99 (by decide) h33)
def kX12_sale_93 (n : Nat) (r33 : mK) : mK := i_inc 3 (1) (kX12_sale_96 n r33)
set_option maxRecDepth 20000 in
theorem okX12_sale_93 {E : mE} {X : State → Heap → Prop} {l : Launch} (hX : mXok E X) (n : Nat) {r33 : mK} (h33 : Sd E X l yX12_sale cX12_sale 5 (some .int) 7 0 0 0 0 33 r33) : Sd E X l yX12_sale cX12_sale 5 (some .int) 7 0 0 0 0 93 (kX12_sale_93 n r33) := s_iinc dX12_sale_93 (by decide) (okX12_sale_96 hX n h33)
def kX12_sale_78 (n : Nat) (r33 : mK) : mK := i_gA 12 46 (i_cst (.int (1)) (i_ldI 4 (i_cst (.int (10)) (i_dv (fun x y => x - x / y * y) (i_as 0 (i_ldA 0 (i_cst (.int (2)) (i_pI 12 48 (kX12_sale_93 n r33)))))))))
set_option maxRecDepth 20000 in
theorem okX12_sale_78 {E : mE} {X : State → Heap → Prop} {l : Launch} (hX : mXok E X) (n : Nat) {r33 : mK} (h33 : Sd E X l yX12_sale cX12_sale 5 (some .int) 7 0 0 0 0 33 r33) : Sd E X l yX12_sale cX12_sale 5 (some .int) 7 0 0 0 0 78 (kX12_sale_78 n r33) := s_gA dX12_sale_78 lFX12_97 (s_iconst dX12_sale_81 (by decide) (s_iload dX12_sale_82 (s_bipush dX12_sale_84 (by decide) (s_irem dX12_sale_86 (s_iast dX12_sale_87 (s_aload_n dX12_sale_88 rfl (s_iconst dX12_sale_89 (by decide) (s_pI dX12_sale_90 lFX12_366 (okX12_sale_93 hX n h33)))))))))
def kX12_sale_33 (n : Nat) (r33 : mK) : mK := i_ldI 4 (i_cst (.int (100)) (i_c2 (fun x y => decide (y ≤ x)) (i_ldI 3 (i_rI)) (i_ldA 0 (i_ldI 1 (i_ldI 2 (i_ldI 4 (i_cst (.int (10)) (i_dv (fun x y => x / y) (i_ldI 4 (i_cst (.int (10)) (i_dv (fun x y => x - x / y * y) (i_cV 12 4 (FX12_isRest n) (i_c0 (fun x => decide (¬ x = 0)) (i_ldI 3 (i_c0 (fun x => decide (¬ x = 0)) (kX12_sale_93 n r33) (i_ldA 0 (i_gA 12 46 (i_cst (.int (0)) (i_ldI 4 (i_cst (.int (10)) (i_dv (fun x y => x / y) (i_as 0 (i_ldA 0 (kX12_sale_78 n r33))))))))))) ((kX12_sale_96 n r33)))))))))))))))
set_option maxRecDepth 20000 in
theorem okX12_sale_33 {E : mE} {X : State → Heap → Prop} {l : Launch} (hX : mXok E X) (n : Nat) {r33 : mK} (h33 : Sd E X l yX12_sale cX12_sale 5 (some .int) 7 0 0 0 0 33 r33) : Sd E X l yX12_sale cX12_sale 5 (some .int) 7 0 0 0 0 33 (kX12_sale_33 n r33) := s_iload dX12_sale_33 (s_bipush dX12_sale_35 (by decide) (s_icge dX12_sale_37 (by decide) (s_iload_n dX12_sale_102 rfl (s_rI dX12_sale_103 (Nat.le_of_ble_eq_true rfl) (Nat.le_of_ble_eq_true rfl))) (s_aload_n dX12_sale_40 rfl (s_iload_n dX12_sale_41 rfl (s_iload_n dX12_sale_42 rfl (s_iload dX12_sale_43 (s_bipush dX12_sale_45 (by decide) (s_idiv dX12_sale_47 (s_iload dX12_sale_48 (s_bipush dX12_sale_50 (by decide) (s_irem dX12_sale_52 (s_cV dX12_sale_53 lMX12_473 bVX12_isRest rfl (CtX12_isRest hX n) (Nat.le_of_ble_eq_true rfl) (s_ifne dX12_sale_56 (by decide) (s_iload_n dX12_sale_62 rfl (s_ifne dX12_sale_63 (by decide) (okX12_sale_93 hX n h33) (s_aload_n dX12_sale_66 rfl (s_gA dX12_sale_67 lFX12_97 (s_iconst dX12_sale_70 (by decide) (s_iload dX12_sale_71 (s_bipush dX12_sale_73 (by decide) (s_idiv dX12_sale_75 (s_iast dX12_sale_76 (s_aload_n dX12_sale_77 rfl (okX12_sale_78 hX n h33))))))))))) (s_goto dX12_sale_59 (by decide) (okX12_sale_96 hX n h33))) (Nat.le_of_ble_eq_true rfl) (Nat.le_of_ble_eq_true rfl)))))))))))))
def kX12_sale_0 (n : Nat) : mK := i_ldA 0 (i_cst (.int (0)) (i_pI 12 48 (i_ldA 0 (i_ldI 1 (i_cV 12 1 (FX12_isHere n) (i_c0 (fun x => decide (x = 0)) (kX12_sale_26 n) (i_ldA 0 (i_ldI 2 (i_cV 12 1 (FX12_isHere n) (i_c0 (fun x => decide (x = 0)) (kX12_sale_26 n) (i_ldI 1 (i_ldI 2 (i_c2 (fun x y => decide (¬ x = y)) (i_cst (.int (0)) (i_stI 3 (i_cst (.int (0)) (i_stI 4 (mit (kX12_sale_33 n ) n))))) (kX12_sale_26 n))))))))))))))
set_option maxRecDepth 20000 in
theorem okX12_sale_0 {E : mE} {X : State → Heap → Prop} {l : Launch} (hX : mXok E X) (n : Nat) : Sd E X l yX12_sale cX12_sale 5 (some .int) 7 0 0 0 0 0 (kX12_sale_0 n) := s_aload_n dX12_sale_0 rfl (s_iconst dX12_sale_1 (by decide) (s_pI dX12_sale_2 lFX12_366 (s_aload_n dX12_sale_5 rfl (s_iload_n dX12_sale_6 rfl (s_cV dX12_sale_7 lMX12_396 bVX12_isHere rfl (CtX12_isHere hX n) (Nat.le_of_ble_eq_true rfl) (s_ifeq dX12_sale_10 (by decide) (okX12_sale_26 hX n) (s_aload_n dX12_sale_13 rfl (s_iload_n dX12_sale_14 rfl (s_cV dX12_sale_15 lMX12_396 bVX12_isHere rfl (CtX12_isHere hX n) (Nat.le_of_ble_eq_true rfl) (s_ifeq dX12_sale_18 (by decide) (okX12_sale_26 hX n) (s_iload_n dX12_sale_21 rfl (s_iload_n dX12_sale_22 rfl (s_icne dX12_sale_23 (by decide) (s_iconst dX12_sale_28 (by decide) (s_istore_n dX12_sale_29 rfl (s_iconst dX12_sale_30 (by decide) (s_istore dX12_sale_31 (s_mit (fun _ hk => okX12_sale_33 hX n hk) n))))) (okX12_sale_26 hX n))))) (Nat.le_of_ble_eq_true rfl) (Nat.le_of_ble_eq_true rfl))))) (Nat.le_of_ble_eq_true rfl) (Nat.le_of_ble_eq_true rfl))))))
def FX12_sale (n : Nat) : List Value → mM → Option mR := mfn 5 (kX12_sale_0 n)
theorem CtX12_sale {E : mE} {X : State → Heap → Prop} {l : Launch} (hX : mXok E X) (n : Nat) : Ct E X l yX12_sale cX12_sale 5 (some .int) 7 0 0 (FX12_sale n) := Ct_of (by decide) hX (okX12_sale_0 hX n)
theorem dX12_vintage_0 : decode cX12_vintage 0 = .ok (.iload_n 1, 1) := by decide +kernel
theorem dX12_vintage_1 : decode cX12_vintage 1 = .ok (.iconst 0, 1) := by decide +kernel
theorem dX12_vintage_2 : decode cX12_vintage 2 = .ok (.iconst 1, 1) := by decide +kernel
theorem dX12_vintage_3 : decode cX12_vintage 3 = .ok (.invokestatic 344, 3) := by decide +kernel
theorem dX12_vintage_6 : decode cX12_vintage 6 = .ok (.ifCond .ne 7, 3) := by decide +kernel
theorem dX12_vintage_9 : decode cX12_vintage 9 = .ok (.ldc_w 399, 3) := by decide +kernel
theorem dX12_vintage_12 : decode cX12_vintage 12 = .ok (.ireturn, 1) := by decide +kernel
theorem dX12_vintage_13 : decode cX12_vintage 13 = .ok (.iconst 0, 1) := by decide +kernel
theorem dX12_vintage_14 : decode cX12_vintage 14 = .ok (.istore_n 2, 1) := by decide +kernel
theorem dX12_vintage_15 : decode cX12_vintage 15 = .ok (.aload_n 0, 1) := by decide +kernel
theorem dX12_vintage_16 : decode cX12_vintage 16 = .ok (.invokevirtual 406, 3) := by decide +kernel
theorem dX12_vintage_19 : decode cX12_vintage 19 = .ok (.istore_n 3, 1) := by decide +kernel
theorem dX12_vintage_20 : decode cX12_vintage 20 = .ok (.iconst 1, 1) := by decide +kernel
theorem dX12_vintage_21 : decode cX12_vintage 21 = .ok (.istore 4, 2) := by decide +kernel
theorem dX12_vintage_23 : decode cX12_vintage 23 = .ok (.iload 4, 2) := by decide +kernel
theorem dX12_vintage_25 : decode cX12_vintage 25 = .ok (.bipush 30, 2) := by decide +kernel
theorem dX12_vintage_27 : decode cX12_vintage 27 = .ok (.if_icmp .gt 32, 3) := by decide +kernel
theorem dX12_vintage_30 : decode cX12_vintage 30 = .ok (.aload_n 0, 1) := by decide +kernel
theorem dX12_vintage_31 : decode cX12_vintage 31 = .ok (.iload 4, 2) := by decide +kernel
theorem dX12_vintage_33 : decode cX12_vintage 33 = .ok (.invokevirtual 451, 3) := by decide +kernel
theorem dX12_vintage_36 : decode cX12_vintage 36 = .ok (.istore 5, 2) := by decide +kernel
theorem dX12_vintage_38 : decode cX12_vintage 38 = .ok (.iload 5, 2) := by decide +kernel
theorem dX12_vintage_40 : decode cX12_vintage 40 = .ok (.iload_n 3, 1) := by decide +kernel
theorem dX12_vintage_41 : decode cX12_vintage 41 = .ok (.if_icmp .gt 6, 3) := by decide +kernel
theorem dX12_vintage_44 : decode cX12_vintage 44 = .ok (.goto 9, 3) := by decide +kernel
theorem dX12_vintage_47 : decode cX12_vintage 47 = .ok (.iload 4, 2) := by decide +kernel
theorem dX12_vintage_49 : decode cX12_vintage 49 = .ok (.istore_n 2, 1) := by decide +kernel
theorem dX12_vintage_50 : decode cX12_vintage 50 = .ok (.iload 5, 2) := by decide +kernel
theorem dX12_vintage_52 : decode cX12_vintage 52 = .ok (.istore_n 3, 1) := by decide +kernel
theorem dX12_vintage_53 : decode cX12_vintage 53 = .ok (.iinc 4 1, 3) := by decide +kernel
theorem dX12_vintage_56 : decode cX12_vintage 56 = .ok (.goto (-33), 3) := by decide +kernel
theorem dX12_vintage_59 : decode cX12_vintage 59 = .ok (.iload_n 1, 1) := by decide +kernel
theorem dX12_vintage_60 : decode cX12_vintage 60 = .ok (.ifCond .ne 7, 3) := by decide +kernel
theorem dX12_vintage_63 : decode cX12_vintage 63 = .ok (.iload_n 2, 1) := by decide +kernel
theorem dX12_vintage_64 : decode cX12_vintage 64 = .ok (.goto 4, 3) := by decide +kernel
theorem dX12_vintage_67 : decode cX12_vintage 67 = .ok (.iload_n 3, 1) := by decide +kernel
theorem dX12_vintage_68 : decode cX12_vintage 68 = .ok (.ireturn, 1) := by decide +kernel
def kX12_vintage_53 (n : Nat) (r23 : mK) : mK := i_inc 4 (1) (r23)
set_option maxRecDepth 20000 in
theorem okX12_vintage_53 {E : mE} {X : State → Heap → Prop} {l : Launch} (hX : mXok E X) (n : Nat) {r23 : mK} (h23 : Sd E X l yX12_vintage cX12_vintage 6 (some .int) 7 0 0 0 0 23 r23) : Sd E X l yX12_vintage cX12_vintage 6 (some .int) 7 0 0 0 0 53 (kX12_vintage_53 n r23) := s_iinc dX12_vintage_53 (by decide) (s_goto dX12_vintage_56 (by decide) h23)
def kX12_vintage_68 (n : Nat) : mK := i_rI
set_option maxRecDepth 20000 in
theorem okX12_vintage_68 {E : mE} {X : State → Heap → Prop} {l : Launch} (hX : mXok E X) (n : Nat) : Sd E X l yX12_vintage cX12_vintage 6 (some .int) 7 0 0 0 0 68 (kX12_vintage_68 n) := s_rI dX12_vintage_68 (Nat.le_of_ble_eq_true rfl) (Nat.le_of_ble_eq_true rfl)
def kX12_vintage_23 (n : Nat) (r23 : mK) : mK := i_ldI 4 (i_cst (.int (30)) (i_c2 (fun x y => decide (y < x)) (i_ldI 1 (i_c0 (fun x => decide (¬ x = 0)) (i_ldI 3 (kX12_vintage_68 n)) (i_ldI 2 ((kX12_vintage_68 n))))) (i_ldA 0 (i_ldI 4 (i_cV 12 1 (FX12_priceBehind n) (i_stI 5 (i_ldI 5 (i_ldI 3 (i_c2 (fun x y => decide (y < x)) (i_ldI 4 (i_stI 2 (i_ldI 5 (i_stI 3 (kX12_vintage_53 n r23))))) ((kX12_vintage_53 n r23)))))))))))
set_option maxRecDepth 20000 in
theorem okX12_vintage_23 {E : mE} {X : State → Heap → Prop} {l : Launch} (hX : mXok E X) (n : Nat) {r23 : mK} (h23 : Sd E X l yX12_vintage cX12_vintage 6 (some .int) 7 0 0 0 0 23 r23) : Sd E X l yX12_vintage cX12_vintage 6 (some .int) 7 0 0 0 0 23 (kX12_vintage_23 n r23) := s_iload dX12_vintage_23 (s_bipush dX12_vintage_25 (by decide) (s_icgt dX12_vintage_27 (by decide) (s_iload_n dX12_vintage_59 rfl (s_ifne dX12_vintage_60 (by decide) (s_iload_n dX12_vintage_67 rfl (okX12_vintage_68 hX n)) (s_iload_n dX12_vintage_63 rfl (s_goto dX12_vintage_64 (by decide) (okX12_vintage_68 hX n))))) (s_aload_n dX12_vintage_30 rfl (s_iload dX12_vintage_31 (s_cV dX12_vintage_33 lMX12_451 bVX12_priceBehind rfl (CtX12_priceBehind hX n) (Nat.le_of_ble_eq_true rfl) (s_istore dX12_vintage_36 (s_iload dX12_vintage_38 (s_iload_n dX12_vintage_40 rfl (s_icgt dX12_vintage_41 (by decide) (s_iload dX12_vintage_47 (s_istore_n dX12_vintage_49 rfl (s_iload dX12_vintage_50 (s_istore_n dX12_vintage_52 rfl (okX12_vintage_53 hX n h23))))) (s_goto dX12_vintage_44 (by decide) (okX12_vintage_53 hX n h23)))))) (Nat.le_of_ble_eq_true rfl) (Nat.le_of_ble_eq_true rfl))))))
def kX12_vintage_0 (n : Nat) : mK := i_ldI 1 (i_cst (.int (0)) (i_cst (.int (1)) (i_cS 3 (FX12_isIn n) (i_c0 (fun x => decide (¬ x = 0)) (i_cst (.int (0)) (i_stI 2 (i_ldA 0 (i_cV 12 0 (FX12_priceNow n) (i_stI 3 (i_cst (.int (1)) (i_stI 4 (mit (kX12_vintage_23 n ) n)))))))) (i_cst (.int (-1000000000)) (i_rI))))))
set_option maxRecDepth 20000 in
theorem okX12_vintage_0 {E : mE} {X : State → Heap → Prop} {l : Launch} (hX : mXok E X) (n : Nat) : Sd E X l yX12_vintage cX12_vintage 6 (some .int) 7 0 0 0 0 0 (kX12_vintage_0 n) := s_iload_n dX12_vintage_0 rfl (s_iconst dX12_vintage_1 (by decide) (s_iconst dX12_vintage_2 (by decide) (s_cS dX12_vintage_3 lMX12_344 bSX12_isIn (CtX12_isIn hX n) (Nat.le_of_ble_eq_true rfl) (s_ifne dX12_vintage_6 (by decide) (s_iconst dX12_vintage_13 (by decide) (s_istore_n dX12_vintage_14 rfl (s_aload_n dX12_vintage_15 rfl (s_cV dX12_vintage_16 lMX12_406 bVX12_priceNow rfl (CtX12_priceNow hX n) (Nat.le_of_ble_eq_true rfl) (s_istore_n dX12_vintage_19 rfl (s_iconst dX12_vintage_20 (by decide) (s_istore dX12_vintage_21 (s_mit (fun _ hk => okX12_vintage_23 hX n hk) n)))) (Nat.le_of_ble_eq_true rfl) (Nat.le_of_ble_eq_true rfl))))) (s_ldcw dX12_vintage_9 lCX12_399 (s_rI dX12_vintage_12 (Nat.le_of_ble_eq_true rfl) (Nat.le_of_ble_eq_true rfl)))) (Nat.le_of_ble_eq_true rfl) (Nat.le_of_ble_eq_true rfl))))
def FX12_vintage (n : Nat) : List Value → mM → Option mR := mfn 6 (kX12_vintage_0 n)
theorem CtX12_vintage {E : mE} {X : State → Heap → Prop} {l : Launch} (hX : mXok E X) (n : Nat) : Ct E X l yX12_vintage cX12_vintage 6 (some .int) 7 0 0 (FX12_vintage n) := Ct_of (by decide) hX (okX12_vintage_0 hX n)
theorem dX12_will_0 : decode cX12_will 0 = .ok (.iload_n 1, 1) := by decide +kernel
theorem dX12_will_1 : decode cX12_will 1 = .ok (.invokestatic 448, 3) := by decide +kernel
theorem dX12_will_4 : decode cX12_will 4 = .ok (.ifCond .eq 11, 3) := by decide +kernel
theorem dX12_will_7 : decode cX12_will 7 = .ok (.aload_n 0, 1) := by decide +kernel
theorem dX12_will_8 : decode cX12_will 8 = .ok (.iload_n 1, 1) := by decide +kernel
theorem dX12_will_9 : decode cX12_will 9 = .ok (.invokevirtual 451, 3) := by decide +kernel
theorem dX12_will_12 : decode cX12_will 12 = .ok (.goto 6, 3) := by decide +kernel
theorem dX12_will_15 : decode cX12_will 15 = .ok (.ldc_w 399, 3) := by decide +kernel
theorem dX12_will_18 : decode cX12_will 18 = .ok (.ireturn, 1) := by decide +kernel
def kX12_will_18 (n : Nat) : mK := i_rI
set_option maxRecDepth 20000 in
theorem okX12_will_18 {E : mE} {X : State → Heap → Prop} {l : Launch} (hX : mXok E X) (n : Nat) : Sd E X l yX12_will cX12_will 2 (some .int) 7 0 0 0 0 18 (kX12_will_18 n) := s_rI dX12_will_18 (Nat.le_of_ble_eq_true rfl) (Nat.le_of_ble_eq_true rfl)
def kX12_will_0 (n : Nat) : mK := i_ldI 1 (i_cS 1 (FX12_isAhead n) (i_c0 (fun x => decide (x = 0)) (i_cst (.int (-1000000000)) (kX12_will_18 n)) (i_ldA 0 (i_ldI 1 (i_cV 12 1 (FX12_priceBehind n) ((kX12_will_18 n)))))))
set_option maxRecDepth 20000 in
theorem okX12_will_0 {E : mE} {X : State → Heap → Prop} {l : Launch} (hX : mXok E X) (n : Nat) : Sd E X l yX12_will cX12_will 2 (some .int) 7 0 0 0 0 0 (kX12_will_0 n) := s_iload_n dX12_will_0 rfl (s_cS dX12_will_1 lMX12_448 bSX12_isAhead (CtX12_isAhead hX n) (Nat.le_of_ble_eq_true rfl) (s_ifeq dX12_will_4 (by decide) (s_ldcw dX12_will_15 lCX12_399 (okX12_will_18 hX n)) (s_aload_n dX12_will_7 rfl (s_iload_n dX12_will_8 rfl (s_cV dX12_will_9 lMX12_451 bVX12_priceBehind rfl (CtX12_priceBehind hX n) (Nat.le_of_ble_eq_true rfl) (s_goto dX12_will_12 (by decide) (okX12_will_18 hX n)) (Nat.le_of_ble_eq_true rfl) (Nat.le_of_ble_eq_true rfl))))) (Nat.le_of_ble_eq_true rfl) (Nat.le_of_ble_eq_true rfl))
def FX12_will (n : Nat) : List Value → mM → Option mR := mfn 2 (kX12_will_0 n)
theorem CtX12_will {E : mE} {X : State → Heap → Prop} {l : Launch} (hX : mXok E X) (n : Nat) : Ct E X l yX12_will cX12_will 2 (some .int) 7 0 0 (FX12_will n) := Ct_of (by decide) hX (okX12_will_0 hX n)
theorem dX9_kindOf_0 : decode cX9_kindOf 0 = .ok (.iload_n 1, 1) := by decide +kernel
theorem dX9_kindOf_1 : decode cX9_kindOf 1 = .ok (.aload_n 0, 1) := by decide +kernel
theorem dX9_kindOf_2 : decode cX9_kindOf 2 = .ok (.getfield 21, 3) := by decide +kernel
theorem dX9_kindOf_5 : decode cX9_kindOf 5 = .ok (.if_icmp .lt 5, 3) := by decide +kernel
theorem dX9_kindOf_8 : decode cX9_kindOf 8 = .ok (.iconst 0, 1) := by decide +kernel
theorem dX9_kindOf_9 : decode cX9_kindOf 9 = .ok (.ireturn, 1) := by decide +kernel
theorem dX9_kindOf_10 : decode cX9_kindOf 10 = .ok (.aload_n 0, 1) := by decide +kernel
theorem dX9_kindOf_11 : decode cX9_kindOf 11 = .ok (.iload_n 1, 1) := by decide +kernel
theorem dX9_kindOf_12 : decode cX9_kindOf 12 = .ok (.invokevirtual 46, 3) := by decide +kernel
theorem dX9_kindOf_15 : decode cX9_kindOf 15 = .ok (.ifCond .eq 22, 3) := by decide +kernel
theorem dX9_kindOf_18 : decode cX9_kindOf 18 = .ok (.iload_n 2, 1) := by decide +kernel
theorem dX9_kindOf_19 : decode cX9_kindOf 19 = .ok (.iload_n 1, 1) := by decide +kernel
theorem dX9_kindOf_20 : decode cX9_kindOf 20 = .ok (.isub, 1) := by decide +kernel
theorem dX9_kindOf_21 : decode cX9_kindOf 21 = .ok (.bipush 8, 2) := by decide +kernel
theorem dX9_kindOf_23 : decode cX9_kindOf 23 = .ok (.if_icmp .le 7, 3) := by decide +kernel
theorem dX9_kindOf_26 : decode cX9_kindOf 26 = .ok (.iconst 1, 1) := by decide +kernel
theorem dX9_kindOf_27 : decode cX9_kindOf 27 = .ok (.goto 9, 3) := by decide +kernel
theorem dX9_kindOf_30 : decode cX9_kindOf 30 = .ok (.aload_n 0, 1) := by decide +kernel
theorem dX9_kindOf_31 : decode cX9_kindOf 31 = .ok (.iload_n 1, 1) := by decide +kernel
theorem dX9_kindOf_32 : decode cX9_kindOf 32 = .ok (.iload_n 2, 1) := by decide +kernel
theorem dX9_kindOf_33 : decode cX9_kindOf 33 = .ok (.invokevirtual 53, 3) := by decide +kernel
theorem dX9_kindOf_36 : decode cX9_kindOf 36 = .ok (.ireturn, 1) := by decide +kernel
theorem dX9_kindOf_37 : decode cX9_kindOf 37 = .ok (.aload_n 0, 1) := by decide +kernel
theorem dX9_kindOf_38 : decode cX9_kindOf 38 = .ok (.iload_n 1, 1) := by decide +kernel
theorem dX9_kindOf_39 : decode cX9_kindOf 39 = .ok (.invokevirtual 50, 3) := by decide +kernel
theorem dX9_kindOf_42 : decode cX9_kindOf 42 = .ok (.ifCond .eq 24, 3) := by decide +kernel
theorem dX9_kindOf_45 : decode cX9_kindOf 45 = .ok (.iload_n 2, 1) := by decide +kernel
theorem dX9_kindOf_46 : decode cX9_kindOf 46 = .ok (.iload_n 1, 1) := by decide +kernel
theorem dX9_kindOf_47 : decode cX9_kindOf 47 = .ok (.isub, 1) := by decide +kernel
theorem dX9_kindOf_48 : decode cX9_kindOf 48 = .ok (.iconst 4, 1) := by decide +kernel
theorem dX9_kindOf_49 : decode cX9_kindOf 49 = .ok (.if_icmp .gt 11, 3) := by decide +kernel
theorem dX9_kindOf_52 : decode cX9_kindOf 52 = .ok (.aload_n 0, 1) := by decide +kernel
theorem dX9_kindOf_53 : decode cX9_kindOf 53 = .ok (.iload_n 2, 1) := by decide +kernel
theorem dX9_kindOf_54 : decode cX9_kindOf 54 = .ok (.invokevirtual 46, 3) := by decide +kernel
theorem dX9_kindOf_57 : decode cX9_kindOf 57 = .ok (.ifCond .eq 7, 3) := by decide +kernel
theorem dX9_kindOf_60 : decode cX9_kindOf 60 = .ok (.iconst 1, 1) := by decide +kernel
theorem dX9_kindOf_61 : decode cX9_kindOf 61 = .ok (.goto 4, 3) := by decide +kernel
theorem dX9_kindOf_64 : decode cX9_kindOf 64 = .ok (.iconst 2, 1) := by decide +kernel
theorem dX9_kindOf_65 : decode cX9_kindOf 65 = .ok (.ireturn, 1) := by decide +kernel
theorem dX9_kindOf_66 : decode cX9_kindOf 66 = .ok (.ldc 56, 2) := by decide +kernel
theorem dX9_kindOf_68 : decode cX9_kindOf 68 = .ok (.aload_n 0, 1) := by decide +kernel
theorem dX9_kindOf_69 : decode cX9_kindOf 69 = .ok (.iload_n 1, 1) := by decide +kernel
theorem dX9_kindOf_70 : decode cX9_kindOf 70 = .ok (.invokevirtual 43, 3) := by decide +kernel
theorem dX9_kindOf_73 : decode cX9_kindOf 73 = .ok (.i2c, 1) := by decide +kernel
theorem dX9_kindOf_74 : decode cX9_kindOf 74 = .ok (.invokevirtual 58, 3) := by decide +kernel
theorem dX9_kindOf_77 : decode cX9_kindOf 77 = .ok (.istore_n 3, 1) := by decide +kernel
theorem dX9_kindOf_78 : decode cX9_kindOf 78 = .ok (.iload_n 3, 1) := by decide +kernel
theorem dX9_kindOf_79 : decode cX9_kindOf 79 = .ok (.ifCond .ge 7, 3) := by decide +kernel
theorem dX9_kindOf_82 : decode cX9_kindOf 82 = .ok (.iconst 1, 1) := by decide +kernel
theorem dX9_kindOf_83 : decode cX9_kindOf 83 = .ok (.goto 6, 3) := by decide +kernel
theorem dX9_kindOf_86 : decode cX9_kindOf 86 = .ok (.iconst 4, 1) := by decide +kernel
theorem dX9_kindOf_87 : decode cX9_kindOf 87 = .ok (.iload_n 3, 1) := by decide +kernel
theorem dX9_kindOf_88 : decode cX9_kindOf 88 = .ok (.iadd, 1) := by decide +kernel
theorem dX9_kindOf_89 : decode cX9_kindOf 89 = .ok (.ireturn, 1) := by decide +kernel
def kX9_kindOf_36 (n : Nat) : mK := i_rI
set_option maxRecDepth 20000 in
theorem okX9_kindOf_36 {E : mE} {X : State → Heap → Prop} {l : Launch} (hX : mXok E X) (n : Nat) : Sd E X l yX9_kindOf cX9_kindOf 4 (some .int) 7 0 0 0 0 36 (kX9_kindOf_36 n) := s_rI dX9_kindOf_36 (Nat.le_of_ble_eq_true rfl) (Nat.le_of_ble_eq_true rfl)
def kX9_kindOf_65 (n : Nat) : mK := i_rI
set_option maxRecDepth 20000 in
theorem okX9_kindOf_65 {E : mE} {X : State → Heap → Prop} {l : Launch} (hX : mXok E X) (n : Nat) : Sd E X l yX9_kindOf cX9_kindOf 4 (some .int) 7 0 0 0 0 65 (kX9_kindOf_65 n) := s_rI dX9_kindOf_65 (Nat.le_of_ble_eq_true rfl) (Nat.le_of_ble_eq_true rfl)
def kX9_kindOf_60 (n : Nat) : mK := i_cst (.int (1)) ((kX9_kindOf_65 n))
set_option maxRecDepth 20000 in
theorem okX9_kindOf_60 {E : mE} {X : State → Heap → Prop} {l : Launch} (hX : mXok E X) (n : Nat) : Sd E X l yX9_kindOf cX9_kindOf 4 (some .int) 7 0 0 0 0 60 (kX9_kindOf_60 n) := s_iconst dX9_kindOf_60 (by decide) (s_goto dX9_kindOf_61 (by decide) (okX9_kindOf_65 hX n))
def kX9_kindOf_89 (n : Nat) : mK := i_rI
set_option maxRecDepth 20000 in
theorem okX9_kindOf_89 {E : mE} {X : State → Heap → Prop} {l : Launch} (hX : mXok E X) (n : Nat) : Sd E X l yX9_kindOf cX9_kindOf 4 (some .int) 7 0 0 0 0 89 (kX9_kindOf_89 n) := s_rI dX9_kindOf_89 (Nat.le_of_ble_eq_true rfl) (Nat.le_of_ble_eq_true rfl)
def kX9_kindOf_0 (n : Nat) : mK := i_ldI 1 (i_ldA 0 (i_gI 9 3 (i_c2 (fun x y => decide (x < y)) (i_ldA 0 (i_ldI 1 (i_cV 9 1 (FX9_isLetter n) (i_c0 (fun x => decide (x = 0)) (i_ldA 0 (i_ldI 1 (i_cV 9 1 (FX9_isDigit n) (i_c0 (fun x => decide (x = 0)) (i_cst (.float 1) (i_ldA 0 (i_ldI 1 (i_cV 9 1 (FX9_byteAt n) (i_un (fun x => (x.toUInt32 % 65536).toInt32) (i_cX 1 (FJ0_indexOf_0f7a4 n) (i_stI 3 (i_ldI 3 (i_c0 (fun x => decide (0 ≤ x)) (i_cst (.int (4)) (i_ldI 3 (i_bin (fun x y => x + y) (kX9_kindOf_89 n)))) (i_cst (.int (1)) ((kX9_kindOf_89 n)))))))))))) (i_ldI 2 (i_ldI 1 (i_bin (fun x y => x - y) (i_cst (.int (4)) (i_c2 (fun x y => decide (y < x)) (kX9_kindOf_60 n) (i_ldA 0 (i_ldI 2 (i_cV 9 1 (FX9_isLetter n) (i_c0 (fun x => decide (x = 0)) (i_cst (.int (2)) (kX9_kindOf_65 n)) (kX9_kindOf_60 n)))))))))))))) (i_ldI 2 (i_ldI 1 (i_bin (fun x y => x - y) (i_cst (.int (8)) (i_c2 (fun x y => decide (x ≤ y)) (i_ldA 0 (i_ldI 1 (i_ldI 2 (i_cV 9 2 (FX9_kindOfWord n) (kX9_kindOf_36 n))))) (i_cst (.int (1)) ((kX9_kindOf_36 n)))))))))))) (i_cst (.int (0)) (i_rI)))))
set_option maxRecDepth 20000 in
theorem okX9_kindOf_0 {E : mE} {X : State → Heap → Prop} {l : Launch} (hX : mXok E X) (n : Nat) : Sd E X l yX9_kindOf cX9_kindOf 4 (some .int) 7 0 0 0 0 0 (kX9_kindOf_0 n) := s_iload_n dX9_kindOf_0 rfl (s_aload_n dX9_kindOf_1 rfl (s_gI dX9_kindOf_2 lFX9_21 (by decide) (s_iclt dX9_kindOf_5 (by decide) (s_aload_n dX9_kindOf_10 rfl (s_iload_n dX9_kindOf_11 rfl (s_cV dX9_kindOf_12 lMX9_46 bVX9_isLetter rfl (CtX9_isLetter hX n) (Nat.le_of_ble_eq_true rfl) (s_ifeq dX9_kindOf_15 (by decide) (s_aload_n dX9_kindOf_37 rfl (s_iload_n dX9_kindOf_38 rfl (s_cV dX9_kindOf_39 lMX9_50 bVX9_isDigit rfl (CtX9_isDigit hX n) (Nat.le_of_ble_eq_true rfl) (s_ifeq dX9_kindOf_42 (by decide) (s_ldS1 dX9_kindOf_66 rfl (s_aload_n dX9_kindOf_68 rfl (s_iload_n dX9_kindOf_69 rfl (s_cV dX9_kindOf_70 lMX9_43 bVX9_byteAt rfl (CtX9_byteAt hX n) (Nat.le_of_ble_eq_true rfl) (s_i2c dX9_kindOf_73 (s_cX dX9_kindOf_74 lMX9_58 bVJ0_indexOf_0f7a4 rfl (CtJ0_indexOf_0f7a4 hX n) (Nat.le_of_ble_eq_true rfl) (s_istore_n dX9_kindOf_77 rfl (s_iload_n dX9_kindOf_78 rfl (s_ifge dX9_kindOf_79 (by decide) (s_iconst dX9_kindOf_86 (by decide) (s_iload_n dX9_kindOf_87 rfl (s_iadd dX9_kindOf_88 (okX9_kindOf_89 hX n)))) (s_iconst dX9_kindOf_82 (by decide) (s_goto dX9_kindOf_83 (by decide) (okX9_kindOf_89 hX n)))))) (Nat.le_of_ble_eq_true rfl) (Nat.le_of_ble_eq_true rfl))) (Nat.le_of_ble_eq_true rfl) (Nat.le_of_ble_eq_true rfl))))) (s_iload_n dX9_kindOf_45 rfl (s_iload_n dX9_kindOf_46 rfl (s_isub dX9_kindOf_47 (s_iconst dX9_kindOf_48 (by decide) (s_icgt dX9_kindOf_49 (by decide) (okX9_kindOf_60 hX n) (s_aload_n dX9_kindOf_52 rfl (s_iload_n dX9_kindOf_53 rfl (s_cV dX9_kindOf_54 lMX9_46 bVX9_isLetter rfl (CtX9_isLetter hX n) (Nat.le_of_ble_eq_true rfl) (s_ifeq dX9_kindOf_57 (by decide) (s_iconst dX9_kindOf_64 (by decide) (okX9_kindOf_65 hX n)) (okX9_kindOf_60 hX n)) (Nat.le_of_ble_eq_true rfl) (Nat.le_of_ble_eq_true rfl)))))))))) (Nat.le_of_ble_eq_true rfl) (Nat.le_of_ble_eq_true rfl)))) (s_iload_n dX9_kindOf_18 rfl (s_iload_n dX9_kindOf_19 rfl (s_isub dX9_kindOf_20 (s_bipush dX9_kindOf_21 (by decide) (s_icle dX9_kindOf_23 (by decide) (s_aload_n dX9_kindOf_30 rfl (s_iload_n dX9_kindOf_31 rfl (s_iload_n dX9_kindOf_32 rfl (s_cV dX9_kindOf_33 lMX9_53 bVX9_kindOfWord rfl (CtX9_kindOfWord hX n) (Nat.le_of_ble_eq_true rfl) (okX9_kindOf_36 hX n) (Nat.le_of_ble_eq_true rfl) (Nat.le_of_ble_eq_true rfl))))) (s_iconst dX9_kindOf_26 (by decide) (s_goto dX9_kindOf_27 (by decide) (okX9_kindOf_36 hX n))))))))) (Nat.le_of_ble_eq_true rfl) (Nat.le_of_ble_eq_true rfl)))) (s_iconst dX9_kindOf_8 (by decide) (s_rI dX9_kindOf_9 (Nat.le_of_ble_eq_true rfl) (Nat.le_of_ble_eq_true rfl))))))
def FX9_kindOf (n : Nat) : List Value → mM → Option mR := mfn 4 (kX9_kindOf_0 n)
theorem CtX9_kindOf {E : mE} {X : State → Heap → Prop} {l : Launch} (hX : mXok E X) (n : Nat) : Ct E X l yX9_kindOf cX9_kindOf 4 (some .int) 7 0 0 (FX9_kindOf n) := Ct_of (by decide) hX (okX9_kindOf_0 hX n)
theorem dX11_hoot_0 : decode cX11_hoot 0 = .ok (.aload_n 0, 1) := by decide +kernel
theorem dX11_hoot_1 : decode cX11_hoot 1 = .ok (.getfield 37, 3) := by decide +kernel
theorem dX11_hoot_4 : decode cX11_hoot 4 = .ok (.iload_n 1, 1) := by decide +kernel
theorem dX11_hoot_5 : decode cX11_hoot 5 = .ok (.invokevirtual 167, 3) := by decide +kernel
theorem dX11_hoot_8 : decode cX11_hoot 8 = .ok (.ifCond .eq 10, 3) := by decide +kernel
theorem dX11_hoot_11 : decode cX11_hoot 11 = .ok (.iload_n 2, 1) := by decide +kernel
theorem dX11_hoot_12 : decode cX11_hoot 12 = .ok (.invokestatic 275, 3) := by decide +kernel
theorem dX11_hoot_15 : decode cX11_hoot 15 = .ok (.ifCond .ne 5, 3) := by decide +kernel
theorem dX11_hoot_18 : decode cX11_hoot 18 = .ok (.iconst (-1), 1) := by decide +kernel
theorem dX11_hoot_19 : decode cX11_hoot 19 = .ok (.ireturn, 1) := by decide +kernel
theorem dX11_hoot_20 : decode cX11_hoot 20 = .ok (.aload_n 0, 1) := by decide +kernel
theorem dX11_hoot_21 : decode cX11_hoot 21 = .ok (.iload_n 2, 1) := by decide +kernel
theorem dX11_hoot_22 : decode cX11_hoot 22 = .ok (.invokevirtual 278, 3) := by decide +kernel
theorem dX11_hoot_25 : decode cX11_hoot 25 = .ok (.aload_n 0, 1) := by decide +kernel
theorem dX11_hoot_26 : decode cX11_hoot 26 = .ok (.getfield 41, 3) := by decide +kernel
theorem dX11_hoot_29 : decode cX11_hoot 29 = .ok (.getfield 151, 3) := by decide +kernel
theorem dX11_hoot_32 : decode cX11_hoot 32 = .ok (.iload_n 1, 1) := by decide +kernel
theorem dX11_hoot_33 : decode cX11_hoot 33 = .ok (.invokestatic 144, 3) := by decide +kernel
theorem dX11_hoot_36 : decode cX11_hoot 36 = .ok (.ireturn, 1) := by decide +kernel
def kX11_hoot_18 (n : Nat) : mK := i_cst (.int (-1)) (i_rI)
set_option maxRecDepth 20000 in
theorem okX11_hoot_18 {E : mE} {X : State → Heap → Prop} {l : Launch} (hX : mXok E X) (n : Nat) : Sd E X l yX11_hoot cX11_hoot 3 (some .int) 8 0 0 0 0 18 (kX11_hoot_18 n) := s_iconst dX11_hoot_18 (by decide) (s_rI dX11_hoot_19 (Nat.le_of_ble_eq_true rfl) (Nat.le_of_ble_eq_true rfl))
def kX11_hoot_0 (n : Nat) : mK := i_ldA 0 (i_gA 11 5 (i_ldI 1 (i_cV 8 1 (FX8_isIn n) (i_c0 (fun x => decide (x = 0)) (kX11_hoot_18 n) (i_ldI 2 (i_cS 1 (FX11_isLook n) (i_c0 (fun x => decide (¬ x = 0)) (i_ldA 0 (i_ldI 2 (i_cV 11 1 (FX11_thinkAhead n) (i_ldA 0 (i_gA 11 6 (i_gA 8 3 (i_ldI 1 (i_cS 2 (FX11_at n) (i_rI))))))))) (kX11_hoot_18 n))))))))
set_option maxRecDepth 20000 in
theorem okX11_hoot_0 {E : mE} {X : State → Heap → Prop} {l : Launch} (hX : mXok E X) (n : Nat) : Sd E X l yX11_hoot cX11_hoot 3 (some .int) 8 0 0 0 0 0 (kX11_hoot_0 n) := s_aload_n dX11_hoot_0 rfl (s_gA dX11_hoot_1 lFX11_37 (s_iload_n dX11_hoot_4 rfl (s_cV dX11_hoot_5 lMX11_167 bVX8_isIn rfl (CtX8_isIn hX n) (Nat.le_of_ble_eq_true rfl) (s_ifeq dX11_hoot_8 (by decide) (okX11_hoot_18 hX n) (s_iload_n dX11_hoot_11 rfl (s_cS dX11_hoot_12 lMX11_275 bSX11_isLook (CtX11_isLook hX n) (Nat.le_of_ble_eq_true rfl) (s_ifne dX11_hoot_15 (by decide) (s_aload_n dX11_hoot_20 rfl (s_iload_n dX11_hoot_21 rfl (s_cV dX11_hoot_22 lMX11_278 bVX11_thinkAhead rfl (CtX11_thinkAhead hX n) (Nat.le_of_ble_eq_true rfl) (s_aload_n dX11_hoot_25 rfl (s_gA dX11_hoot_26 lFX11_41 (s_gA dX11_hoot_29 lFX11_151 (s_iload_n dX11_hoot_32 rfl (s_cS dX11_hoot_33 lMX11_144 bSX11_at (CtX11_at hX n) (Nat.le_of_ble_eq_true rfl) (s_rI dX11_hoot_36 (Nat.le_of_ble_eq_true rfl) (Nat.le_of_ble_eq_true rfl)) (Nat.le_of_ble_eq_true rfl) (Nat.le_of_ble_eq_true rfl)))))) (Nat.le_of_ble_eq_true rfl) (Nat.le_of_ble_eq_true rfl)))) (okX11_hoot_18 hX n)) (Nat.le_of_ble_eq_true rfl) (Nat.le_of_ble_eq_true rfl)))) (Nat.le_of_ble_eq_true rfl) (Nat.le_of_ble_eq_true rfl))))
def FX11_hoot (n : Nat) : List Value → mM → Option mR := mfn 3 (kX11_hoot_0 n)
theorem CtX11_hoot {E : mE} {X : State → Heap → Prop} {l : Launch} (hX : mXok E X) (n : Nat) : Ct E X l yX11_hoot cX11_hoot 3 (some .int) 8 0 0 (FX11_hoot n) := Ct_of (by decide) hX (okX11_hoot_0 hX n)
theorem dX11_will_0 : decode cX11_will 0 = .ok (.iload_n 1, 1) := by decide +kernel
theorem dX11_will_1 : decode cX11_will 1 = .ok (.invokestatic 275, 3) := by decide +kernel
theorem dX11_will_4 : decode cX11_will 4 = .ok (.ifCond .ne 6, 3) := by decide +kernel
theorem dX11_will_7 : decode cX11_will 7 = .ok (.ldc 178, 2) := by decide +kernel
theorem dX11_will_9 : decode cX11_will 9 = .ok (.ireturn, 1) := by decide +kernel
theorem dX11_will_10 : decode cX11_will 10 = .ok (.aload_n 0, 1) := by decide +kernel
theorem dX11_will_11 : decode cX11_will 11 = .ok (.iload_n 1, 1) := by decide +kernel
theorem dX11_will_12 : decode cX11_will 12 = .ok (.invokevirtual 278, 3) := by decide +kernel
theorem dX11_will_15 : decode cX11_will 15 = .ok (.aload_n 0, 1) := by decide +kernel
theorem dX11_will_16 : decode cX11_will 16 = .ok (.getfield 41, 3) := by decide +kernel
theorem dX11_will_19 : decode cX11_will 19 = .ok (.invokevirtual 272, 3) := by decide +kernel
theorem dX11_will_22 : decode cX11_will 22 = .ok (.ireturn, 1) := by decide +kernel
def kX11_will_0 (n : Nat) : mK := i_ldI 1 (i_cS 1 (FX11_isLook n) (i_c0 (fun x => decide (¬ x = 0)) (i_ldA 0 (i_ldI 1 (i_cV 11 1 (FX11_thinkAhead n) (i_ldA 0 (i_gA 11 6 (i_cV 8 0 (FX8_priceOfAll n) (i_rI))))))) (i_cst (.int (-1000000000)) (i_rI))))
set_option maxRecDepth 20000 in
theorem okX11_will_0 {E : mE} {X : State → Heap → Prop} {l : Launch} (hX : mXok E X) (n : Nat) : Sd E X l yX11_will cX11_will 2 (some .int) 8 0 0 0 0 0 (kX11_will_0 n) := s_iload_n dX11_will_0 rfl (s_cS dX11_will_1 lMX11_275 bSX11_isLook (CtX11_isLook hX n) (Nat.le_of_ble_eq_true rfl) (s_ifne dX11_will_4 (by decide) (s_aload_n dX11_will_10 rfl (s_iload_n dX11_will_11 rfl (s_cV dX11_will_12 lMX11_278 bVX11_thinkAhead rfl (CtX11_thinkAhead hX n) (Nat.le_of_ble_eq_true rfl) (s_aload_n dX11_will_15 rfl (s_gA dX11_will_16 lFX11_41 (s_cV dX11_will_19 lMX11_272 bVX8_priceOfAll rfl (CtX8_priceOfAll hX n) (Nat.le_of_ble_eq_true rfl) (s_rI dX11_will_22 (Nat.le_of_ble_eq_true rfl) (Nat.le_of_ble_eq_true rfl)) (Nat.le_of_ble_eq_true rfl) (Nat.le_of_ble_eq_true rfl)))) (Nat.le_of_ble_eq_true rfl) (Nat.le_of_ble_eq_true rfl)))) (s_ldc dX11_will_7 lCX11_178 (s_rI dX11_will_9 (Nat.le_of_ble_eq_true rfl) (Nat.le_of_ble_eq_true rfl)))) (Nat.le_of_ble_eq_true rfl) (Nat.le_of_ble_eq_true rfl))
def FX11_will (n : Nat) : List Value → mM → Option mR := mfn 2 (kX11_will_0 n)
theorem CtX11_will {E : mE} {X : State → Heap → Prop} {l : Launch} (hX : mXok E X) (n : Nat) : Ct E X l yX11_will cX11_will 2 (some .int) 8 0 0 (FX11_will n) := Ct_of (by decide) hX (okX11_will_0 hX n)
theorem dX12_ask_0 : decode cX12_ask 0 = .ok (.iload_n 1, 1) := by decide +kernel
theorem dX12_ask_1 : decode cX12_ask 1 = .ok (.iconst 0, 1) := by decide +kernel
theorem dX12_ask_2 : decode cX12_ask 2 = .ok (.iconst 1, 1) := by decide +kernel
theorem dX12_ask_3 : decode cX12_ask 3 = .ok (.invokestatic 344, 3) := by decide +kernel
theorem dX12_ask_6 : decode cX12_ask 6 = .ok (.ifCond .eq 11, 3) := by decide +kernel
theorem dX12_ask_9 : decode cX12_ask 9 = .ok (.aload_n 0, 1) := by decide +kernel
theorem dX12_ask_10 : decode cX12_ask 10 = .ok (.iload_n 2, 1) := by decide +kernel
theorem dX12_ask_11 : decode cX12_ask 11 = .ok (.invokevirtual 487, 3) := by decide +kernel
theorem dX12_ask_14 : decode cX12_ask 14 = .ok (.ifCond .ne 5, 3) := by decide +kernel
theorem dX12_ask_17 : decode cX12_ask 17 = .ok (.iconst (-1), 1) := by decide +kernel
theorem dX12_ask_18 : decode cX12_ask 18 = .ok (.ireturn, 1) := by decide +kernel
theorem dX12_ask_19 : decode cX12_ask 19 = .ok (.aload_n 0, 1) := by decide +kernel
theorem dX12_ask_20 : decode cX12_ask 20 = .ok (.iload_n 2, 1) := by decide +kernel
theorem dX12_ask_21 : decode cX12_ask 21 = .ok (.invokevirtual 493, 3) := by decide +kernel
theorem dX12_ask_24 : decode cX12_ask 24 = .ok (.iconst 0, 1) := by decide +kernel
theorem dX12_ask_25 : decode cX12_ask 25 = .ok (.istore_n 3, 1) := by decide +kernel
theorem dX12_ask_26 : decode cX12_ask 26 = .ok (.aload_n 0, 1) := by decide +kernel
theorem dX12_ask_27 : decode cX12_ask 27 = .ok (.iconst 0, 1) := by decide +kernel
theorem dX12_ask_28 : decode cX12_ask 28 = .ok (.invokevirtual 496, 3) := by decide +kernel
theorem dX12_ask_31 : decode cX12_ask 31 = .ok (.istore 4, 2) := by decide +kernel
theorem dX12_ask_33 : decode cX12_ask 33 = .ok (.iconst 1, 1) := by decide +kernel
theorem dX12_ask_34 : decode cX12_ask 34 = .ok (.istore 5, 2) := by decide +kernel
theorem dX12_ask_36 : decode cX12_ask 36 = .ok (.iload 5, 2) := by decide +kernel
theorem dX12_ask_38 : decode cX12_ask 38 = .ok (.bipush 20, 2) := by decide +kernel
theorem dX12_ask_40 : decode cX12_ask 40 = .ok (.if_icmp .gt 34, 3) := by decide +kernel
theorem dX12_ask_43 : decode cX12_ask 43 = .ok (.aload_n 0, 1) := by decide +kernel
theorem dX12_ask_44 : decode cX12_ask 44 = .ok (.iload 5, 2) := by decide +kernel
theorem dX12_ask_46 : decode cX12_ask 46 = .ok (.invokevirtual 496, 3) := by decide +kernel
theorem dX12_ask_49 : decode cX12_ask 49 = .ok (.istore 6, 2) := by decide +kernel
theorem dX12_ask_51 : decode cX12_ask 51 = .ok (.iload 6, 2) := by decide +kernel
theorem dX12_ask_53 : decode cX12_ask 53 = .ok (.iload 4, 2) := by decide +kernel
theorem dX12_ask_55 : decode cX12_ask 55 = .ok (.if_icmp .lt 6, 3) := by decide +kernel
theorem dX12_ask_58 : decode cX12_ask 58 = .ok (.goto 10, 3) := by decide +kernel
theorem dX12_ask_61 : decode cX12_ask 61 = .ok (.iload 5, 2) := by decide +kernel
theorem dX12_ask_63 : decode cX12_ask 63 = .ok (.istore_n 3, 1) := by decide +kernel
theorem dX12_ask_64 : decode cX12_ask 64 = .ok (.iload 6, 2) := by decide +kernel
theorem dX12_ask_66 : decode cX12_ask 66 = .ok (.istore 4, 2) := by decide +kernel
theorem dX12_ask_68 : decode cX12_ask 68 = .ok (.iinc 5 1, 3) := by decide +kernel
theorem dX12_ask_71 : decode cX12_ask 71 = .ok (.goto (-35), 3) := by decide +kernel
theorem dX12_ask_74 : decode cX12_ask 74 = .ok (.iload_n 1, 1) := by decide +kernel
theorem dX12_ask_75 : decode cX12_ask 75 = .ok (.ifCond .ne 7, 3) := by decide +kernel
theorem dX12_ask_78 : decode cX12_ask 78 = .ok (.iload_n 3, 1) := by decide +kernel
theorem dX12_ask_79 : decode cX12_ask 79 = .ok (.goto 5, 3) := by decide +kernel
theorem dX12_ask_82 : decode cX12_ask 82 = .ok (.iload 4, 2) := by decide +kernel
theorem dX12_ask_84 : decode cX12_ask 84 = .ok (.ireturn, 1) := by decide +kernel
def kX12_ask_17 (n : Nat) : mK := i_cst (.int (-1)) (i_rI)
set_option maxRecDepth 20000 in
theorem okX12_ask_17 {E : mE} {X : State → Heap → Prop} {l : Launch} (hX : mXok E X) (n : Nat) : Sd E X l yX12_ask cX12_ask 7 (some .int) 8 0 0 0 0 17 (kX12_ask_17 n) := s_iconst dX12_ask_17 (by decide) (s_rI dX12_ask_18 (Nat.le_of_ble_eq_true rfl) (Nat.le_of_ble_eq_true rfl))
def kX12_ask_68 (n : Nat) (r36 : mK) : mK := i_inc 5 (1) (r36)
set_option maxRecDepth 20000 in
theorem okX12_ask_68 {E : mE} {X : State → Heap → Prop} {l : Launch} (hX : mXok E X) (n : Nat) {r36 : mK} (h36 : Sd E X l yX12_ask cX12_ask 7 (some .int) 8 0 0 0 0 36 r36) : Sd E X l yX12_ask cX12_ask 7 (some .int) 8 0 0 0 0 68 (kX12_ask_68 n r36) := s_iinc dX12_ask_68 (by decide) (s_goto dX12_ask_71 (by decide) h36)
def kX12_ask_84 (n : Nat) : mK := i_rI
set_option maxRecDepth 20000 in
theorem okX12_ask_84 {E : mE} {X : State → Heap → Prop} {l : Launch} (hX : mXok E X) (n : Nat) : Sd E X l yX12_ask cX12_ask 7 (some .int) 8 0 0 0 0 84 (kX12_ask_84 n) := s_rI dX12_ask_84 (Nat.le_of_ble_eq_true rfl) (Nat.le_of_ble_eq_true rfl)
def kX12_ask_36 (n : Nat) (r36 : mK) : mK := i_ldI 5 (i_cst (.int (20)) (i_c2 (fun x y => decide (y < x)) (i_ldI 1 (i_c0 (fun x => decide (¬ x = 0)) (i_ldI 4 (kX12_ask_84 n)) (i_ldI 3 ((kX12_ask_84 n))))) (i_ldA 0 (i_ldI 5 (i_cV 12 1 (FX12_mostAlike n) (i_stI 6 (i_ldI 6 (i_ldI 4 (i_c2 (fun x y => decide (x < y)) (i_ldI 5 (i_stI 3 (i_ldI 6 (i_stI 4 (kX12_ask_68 n r36))))) ((kX12_ask_68 n r36)))))))))))
set_option maxRecDepth 20000 in
theorem okX12_ask_36 {E : mE} {X : State → Heap → Prop} {l : Launch} (hX : mXok E X) (n : Nat) {r36 : mK} (h36 : Sd E X l yX12_ask cX12_ask 7 (some .int) 8 0 0 0 0 36 r36) : Sd E X l yX12_ask cX12_ask 7 (some .int) 8 0 0 0 0 36 (kX12_ask_36 n r36) := s_iload dX12_ask_36 (s_bipush dX12_ask_38 (by decide) (s_icgt dX12_ask_40 (by decide) (s_iload_n dX12_ask_74 rfl (s_ifne dX12_ask_75 (by decide) (s_iload dX12_ask_82 (okX12_ask_84 hX n)) (s_iload_n dX12_ask_78 rfl (s_goto dX12_ask_79 (by decide) (okX12_ask_84 hX n))))) (s_aload_n dX12_ask_43 rfl (s_iload dX12_ask_44 (s_cV dX12_ask_46 lMX12_496 bVX12_mostAlike rfl (CtX12_mostAlike hX n) (Nat.le_of_ble_eq_true rfl) (s_istore dX12_ask_49 (s_iload dX12_ask_51 (s_iload dX12_ask_53 (s_iclt dX12_ask_55 (by decide) (s_iload dX12_ask_61 (s_istore_n dX12_ask_63 rfl (s_iload dX12_ask_64 (s_istore dX12_ask_66 (okX12_ask_68 hX n h36))))) (s_goto dX12_ask_58 (by decide) (okX12_ask_68 hX n h36)))))) (Nat.le_of_ble_eq_true rfl) (Nat.le_of_ble_eq_true rfl))))))
def kX12_ask_0 (n : Nat) : mK := i_ldI 1 (i_cst (.int (0)) (i_cst (.int (1)) (i_cS 3 (FX12_isIn n) (i_c0 (fun x => decide (x = 0)) (kX12_ask_17 n) (i_ldA 0 (i_ldI 2 (i_cV 12 1 (FX12_fits n) (i_c0 (fun x => decide (¬ x = 0)) (i_ldA 0 (i_ldI 2 (i_cV 12 1 (FX12_layFitting n) (i_cst (.int (0)) (i_stI 3 (i_ldA 0 (i_cst (.int (0)) (i_cV 12 1 (FX12_mostAlike n) (i_stI 4 (i_cst (.int (1)) (i_stI 5 (mit (kX12_ask_36 n ) n)))))))))))) (kX12_ask_17 n)))))))))
set_option maxRecDepth 20000 in
theorem okX12_ask_0 {E : mE} {X : State → Heap → Prop} {l : Launch} (hX : mXok E X) (n : Nat) : Sd E X l yX12_ask cX12_ask 7 (some .int) 8 0 0 0 0 0 (kX12_ask_0 n) := s_iload_n dX12_ask_0 rfl (s_iconst dX12_ask_1 (by decide) (s_iconst dX12_ask_2 (by decide) (s_cS dX12_ask_3 lMX12_344 bSX12_isIn (CtX12_isIn hX n) (Nat.le_of_ble_eq_true rfl) (s_ifeq dX12_ask_6 (by decide) (okX12_ask_17 hX n) (s_aload_n dX12_ask_9 rfl (s_iload_n dX12_ask_10 rfl (s_cV dX12_ask_11 lMX12_487 bVX12_fits rfl (CtX12_fits hX n) (Nat.le_of_ble_eq_true rfl) (s_ifne dX12_ask_14 (by decide) (s_aload_n dX12_ask_19 rfl (s_iload_n dX12_ask_20 rfl (s_cV dX12_ask_21 lMX12_493 bVX12_layFitting rfl (CtX12_layFitting hX n) (Nat.le_of_ble_eq_true rfl) (s_iconst dX12_ask_24 (by decide) (s_istore_n dX12_ask_25 rfl (s_aload_n dX12_ask_26 rfl (s_iconst dX12_ask_27 (by decide) (s_cV dX12_ask_28 lMX12_496 bVX12_mostAlike rfl (CtX12_mostAlike hX n) (Nat.le_of_ble_eq_true rfl) (s_istore dX12_ask_31 (s_iconst dX12_ask_33 (by decide) (s_istore dX12_ask_34 (s_mit (fun _ hk => okX12_ask_36 hX n hk) n)))) (Nat.le_of_ble_eq_true rfl) (Nat.le_of_ble_eq_true rfl)))))) (Nat.le_of_ble_eq_true rfl) (Nat.le_of_ble_eq_true rfl)))) (okX12_ask_17 hX n)) (Nat.le_of_ble_eq_true rfl) (Nat.le_of_ble_eq_true rfl))))) (Nat.le_of_ble_eq_true rfl) (Nat.le_of_ble_eq_true rfl))))
def FX12_ask (n : Nat) : List Value → mM → Option mR := mfn 7 (kX12_ask_0 n)
theorem CtX12_ask {E : mE} {X : State → Heap → Prop} {l : Launch} (hX : mXok E X) (n : Nat) : Ct E X l yX12_ask cX12_ask 7 (some .int) 8 0 0 (FX12_ask n) := Ct_of (by decide) hX (okX12_ask_0 hX n)
theorem dX12_jam_0 : decode cX12_jam 0 = .ok (.aload_n 0, 1) := by decide +kernel
theorem dX12_jam_1 : decode cX12_jam 1 = .ok (.iconst 0, 1) := by decide +kernel
theorem dX12_jam_2 : decode cX12_jam 2 = .ok (.putfield 146, 3) := by decide +kernel
theorem dX12_jam_5 : decode cX12_jam 5 = .ok (.aload_n 0, 1) := by decide +kernel
theorem dX12_jam_6 : decode cX12_jam 6 = .ok (.iconst (-1), 1) := by decide +kernel
theorem dX12_jam_7 : decode cX12_jam 7 = .ok (.putfield 16, 3) := by decide +kernel
theorem dX12_jam_10 : decode cX12_jam 10 = .ok (.aload_n 0, 1) := by decide +kernel
theorem dX12_jam_11 : decode cX12_jam 11 = .ok (.aload_n 0, 1) := by decide +kernel
theorem dX12_jam_12 : decode cX12_jam 12 = .ok (.getfield 252, 3) := by decide +kernel
theorem dX12_jam_15 : decode cX12_jam 15 = .ok (.putfield 143, 3) := by decide +kernel
theorem dX12_jam_18 : decode cX12_jam 18 = .ok (.iconst 0, 1) := by decide +kernel
theorem dX12_jam_19 : decode cX12_jam 19 = .ok (.istore_n 1, 1) := by decide +kernel
theorem dX12_jam_20 : decode cX12_jam 20 = .ok (.iload_n 1, 1) := by decide +kernel
theorem dX12_jam_21 : decode cX12_jam 21 = .ok (.aload_n 0, 1) := by decide +kernel
theorem dX12_jam_22 : decode cX12_jam 22 = .ok (.getfield 143, 3) := by decide +kernel
theorem dX12_jam_25 : decode cX12_jam 25 = .ok (.if_icmp .ge 21, 3) := by decide +kernel
theorem dX12_jam_28 : decode cX12_jam 28 = .ok (.aload_n 0, 1) := by decide +kernel
theorem dX12_jam_29 : decode cX12_jam 29 = .ok (.getfield 13, 3) := by decide +kernel
theorem dX12_jam_32 : decode cX12_jam 32 = .ok (.iload_n 1, 1) := by decide +kernel
theorem dX12_jam_33 : decode cX12_jam 33 = .ok (.aload_n 0, 1) := by decide +kernel
theorem dX12_jam_34 : decode cX12_jam 34 = .ok (.getfield 7, 3) := by decide +kernel
theorem dX12_jam_37 : decode cX12_jam 37 = .ok (.iload_n 1, 1) := by decide +kernel
theorem dX12_jam_38 : decode cX12_jam 38 = .ok (.baload, 1) := by decide +kernel
theorem dX12_jam_39 : decode cX12_jam 39 = .ok (.bastore, 1) := by decide +kernel
theorem dX12_jam_40 : decode cX12_jam 40 = .ok (.iinc 1 1, 3) := by decide +kernel
theorem dX12_jam_43 : decode cX12_jam 43 = .ok (.goto (-23), 3) := by decide +kernel
theorem dX12_jam_46 : decode cX12_jam 46 = .ok (.aload_n 0, 1) := by decide +kernel
theorem dX12_jam_47 : decode cX12_jam 47 = .ok (.iconst 0, 1) := by decide +kernel
theorem dX12_jam_48 : decode cX12_jam 48 = .ok (.putfield 252, 3) := by decide +kernel
theorem dX12_jam_51 : decode cX12_jam 51 = .ok (.aload_n 0, 1) := by decide +kernel
theorem dX12_jam_52 : decode cX12_jam 52 = .ok (.iconst 0, 1) := by decide +kernel
theorem dX12_jam_53 : decode cX12_jam 53 = .ok (.putfield 187, 3) := by decide +kernel
theorem dX12_jam_56 : decode cX12_jam 56 = .ok (.aload_n 0, 1) := by decide +kernel
theorem dX12_jam_57 : decode cX12_jam 57 = .ok (.iconst 1, 1) := by decide +kernel
theorem dX12_jam_58 : decode cX12_jam 58 = .ok (.aload_n 0, 1) := by decide +kernel
theorem dX12_jam_59 : decode cX12_jam 59 = .ok (.getfield 255, 3) := by decide +kernel
theorem dX12_jam_62 : decode cX12_jam 62 = .ok (.isub, 1) := by decide +kernel
theorem dX12_jam_63 : decode cX12_jam 63 = .ok (.putfield 246, 3) := by decide +kernel
theorem dX12_jam_66 : decode cX12_jam 66 = .ok (.aload_n 0, 1) := by decide +kernel
theorem dX12_jam_67 : decode cX12_jam 67 = .ok (.invokevirtual 137, 3) := by decide +kernel
theorem dX12_jam_70 : decode cX12_jam 70 = .ok (.aload_n 0, 1) := by decide +kernel
theorem dX12_jam_71 : decode cX12_jam 71 = .ok (.invokevirtual 229, 3) := by decide +kernel
theorem dX12_jam_74 : decode cX12_jam 74 = .ok (.aload_n 0, 1) := by decide +kernel
theorem dX12_jam_75 : decode cX12_jam 75 = .ok (.invokevirtual 225, 3) := by decide +kernel
theorem dX12_jam_78 : decode cX12_jam 78 = .ok (.ifCond .eq 17, 3) := by decide +kernel
theorem dX12_jam_81 : decode cX12_jam 81 = .ok (.aload_n 0, 1) := by decide +kernel
theorem dX12_jam_82 : decode cX12_jam 82 = .ok (.getfield 197, 3) := by decide +kernel
theorem dX12_jam_85 : decode cX12_jam 85 = .ok (.ifCond .eq 10, 3) := by decide +kernel
theorem dX12_jam_88 : decode cX12_jam 88 = .ok (.aload_n 0, 1) := by decide +kernel
theorem dX12_jam_89 : decode cX12_jam 89 = .ok (.invokevirtual 258, 3) := by decide +kernel
theorem dX12_jam_92 : decode cX12_jam 92 = .ok (.goto (-18), 3) := by decide +kernel
theorem dX12_jam_95 : decode cX12_jam 95 = .ok (.aload_n 0, 1) := by decide +kernel
theorem dX12_jam_96 : decode cX12_jam 96 = .ok (.invokevirtual 225, 3) := by decide +kernel
theorem dX12_jam_99 : decode cX12_jam 99 = .ok (.ifCond .ne 5, 3) := by decide +kernel
theorem dX12_jam_102 : decode cX12_jam 102 = .ok (.iconst (-1), 1) := by decide +kernel
theorem dX12_jam_103 : decode cX12_jam 103 = .ok (.ireturn, 1) := by decide +kernel
theorem dX12_jam_104 : decode cX12_jam 104 = .ok (.aload_n 0, 1) := by decide +kernel
theorem dX12_jam_105 : decode cX12_jam 105 = .ok (.aload_n 0, 1) := by decide +kernel
theorem dX12_jam_106 : decode cX12_jam 106 = .ok (.getfield 246, 3) := by decide +kernel
theorem dX12_jam_109 : decode cX12_jam 109 = .ok (.putfield 255, 3) := by decide +kernel
theorem dX12_jam_112 : decode cX12_jam 112 = .ok (.aload_n 0, 1) := by decide +kernel
theorem dX12_jam_113 : decode cX12_jam 113 = .ok (.invokevirtual 140, 3) := by decide +kernel
theorem dX12_jam_116 : decode cX12_jam 116 = .ok (.aload_n 0, 1) := by decide +kernel
theorem dX12_jam_117 : decode cX12_jam 117 = .ok (.getfield 30, 3) := by decide +kernel
theorem dX12_jam_120 : decode cX12_jam 120 = .ok (.aload_n 0, 1) := by decide +kernel
theorem dX12_jam_121 : decode cX12_jam 121 = .ok (.getfield 255, 3) := by decide +kernel
theorem dX12_jam_124 : decode cX12_jam 124 = .ok (.iaload, 1) := by decide +kernel
theorem dX12_jam_125 : decode cX12_jam 125 = .ok (.ireturn, 1) := by decide +kernel
def kX12_jam_95 (n : Nat) : mK := i_ldA 0 (i_cV 12 0 (FX12_isGood n) (i_c0 (fun x => decide (¬ x = 0)) (i_ldA 0 (i_ldA 0 (i_gI 12 32 (i_pI 12 31 (i_ldA 0 (i_cV 12 0 (FX12_startAnew n) (i_ldA 0 (i_gA 12 14 (i_ldA 0 (i_gI 12 31 (i_al 0 (i_rI)))))))))))) (i_cst (.int (-1)) (i_rI))))
set_option maxRecDepth 20000 in
theorem okX12_jam_95 {E : mE} {X : State → Heap → Prop} {l : Launch} (hX : mXok E X) (n : Nat) : Sd E X l yX12_jam cX12_jam 2 (some .int) 8 0 0 0 0 95 (kX12_jam_95 n) := s_aload_n dX12_jam_95 rfl (s_cV dX12_jam_96 lMX12_225 bVX12_isGood rfl (CtX12_isGood hX n) (Nat.le_of_ble_eq_true rfl) (s_ifne dX12_jam_99 (by decide) (s_aload_n dX12_jam_104 rfl (s_aload_n dX12_jam_105 rfl (s_gI dX12_jam_106 lFX12_246 (by decide) (s_pI dX12_jam_109 lFX12_255 (s_aload_n dX12_jam_112 rfl (s_cV dX12_jam_113 lMX12_140 bVX12_startAnew rfl (CtX12_startAnew hX n) (Nat.le_of_ble_eq_true rfl) (s_aload_n dX12_jam_116 rfl (s_gA dX12_jam_117 lFX12_30 (s_aload_n dX12_jam_120 rfl (s_gI dX12_jam_121 lFX12_255 (by decide) (s_iald dX12_jam_124 (s_rI dX12_jam_125 (Nat.le_of_ble_eq_true rfl) (Nat.le_of_ble_eq_true rfl))))))) (Nat.le_of_ble_eq_true rfl) (Nat.le_of_ble_eq_true rfl))))))) (s_iconst dX12_jam_102 (by decide) (s_rI dX12_jam_103 (Nat.le_of_ble_eq_true rfl) (Nat.le_of_ble_eq_true rfl)))) (Nat.le_of_ble_eq_true rfl) (Nat.le_of_ble_eq_true rfl))
def kX12_jam_74 (n : Nat) (r74 : mK) : mK := i_ldA 0 (i_cV 12 0 (FX12_isGood n) (i_c0 (fun x => decide (x = 0)) (kX12_jam_95 n) (i_ldA 0 (i_gI 12 8 (i_c0 (fun x => decide (x = 0)) (kX12_jam_95 n) (i_ldA 0 (i_cV 12 0 (FX12_readLine n) (r74))))))))
set_option maxRecDepth 20000 in
theorem okX12_jam_74 {E : mE} {X : State → Heap → Prop} {l : Launch} (hX : mXok E X) (n : Nat) {r74 : mK} (h74 : Sd E X l yX12_jam cX12_jam 2 (some .int) 8 0 0 0 0 74 r74) : Sd E X l yX12_jam cX12_jam 2 (some .int) 8 0 0 0 0 74 (kX12_jam_74 n r74) := s_aload_n dX12_jam_74 rfl (s_cV dX12_jam_75 lMX12_225 bVX12_isGood rfl (CtX12_isGood hX n) (Nat.le_of_ble_eq_true rfl) (s_ifeq dX12_jam_78 (by decide) (okX12_jam_95 hX n) (s_aload_n dX12_jam_81 rfl (s_gI dX12_jam_82 lFX12_197 (by decide) (s_ifeq dX12_jam_85 (by decide) (okX12_jam_95 hX n) (s_aload_n dX12_jam_88 rfl (s_cV dX12_jam_89 lMX12_258 bVX12_readLine rfl (CtX12_readLine hX n) (Nat.le_of_ble_eq_true rfl) (s_goto dX12_jam_92 (by decide) h74) (Nat.le_of_ble_eq_true rfl) (Nat.le_of_ble_eq_true rfl))))))) (Nat.le_of_ble_eq_true rfl) (Nat.le_of_ble_eq_true rfl))
def kX12_jam_20 (n : Nat) (r20 : mK) : mK := i_ldI 1 (i_ldA 0 (i_gI 12 3 (i_c2 (fun x y => decide (y ≤ x)) (i_ldA 0 (i_cst (.int (0)) (i_pI 12 2 (i_ldA 0 (i_cst (.int (0)) (i_pI 12 7 (i_ldA 0 (i_cst (.int (1)) (i_ldA 0 (i_gI 12 31 (i_bin (fun x y => x - y) (i_pI 12 32 (i_ldA 0 (i_cV 12 0 (FX12_clearBank n) (i_ldA 0 (i_cV 12 0 (FX12_goOn n) (mit (kX12_jam_74 n ) n))))))))))))))))) (i_ldA 0 (i_gA 12 1 (i_ldI 1 (i_ldA 0 (i_gA 12 0 (i_ldI 1 (i_al 1 (i_as 1 (i_inc 1 (1) (r20)))))))))))))
set_option maxRecDepth 20000 in
theorem okX12_jam_20 {E : mE} {X : State → Heap → Prop} {l : Launch} (hX : mXok E X) (n : Nat) {r20 : mK} (h20 : Sd E X l yX12_jam cX12_jam 2 (some .int) 8 0 0 0 0 20 r20) : Sd E X l yX12_jam cX12_jam 2 (some .int) 8 0 0 0 0 20 (kX12_jam_20 n r20) := s_iload_n dX12_jam_20 rfl (s_aload_n dX12_jam_21 rfl (s_gI dX12_jam_22 lFX12_143 (by decide) (s_icge dX12_jam_25 (by decide) (s_aload_n dX12_jam_46 rfl (s_iconst dX12_jam_47 (by decide) (s_pI dX12_jam_48 lFX12_252 (s_aload_n dX12_jam_51 rfl (s_iconst dX12_jam_52 (by decide) (s_pI dX12_jam_53 lFX12_187 (s_aload_n dX12_jam_56 rfl (s_iconst dX12_jam_57 (by decide) (s_aload_n dX12_jam_58 rfl (s_gI dX12_jam_59 lFX12_255 (by decide) (s_isub dX12_jam_62 (s_pI dX12_jam_63 lFX12_246 (s_aload_n dX12_jam_66 rfl (s_cV dX12_jam_67 lMX12_137 bVX12_clearBank rfl (CtX12_clearBank hX n) (Nat.le_of_ble_eq_true rfl) (s_aload_n dX12_jam_70 rfl (s_cV dX12_jam_71 lMX12_229 bVX12_goOn rfl (CtX12_goOn hX n) (Nat.le_of_ble_eq_true rfl) (s_mit (fun _ hk => okX12_jam_74 hX n hk) n) (Nat.le_of_ble_eq_true rfl) (Nat.le_of_ble_eq_true rfl))) (Nat.le_of_ble_eq_true rfl) (Nat.le_of_ble_eq_true rfl))))))))))))))) (s_aload_n dX12_jam_28 rfl (s_gA dX12_jam_29 lFX12_13 (s_iload_n dX12_jam_32 rfl (s_aload_n dX12_jam_33 rfl (s_gA dX12_jam_34 lFX12_7 (s_iload_n dX12_jam_37 rfl (s_bald dX12_jam_38 (s_bast dX12_jam_39 (s_iinc dX12_jam_40 (by decide) (s_goto dX12_jam_43 (by decide) h20)))))))))))))
def kX12_jam_0 (n : Nat) : mK := i_ldA 0 (i_cst (.int (0)) (i_pI 12 4 (i_ldA 0 (i_cst (.int (-1)) (i_pI 12 5 (i_ldA 0 (i_ldA 0 (i_gI 12 2 (i_pI 12 3 (i_cst (.int (0)) (i_stI 1 (mit (kX12_jam_20 n ) n))))))))))))
set_option maxRecDepth 20000 in
theorem okX12_jam_0 {E : mE} {X : State → Heap → Prop} {l : Launch} (hX : mXok E X) (n : Nat) : Sd E X l yX12_jam cX12_jam 2 (some .int) 8 0 0 0 0 0 (kX12_jam_0 n) := s_aload_n dX12_jam_0 rfl (s_iconst dX12_jam_1 (by decide) (s_pI dX12_jam_2 lFX12_146 (s_aload_n dX12_jam_5 rfl (s_iconst dX12_jam_6 (by decide) (s_pI dX12_jam_7 lFX12_16 (s_aload_n dX12_jam_10 rfl (s_aload_n dX12_jam_11 rfl (s_gI dX12_jam_12 lFX12_252 (by decide) (s_pI dX12_jam_15 lFX12_143 (s_iconst dX12_jam_18 (by decide) (s_istore_n dX12_jam_19 rfl (s_mit (fun _ hk => okX12_jam_20 hX n hk) n))))))))))))
def FX12_jam (n : Nat) : List Value → mM → Option mR := mfn 2 (kX12_jam_0 n)
theorem CtX12_jam {E : mE} {X : State → Heap → Prop} {l : Launch} (hX : mXok E X) (n : Nat) : Ct E X l yX12_jam cX12_jam 2 (some .int) 8 0 0 (FX12_jam n) := Ct_of (by decide) hX (okX12_jam_0 hX n)
theorem dX12_sure_0 : decode cX12_sure 0 = .ok (.iload_n 1, 1) := by decide +kernel
theorem dX12_sure_1 : decode cX12_sure 1 = .ok (.iconst 0, 1) := by decide +kernel
theorem dX12_sure_2 : decode cX12_sure 2 = .ok (.iconst 1, 1) := by decide +kernel
theorem dX12_sure_3 : decode cX12_sure 3 = .ok (.invokestatic 344, 3) := by decide +kernel
theorem dX12_sure_6 : decode cX12_sure 6 = .ok (.ifCond .eq 11, 3) := by decide +kernel
theorem dX12_sure_9 : decode cX12_sure 9 = .ok (.aload_n 0, 1) := by decide +kernel
theorem dX12_sure_10 : decode cX12_sure 10 = .ok (.iload_n 2, 1) := by decide +kernel
theorem dX12_sure_11 : decode cX12_sure 11 = .ok (.invokevirtual 487, 3) := by decide +kernel
theorem dX12_sure_14 : decode cX12_sure 14 = .ok (.ifCond .ne 5, 3) := by decide +kernel
theorem dX12_sure_17 : decode cX12_sure 17 = .ok (.iconst (-1), 1) := by decide +kernel
theorem dX12_sure_18 : decode cX12_sure 18 = .ok (.ireturn, 1) := by decide +kernel
theorem dX12_sure_19 : decode cX12_sure 19 = .ok (.iload_n 1, 1) := by decide +kernel
theorem dX12_sure_20 : decode cX12_sure 20 = .ok (.ifCond .ne 7, 3) := by decide +kernel
theorem dX12_sure_23 : decode cX12_sure 23 = .ok (.iconst 0, 1) := by decide +kernel
theorem dX12_sure_24 : decode cX12_sure 24 = .ok (.goto 5, 3) := by decide +kernel
theorem dX12_sure_27 : decode cX12_sure 27 = .ok (.bipush 99, 2) := by decide +kernel
theorem dX12_sure_29 : decode cX12_sure 29 = .ok (.istore_n 3, 1) := by decide +kernel
theorem dX12_sure_30 : decode cX12_sure 30 = .ok (.aload_n 0, 1) := by decide +kernel
theorem dX12_sure_31 : decode cX12_sure 31 = .ok (.iload_n 3, 1) := by decide +kernel
theorem dX12_sure_32 : decode cX12_sure 32 = .ok (.iload_n 2, 1) := by decide +kernel
theorem dX12_sure_33 : decode cX12_sure 33 = .ok (.invokevirtual 484, 3) := by decide +kernel
theorem dX12_sure_36 : decode cX12_sure 36 = .ok (.ifCond .ne 18, 3) := by decide +kernel
theorem dX12_sure_39 : decode cX12_sure 39 = .ok (.iload_n 3, 1) := by decide +kernel
theorem dX12_sure_40 : decode cX12_sure 40 = .ok (.iload_n 1, 1) := by decide +kernel
theorem dX12_sure_41 : decode cX12_sure 41 = .ok (.ifCond .ne 7, 3) := by decide +kernel
theorem dX12_sure_44 : decode cX12_sure 44 = .ok (.iconst 1, 1) := by decide +kernel
theorem dX12_sure_45 : decode cX12_sure 45 = .ok (.goto 4, 3) := by decide +kernel
theorem dX12_sure_48 : decode cX12_sure 48 = .ok (.iconst (-1), 1) := by decide +kernel
theorem dX12_sure_49 : decode cX12_sure 49 = .ok (.iadd, 1) := by decide +kernel
theorem dX12_sure_50 : decode cX12_sure 50 = .ok (.istore_n 3, 1) := by decide +kernel
theorem dX12_sure_51 : decode cX12_sure 51 = .ok (.goto (-21), 3) := by decide +kernel
theorem dX12_sure_54 : decode cX12_sure 54 = .ok (.iload_n 3, 1) := by decide +kernel
theorem dX12_sure_55 : decode cX12_sure 55 = .ok (.ireturn, 1) := by decide +kernel
def kX12_sure_17 (n : Nat) : mK := i_cst (.int (-1)) (i_rI)
set_option maxRecDepth 20000 in
theorem okX12_sure_17 {E : mE} {X : State → Heap → Prop} {l : Launch} (hX : mXok E X) (n : Nat) : Sd E X l yX12_sure cX12_sure 4 (some .int) 8 0 0 0 0 17 (kX12_sure_17 n) := s_iconst dX12_sure_17 (by decide) (s_rI dX12_sure_18 (Nat.le_of_ble_eq_true rfl) (Nat.le_of_ble_eq_true rfl))
def kX12_sure_49 (n : Nat) (r30 : mK) : mK := i_bin (fun x y => x + y) (i_stI 3 (r30))
set_option maxRecDepth 20000 in
theorem okX12_sure_49 {E : mE} {X : State → Heap → Prop} {l : Launch} (hX : mXok E X) (n : Nat) {r30 : mK} (h30 : Sd E X l yX12_sure cX12_sure 4 (some .int) 8 0 0 0 0 30 r30) : Sd E X l yX12_sure cX12_sure 4 (some .int) 8 0 0 0 0 49 (kX12_sure_49 n r30) := s_iadd dX12_sure_49 (s_istore_n dX12_sure_50 rfl (s_goto dX12_sure_51 (by decide) h30))
def kX12_sure_30 (n : Nat) (r30 : mK) : mK := i_ldA 0 (i_ldI 3 (i_ldI 2 (i_cV 12 2 (FX12_doesFit n) (i_c0 (fun x => decide (¬ x = 0)) (i_ldI 3 (i_rI)) (i_ldI 3 (i_ldI 1 (i_c0 (fun x => decide (¬ x = 0)) (i_cst (.int (-1)) (kX12_sure_49 n r30)) (i_cst (.int (1)) ((kX12_sure_49 n r30))))))))))
set_option maxRecDepth 20000 in
theorem okX12_sure_30 {E : mE} {X : State → Heap → Prop} {l : Launch} (hX : mXok E X) (n : Nat) {r30 : mK} (h30 : Sd E X l yX12_sure cX12_sure 4 (some .int) 8 0 0 0 0 30 r30) : Sd E X l yX12_sure cX12_sure 4 (some .int) 8 0 0 0 0 30 (kX12_sure_30 n r30) := s_aload_n dX12_sure_30 rfl (s_iload_n dX12_sure_31 rfl (s_iload_n dX12_sure_32 rfl (s_cV dX12_sure_33 lMX12_484 bVX12_doesFit rfl (CtX12_doesFit hX n) (Nat.le_of_ble_eq_true rfl) (s_ifne dX12_sure_36 (by decide) (s_iload_n dX12_sure_54 rfl (s_rI dX12_sure_55 (Nat.le_of_ble_eq_true rfl) (Nat.le_of_ble_eq_true rfl))) (s_iload_n dX12_sure_39 rfl (s_iload_n dX12_sure_40 rfl (s_ifne dX12_sure_41 (by decide) (s_iconst dX12_sure_48 (by decide) (okX12_sure_49 hX n h30)) (s_iconst dX12_sure_44 (by decide) (s_goto dX12_sure_45 (by decide) (okX12_sure_49 hX n h30))))))) (Nat.le_of_ble_eq_true rfl) (Nat.le_of_ble_eq_true rfl))))
def kX12_sure_29 (n : Nat) : mK := i_stI 3 (mit (kX12_sure_30 n ) n)
set_option maxRecDepth 20000 in
theorem okX12_sure_29 {E : mE} {X : State → Heap → Prop} {l : Launch} (hX : mXok E X) (n : Nat) : Sd E X l yX12_sure cX12_sure 4 (some .int) 8 0 0 0 0 29 (kX12_sure_29 n) := s_istore_n dX12_sure_29 rfl (s_mit (fun _ hk => okX12_sure_30 hX n hk) n)
def kX12_sure_0 (n : Nat) : mK := i_ldI 1 (i_cst (.int (0)) (i_cst (.int (1)) (i_cS 3 (FX12_isIn n) (i_c0 (fun x => decide (x = 0)) (kX12_sure_17 n) (i_ldA 0 (i_ldI 2 (i_cV 12 1 (FX12_fits n) (i_c0 (fun x => decide (¬ x = 0)) (i_ldI 1 (i_c0 (fun x => decide (¬ x = 0)) (i_cst (.int (99)) (kX12_sure_29 n)) (i_cst (.int (0)) ((kX12_sure_29 n))))) (kX12_sure_17 n)))))))))
set_option maxRecDepth 20000 in
theorem okX12_sure_0 {E : mE} {X : State → Heap → Prop} {l : Launch} (hX : mXok E X) (n : Nat) : Sd E X l yX12_sure cX12_sure 4 (some .int) 8 0 0 0 0 0 (kX12_sure_0 n) := s_iload_n dX12_sure_0 rfl (s_iconst dX12_sure_1 (by decide) (s_iconst dX12_sure_2 (by decide) (s_cS dX12_sure_3 lMX12_344 bSX12_isIn (CtX12_isIn hX n) (Nat.le_of_ble_eq_true rfl) (s_ifeq dX12_sure_6 (by decide) (okX12_sure_17 hX n) (s_aload_n dX12_sure_9 rfl (s_iload_n dX12_sure_10 rfl (s_cV dX12_sure_11 lMX12_487 bVX12_fits rfl (CtX12_fits hX n) (Nat.le_of_ble_eq_true rfl) (s_ifne dX12_sure_14 (by decide) (s_iload_n dX12_sure_19 rfl (s_ifne dX12_sure_20 (by decide) (s_bipush dX12_sure_27 (by decide) (okX12_sure_29 hX n)) (s_iconst dX12_sure_23 (by decide) (s_goto dX12_sure_24 (by decide) (okX12_sure_29 hX n))))) (okX12_sure_17 hX n)) (Nat.le_of_ble_eq_true rfl) (Nat.le_of_ble_eq_true rfl))))) (Nat.le_of_ble_eq_true rfl) (Nat.le_of_ble_eq_true rfl))))
def FX12_sure (n : Nat) : List Value → mM → Option mR := mfn 4 (kX12_sure_0 n)
theorem CtX12_sure {E : mE} {X : State → Heap → Prop} {l : Launch} (hX : mXok E X) (n : Nat) : Ct E X l yX12_sure cX12_sure 4 (some .int) 8 0 0 (FX12_sure n) := Ct_of (by decide) hX (okX12_sure_0 hX n)
theorem dX9_cut_0 : decode cX9_cut 0 = .ok (.aload_n 0, 1) := by decide +kernel
theorem dX9_cut_1 : decode cX9_cut 1 = .ok (.iload_n 1, 1) := by decide +kernel
theorem dX9_cut_2 : decode cX9_cut 2 = .ok (.putfield 21, 3) := by decide +kernel
theorem dX9_cut_5 : decode cX9_cut 5 = .ok (.aload_n 0, 1) := by decide +kernel
theorem dX9_cut_6 : decode cX9_cut 6 = .ok (.iconst 0, 1) := by decide +kernel
theorem dX9_cut_7 : decode cX9_cut 7 = .ok (.putfield 25, 3) := by decide +kernel
theorem dX9_cut_10 : decode cX9_cut 10 = .ok (.iconst 0, 1) := by decide +kernel
theorem dX9_cut_11 : decode cX9_cut 11 = .ok (.istore_n 2, 1) := by decide +kernel
theorem dX9_cut_12 : decode cX9_cut 12 = .ok (.iconst 3, 1) := by decide +kernel
theorem dX9_cut_13 : decode cX9_cut 13 = .ok (.istore_n 3, 1) := by decide +kernel
theorem dX9_cut_14 : decode cX9_cut 14 = .ok (.iconst 0, 1) := by decide +kernel
theorem dX9_cut_15 : decode cX9_cut 15 = .ok (.istore 4, 2) := by decide +kernel
theorem dX9_cut_17 : decode cX9_cut 17 = .ok (.iload 4, 2) := by decide +kernel
theorem dX9_cut_19 : decode cX9_cut 19 = .ok (.aload_n 0, 1) := by decide +kernel
theorem dX9_cut_20 : decode cX9_cut 20 = .ok (.getfield 9, 3) := by decide +kernel
theorem dX9_cut_23 : decode cX9_cut 23 = .ok (.arraylength, 1) := by decide +kernel
theorem dX9_cut_24 : decode cX9_cut 24 = .ok (.if_icmp .ge 70, 3) := by decide +kernel
theorem dX9_cut_27 : decode cX9_cut 27 = .ok (.iload_n 3, 1) := by decide +kernel
theorem dX9_cut_28 : decode cX9_cut 28 = .ok (.ifCond .eq 66, 3) := by decide +kernel
theorem dX9_cut_31 : decode cX9_cut 31 = .ok (.iload_n 3, 1) := by decide +kernel
theorem dX9_cut_32 : decode cX9_cut 32 = .ok (.iconst 1, 1) := by decide +kernel
theorem dX9_cut_33 : decode cX9_cut 33 = .ok (.if_icmp .eq 61, 3) := by decide +kernel
theorem dX9_cut_36 : decode cX9_cut 36 = .ok (.aload_n 0, 1) := by decide +kernel
theorem dX9_cut_37 : decode cX9_cut 37 = .ok (.iload_n 2, 1) := by decide +kernel
theorem dX9_cut_38 : decode cX9_cut 38 = .ok (.invokevirtual 28, 3) := by decide +kernel
theorem dX9_cut_41 : decode cX9_cut 41 = .ok (.istore_n 2, 1) := by decide +kernel
theorem dX9_cut_42 : decode cX9_cut 42 = .ok (.aload_n 0, 1) := by decide +kernel
theorem dX9_cut_43 : decode cX9_cut 43 = .ok (.iload_n 2, 1) := by decide +kernel
theorem dX9_cut_44 : decode cX9_cut 44 = .ok (.invokevirtual 32, 3) := by decide +kernel
theorem dX9_cut_47 : decode cX9_cut 47 = .ok (.istore 5, 2) := by decide +kernel
theorem dX9_cut_49 : decode cX9_cut 49 = .ok (.aload_n 0, 1) := by decide +kernel
theorem dX9_cut_50 : decode cX9_cut 50 = .ok (.iload_n 2, 1) := by decide +kernel
theorem dX9_cut_51 : decode cX9_cut 51 = .ok (.iload 5, 2) := by decide +kernel
theorem dX9_cut_53 : decode cX9_cut 53 = .ok (.invokevirtual 35, 3) := by decide +kernel
theorem dX9_cut_56 : decode cX9_cut 56 = .ok (.istore_n 3, 1) := by decide +kernel
theorem dX9_cut_57 : decode cX9_cut 57 = .ok (.aload_n 0, 1) := by decide +kernel
theorem dX9_cut_58 : decode cX9_cut 58 = .ok (.getfield 9, 3) := by decide +kernel
theorem dX9_cut_61 : decode cX9_cut 61 = .ok (.iload 4, 2) := by decide +kernel
theorem dX9_cut_63 : decode cX9_cut 63 = .ok (.iload_n 3, 1) := by decide +kernel
theorem dX9_cut_64 : decode cX9_cut 64 = .ok (.invokestatic 39, 3) := by decide +kernel
theorem dX9_cut_67 : decode cX9_cut 67 = .ok (.aload_n 0, 1) := by decide +kernel
theorem dX9_cut_68 : decode cX9_cut 68 = .ok (.getfield 15, 3) := by decide +kernel
theorem dX9_cut_71 : decode cX9_cut 71 = .ok (.iload 4, 2) := by decide +kernel
theorem dX9_cut_73 : decode cX9_cut 73 = .ok (.iload_n 2, 1) := by decide +kernel
theorem dX9_cut_74 : decode cX9_cut 74 = .ok (.invokestatic 39, 3) := by decide +kernel
theorem dX9_cut_77 : decode cX9_cut 77 = .ok (.aload_n 0, 1) := by decide +kernel
theorem dX9_cut_78 : decode cX9_cut 78 = .ok (.iload 4, 2) := by decide +kernel
theorem dX9_cut_80 : decode cX9_cut 80 = .ok (.iconst 1, 1) := by decide +kernel
theorem dX9_cut_81 : decode cX9_cut 81 = .ok (.iadd, 1) := by decide +kernel
theorem dX9_cut_82 : decode cX9_cut 82 = .ok (.putfield 25, 3) := by decide +kernel
theorem dX9_cut_85 : decode cX9_cut 85 = .ok (.iload 5, 2) := by decide +kernel
theorem dX9_cut_87 : decode cX9_cut 87 = .ok (.istore_n 2, 1) := by decide +kernel
theorem dX9_cut_88 : decode cX9_cut 88 = .ok (.iinc 4 1, 3) := by decide +kernel
theorem dX9_cut_91 : decode cX9_cut 91 = .ok (.goto (-74), 3) := by decide +kernel
theorem dX9_cut_94 : decode cX9_cut 94 = .ok (.return_, 1) := by decide +kernel
def kX9_cut_94 (n : Nat) : mK := i_rV
set_option maxRecDepth 20000 in
theorem okX9_cut_94 {E : mE} {X : State → Heap → Prop} {l : Launch} (hX : mXok E X) (n : Nat) : Sd E X l yX9_cut cX9_cut 6 none 8 0 0 0 0 94 (kX9_cut_94 n) := s_rV dX9_cut_94 (Nat.le_of_ble_eq_true rfl) (Nat.le_of_ble_eq_true rfl)
def kX9_cut_58 (n : Nat) (r17 : mK) : mK := i_gA 9 1 (i_ldI 4 (i_ldI 3 (i_cS 3 (FX11_set n) (i_ldA 0 (i_gA 9 2 (i_ldI 4 (i_ldI 2 (i_cS 3 (FX11_set n) (i_ldA 0 (i_ldI 4 (i_cst (.int (1)) (i_bin (fun x y => x + y) (i_pI 9 4 (i_ldI 5 (i_stI 2 (i_inc 4 (1) (r17)))))))))))))))))
set_option maxRecDepth 20000 in
theorem okX9_cut_58 {E : mE} {X : State → Heap → Prop} {l : Launch} (hX : mXok E X) (n : Nat) {r17 : mK} (h17 : Sd E X l yX9_cut cX9_cut 6 none 8 0 0 0 0 17 r17) : Sd E X l yX9_cut cX9_cut 6 none 8 0 0 0 0 58 (kX9_cut_58 n r17) := s_gA dX9_cut_58 lFX9_9 (s_iload dX9_cut_61 (s_iload_n dX9_cut_63 rfl (s_cN dX9_cut_64 lNX9_39 bSX11_set (CtX11_set hX n) (Nat.le_of_ble_eq_true rfl) (s_aload_n dX9_cut_67 rfl (s_gA dX9_cut_68 lFX9_15 (s_iload dX9_cut_71 (s_iload_n dX9_cut_73 rfl (s_cN dX9_cut_74 lNX9_39 bSX11_set (CtX11_set hX n) (Nat.le_of_ble_eq_true rfl) (s_aload_n dX9_cut_77 rfl (s_iload dX9_cut_78 (s_iconst dX9_cut_80 (by decide) (s_iadd dX9_cut_81 (s_pI dX9_cut_82 lFX9_25 (s_iload dX9_cut_85 (s_istore_n dX9_cut_87 rfl (s_iinc dX9_cut_88 (by decide) (s_goto dX9_cut_91 (by decide) h17))))))))) (Nat.le_of_ble_eq_true rfl) (Nat.le_of_ble_eq_true rfl)))))) (Nat.le_of_ble_eq_true rfl) (Nat.le_of_ble_eq_true rfl))))
def kX9_cut_17 (n : Nat) (r17 : mK) : mK := i_ldI 4 (i_ldA 0 (i_gA 9 1 (i_len (i_c2 (fun x y => decide (y ≤ x)) (kX9_cut_94 n) (i_ldI 3 (i_c0 (fun x => decide (x = 0)) (kX9_cut_94 n) (i_ldI 3 (i_cst (.int (1)) (i_c2 (fun x y => decide (x = y)) (kX9_cut_94 n) (i_ldA 0 (i_ldI 2 (i_cV 9 1 (FX9_behindBlanks n) (i_stI 2 (i_ldA 0 (i_ldI 2 (i_cV 9 1 (FX9_behindToken n) (i_stI 5 (i_ldA 0 (i_ldI 2 (i_ldI 5 (i_cV 9 2 (FX9_kindOf n) (i_stI 3 (i_ldA 0 (kX9_cut_58 n r17))))))))))))))))))))))))
set_option maxRecDepth 20000 in
theorem okX9_cut_17 {E : mE} {X : State → Heap → Prop} {l : Launch} (hX : mXok E X) (n : Nat) {r17 : mK} (h17 : Sd E X l yX9_cut cX9_cut 6 none 8 0 0 0 0 17 r17) : Sd E X l yX9_cut cX9_cut 6 none 8 0 0 0 0 17 (kX9_cut_17 n r17) := s_iload dX9_cut_17 (s_aload_n dX9_cut_19 rfl (s_gA dX9_cut_20 lFX9_9 (s_len dX9_cut_23 (s_icge dX9_cut_24 (by decide) (okX9_cut_94 hX n) (s_iload_n dX9_cut_27 rfl (s_ifeq dX9_cut_28 (by decide) (okX9_cut_94 hX n) (s_iload_n dX9_cut_31 rfl (s_iconst dX9_cut_32 (by decide) (s_iceq dX9_cut_33 (by decide) (okX9_cut_94 hX n) (s_aload_n dX9_cut_36 rfl (s_iload_n dX9_cut_37 rfl (s_cV dX9_cut_38 lMX9_28 bVX9_behindBlanks rfl (CtX9_behindBlanks hX n) (Nat.le_of_ble_eq_true rfl) (s_istore_n dX9_cut_41 rfl (s_aload_n dX9_cut_42 rfl (s_iload_n dX9_cut_43 rfl (s_cV dX9_cut_44 lMX9_32 bVX9_behindToken rfl (CtX9_behindToken hX n) (Nat.le_of_ble_eq_true rfl) (s_istore dX9_cut_47 (s_aload_n dX9_cut_49 rfl (s_iload_n dX9_cut_50 rfl (s_iload dX9_cut_51 (s_cV dX9_cut_53 lMX9_35 bVX9_kindOf rfl (CtX9_kindOf hX n) (Nat.le_of_ble_eq_true rfl) (s_istore_n dX9_cut_56 rfl (s_aload_n dX9_cut_57 rfl (okX9_cut_58 hX n h17))) (Nat.le_of_ble_eq_true rfl) (Nat.le_of_ble_eq_true rfl)))))) (Nat.le_of_ble_eq_true rfl) (Nat.le_of_ble_eq_true rfl))))) (Nat.le_of_ble_eq_true rfl) (Nat.le_of_ble_eq_true rfl)))))))))))))
def kX9_cut_0 (n : Nat) : mK := i_ldA 0 (i_ldI 1 (i_pI 9 3 (i_ldA 0 (i_cst (.int (0)) (i_pI 9 4 (i_cst (.int (0)) (i_stI 2 (i_cst (.int (3)) (i_stI 3 (i_cst (.int (0)) (i_stI 4 (mit (kX9_cut_17 n ) n))))))))))))
set_option maxRecDepth 20000 in
theorem okX9_cut_0 {E : mE} {X : State → Heap → Prop} {l : Launch} (hX : mXok E X) (n : Nat) : Sd E X l yX9_cut cX9_cut 6 none 8 0 0 0 0 0 (kX9_cut_0 n) := s_aload_n dX9_cut_0 rfl (s_iload_n dX9_cut_1 rfl (s_pI dX9_cut_2 lFX9_21 (s_aload_n dX9_cut_5 rfl (s_iconst dX9_cut_6 (by decide) (s_pI dX9_cut_7 lFX9_25 (s_iconst dX9_cut_10 (by decide) (s_istore_n dX9_cut_11 rfl (s_iconst dX9_cut_12 (by decide) (s_istore_n dX9_cut_13 rfl (s_iconst dX9_cut_14 (by decide) (s_istore dX9_cut_15 (s_mit (fun _ hk => okX9_cut_17 hX n hk) n))))))))))))
def FX9_cut (n : Nat) : List Value → mM → Option mR := mfn 6 (kX9_cut_0 n)
theorem CtX9_cut {E : mE} {X : State → Heap → Prop} {l : Launch} (hX : mXok E X) (n : Nat) : Ct E X l yX9_cut cX9_cut 6 none 8 0 0 (FX9_cut n) := Ct_of (by decide) hX (okX9_cut_0 hX n)
