theorem dX11_until_0 : decode cX11_until 0 = .ok (.aload_n 0, 1) := by decide +kernel
theorem dX11_until_1 : decode cX11_until 1 = .ok (.getfield 37, 3) := by decide +kernel
theorem dX11_until_4 : decode cX11_until 4 = .ok (.iload_n 1, 1) := by decide +kernel
theorem dX11_until_5 : decode cX11_until 5 = .ok (.invokevirtual 167, 3) := by decide +kernel
theorem dX11_until_8 : decode cX11_until 8 = .ok (.ifCond .ne 5, 3) := by decide +kernel
theorem dX11_until_11 : decode cX11_until 11 = .ok (.iconst (-1), 1) := by decide +kernel
theorem dX11_until_12 : decode cX11_until 12 = .ok (.ireturn, 1) := by decide +kernel
theorem dX11_until_13 : decode cX11_until 13 = .ok (.aload_n 0, 1) := by decide +kernel
theorem dX11_until_14 : decode cX11_until 14 = .ok (.getfield 49, 3) := by decide +kernel
theorem dX11_until_17 : decode cX11_until 17 = .ok (.invokevirtual 213, 3) := by decide +kernel
theorem dX11_until_20 : decode cX11_until 20 = .ok (.aload_n 0, 1) := by decide +kernel
theorem dX11_until_21 : decode cX11_until 21 = .ok (.getfield 49, 3) := by decide +kernel
theorem dX11_until_24 : decode cX11_until 24 = .ok (.aload_n 0, 1) := by decide +kernel
theorem dX11_until_25 : decode cX11_until 25 = .ok (.getfield 49, 3) := by decide +kernel
theorem dX11_until_28 : decode cX11_until 28 = .ok (.getfield 216, 3) := by decide +kernel
theorem dX11_until_31 : decode cX11_until 31 = .ok (.invokevirtual 219, 3) := by decide +kernel
theorem dX11_until_34 : decode cX11_until 34 = .ok (.iload_n 1, 1) := by decide +kernel
theorem dX11_until_35 : decode cX11_until 35 = .ok (.invokestatic 246, 3) := by decide +kernel
theorem dX11_until_38 : decode cX11_until 38 = .ok (.iand, 1) := by decide +kernel
theorem dX11_until_39 : decode cX11_until 39 = .ok (.ifCond .eq 5, 3) := by decide +kernel
theorem dX11_until_42 : decode cX11_until 42 = .ok (.iconst (-1), 1) := by decide +kernel
theorem dX11_until_43 : decode cX11_until 43 = .ok (.ireturn, 1) := by decide +kernel
theorem dX11_until_44 : decode cX11_until 44 = .ok (.aload_n 0, 1) := by decide +kernel
theorem dX11_until_45 : decode cX11_until 45 = .ok (.getfield 49, 3) := by decide +kernel
theorem dX11_until_48 : decode cX11_until 48 = .ok (.iload_n 1, 1) := by decide +kernel
theorem dX11_until_49 : decode cX11_until 49 = .ok (.invokevirtual 243, 3) := by decide +kernel
theorem dX11_until_52 : decode cX11_until 52 = .ok (.invokestatic 229, 3) := by decide +kernel
theorem dX11_until_55 : decode cX11_until 55 = .ok (.iconst 1, 1) := by decide +kernel
theorem dX11_until_56 : decode cX11_until 56 = .ok (.iadd, 1) := by decide +kernel
theorem dX11_until_57 : decode cX11_until 57 = .ok (.ireturn, 1) := by decide +kernel
def kX11_until_56 (n : Nat) : mK := i_bin (fun x y => x + y) (i_rI)
set_option maxRecDepth 20000 in
theorem okX11_until_56 {E : mE} {X : State → Heap → Prop} {l : Launch} (hX : mXok E X) (n : Nat) : Sd E X l yX11_until cX11_until 2 (some .int) 6 0 0 0 0 56 (kX11_until_56 n) := s_iadd dX11_until_56 (s_rI dX11_until_57 (Nat.le_of_ble_eq_true rfl) (Nat.le_of_ble_eq_true rfl))
def kX11_until_0 (n : Nat) : mK := i_ldA 0 (i_gA 11 5 (i_ldI 1 (i_cV 8 1 (FX8_isIn n) (i_c0 (fun x => decide (¬ x = 0)) (i_ldA 0 (i_gA 11 7 (i_cV 0 0 (FX0_look n) (i_ldA 0 (i_gA 11 7 (i_ldA 0 (i_gA 11 7 (i_gI 0 2 (i_cV 0 1 (FX0_stuckOf n) (i_ldI 1 (i_cS 1 (FX11_bit n) (i_bin (fun x y => x &&& y) (i_c0 (fun x => decide (x = 0)) (i_ldA 0 (i_gA 11 7 (i_ldI 1 (i_cV 0 1 (FX0_allAheadOf n) (i_cS 1 (FJ6_bitCount_0f7a4 n) (i_cst (.int (1)) (kX11_until_56 n))))))) (i_cst (.int (-1)) (i_rI))))))))))))))) (i_cst (.int (-1)) (i_rI))))))
set_option maxRecDepth 20000 in
theorem okX11_until_0 {E : mE} {X : State → Heap → Prop} {l : Launch} (hX : mXok E X) (n : Nat) : Sd E X l yX11_until cX11_until 2 (some .int) 6 0 0 0 0 0 (kX11_until_0 n) := s_aload_n dX11_until_0 rfl (s_gA dX11_until_1 lFX11_37 (s_iload_n dX11_until_4 rfl (s_cV dX11_until_5 lMX11_167 bVX8_isIn rfl (CtX8_isIn hX n) (Nat.le_of_ble_eq_true rfl) (s_ifne dX11_until_8 (by decide) (s_aload_n dX11_until_13 rfl (s_gA dX11_until_14 lFX11_49 (s_cV dX11_until_17 lMX11_213 bVX0_look rfl (CtX0_look hX n) (Nat.le_of_ble_eq_true rfl) (s_aload_n dX11_until_20 rfl (s_gA dX11_until_21 lFX11_49 (s_aload_n dX11_until_24 rfl (s_gA dX11_until_25 lFX11_49 (s_gI dX11_until_28 lFX11_216 (by decide) (s_cV dX11_until_31 lMX11_219 bVX0_stuckOf rfl (CtX0_stuckOf hX n) (Nat.le_of_ble_eq_true rfl) (s_iload_n dX11_until_34 rfl (s_cS dX11_until_35 lMX11_246 bSX11_bit (CtX11_bit hX n) (Nat.le_of_ble_eq_true rfl) (s_iand dX11_until_38 (s_ifeq dX11_until_39 (by decide) (s_aload_n dX11_until_44 rfl (s_gA dX11_until_45 lFX11_49 (s_iload_n dX11_until_48 rfl (s_cV dX11_until_49 lMX11_243 bVX0_allAheadOf rfl (CtX0_allAheadOf hX n) (Nat.le_of_ble_eq_true rfl) (s_cS dX11_until_52 lMX11_229 bSJ6_bitCount_0f7a4 (CtJ6_bitCount_0f7a4 hX n) (Nat.le_of_ble_eq_true rfl) (s_iconst dX11_until_55 (by decide) (okX11_until_56 hX n)) (Nat.le_of_ble_eq_true rfl) (Nat.le_of_ble_eq_true rfl)) (Nat.le_of_ble_eq_true rfl) (Nat.le_of_ble_eq_true rfl))))) (s_iconst dX11_until_42 (by decide) (s_rI dX11_until_43 (Nat.le_of_ble_eq_true rfl) (Nat.le_of_ble_eq_true rfl))))) (Nat.le_of_ble_eq_true rfl) (Nat.le_of_ble_eq_true rfl))) (Nat.le_of_ble_eq_true rfl) (Nat.le_of_ble_eq_true rfl))))))) (Nat.le_of_ble_eq_true rfl) (Nat.le_of_ble_eq_true rfl)))) (s_iconst dX11_until_11 (by decide) (s_rI dX11_until_12 (Nat.le_of_ble_eq_true rfl) (Nat.le_of_ble_eq_true rfl)))) (Nat.le_of_ble_eq_true rfl) (Nat.le_of_ble_eq_true rfl))))
def FX11_until (n : Nat) : List Value → mM → Option mR := mfn 2 (kX11_until_0 n)
theorem CtX11_until {E : mE} {X : State → Heap → Prop} {l : Launch} (hX : mXok E X) (n : Nat) : Ct E X l yX11_until cX11_until 2 (some .int) 6 0 0 (FX11_until n) := Ct_of (by decide) hX (okX11_until_0 hX n)
theorem dX11_walk_0 : decode cX11_walk 0 = .ok (.aload_n 0, 1) := by decide +kernel
theorem dX11_walk_1 : decode cX11_walk 1 = .ok (.getfield 16, 3) := by decide +kernel
theorem dX11_walk_4 : decode cX11_walk 4 = .ok (.iload_n 1, 1) := by decide +kernel
theorem dX11_walk_5 : decode cX11_walk 5 = .ok (.invokevirtual 200, 3) := by decide +kernel
theorem dX11_walk_8 : decode cX11_walk 8 = .ok (.ifCond .eq 14, 3) := by decide +kernel
theorem dX11_walk_11 : decode cX11_walk 11 = .ok (.aload_n 0, 1) := by decide +kernel
theorem dX11_walk_12 : decode cX11_walk 12 = .ok (.getfield 16, 3) := by decide +kernel
theorem dX11_walk_15 : decode cX11_walk 15 = .ok (.iload_n 2, 1) := by decide +kernel
theorem dX11_walk_16 : decode cX11_walk 16 = .ok (.invokevirtual 200, 3) := by decide +kernel
theorem dX11_walk_19 : decode cX11_walk 19 = .ok (.ifCond .ne 5, 3) := by decide +kernel
theorem dX11_walk_22 : decode cX11_walk 22 = .ok (.iconst (-1), 1) := by decide +kernel
theorem dX11_walk_23 : decode cX11_walk 23 = .ok (.ireturn, 1) := by decide +kernel
theorem dX11_walk_24 : decode cX11_walk 24 = .ok (.aload_n 0, 1) := by decide +kernel
theorem dX11_walk_25 : decode cX11_walk 25 = .ok (.getfield 56, 3) := by decide +kernel
theorem dX11_walk_28 : decode cX11_walk 28 = .ok (.invokevirtual 284, 3) := by decide +kernel
theorem dX11_walk_31 : decode cX11_walk 31 = .ok (.aload_n 0, 1) := by decide +kernel
theorem dX11_walk_32 : decode cX11_walk 32 = .ok (.getfield 56, 3) := by decide +kernel
theorem dX11_walk_35 : decode cX11_walk 35 = .ok (.iload_n 1, 1) := by decide +kernel
theorem dX11_walk_36 : decode cX11_walk 36 = .ok (.invokevirtual 285, 3) := by decide +kernel
theorem dX11_walk_39 : decode cX11_walk 39 = .ok (.aload_n 0, 1) := by decide +kernel
theorem dX11_walk_40 : decode cX11_walk 40 = .ok (.getfield 56, 3) := by decide +kernel
theorem dX11_walk_43 : decode cX11_walk 43 = .ok (.invokevirtual 288, 3) := by decide +kernel
theorem dX11_walk_46 : decode cX11_walk 46 = .ok (.aload_n 0, 1) := by decide +kernel
theorem dX11_walk_47 : decode cX11_walk 47 = .ok (.getfield 56, 3) := by decide +kernel
theorem dX11_walk_50 : decode cX11_walk 50 = .ok (.getfield 291, 3) := by decide +kernel
theorem dX11_walk_53 : decode cX11_walk 53 = .ok (.iload_n 2, 1) := by decide +kernel
theorem dX11_walk_54 : decode cX11_walk 54 = .ok (.invokestatic 144, 3) := by decide +kernel
theorem dX11_walk_57 : decode cX11_walk 57 = .ok (.ireturn, 1) := by decide +kernel
def kX11_walk_22 (n : Nat) : mK := i_cst (.int (-1)) (i_rI)
set_option maxRecDepth 20000 in
theorem okX11_walk_22 {E : mE} {X : State → Heap → Prop} {l : Launch} (hX : mXok E X) (n : Nat) : Sd E X l yX11_walk cX11_walk 3 (some .int) 6 0 0 0 0 22 (kX11_walk_22 n) := s_iconst dX11_walk_22 (by decide) (s_rI dX11_walk_23 (Nat.le_of_ble_eq_true rfl) (Nat.le_of_ble_eq_true rfl))
def kX11_walk_54 (n : Nat) : mK := i_cS 2 (FX11_at n) (i_rI)
set_option maxRecDepth 20000 in
theorem okX11_walk_54 {E : mE} {X : State → Heap → Prop} {l : Launch} (hX : mXok E X) (n : Nat) : Sd E X l yX11_walk cX11_walk 3 (some .int) 6 0 0 0 0 54 (kX11_walk_54 n) := s_cS dX11_walk_54 lMX11_144 bSX11_at (CtX11_at hX n) (Nat.le_of_ble_eq_true rfl) (s_rI dX11_walk_57 (Nat.le_of_ble_eq_true rfl) (Nat.le_of_ble_eq_true rfl)) (Nat.le_of_ble_eq_true rfl) (Nat.le_of_ble_eq_true rfl)
def kX11_walk_0 (n : Nat) : mK := i_ldA 0 (i_gA 11 2 (i_ldI 1 (i_cV 4 1 (FX4_hasCell n) (i_c0 (fun x => decide (x = 0)) (kX11_walk_22 n) (i_ldA 0 (i_gA 11 2 (i_ldI 2 (i_cV 4 1 (FX4_hasCell n) (i_c0 (fun x => decide (¬ x = 0)) (i_ldA 0 (i_gA 11 8 (i_cV 10 0 (FX10_begin n) (i_ldA 0 (i_gA 11 8 (i_ldI 1 (i_cV 10 1 (FX10_startAt n) (i_ldA 0 (i_gA 11 8 (i_cV 10 0 (FX10_spread n) (i_ldA 0 (i_gA 11 8 (i_gA 10 1 (i_ldI 2 (kX11_walk_54 n))))))))))))))) (kX11_walk_22 n))))))))))
set_option maxRecDepth 20000 in
theorem okX11_walk_0 {E : mE} {X : State → Heap → Prop} {l : Launch} (hX : mXok E X) (n : Nat) : Sd E X l yX11_walk cX11_walk 3 (some .int) 6 0 0 0 0 0 (kX11_walk_0 n) := s_aload_n dX11_walk_0 rfl (s_gA dX11_walk_1 lFX11_16 (s_iload_n dX11_walk_4 rfl (s_cV dX11_walk_5 lMX11_200 bVX4_hasCell rfl (CtX4_hasCell hX n) (Nat.le_of_ble_eq_true rfl) (s_ifeq dX11_walk_8 (by decide) (okX11_walk_22 hX n) (s_aload_n dX11_walk_11 rfl (s_gA dX11_walk_12 lFX11_16 (s_iload_n dX11_walk_15 rfl (s_cV dX11_walk_16 lMX11_200 bVX4_hasCell rfl (CtX4_hasCell hX n) (Nat.le_of_ble_eq_true rfl) (s_ifne dX11_walk_19 (by decide) (s_aload_n dX11_walk_24 rfl (s_gA dX11_walk_25 lFX11_56 (s_cV dX11_walk_28 lMX11_284 bVX10_begin rfl (CtX10_begin hX n) (Nat.le_of_ble_eq_true rfl) (s_aload_n dX11_walk_31 rfl (s_gA dX11_walk_32 lFX11_56 (s_iload_n dX11_walk_35 rfl (s_cV dX11_walk_36 lMX11_285 bVX10_startAt rfl (CtX10_startAt hX n) (Nat.le_of_ble_eq_true rfl) (s_aload_n dX11_walk_39 rfl (s_gA dX11_walk_40 lFX11_56 (s_cV dX11_walk_43 lMX11_288 bVX10_spread rfl (CtX10_spread hX n) (Nat.le_of_ble_eq_true rfl) (s_aload_n dX11_walk_46 rfl (s_gA dX11_walk_47 lFX11_56 (s_gA dX11_walk_50 lFX11_291 (s_iload_n dX11_walk_53 rfl (okX11_walk_54 hX n))))) (Nat.le_of_ble_eq_true rfl) (Nat.le_of_ble_eq_true rfl)))) (Nat.le_of_ble_eq_true rfl) (Nat.le_of_ble_eq_true rfl))))) (Nat.le_of_ble_eq_true rfl) (Nat.le_of_ble_eq_true rfl)))) (okX11_walk_22 hX n)) (Nat.le_of_ble_eq_true rfl) (Nat.le_of_ble_eq_true rfl)))))) (Nat.le_of_ble_eq_true rfl) (Nat.le_of_ble_eq_true rfl))))
def FX11_walk (n : Nat) : List Value → mM → Option mR := mfn 3 (kX11_walk_0 n)
theorem CtX11_walk {E : mE} {X : State → Heap → Prop} {l : Launch} (hX : mXok E X) (n : Nat) : Ct E X l yX11_walk cX11_walk 3 (some .int) 6 0 0 (FX11_walk n) := Ct_of (by decide) hX (okX11_walk_0 hX n)
theorem dX11_window_0 : decode cX11_window 0 = .ok (.aload_n 0, 1) := by decide +kernel
theorem dX11_window_1 : decode cX11_window 1 = .ok (.getfield 84, 3) := by decide +kernel
theorem dX11_window_4 : decode cX11_window 4 = .ok (.invokevirtual 126, 3) := by decide +kernel
theorem dX11_window_7 : decode cX11_window 7 = .ok (.aload_n 0, 1) := by decide +kernel
theorem dX11_window_8 : decode cX11_window 8 = .ok (.getfield 16, 3) := by decide +kernel
theorem dX11_window_11 : decode cX11_window 11 = .ok (.iload_n 1, 1) := by decide +kernel
theorem dX11_window_12 : decode cX11_window 12 = .ok (.invokevirtual 200, 3) := by decide +kernel
theorem dX11_window_15 : decode cX11_window 15 = .ok (.ifCond .eq 14, 3) := by decide +kernel
theorem dX11_window_18 : decode cX11_window 18 = .ok (.aload_n 0, 1) := by decide +kernel
theorem dX11_window_19 : decode cX11_window 19 = .ok (.getfield 37, 3) := by decide +kernel
theorem dX11_window_22 : decode cX11_window 22 = .ok (.iload_n 2, 1) := by decide +kernel
theorem dX11_window_23 : decode cX11_window 23 = .ok (.invokevirtual 167, 3) := by decide +kernel
theorem dX11_window_26 : decode cX11_window 26 = .ok (.ifCond .ne 5, 3) := by decide +kernel
theorem dX11_window_29 : decode cX11_window 29 = .ok (.iconst (-1), 1) := by decide +kernel
theorem dX11_window_30 : decode cX11_window 30 = .ok (.ireturn, 1) := by decide +kernel
theorem dX11_window_31 : decode cX11_window 31 = .ok (.aload_n 0, 1) := by decide +kernel
theorem dX11_window_32 : decode cX11_window 32 = .ok (.getfield 56, 3) := by decide +kernel
theorem dX11_window_35 : decode cX11_window 35 = .ok (.invokevirtual 284, 3) := by decide +kernel
theorem dX11_window_38 : decode cX11_window 38 = .ok (.iconst 0, 1) := by decide +kernel
theorem dX11_window_39 : decode cX11_window 39 = .ok (.istore_n 3, 1) := by decide +kernel
theorem dX11_window_40 : decode cX11_window 40 = .ok (.iload_n 3, 1) := by decide +kernel
theorem dX11_window_41 : decode cX11_window 41 = .ok (.iconst 4, 1) := by decide +kernel
theorem dX11_window_42 : decode cX11_window 42 = .ok (.if_icmp .ge 35, 3) := by decide +kernel
theorem dX11_window_45 : decode cX11_window 45 = .ok (.aload_n 0, 1) := by decide +kernel
theorem dX11_window_46 : decode cX11_window 46 = .ok (.getfield 56, 3) := by decide +kernel
theorem dX11_window_49 : decode cX11_window 49 = .ok (.aload_n 0, 1) := by decide +kernel
theorem dX11_window_50 : decode cX11_window 50 = .ok (.getfield 16, 3) := by decide +kernel
theorem dX11_window_53 : decode cX11_window 53 = .ok (.aload_n 0, 1) := by decide +kernel
theorem dX11_window_54 : decode cX11_window 54 = .ok (.getfield 37, 3) := by decide +kernel
theorem dX11_window_57 : decode cX11_window 57 = .ok (.getfield 141, 3) := by decide +kernel
theorem dX11_window_60 : decode cX11_window 60 = .ok (.iload_n 2, 1) := by decide +kernel
theorem dX11_window_61 : decode cX11_window 61 = .ok (.invokestatic 144, 3) := by decide +kernel
theorem dX11_window_64 : decode cX11_window 64 = .ok (.iload_n 3, 1) := by decide +kernel
theorem dX11_window_65 : decode cX11_window 65 = .ok (.invokevirtual 294, 3) := by decide +kernel
theorem dX11_window_68 : decode cX11_window 68 = .ok (.invokevirtual 285, 3) := by decide +kernel
theorem dX11_window_71 : decode cX11_window 71 = .ok (.iinc 3 1, 3) := by decide +kernel
theorem dX11_window_74 : decode cX11_window 74 = .ok (.goto (-34), 3) := by decide +kernel
theorem dX11_window_77 : decode cX11_window 77 = .ok (.aload_n 0, 1) := by decide +kernel
theorem dX11_window_78 : decode cX11_window 78 = .ok (.getfield 56, 3) := by decide +kernel
theorem dX11_window_81 : decode cX11_window 81 = .ok (.invokevirtual 288, 3) := by decide +kernel
theorem dX11_window_84 : decode cX11_window 84 = .ok (.aload_n 0, 1) := by decide +kernel
theorem dX11_window_85 : decode cX11_window 85 = .ok (.getfield 56, 3) := by decide +kernel
theorem dX11_window_88 : decode cX11_window 88 = .ok (.iload_n 1, 1) := by decide +kernel
theorem dX11_window_89 : decode cX11_window 89 = .ok (.aload_n 0, 1) := by decide +kernel
theorem dX11_window_90 : decode cX11_window 90 = .ok (.getfield 84, 3) := by decide +kernel
theorem dX11_window_93 : decode cX11_window 93 = .ok (.invokevirtual 297, 3) := by decide +kernel
theorem dX11_window_96 : decode cX11_window 96 = .ok (.aload_n 0, 1) := by decide +kernel
theorem dX11_window_97 : decode cX11_window 97 = .ok (.getfield 56, 3) := by decide +kernel
theorem dX11_window_100 : decode cX11_window 100 = .ok (.getfield 291, 3) := by decide +kernel
theorem dX11_window_103 : decode cX11_window 103 = .ok (.iload_n 1, 1) := by decide +kernel
theorem dX11_window_104 : decode cX11_window 104 = .ok (.invokestatic 144, 3) := by decide +kernel
theorem dX11_window_107 : decode cX11_window 107 = .ok (.ireturn, 1) := by decide +kernel
def kX11_window_29 (n : Nat) : mK := i_cst (.int (-1)) (i_rI)
set_option maxRecDepth 20000 in
theorem okX11_window_29 {E : mE} {X : State → Heap → Prop} {l : Launch} (hX : mXok E X) (n : Nat) : Sd E X l yX11_window cX11_window 4 (some .int) 6 0 0 0 0 29 (kX11_window_29 n) := s_iconst dX11_window_29 (by decide) (s_rI dX11_window_30 (Nat.le_of_ble_eq_true rfl) (Nat.le_of_ble_eq_true rfl))
def kX11_window_40 (n : Nat) (r40 : mK) : mK := i_ldI 3 (i_cst (.int (4)) (i_c2 (fun x y => decide (y ≤ x)) (i_ldA 0 (i_gA 11 8 (i_cV 10 0 (FX10_spread n) (i_ldA 0 (i_gA 11 8 (i_ldI 1 (i_ldA 0 (i_gA 11 12 (i_cV 10 2 (FX10_layWayFrom n) (i_ldA 0 (i_gA 11 8 (i_gA 10 1 (i_ldI 1 (i_cS 2 (FX11_at n) (i_rI))))))))))))))) (i_ldA 0 (i_gA 11 8 (i_ldA 0 (i_gA 11 2 (i_ldA 0 (i_gA 11 5 (i_gA 8 1 (i_ldI 2 (i_cS 2 (FX11_at n) (i_ldI 3 (i_cV 4 2 (FX4_beside n) (i_cV 10 1 (FX10_startAt n) (i_inc 3 (1) (r40))))))))))))))))
set_option maxRecDepth 20000 in
theorem okX11_window_40 {E : mE} {X : State → Heap → Prop} {l : Launch} (hX : mXok E X) (n : Nat) {r40 : mK} (h40 : Sd E X l yX11_window cX11_window 4 (some .int) 6 0 0 0 0 40 r40) : Sd E X l yX11_window cX11_window 4 (some .int) 6 0 0 0 0 40 (kX11_window_40 n r40) := s_iload_n dX11_window_40 rfl (s_iconst dX11_window_41 (by decide) (s_icge dX11_window_42 (by decide) (s_aload_n dX11_window_77 rfl (s_gA dX11_window_78 lFX11_56 (s_cV dX11_window_81 lMX11_288 bVX10_spread rfl (CtX10_spread hX n) (Nat.le_of_ble_eq_true rfl) (s_aload_n dX11_window_84 rfl (s_gA dX11_window_85 lFX11_56 (s_iload_n dX11_window_88 rfl (s_aload_n dX11_window_89 rfl (s_gA dX11_window_90 lFX11_84 (s_cV dX11_window_93 lMX11_297 bVX10_layWayFrom rfl (CtX10_layWayFrom hX n) (Nat.le_of_ble_eq_true rfl) (s_aload_n dX11_window_96 rfl (s_gA dX11_window_97 lFX11_56 (s_gA dX11_window_100 lFX11_291 (s_iload_n dX11_window_103 rfl (s_cS dX11_window_104 lMX11_144 bSX11_at (CtX11_at hX n) (Nat.le_of_ble_eq_true rfl) (s_rI dX11_window_107 (Nat.le_of_ble_eq_true rfl) (Nat.le_of_ble_eq_true rfl)) (Nat.le_of_ble_eq_true rfl) (Nat.le_of_ble_eq_true rfl)))))) (Nat.le_of_ble_eq_true rfl) (Nat.le_of_ble_eq_true rfl))))))) (Nat.le_of_ble_eq_true rfl) (Nat.le_of_ble_eq_true rfl)))) (s_aload_n dX11_window_45 rfl (s_gA dX11_window_46 lFX11_56 (s_aload_n dX11_window_49 rfl (s_gA dX11_window_50 lFX11_16 (s_aload_n dX11_window_53 rfl (s_gA dX11_window_54 lFX11_37 (s_gA dX11_window_57 lFX11_141 (s_iload_n dX11_window_60 rfl (s_cS dX11_window_61 lMX11_144 bSX11_at (CtX11_at hX n) (Nat.le_of_ble_eq_true rfl) (s_iload_n dX11_window_64 rfl (s_cV dX11_window_65 lMX11_294 bVX4_beside rfl (CtX4_beside hX n) (Nat.le_of_ble_eq_true rfl) (s_cV dX11_window_68 lMX11_285 bVX10_startAt rfl (CtX10_startAt hX n) (Nat.le_of_ble_eq_true rfl) (s_iinc dX11_window_71 (by decide) (s_goto dX11_window_74 (by decide) h40)) (Nat.le_of_ble_eq_true rfl) (Nat.le_of_ble_eq_true rfl)) (Nat.le_of_ble_eq_true rfl) (Nat.le_of_ble_eq_true rfl))) (Nat.le_of_ble_eq_true rfl) (Nat.le_of_ble_eq_true rfl))))))))))))
def kX11_window_0 (n : Nat) : mK := i_ldA 0 (i_gA 11 12 (i_cV 6 0 (FX6_clear n) (i_ldA 0 (i_gA 11 2 (i_ldI 1 (i_cV 4 1 (FX4_hasCell n) (i_c0 (fun x => decide (x = 0)) (kX11_window_29 n) (i_ldA 0 (i_gA 11 5 (i_ldI 2 (i_cV 8 1 (FX8_isIn n) (i_c0 (fun x => decide (¬ x = 0)) (i_ldA 0 (i_gA 11 8 (i_cV 10 0 (FX10_begin n) (i_cst (.int (0)) (i_stI 3 (mit (kX11_window_40 n ) n)))))) (kX11_window_29 n)))))))))))))
set_option maxRecDepth 20000 in
theorem okX11_window_0 {E : mE} {X : State → Heap → Prop} {l : Launch} (hX : mXok E X) (n : Nat) : Sd E X l yX11_window cX11_window 4 (some .int) 6 0 0 0 0 0 (kX11_window_0 n) := s_aload_n dX11_window_0 rfl (s_gA dX11_window_1 lFX11_84 (s_cV dX11_window_4 lMX11_126 bVX6_clear rfl (CtX6_clear hX n) (Nat.le_of_ble_eq_true rfl) (s_aload_n dX11_window_7 rfl (s_gA dX11_window_8 lFX11_16 (s_iload_n dX11_window_11 rfl (s_cV dX11_window_12 lMX11_200 bVX4_hasCell rfl (CtX4_hasCell hX n) (Nat.le_of_ble_eq_true rfl) (s_ifeq dX11_window_15 (by decide) (okX11_window_29 hX n) (s_aload_n dX11_window_18 rfl (s_gA dX11_window_19 lFX11_37 (s_iload_n dX11_window_22 rfl (s_cV dX11_window_23 lMX11_167 bVX8_isIn rfl (CtX8_isIn hX n) (Nat.le_of_ble_eq_true rfl) (s_ifne dX11_window_26 (by decide) (s_aload_n dX11_window_31 rfl (s_gA dX11_window_32 lFX11_56 (s_cV dX11_window_35 lMX11_284 bVX10_begin rfl (CtX10_begin hX n) (Nat.le_of_ble_eq_true rfl) (s_iconst dX11_window_38 (by decide) (s_istore_n dX11_window_39 rfl (s_mit (fun _ hk => okX11_window_40 hX n hk) n))) (Nat.le_of_ble_eq_true rfl) (Nat.le_of_ble_eq_true rfl)))) (okX11_window_29 hX n)) (Nat.le_of_ble_eq_true rfl) (Nat.le_of_ble_eq_true rfl)))))) (Nat.le_of_ble_eq_true rfl) (Nat.le_of_ble_eq_true rfl))))) (Nat.le_of_ble_eq_true rfl) (Nat.le_of_ble_eq_true rfl)))
def FX11_window (n : Nat) : List Value → mM → Option mR := mfn 4 (kX11_window_0 n)
theorem CtX11_window {E : mE} {X : State → Heap → Prop} {l : Launch} (hX : mXok E X) (n : Nat) : Ct E X l yX11_window cX11_window 4 (some .int) 6 0 0 (FX11_window n) := Ct_of (by decide) hX (okX11_window_0 hX n)
theorem dX11_year_0 : decode cX11_year 0 = .ok (.aload_n 0, 1) := by decide +kernel
theorem dX11_year_1 : decode cX11_year 1 = .ok (.getfield 37, 3) := by decide +kernel
theorem dX11_year_4 : decode cX11_year 4 = .ok (.getfield 179, 3) := by decide +kernel
theorem dX11_year_7 : decode cX11_year 7 = .ok (.sipush 999, 3) := by decide +kernel
theorem dX11_year_10 : decode cX11_year 10 = .ok (.if_icmp .lt 5, 3) := by decide +kernel
theorem dX11_year_13 : decode cX11_year 13 = .ok (.iconst (-1), 1) := by decide +kernel
theorem dX11_year_14 : decode cX11_year 14 = .ok (.ireturn, 1) := by decide +kernel
theorem dX11_year_15 : decode cX11_year 15 = .ok (.aload_n 0, 1) := by decide +kernel
theorem dX11_year_16 : decode cX11_year 16 = .ok (.getfield 37, 3) := by decide +kernel
theorem dX11_year_19 : decode cX11_year 19 = .ok (.invokevirtual 182, 3) := by decide +kernel
theorem dX11_year_22 : decode cX11_year 22 = .ok (.aload_n 0, 1) := by decide +kernel
theorem dX11_year_23 : decode cX11_year 23 = .ok (.getfield 37, 3) := by decide +kernel
theorem dX11_year_26 : decode cX11_year 26 = .ok (.invokevirtual 185, 3) := by decide +kernel
theorem dX11_year_29 : decode cX11_year 29 = .ok (.istore_n 1, 1) := by decide +kernel
theorem dX11_year_30 : decode cX11_year 30 = .ok (.aload_n 0, 1) := by decide +kernel
theorem dX11_year_31 : decode cX11_year 31 = .ok (.getfield 37, 3) := by decide +kernel
theorem dX11_year_34 : decode cX11_year 34 = .ok (.dup, 1) := by decide +kernel
theorem dX11_year_35 : decode cX11_year 35 = .ok (.getfield 179, 3) := by decide +kernel
theorem dX11_year_38 : decode cX11_year 38 = .ok (.iconst 1, 1) := by decide +kernel
theorem dX11_year_39 : decode cX11_year 39 = .ok (.iadd, 1) := by decide +kernel
theorem dX11_year_40 : decode cX11_year 40 = .ok (.putfield 179, 3) := by decide +kernel
theorem dX11_year_43 : decode cX11_year 43 = .ok (.aload_n 0, 1) := by decide +kernel
theorem dX11_year_44 : decode cX11_year 44 = .ok (.getfield 63, 3) := by decide +kernel
theorem dX11_year_47 : decode cX11_year 47 = .ok (.invokevirtual 188, 3) := by decide +kernel
theorem dX11_year_50 : decode cX11_year 50 = .ok (.iload_n 1, 1) := by decide +kernel
theorem dX11_year_51 : decode cX11_year 51 = .ok (.ireturn, 1) := by decide +kernel
def kX11_year_0 (n : Nat) : mK := i_ldA 0 (i_gA 11 5 (i_gI 8 5 (i_cst (.int (999)) (i_c2 (fun x y => decide (x < y)) (i_ldA 0 (i_gA 11 5 (i_cV 8 0 (FX8_soften n) (i_ldA 0 (i_gA 11 5 (i_cV 8 0 (FX8_breakLamps n) (i_stI 1 (i_ldA 0 (i_gA 11 5 (i_dup (i_gI 8 5 (i_cst (.int (1)) (i_bin (fun x y => x + y) (i_pI 8 5 (i_ldA 0 (i_gA 11 9 (i_cV 3 0 (FX3_keep n) (i_ldI 1 (i_rI))))))))))))))))))) (i_cst (.int (-1)) (i_rI))))))
set_option maxRecDepth 20000 in
theorem okX11_year_0 {E : mE} {X : State → Heap → Prop} {l : Launch} (hX : mXok E X) (n : Nat) : Sd E X l yX11_year cX11_year 2 (some .int) 6 0 0 0 0 0 (kX11_year_0 n) := s_aload_n dX11_year_0 rfl (s_gA dX11_year_1 lFX11_37 (s_gI dX11_year_4 lFX11_179 (by decide) (s_sipush dX11_year_7 (by decide) (s_iclt dX11_year_10 (by decide) (s_aload_n dX11_year_15 rfl (s_gA dX11_year_16 lFX11_37 (s_cV dX11_year_19 lMX11_182 bVX8_soften rfl (CtX8_soften hX n) (Nat.le_of_ble_eq_true rfl) (s_aload_n dX11_year_22 rfl (s_gA dX11_year_23 lFX11_37 (s_cV dX11_year_26 lMX11_185 bVX8_breakLamps rfl (CtX8_breakLamps hX n) (Nat.le_of_ble_eq_true rfl) (s_istore_n dX11_year_29 rfl (s_aload_n dX11_year_30 rfl (s_gA dX11_year_31 lFX11_37 (s_dup dX11_year_34 (s_gI dX11_year_35 lFX11_179 (by decide) (s_iconst dX11_year_38 (by decide) (s_iadd dX11_year_39 (s_pI dX11_year_40 lFX11_179 (s_aload_n dX11_year_43 rfl (s_gA dX11_year_44 lFX11_63 (s_cV dX11_year_47 lMX11_188 bVX3_keep rfl (CtX3_keep hX n) (Nat.le_of_ble_eq_true rfl) (s_iload_n dX11_year_50 rfl (s_rI dX11_year_51 (Nat.le_of_ble_eq_true rfl) (Nat.le_of_ble_eq_true rfl))) (Nat.le_of_ble_eq_true rfl) (Nat.le_of_ble_eq_true rfl)))))))))))) (Nat.le_of_ble_eq_true rfl) (Nat.le_of_ble_eq_true rfl)))) (Nat.le_of_ble_eq_true rfl) (Nat.le_of_ble_eq_true rfl)))) (s_iconst dX11_year_13 (by decide) (s_rI dX11_year_14 (Nat.le_of_ble_eq_true rfl) (Nat.le_of_ble_eq_true rfl)))))))
def FX11_year (n : Nat) : List Value → mM → Option mR := mfn 2 (kX11_year_0 n)
theorem CtX11_year {E : mE} {X : State → Heap → Prop} {l : Launch} (hX : mXok E X) (n : Nat) : Ct E X l yX11_year cX11_year 2 (some .int) 6 0 0 (FX11_year n) := Ct_of (by decide) hX (okX11_year_0 hX n)
theorem dX12_heir_0 : decode cX12_heir 0 = .ok (.iconst (-1), 1) := by decide +kernel
theorem dX12_heir_1 : decode cX12_heir 1 = .ok (.istore_n 1, 1) := by decide +kernel
theorem dX12_heir_2 : decode cX12_heir 2 = .ok (.iconst 0, 1) := by decide +kernel
theorem dX12_heir_3 : decode cX12_heir 3 = .ok (.istore_n 2, 1) := by decide +kernel
theorem dX12_heir_4 : decode cX12_heir 4 = .ok (.iconst 0, 1) := by decide +kernel
theorem dX12_heir_5 : decode cX12_heir 5 = .ok (.istore_n 3, 1) := by decide +kernel
theorem dX12_heir_6 : decode cX12_heir 6 = .ok (.iload_n 3, 1) := by decide +kernel
theorem dX12_heir_7 : decode cX12_heir 7 = .ok (.aload_n 0, 1) := by decide +kernel
theorem dX12_heir_8 : decode cX12_heir 8 = .ok (.invokevirtual 341, 3) := by decide +kernel
theorem dX12_heir_11 : decode cX12_heir 11 = .ok (.if_icmp .ge 73, 3) := by decide +kernel
theorem dX12_heir_14 : decode cX12_heir 14 = .ok (.aload_n 0, 1) := by decide +kernel
theorem dX12_heir_15 : decode cX12_heir 15 = .ok (.iload_n 3, 1) := by decide +kernel
theorem dX12_heir_16 : decode cX12_heir 16 = .ok (.invokevirtual 396, 3) := by decide +kernel
theorem dX12_heir_19 : decode cX12_heir 19 = .ok (.ifCond .ne 6, 3) := by decide +kernel
theorem dX12_heir_22 : decode cX12_heir 22 = .ok (.goto 56, 3) := by decide +kernel
theorem dX12_heir_25 : decode cX12_heir 25 = .ok (.aload_n 0, 1) := by decide +kernel
theorem dX12_heir_26 : decode cX12_heir 26 = .ok (.getfield 82, 3) := by decide +kernel
theorem dX12_heir_29 : decode cX12_heir 29 = .ok (.iconst 0, 1) := by decide +kernel
theorem dX12_heir_30 : decode cX12_heir 30 = .ok (.iload_n 3, 1) := by decide +kernel
theorem dX12_heir_31 : decode cX12_heir 31 = .ok (.iadd, 1) := by decide +kernel
theorem dX12_heir_32 : decode cX12_heir 32 = .ok (.iaload, 1) := by decide +kernel
theorem dX12_heir_33 : decode cX12_heir 33 = .ok (.istore 4, 2) := by decide +kernel
theorem dX12_heir_35 : decode cX12_heir 35 = .ok (.aload_n 0, 1) := by decide +kernel
theorem dX12_heir_36 : decode cX12_heir 36 = .ok (.getfield 82, 3) := by decide +kernel
theorem dX12_heir_39 : decode cX12_heir 39 = .ok (.iconst 0, 1) := by decide +kernel
theorem dX12_heir_40 : decode cX12_heir 40 = .ok (.iload_n 3, 1) := by decide +kernel
theorem dX12_heir_41 : decode cX12_heir 41 = .ok (.iadd, 1) := by decide +kernel
theorem dX12_heir_42 : decode cX12_heir 42 = .ok (.iconst (-1), 1) := by decide +kernel
theorem dX12_heir_43 : decode cX12_heir 43 = .ok (.iastore, 1) := by decide +kernel
theorem dX12_heir_44 : decode cX12_heir 44 = .ok (.aload_n 0, 1) := by decide +kernel
theorem dX12_heir_45 : decode cX12_heir 45 = .ok (.invokevirtual 406, 3) := by decide +kernel
theorem dX12_heir_48 : decode cX12_heir 48 = .ok (.istore 5, 2) := by decide +kernel
theorem dX12_heir_50 : decode cX12_heir 50 = .ok (.aload_n 0, 1) := by decide +kernel
theorem dX12_heir_51 : decode cX12_heir 51 = .ok (.getfield 82, 3) := by decide +kernel
theorem dX12_heir_54 : decode cX12_heir 54 = .ok (.iconst 0, 1) := by decide +kernel
theorem dX12_heir_55 : decode cX12_heir 55 = .ok (.iload_n 3, 1) := by decide +kernel
theorem dX12_heir_56 : decode cX12_heir 56 = .ok (.iadd, 1) := by decide +kernel
theorem dX12_heir_57 : decode cX12_heir 57 = .ok (.iload 4, 2) := by decide +kernel
theorem dX12_heir_59 : decode cX12_heir 59 = .ok (.iastore, 1) := by decide +kernel
theorem dX12_heir_60 : decode cX12_heir 60 = .ok (.iload_n 1, 1) := by decide +kernel
theorem dX12_heir_61 : decode cX12_heir 61 = .ok (.ifCond .lt 12, 3) := by decide +kernel
theorem dX12_heir_64 : decode cX12_heir 64 = .ok (.iload 5, 2) := by decide +kernel
theorem dX12_heir_66 : decode cX12_heir 66 = .ok (.iload_n 2, 1) := by decide +kernel
theorem dX12_heir_67 : decode cX12_heir 67 = .ok (.if_icmp .lt 6, 3) := by decide +kernel
theorem dX12_heir_70 : decode cX12_heir 70 = .ok (.goto 8, 3) := by decide +kernel
theorem dX12_heir_73 : decode cX12_heir 73 = .ok (.iload_n 3, 1) := by decide +kernel
theorem dX12_heir_74 : decode cX12_heir 74 = .ok (.istore_n 1, 1) := by decide +kernel
theorem dX12_heir_75 : decode cX12_heir 75 = .ok (.iload 5, 2) := by decide +kernel
theorem dX12_heir_77 : decode cX12_heir 77 = .ok (.istore_n 2, 1) := by decide +kernel
theorem dX12_heir_78 : decode cX12_heir 78 = .ok (.iinc 3 1, 3) := by decide +kernel
theorem dX12_heir_81 : decode cX12_heir 81 = .ok (.goto (-75), 3) := by decide +kernel
theorem dX12_heir_84 : decode cX12_heir 84 = .ok (.iload_n 1, 1) := by decide +kernel
theorem dX12_heir_85 : decode cX12_heir 85 = .ok (.ireturn, 1) := by decide +kernel
def kX12_heir_78 (n : Nat) (r6 : mK) : mK := i_inc 3 (1) (r6)
set_option maxRecDepth 20000 in
theorem okX12_heir_78 {E : mE} {X : State → Heap → Prop} {l : Launch} (hX : mXok E X) (n : Nat) {r6 : mK} (h6 : Sd E X l yX12_heir cX12_heir 6 (some .int) 6 0 0 0 0 6 r6) : Sd E X l yX12_heir cX12_heir 6 (some .int) 6 0 0 0 0 78 (kX12_heir_78 n r6) := s_iinc dX12_heir_78 (by decide) (s_goto dX12_heir_81 (by decide) h6)
def kX12_heir_73 (n : Nat) (r6 : mK) : mK := i_ldI 3 (i_stI 1 (i_ldI 5 (i_stI 2 (kX12_heir_78 n r6))))
set_option maxRecDepth 20000 in
theorem okX12_heir_73 {E : mE} {X : State → Heap → Prop} {l : Launch} (hX : mXok E X) (n : Nat) {r6 : mK} (h6 : Sd E X l yX12_heir cX12_heir 6 (some .int) 6 0 0 0 0 6 r6) : Sd E X l yX12_heir cX12_heir 6 (some .int) 6 0 0 0 0 73 (kX12_heir_73 n r6) := s_iload_n dX12_heir_73 rfl (s_istore_n dX12_heir_74 rfl (s_iload dX12_heir_75 (s_istore_n dX12_heir_77 rfl (okX12_heir_78 hX n h6))))
def kX12_heir_48 (n : Nat) (r6 : mK) : mK := i_stI 5 (i_ldA 0 (i_gA 12 39 (i_cst (.int (0)) (i_ldI 3 (i_bin (fun x y => x + y) (i_ldI 4 (i_as 0 (i_ldI 1 (i_c0 (fun x => decide (x < 0)) (kX12_heir_73 n r6) (i_ldI 5 (i_ldI 2 (i_c2 (fun x y => decide (x < y)) (kX12_heir_73 n r6) ((kX12_heir_78 n r6))))))))))))))
set_option maxRecDepth 20000 in
theorem okX12_heir_48 {E : mE} {X : State → Heap → Prop} {l : Launch} (hX : mXok E X) (n : Nat) {r6 : mK} (h6 : Sd E X l yX12_heir cX12_heir 6 (some .int) 6 0 0 0 0 6 r6) : Sd E X l yX12_heir cX12_heir 6 (some .int) 6 0 0 0 0 48 (kX12_heir_48 n r6) := s_istore dX12_heir_48 (s_aload_n dX12_heir_50 rfl (s_gA dX12_heir_51 lFX12_82 (s_iconst dX12_heir_54 (by decide) (s_iload_n dX12_heir_55 rfl (s_iadd dX12_heir_56 (s_iload dX12_heir_57 (s_iast dX12_heir_59 (s_iload_n dX12_heir_60 rfl (s_iflt dX12_heir_61 (by decide) (okX12_heir_73 hX n h6) (s_iload dX12_heir_64 (s_iload_n dX12_heir_66 rfl (s_iclt dX12_heir_67 (by decide) (okX12_heir_73 hX n h6) (s_goto dX12_heir_70 (by decide) (okX12_heir_78 hX n h6))))))))))))))
def kX12_heir_6 (n : Nat) (r6 : mK) : mK := i_ldI 3 (i_ldA 0 (i_cV 12 0 (FX12_many n) (i_c2 (fun x y => decide (y ≤ x)) (i_ldI 1 (i_rI)) (i_ldA 0 (i_ldI 3 (i_cV 12 1 (FX12_isHere n) (i_c0 (fun x => decide (¬ x = 0)) (i_ldA 0 (i_gA 12 39 (i_cst (.int (0)) (i_ldI 3 (i_bin (fun x y => x + y) (i_al 0 (i_stI 4 (i_ldA 0 (i_gA 12 39 (i_cst (.int (0)) (i_ldI 3 (i_bin (fun x y => x + y) (i_cst (.int (-1)) (i_as 0 (i_ldA 0 (i_cV 12 0 (FX12_priceNow n) (kX12_heir_48 n r6))))))))))))))))) ((kX12_heir_78 n r6)))))))))
set_option maxRecDepth 20000 in
theorem okX12_heir_6 {E : mE} {X : State → Heap → Prop} {l : Launch} (hX : mXok E X) (n : Nat) {r6 : mK} (h6 : Sd E X l yX12_heir cX12_heir 6 (some .int) 6 0 0 0 0 6 r6) : Sd E X l yX12_heir cX12_heir 6 (some .int) 6 0 0 0 0 6 (kX12_heir_6 n r6) := s_iload_n dX12_heir_6 rfl (s_aload_n dX12_heir_7 rfl (s_cV dX12_heir_8 lMX12_341 bVX12_many rfl (CtX12_many hX n) (Nat.le_of_ble_eq_true rfl) (s_icge dX12_heir_11 (by decide) (s_iload_n dX12_heir_84 rfl (s_rI dX12_heir_85 (Nat.le_of_ble_eq_true rfl) (Nat.le_of_ble_eq_true rfl))) (s_aload_n dX12_heir_14 rfl (s_iload_n dX12_heir_15 rfl (s_cV dX12_heir_16 lMX12_396 bVX12_isHere rfl (CtX12_isHere hX n) (Nat.le_of_ble_eq_true rfl) (s_ifne dX12_heir_19 (by decide) (s_aload_n dX12_heir_25 rfl (s_gA dX12_heir_26 lFX12_82 (s_iconst dX12_heir_29 (by decide) (s_iload_n dX12_heir_30 rfl (s_iadd dX12_heir_31 (s_iald dX12_heir_32 (s_istore dX12_heir_33 (s_aload_n dX12_heir_35 rfl (s_gA dX12_heir_36 lFX12_82 (s_iconst dX12_heir_39 (by decide) (s_iload_n dX12_heir_40 rfl (s_iadd dX12_heir_41 (s_iconst dX12_heir_42 (by decide) (s_iast dX12_heir_43 (s_aload_n dX12_heir_44 rfl (s_cV dX12_heir_45 lMX12_406 bVX12_priceNow rfl (CtX12_priceNow hX n) (Nat.le_of_ble_eq_true rfl) (okX12_heir_48 hX n h6) (Nat.le_of_ble_eq_true rfl) (Nat.le_of_ble_eq_true rfl))))))))))))))))) (s_goto dX12_heir_22 (by decide) (okX12_heir_78 hX n h6))) (Nat.le_of_ble_eq_true rfl) (Nat.le_of_ble_eq_true rfl))))) (Nat.le_of_ble_eq_true rfl) (Nat.le_of_ble_eq_true rfl)))
def kX12_heir_0 (n : Nat) : mK := i_cst (.int (-1)) (i_stI 1 (i_cst (.int (0)) (i_stI 2 (i_cst (.int (0)) (i_stI 3 (mit (kX12_heir_6 n ) n))))))
set_option maxRecDepth 20000 in
theorem okX12_heir_0 {E : mE} {X : State → Heap → Prop} {l : Launch} (hX : mXok E X) (n : Nat) : Sd E X l yX12_heir cX12_heir 6 (some .int) 6 0 0 0 0 0 (kX12_heir_0 n) := s_iconst dX12_heir_0 (by decide) (s_istore_n dX12_heir_1 rfl (s_iconst dX12_heir_2 (by decide) (s_istore_n dX12_heir_3 rfl (s_iconst dX12_heir_4 (by decide) (s_istore_n dX12_heir_5 rfl (s_mit (fun _ hk => okX12_heir_6 hX n hk) n))))))
def FX12_heir (n : Nat) : List Value → mM → Option mR := mfn 6 (kX12_heir_0 n)
theorem CtX12_heir {E : mE} {X : State → Heap → Prop} {l : Launch} (hX : mXok E X) (n : Nat) : Ct E X l yX12_heir cX12_heir 6 (some .int) 6 0 0 (FX12_heir n) := Ct_of (by decide) hX (okX12_heir_0 hX n)
theorem dX12_hoot_0 : decode cX12_hoot 0 = .ok (.aload_n 0, 1) := by decide +kernel
theorem dX12_hoot_1 : decode cX12_hoot 1 = .ok (.iload_n 1, 1) := by decide +kernel
theorem dX12_hoot_2 : decode cX12_hoot 2 = .ok (.invokevirtual 396, 3) := by decide +kernel
theorem dX12_hoot_5 : decode cX12_hoot 5 = .ok (.ifCond .eq 10, 3) := by decide +kernel
theorem dX12_hoot_8 : decode cX12_hoot 8 = .ok (.iload_n 2, 1) := by decide +kernel
theorem dX12_hoot_9 : decode cX12_hoot 9 = .ok (.invokestatic 448, 3) := by decide +kernel
theorem dX12_hoot_12 : decode cX12_hoot 12 = .ok (.ifCond .ne 5, 3) := by decide +kernel
theorem dX12_hoot_15 : decode cX12_hoot 15 = .ok (.iconst (-1), 1) := by decide +kernel
theorem dX12_hoot_16 : decode cX12_hoot 16 = .ok (.ireturn, 1) := by decide +kernel
theorem dX12_hoot_17 : decode cX12_hoot 17 = .ok (.aload_n 0, 1) := by decide +kernel
theorem dX12_hoot_18 : decode cX12_hoot 18 = .ok (.invokevirtual 442, 3) := by decide +kernel
theorem dX12_hoot_21 : decode cX12_hoot 21 = .ok (.iconst 0, 1) := by decide +kernel
theorem dX12_hoot_22 : decode cX12_hoot 22 = .ok (.istore_n 3, 1) := by decide +kernel
theorem dX12_hoot_23 : decode cX12_hoot 23 = .ok (.iload_n 3, 1) := by decide +kernel
theorem dX12_hoot_24 : decode cX12_hoot 24 = .ok (.iload_n 2, 1) := by decide +kernel
theorem dX12_hoot_25 : decode cX12_hoot 25 = .ok (.if_icmp .ge 13, 3) := by decide +kernel
theorem dX12_hoot_28 : decode cX12_hoot 28 = .ok (.aload_n 0, 1) := by decide +kernel
theorem dX12_hoot_29 : decode cX12_hoot 29 = .ok (.invokevirtual 415, 3) := by decide +kernel
theorem dX12_hoot_32 : decode cX12_hoot 32 = .ok (.iinc 3 1, 3) := by decide +kernel
theorem dX12_hoot_35 : decode cX12_hoot 35 = .ok (.goto (-12), 3) := by decide +kernel
theorem dX12_hoot_38 : decode cX12_hoot 38 = .ok (.aload_n 0, 1) := by decide +kernel
theorem dX12_hoot_39 : decode cX12_hoot 39 = .ok (.getfield 82, 3) := by decide +kernel
theorem dX12_hoot_42 : decode cX12_hoot 42 = .ok (.bipush 16, 2) := by decide +kernel
theorem dX12_hoot_44 : decode cX12_hoot 44 = .ok (.iload_n 1, 1) := by decide +kernel
theorem dX12_hoot_45 : decode cX12_hoot 45 = .ok (.iadd, 1) := by decide +kernel
theorem dX12_hoot_46 : decode cX12_hoot 46 = .ok (.iaload, 1) := by decide +kernel
theorem dX12_hoot_47 : decode cX12_hoot 47 = .ok (.istore_n 3, 1) := by decide +kernel
theorem dX12_hoot_48 : decode cX12_hoot 48 = .ok (.aload_n 0, 1) := by decide +kernel
theorem dX12_hoot_49 : decode cX12_hoot 49 = .ok (.invokevirtual 445, 3) := by decide +kernel
theorem dX12_hoot_52 : decode cX12_hoot 52 = .ok (.iload_n 3, 1) := by decide +kernel
theorem dX12_hoot_53 : decode cX12_hoot 53 = .ok (.ireturn, 1) := by decide +kernel
def kX12_hoot_15 (n : Nat) : mK := i_cst (.int (-1)) (i_rI)
set_option maxRecDepth 20000 in
theorem okX12_hoot_15 {E : mE} {X : State → Heap → Prop} {l : Launch} (hX : mXok E X) (n : Nat) : Sd E X l yX12_hoot cX12_hoot 4 (some .int) 6 0 0 0 0 15 (kX12_hoot_15 n) := s_iconst dX12_hoot_15 (by decide) (s_rI dX12_hoot_16 (Nat.le_of_ble_eq_true rfl) (Nat.le_of_ble_eq_true rfl))
def kX12_hoot_23 (n : Nat) (r23 : mK) : mK := i_ldI 3 (i_ldI 2 (i_c2 (fun x y => decide (y ≤ x)) (i_ldA 0 (i_gA 12 39 (i_cst (.int (16)) (i_ldI 1 (i_bin (fun x y => x + y) (i_al 0 (i_stI 3 (i_ldA 0 (i_cV 12 0 (FX12_bringBack n) (i_ldI 3 (i_rI))))))))))) (i_ldA 0 (i_cV 12 0 (FX12_goYear n) (i_inc 3 (1) (r23))))))
set_option maxRecDepth 20000 in
theorem okX12_hoot_23 {E : mE} {X : State → Heap → Prop} {l : Launch} (hX : mXok E X) (n : Nat) {r23 : mK} (h23 : Sd E X l yX12_hoot cX12_hoot 4 (some .int) 6 0 0 0 0 23 r23) : Sd E X l yX12_hoot cX12_hoot 4 (some .int) 6 0 0 0 0 23 (kX12_hoot_23 n r23) := s_iload_n dX12_hoot_23 rfl (s_iload_n dX12_hoot_24 rfl (s_icge dX12_hoot_25 (by decide) (s_aload_n dX12_hoot_38 rfl (s_gA dX12_hoot_39 lFX12_82 (s_bipush dX12_hoot_42 (by decide) (s_iload_n dX12_hoot_44 rfl (s_iadd dX12_hoot_45 (s_iald dX12_hoot_46 (s_istore_n dX12_hoot_47 rfl (s_aload_n dX12_hoot_48 rfl (s_cV dX12_hoot_49 lMX12_445 bVX12_bringBack rfl (CtX12_bringBack hX n) (Nat.le_of_ble_eq_true rfl) (s_iload_n dX12_hoot_52 rfl (s_rI dX12_hoot_53 (Nat.le_of_ble_eq_true rfl) (Nat.le_of_ble_eq_true rfl))) (Nat.le_of_ble_eq_true rfl) (Nat.le_of_ble_eq_true rfl)))))))))) (s_aload_n dX12_hoot_28 rfl (s_cV dX12_hoot_29 lMX12_415 bVX12_goYear rfl (CtX12_goYear hX n) (Nat.le_of_ble_eq_true rfl) (s_iinc dX12_hoot_32 (by decide) (s_goto dX12_hoot_35 (by decide) h23)) (Nat.le_of_ble_eq_true rfl) (Nat.le_of_ble_eq_true rfl)))))
def kX12_hoot_0 (n : Nat) : mK := i_ldA 0 (i_ldI 1 (i_cV 12 1 (FX12_isHere n) (i_c0 (fun x => decide (x = 0)) (kX12_hoot_15 n) (i_ldI 2 (i_cS 1 (FX12_isAhead n) (i_c0 (fun x => decide (¬ x = 0)) (i_ldA 0 (i_cV 12 0 (FX12_keepNow n) (i_cst (.int (0)) (i_stI 3 (mit (kX12_hoot_23 n ) n))))) (kX12_hoot_15 n)))))))
set_option maxRecDepth 20000 in
theorem okX12_hoot_0 {E : mE} {X : State → Heap → Prop} {l : Launch} (hX : mXok E X) (n : Nat) : Sd E X l yX12_hoot cX12_hoot 4 (some .int) 6 0 0 0 0 0 (kX12_hoot_0 n) := s_aload_n dX12_hoot_0 rfl (s_iload_n dX12_hoot_1 rfl (s_cV dX12_hoot_2 lMX12_396 bVX12_isHere rfl (CtX12_isHere hX n) (Nat.le_of_ble_eq_true rfl) (s_ifeq dX12_hoot_5 (by decide) (okX12_hoot_15 hX n) (s_iload_n dX12_hoot_8 rfl (s_cS dX12_hoot_9 lMX12_448 bSX12_isAhead (CtX12_isAhead hX n) (Nat.le_of_ble_eq_true rfl) (s_ifne dX12_hoot_12 (by decide) (s_aload_n dX12_hoot_17 rfl (s_cV dX12_hoot_18 lMX12_442 bVX12_keepNow rfl (CtX12_keepNow hX n) (Nat.le_of_ble_eq_true rfl) (s_iconst dX12_hoot_21 (by decide) (s_istore_n dX12_hoot_22 rfl (s_mit (fun _ hk => okX12_hoot_23 hX n hk) n))) (Nat.le_of_ble_eq_true rfl) (Nat.le_of_ble_eq_true rfl))) (okX12_hoot_15 hX n)) (Nat.le_of_ble_eq_true rfl) (Nat.le_of_ble_eq_true rfl)))) (Nat.le_of_ble_eq_true rfl) (Nat.le_of_ble_eq_true rfl)))
def FX12_hoot (n : Nat) : List Value → mM → Option mR := mfn 4 (kX12_hoot_0 n)
theorem CtX12_hoot {E : mE} {X : State → Heap → Prop} {l : Launch} (hX : mXok E X) (n : Nat) : Ct E X l yX12_hoot cX12_hoot 4 (some .int) 6 0 0 (FX12_hoot n) := Ct_of (by decide) hX (okX12_hoot_0 hX n)
theorem dX12_isRest_0 : decode cX12_isRest 0 = .ok (.iconst 0, 1) := by decide +kernel
theorem dX12_isRest_1 : decode cX12_isRest 1 = .ok (.istore 5, 2) := by decide +kernel
theorem dX12_isRest_3 : decode cX12_isRest 3 = .ok (.iload 5, 2) := by decide +kernel
theorem dX12_isRest_5 : decode cX12_isRest 5 = .ok (.bipush 9, 2) := by decide +kernel
theorem dX12_isRest_7 : decode cX12_isRest 7 = .ok (.if_icmp .gt 58, 3) := by decide +kernel
theorem dX12_isRest_10 : decode cX12_isRest 10 = .ok (.aload_n 0, 1) := by decide +kernel
theorem dX12_isRest_11 : decode cX12_isRest 11 = .ok (.iload_n 1, 1) := by decide +kernel
theorem dX12_isRest_12 : decode cX12_isRest 12 = .ok (.iload_n 2, 1) := by decide +kernel
theorem dX12_isRest_13 : decode cX12_isRest 13 = .ok (.iload 5, 2) := by decide +kernel
theorem dX12_isRest_15 : decode cX12_isRest 15 = .ok (.iload 4, 2) := by decide +kernel
theorem dX12_isRest_17 : decode cX12_isRest 17 = .ok (.iconst 1, 1) := by decide +kernel
theorem dX12_isRest_18 : decode cX12_isRest 18 = .ok (.invokevirtual 469, 3) := by decide +kernel
theorem dX12_isRest_21 : decode cX12_isRest 21 = .ok (.aload_n 0, 1) := by decide +kernel
theorem dX12_isRest_22 : decode cX12_isRest 22 = .ok (.iload_n 1, 1) := by decide +kernel
theorem dX12_isRest_23 : decode cX12_isRest 23 = .ok (.iload_n 2, 1) := by decide +kernel
theorem dX12_isRest_24 : decode cX12_isRest 24 = .ok (.iload_n 3, 1) := by decide +kernel
theorem dX12_isRest_25 : decode cX12_isRest 25 = .ok (.iload 4, 2) := by decide +kernel
theorem dX12_isRest_27 : decode cX12_isRest 27 = .ok (.iconst 1, 1) := by decide +kernel
theorem dX12_isRest_28 : decode cX12_isRest 28 = .ok (.invokevirtual 469, 3) := by decide +kernel
theorem dX12_isRest_31 : decode cX12_isRest 31 = .ok (.if_icmp .gt 26, 3) := by decide +kernel
theorem dX12_isRest_34 : decode cX12_isRest 34 = .ok (.aload_n 0, 1) := by decide +kernel
theorem dX12_isRest_35 : decode cX12_isRest 35 = .ok (.iload_n 1, 1) := by decide +kernel
theorem dX12_isRest_36 : decode cX12_isRest 36 = .ok (.iload_n 2, 1) := by decide +kernel
theorem dX12_isRest_37 : decode cX12_isRest 37 = .ok (.iload_n 3, 1) := by decide +kernel
theorem dX12_isRest_38 : decode cX12_isRest 38 = .ok (.iload 5, 2) := by decide +kernel
theorem dX12_isRest_40 : decode cX12_isRest 40 = .ok (.iconst 0, 1) := by decide +kernel
theorem dX12_isRest_41 : decode cX12_isRest 41 = .ok (.invokevirtual 469, 3) := by decide +kernel
theorem dX12_isRest_44 : decode cX12_isRest 44 = .ok (.aload_n 0, 1) := by decide +kernel
theorem dX12_isRest_45 : decode cX12_isRest 45 = .ok (.iload_n 1, 1) := by decide +kernel
theorem dX12_isRest_46 : decode cX12_isRest 46 = .ok (.iload_n 2, 1) := by decide +kernel
theorem dX12_isRest_47 : decode cX12_isRest 47 = .ok (.iload_n 3, 1) := by decide +kernel
theorem dX12_isRest_48 : decode cX12_isRest 48 = .ok (.iload 4, 2) := by decide +kernel
theorem dX12_isRest_50 : decode cX12_isRest 50 = .ok (.iconst 0, 1) := by decide +kernel
theorem dX12_isRest_51 : decode cX12_isRest 51 = .ok (.invokevirtual 469, 3) := by decide +kernel
theorem dX12_isRest_54 : decode cX12_isRest 54 = .ok (.if_icmp .le 5, 3) := by decide +kernel
theorem dX12_isRest_57 : decode cX12_isRest 57 = .ok (.iconst 0, 1) := by decide +kernel
theorem dX12_isRest_58 : decode cX12_isRest 58 = .ok (.ireturn, 1) := by decide +kernel
theorem dX12_isRest_59 : decode cX12_isRest 59 = .ok (.iinc 5 1, 3) := by decide +kernel
theorem dX12_isRest_62 : decode cX12_isRest 62 = .ok (.goto (-59), 3) := by decide +kernel
theorem dX12_isRest_65 : decode cX12_isRest 65 = .ok (.iconst 1, 1) := by decide +kernel
theorem dX12_isRest_66 : decode cX12_isRest 66 = .ok (.ireturn, 1) := by decide +kernel
def kX12_isRest_57 (n : Nat) : mK := i_cst (.int (0)) (i_rZ)
set_option maxRecDepth 20000 in
theorem okX12_isRest_57 {E : mE} {X : State → Heap → Prop} {l : Launch} (hX : mXok E X) (n : Nat) : Sd E X l yX12_isRest cX12_isRest 6 (some .boolean) 6 0 0 0 0 57 (kX12_isRest_57 n) := s_iconst dX12_isRest_57 (by decide) (s_rZ dX12_isRest_58 (Nat.le_of_ble_eq_true rfl) (Nat.le_of_ble_eq_true rfl))
def kX12_isRest_41 (n : Nat) (r3 : mK) : mK := i_cV 12 5 (FX12_soldFor n) (i_ldA 0 (i_ldI 1 (i_ldI 2 (i_ldI 3 (i_ldI 4 (i_cst (.int (0)) (i_cV 12 5 (FX12_soldFor n) (i_c2 (fun x y => decide (x ≤ y)) (i_inc 5 (1) (r3)) (kX12_isRest_57 n)))))))))
set_option maxRecDepth 20000 in
theorem okX12_isRest_41 {E : mE} {X : State → Heap → Prop} {l : Launch} (hX : mXok E X) (n : Nat) {r3 : mK} (h3 : Sd E X l yX12_isRest cX12_isRest 6 (some .boolean) 6 0 0 0 0 3 r3) : Sd E X l yX12_isRest cX12_isRest 6 (some .boolean) 6 0 0 0 0 41 (kX12_isRest_41 n r3) := s_cV dX12_isRest_41 lMX12_469 bVX12_soldFor rfl (CtX12_soldFor hX n) (Nat.le_of_ble_eq_true rfl) (s_aload_n dX12_isRest_44 rfl (s_iload_n dX12_isRest_45 rfl (s_iload_n dX12_isRest_46 rfl (s_iload_n dX12_isRest_47 rfl (s_iload dX12_isRest_48 (s_iconst dX12_isRest_50 (by decide) (s_cV dX12_isRest_51 lMX12_469 bVX12_soldFor rfl (CtX12_soldFor hX n) (Nat.le_of_ble_eq_true rfl) (s_icle dX12_isRest_54 (by decide) (s_iinc dX12_isRest_59 (by decide) (s_goto dX12_isRest_62 (by decide) h3)) (okX12_isRest_57 hX n)) (Nat.le_of_ble_eq_true rfl) (Nat.le_of_ble_eq_true rfl)))))))) (Nat.le_of_ble_eq_true rfl) (Nat.le_of_ble_eq_true rfl)
def kX12_isRest_3 (n : Nat) (r3 : mK) : mK := i_ldI 5 (i_cst (.int (9)) (i_c2 (fun x y => decide (y < x)) (i_cst (.int (1)) (i_rZ)) (i_ldA 0 (i_ldI 1 (i_ldI 2 (i_ldI 5 (i_ldI 4 (i_cst (.int (1)) (i_cV 12 5 (FX12_soldFor n) (i_ldA 0 (i_ldI 1 (i_ldI 2 (i_ldI 3 (i_ldI 4 (i_cst (.int (1)) (i_cV 12 5 (FX12_soldFor n) (i_c2 (fun x y => decide (y < x)) (kX12_isRest_57 n) (i_ldA 0 (i_ldI 1 (i_ldI 2 (i_ldI 3 (i_ldI 5 (i_cst (.int (0)) (kX12_isRest_41 n r3))))))))))))))))))))))))
set_option maxRecDepth 20000 in
theorem okX12_isRest_3 {E : mE} {X : State → Heap → Prop} {l : Launch} (hX : mXok E X) (n : Nat) {r3 : mK} (h3 : Sd E X l yX12_isRest cX12_isRest 6 (some .boolean) 6 0 0 0 0 3 r3) : Sd E X l yX12_isRest cX12_isRest 6 (some .boolean) 6 0 0 0 0 3 (kX12_isRest_3 n r3) := s_iload dX12_isRest_3 (s_bipush dX12_isRest_5 (by decide) (s_icgt dX12_isRest_7 (by decide) (s_iconst dX12_isRest_65 (by decide) (s_rZ dX12_isRest_66 (Nat.le_of_ble_eq_true rfl) (Nat.le_of_ble_eq_true rfl))) (s_aload_n dX12_isRest_10 rfl (s_iload_n dX12_isRest_11 rfl (s_iload_n dX12_isRest_12 rfl (s_iload dX12_isRest_13 (s_iload dX12_isRest_15 (s_iconst dX12_isRest_17 (by decide) (s_cV dX12_isRest_18 lMX12_469 bVX12_soldFor rfl (CtX12_soldFor hX n) (Nat.le_of_ble_eq_true rfl) (s_aload_n dX12_isRest_21 rfl (s_iload_n dX12_isRest_22 rfl (s_iload_n dX12_isRest_23 rfl (s_iload_n dX12_isRest_24 rfl (s_iload dX12_isRest_25 (s_iconst dX12_isRest_27 (by decide) (s_cV dX12_isRest_28 lMX12_469 bVX12_soldFor rfl (CtX12_soldFor hX n) (Nat.le_of_ble_eq_true rfl) (s_icgt dX12_isRest_31 (by decide) (okX12_isRest_57 hX n) (s_aload_n dX12_isRest_34 rfl (s_iload_n dX12_isRest_35 rfl (s_iload_n dX12_isRest_36 rfl (s_iload_n dX12_isRest_37 rfl (s_iload dX12_isRest_38 (s_iconst dX12_isRest_40 (by decide) (okX12_isRest_41 hX n h3)))))))) (Nat.le_of_ble_eq_true rfl) (Nat.le_of_ble_eq_true rfl)))))))) (Nat.le_of_ble_eq_true rfl) (Nat.le_of_ble_eq_true rfl))))))))))
def kX12_isRest_0 (n : Nat) : mK := i_cst (.int (0)) (i_stI 5 (mit (kX12_isRest_3 n ) n))
set_option maxRecDepth 20000 in
theorem okX12_isRest_0 {E : mE} {X : State → Heap → Prop} {l : Launch} (hX : mXok E X) (n : Nat) : Sd E X l yX12_isRest cX12_isRest 6 (some .boolean) 6 0 0 0 0 0 (kX12_isRest_0 n) := s_iconst dX12_isRest_0 (by decide) (s_istore dX12_isRest_1 (s_mit (fun _ hk => okX12_isRest_3 hX n hk) n))
def FX12_isRest (n : Nat) : List Value → mM → Option mR := mfn 6 (kX12_isRest_0 n)
theorem CtX12_isRest {E : mE} {X : State → Heap → Prop} {l : Launch} (hX : mXok E X) (n : Nat) : Ct E X l yX12_isRest cX12_isRest 6 (some .boolean) 6 0 0 (FX12_isRest n) := Ct_of (by decide) hX (okX12_isRest_0 hX n)
theorem dX12_layWorths_0 : decode cX12_layWorths 0 = .ok (.aload_n 0, 1) := by decide +kernel
theorem dX12_layWorths_1 : decode cX12_layWorths 1 = .ok (.invokevirtual 442, 3) := by decide +kernel
theorem dX12_layWorths_4 : decode cX12_layWorths 4 = .ok (.iconst 0, 1) := by decide +kernel
theorem dX12_layWorths_5 : decode cX12_layWorths 5 = .ok (.istore_n 1, 1) := by decide +kernel
theorem dX12_layWorths_6 : decode cX12_layWorths 6 = .ok (.iload_n 1, 1) := by decide +kernel
theorem dX12_layWorths_7 : decode cX12_layWorths 7 = .ok (.bipush 99, 2) := by decide +kernel
theorem dX12_layWorths_9 : decode cX12_layWorths 9 = .ok (.if_icmp .gt 57, 3) := by decide +kernel
theorem dX12_layWorths_12 : decode cX12_layWorths 12 = .ok (.aload_n 0, 1) := by decide +kernel
theorem dX12_layWorths_13 : decode cX12_layWorths 13 = .ok (.iload_n 1, 1) := by decide +kernel
theorem dX12_layWorths_14 : decode cX12_layWorths 14 = .ok (.putfield 85, 3) := by decide +kernel
theorem dX12_layWorths_17 : decode cX12_layWorths 17 = .ok (.aload_n 0, 1) := by decide +kernel
theorem dX12_layWorths_18 : decode cX12_layWorths 18 = .ok (.invokevirtual 354, 3) := by decide +kernel
theorem dX12_layWorths_21 : decode cX12_layWorths 21 = .ok (.iconst 0, 1) := by decide +kernel
theorem dX12_layWorths_22 : decode cX12_layWorths 22 = .ok (.istore_n 2, 1) := by decide +kernel
theorem dX12_layWorths_23 : decode cX12_layWorths 23 = .ok (.iload_n 2, 1) := by decide +kernel
theorem dX12_layWorths_24 : decode cX12_layWorths 24 = .ok (.bipush 20, 2) := by decide +kernel
theorem dX12_layWorths_26 : decode cX12_layWorths 26 = .ok (.if_icmp .gt 34, 3) := by decide +kernel
theorem dX12_layWorths_29 : decode cX12_layWorths 29 = .ok (.aload_n 0, 1) := by decide +kernel
theorem dX12_layWorths_30 : decode cX12_layWorths 30 = .ok (.getfield 109, 3) := by decide +kernel
theorem dX12_layWorths_33 : decode cX12_layWorths 33 = .ok (.bipush 21, 2) := by decide +kernel
theorem dX12_layWorths_35 : decode cX12_layWorths 35 = .ok (.iload_n 1, 1) := by decide +kernel
theorem dX12_layWorths_36 : decode cX12_layWorths 36 = .ok (.imul, 1) := by decide +kernel
theorem dX12_layWorths_37 : decode cX12_layWorths 37 = .ok (.iload_n 2, 1) := by decide +kernel
theorem dX12_layWorths_38 : decode cX12_layWorths 38 = .ok (.iadd, 1) := by decide +kernel
theorem dX12_layWorths_39 : decode cX12_layWorths 39 = .ok (.aload_n 0, 1) := by decide +kernel
theorem dX12_layWorths_40 : decode cX12_layWorths 40 = .ok (.aload_n 0, 1) := by decide +kernel
theorem dX12_layWorths_41 : decode cX12_layWorths 41 = .ok (.invokevirtual 341, 3) := by decide +kernel
theorem dX12_layWorths_44 : decode cX12_layWorths 44 = .ok (.iconst 1, 1) := by decide +kernel
theorem dX12_layWorths_45 : decode cX12_layWorths 45 = .ok (.isub, 1) := by decide +kernel
theorem dX12_layWorths_46 : decode cX12_layWorths 46 = .ok (.invokevirtual 381, 3) := by decide +kernel
theorem dX12_layWorths_49 : decode cX12_layWorths 49 = .ok (.iastore, 1) := by decide +kernel
theorem dX12_layWorths_50 : decode cX12_layWorths 50 = .ok (.aload_n 0, 1) := by decide +kernel
theorem dX12_layWorths_51 : decode cX12_layWorths 51 = .ok (.invokevirtual 415, 3) := by decide +kernel
theorem dX12_layWorths_54 : decode cX12_layWorths 54 = .ok (.iinc 2 1, 3) := by decide +kernel
theorem dX12_layWorths_57 : decode cX12_layWorths 57 = .ok (.goto (-34), 3) := by decide +kernel
theorem dX12_layWorths_60 : decode cX12_layWorths 60 = .ok (.iinc 1 1, 3) := by decide +kernel
theorem dX12_layWorths_63 : decode cX12_layWorths 63 = .ok (.goto (-57), 3) := by decide +kernel
theorem dX12_layWorths_66 : decode cX12_layWorths 66 = .ok (.aload_n 0, 1) := by decide +kernel
theorem dX12_layWorths_67 : decode cX12_layWorths 67 = .ok (.iconst (-1), 1) := by decide +kernel
theorem dX12_layWorths_68 : decode cX12_layWorths 68 = .ok (.putfield 85, 3) := by decide +kernel
theorem dX12_layWorths_71 : decode cX12_layWorths 71 = .ok (.aload_n 0, 1) := by decide +kernel
theorem dX12_layWorths_72 : decode cX12_layWorths 72 = .ok (.invokevirtual 445, 3) := by decide +kernel
theorem dX12_layWorths_75 : decode cX12_layWorths 75 = .ok (.return_, 1) := by decide +kernel
def kX12_layWorths_23 (n : Nat) (r6 : mK) (r23 : mK) : mK := i_ldI 2 (i_cst (.int (20)) (i_c2 (fun x y => decide (y < x)) (i_inc 1 (1) (r6)) (i_ldA 0 (i_gA 12 51 (i_cst (.int (21)) (i_ldI 1 (i_bin (fun x y => x * y) (i_ldI 2 (i_bin (fun x y => x + y) (i_ldA 0 (i_ldA 0 (i_cV 12 0 (FX12_many n) (i_cst (.int (1)) (i_bin (fun x y => x - y) (i_cV 12 1 (FX12_worthOf n) (i_as 0 (i_ldA 0 (i_cV 12 0 (FX12_goYear n) (i_inc 2 (1) (r23))))))))))))))))))))
set_option maxRecDepth 20000 in
theorem okX12_layWorths_23 {E : mE} {X : State → Heap → Prop} {l : Launch} (hX : mXok E X) (n : Nat) {r6 : mK} (h6 : Sd E X l yX12_layWorths cX12_layWorths 3 none 6 0 0 0 0 6 r6) {r23 : mK} (h23 : Sd E X l yX12_layWorths cX12_layWorths 3 none 6 0 0 0 0 23 r23) : Sd E X l yX12_layWorths cX12_layWorths 3 none 6 0 0 0 0 23 (kX12_layWorths_23 n r6 r23) := s_iload_n dX12_layWorths_23 rfl (s_bipush dX12_layWorths_24 (by decide) (s_icgt dX12_layWorths_26 (by decide) (s_iinc dX12_layWorths_60 (by decide) (s_goto dX12_layWorths_63 (by decide) h6)) (s_aload_n dX12_layWorths_29 rfl (s_gA dX12_layWorths_30 lFX12_109 (s_bipush dX12_layWorths_33 (by decide) (s_iload_n dX12_layWorths_35 rfl (s_imul dX12_layWorths_36 (s_iload_n dX12_layWorths_37 rfl (s_iadd dX12_layWorths_38 (s_aload_n dX12_layWorths_39 rfl (s_aload_n dX12_layWorths_40 rfl (s_cV dX12_layWorths_41 lMX12_341 bVX12_many rfl (CtX12_many hX n) (Nat.le_of_ble_eq_true rfl) (s_iconst dX12_layWorths_44 (by decide) (s_isub dX12_layWorths_45 (s_cV dX12_layWorths_46 lMX12_381 bVX12_worthOf rfl (CtX12_worthOf hX n) (Nat.le_of_ble_eq_true rfl) (s_iast dX12_layWorths_49 (s_aload_n dX12_layWorths_50 rfl (s_cV dX12_layWorths_51 lMX12_415 bVX12_goYear rfl (CtX12_goYear hX n) (Nat.le_of_ble_eq_true rfl) (s_iinc dX12_layWorths_54 (by decide) (s_goto dX12_layWorths_57 (by decide) h23)) (Nat.le_of_ble_eq_true rfl) (Nat.le_of_ble_eq_true rfl)))) (Nat.le_of_ble_eq_true rfl) (Nat.le_of_ble_eq_true rfl)))) (Nat.le_of_ble_eq_true rfl) (Nat.le_of_ble_eq_true rfl)))))))))))))
def kX12_layWorths_6 (n : Nat) (r6 : mK) : mK := i_ldI 1 (i_cst (.int (99)) (i_c2 (fun x y => decide (y < x)) (i_ldA 0 (i_cst (.int (-1)) (i_pI 12 40 (i_ldA 0 (i_cV 12 0 (FX12_bringBack n) (i_rV)))))) (i_ldA 0 (i_ldI 1 (i_pI 12 40 (i_ldA 0 (i_cV 12 0 (FX12_layTold n) (i_cst (.int (0)) (i_stI 2 (mit (kX12_layWorths_23 n r6) n))))))))))
set_option maxRecDepth 20000 in
theorem okX12_layWorths_6 {E : mE} {X : State → Heap → Prop} {l : Launch} (hX : mXok E X) (n : Nat) {r6 : mK} (h6 : Sd E X l yX12_layWorths cX12_layWorths 3 none 6 0 0 0 0 6 r6) : Sd E X l yX12_layWorths cX12_layWorths 3 none 6 0 0 0 0 6 (kX12_layWorths_6 n r6) := s_iload_n dX12_layWorths_6 rfl (s_bipush dX12_layWorths_7 (by decide) (s_icgt dX12_layWorths_9 (by decide) (s_aload_n dX12_layWorths_66 rfl (s_iconst dX12_layWorths_67 (by decide) (s_pI dX12_layWorths_68 lFX12_85 (s_aload_n dX12_layWorths_71 rfl (s_cV dX12_layWorths_72 lMX12_445 bVX12_bringBack rfl (CtX12_bringBack hX n) (Nat.le_of_ble_eq_true rfl) (s_rV dX12_layWorths_75 (Nat.le_of_ble_eq_true rfl) (Nat.le_of_ble_eq_true rfl)) (Nat.le_of_ble_eq_true rfl) (Nat.le_of_ble_eq_true rfl)))))) (s_aload_n dX12_layWorths_12 rfl (s_iload_n dX12_layWorths_13 rfl (s_pI dX12_layWorths_14 lFX12_85 (s_aload_n dX12_layWorths_17 rfl (s_cV dX12_layWorths_18 lMX12_354 bVX12_layTold rfl (CtX12_layTold hX n) (Nat.le_of_ble_eq_true rfl) (s_iconst dX12_layWorths_21 (by decide) (s_istore_n dX12_layWorths_22 rfl (s_mit (fun _ hk => okX12_layWorths_23 hX n h6 hk) n))) (Nat.le_of_ble_eq_true rfl) (Nat.le_of_ble_eq_true rfl))))))))
def kX12_layWorths_0 (n : Nat) : mK := i_ldA 0 (i_cV 12 0 (FX12_keepNow n) (i_cst (.int (0)) (i_stI 1 (mit (kX12_layWorths_6 n ) n))))
set_option maxRecDepth 20000 in
theorem okX12_layWorths_0 {E : mE} {X : State → Heap → Prop} {l : Launch} (hX : mXok E X) (n : Nat) : Sd E X l yX12_layWorths cX12_layWorths 3 none 6 0 0 0 0 0 (kX12_layWorths_0 n) := s_aload_n dX12_layWorths_0 rfl (s_cV dX12_layWorths_1 lMX12_442 bVX12_keepNow rfl (CtX12_keepNow hX n) (Nat.le_of_ble_eq_true rfl) (s_iconst dX12_layWorths_4 (by decide) (s_istore_n dX12_layWorths_5 rfl (s_mit (fun _ hk => okX12_layWorths_6 hX n hk) n))) (Nat.le_of_ble_eq_true rfl) (Nat.le_of_ble_eq_true rfl))
def FX12_layWorths (n : Nat) : List Value → mM → Option mR := mfn 3 (kX12_layWorths_0 n)
theorem CtX12_layWorths {E : mE} {X : State → Heap → Prop} {l : Launch} (hX : mXok E X) (n : Nat) : Ct E X l yX12_layWorths cX12_layWorths 3 none 6 0 0 (FX12_layWorths n) := Ct_of (by decide) hX (okX12_layWorths_0 hX n)
theorem dX12_price_0 : decode cX12_price 0 = .ok (.aload_n 0, 1) := by decide +kernel
theorem dX12_price_1 : decode cX12_price 1 = .ok (.invokevirtual 406, 3) := by decide +kernel
theorem dX12_price_4 : decode cX12_price 4 = .ok (.ireturn, 1) := by decide +kernel
def kX12_price_0 (n : Nat) : mK := i_ldA 0 (i_cV 12 0 (FX12_priceNow n) (i_rI))
set_option maxRecDepth 20000 in
theorem okX12_price_0 {E : mE} {X : State → Heap → Prop} {l : Launch} (hX : mXok E X) (n : Nat) : Sd E X l yX12_price cX12_price 1 (some .int) 6 0 0 0 0 0 (kX12_price_0 n) := s_aload_n dX12_price_0 rfl (s_cV dX12_price_1 lMX12_406 bVX12_priceNow rfl (CtX12_priceNow hX n) (Nat.le_of_ble_eq_true rfl) (s_rI dX12_price_4 (Nat.le_of_ble_eq_true rfl) (Nat.le_of_ble_eq_true rfl)) (Nat.le_of_ble_eq_true rfl) (Nat.le_of_ble_eq_true rfl))
def FX12_price (n : Nat) : List Value → mM → Option mR := mfn 1 (kX12_price_0 n)
theorem CtX12_price {E : mE} {X : State → Heap → Prop} {l : Launch} (hX : mXok E X) (n : Nat) : Ct E X l yX12_price cX12_price 1 (some .int) 6 0 0 (FX12_price n) := Ct_of (by decide) hX (okX12_price_0 hX n)
theorem dX12_priceBehind_0 : decode cX12_priceBehind 0 = .ok (.aload_n 0, 1) := by decide +kernel
theorem dX12_priceBehind_1 : decode cX12_priceBehind 1 = .ok (.invokevirtual 442, 3) := by decide +kernel
theorem dX12_priceBehind_4 : decode cX12_priceBehind 4 = .ok (.iconst 0, 1) := by decide +kernel
theorem dX12_priceBehind_5 : decode cX12_priceBehind 5 = .ok (.istore_n 2, 1) := by decide +kernel
theorem dX12_priceBehind_6 : decode cX12_priceBehind 6 = .ok (.iload_n 2, 1) := by decide +kernel
theorem dX12_priceBehind_7 : decode cX12_priceBehind 7 = .ok (.iload_n 1, 1) := by decide +kernel
theorem dX12_priceBehind_8 : decode cX12_priceBehind 8 = .ok (.if_icmp .ge 13, 3) := by decide +kernel
theorem dX12_priceBehind_11 : decode cX12_priceBehind 11 = .ok (.aload_n 0, 1) := by decide +kernel
theorem dX12_priceBehind_12 : decode cX12_priceBehind 12 = .ok (.invokevirtual 415, 3) := by decide +kernel
theorem dX12_priceBehind_15 : decode cX12_priceBehind 15 = .ok (.iinc 2 1, 3) := by decide +kernel
theorem dX12_priceBehind_18 : decode cX12_priceBehind 18 = .ok (.goto (-12), 3) := by decide +kernel
theorem dX12_priceBehind_21 : decode cX12_priceBehind 21 = .ok (.aload_n 0, 1) := by decide +kernel
theorem dX12_priceBehind_22 : decode cX12_priceBehind 22 = .ok (.invokevirtual 406, 3) := by decide +kernel
theorem dX12_priceBehind_25 : decode cX12_priceBehind 25 = .ok (.istore_n 2, 1) := by decide +kernel
theorem dX12_priceBehind_26 : decode cX12_priceBehind 26 = .ok (.aload_n 0, 1) := by decide +kernel
theorem dX12_priceBehind_27 : decode cX12_priceBehind 27 = .ok (.invokevirtual 445, 3) := by decide +kernel
theorem dX12_priceBehind_30 : decode cX12_priceBehind 30 = .ok (.iload_n 2, 1) := by decide +kernel
theorem dX12_priceBehind_31 : decode cX12_priceBehind 31 = .ok (.ireturn, 1) := by decide +kernel
def kX12_priceBehind_6 (n : Nat) (r6 : mK) : mK := i_ldI 2 (i_ldI 1 (i_c2 (fun x y => decide (y ≤ x)) (i_ldA 0 (i_cV 12 0 (FX12_priceNow n) (i_stI 2 (i_ldA 0 (i_cV 12 0 (FX12_bringBack n) (i_ldI 2 (i_rI))))))) (i_ldA 0 (i_cV 12 0 (FX12_goYear n) (i_inc 2 (1) (r6))))))
set_option maxRecDepth 20000 in
theorem okX12_priceBehind_6 {E : mE} {X : State → Heap → Prop} {l : Launch} (hX : mXok E X) (n : Nat) {r6 : mK} (h6 : Sd E X l yX12_priceBehind cX12_priceBehind 3 (some .int) 6 0 0 0 0 6 r6) : Sd E X l yX12_priceBehind cX12_priceBehind 3 (some .int) 6 0 0 0 0 6 (kX12_priceBehind_6 n r6) := s_iload_n dX12_priceBehind_6 rfl (s_iload_n dX12_priceBehind_7 rfl (s_icge dX12_priceBehind_8 (by decide) (s_aload_n dX12_priceBehind_21 rfl (s_cV dX12_priceBehind_22 lMX12_406 bVX12_priceNow rfl (CtX12_priceNow hX n) (Nat.le_of_ble_eq_true rfl) (s_istore_n dX12_priceBehind_25 rfl (s_aload_n dX12_priceBehind_26 rfl (s_cV dX12_priceBehind_27 lMX12_445 bVX12_bringBack rfl (CtX12_bringBack hX n) (Nat.le_of_ble_eq_true rfl) (s_iload_n dX12_priceBehind_30 rfl (s_rI dX12_priceBehind_31 (Nat.le_of_ble_eq_true rfl) (Nat.le_of_ble_eq_true rfl))) (Nat.le_of_ble_eq_true rfl) (Nat.le_of_ble_eq_true rfl)))) (Nat.le_of_ble_eq_true rfl) (Nat.le_of_ble_eq_true rfl))) (s_aload_n dX12_priceBehind_11 rfl (s_cV dX12_priceBehind_12 lMX12_415 bVX12_goYear rfl (CtX12_goYear hX n) (Nat.le_of_ble_eq_true rfl) (s_iinc dX12_priceBehind_15 (by decide) (s_goto dX12_priceBehind_18 (by decide) h6)) (Nat.le_of_ble_eq_true rfl) (Nat.le_of_ble_eq_true rfl)))))
def kX12_priceBehind_0 (n : Nat) : mK := i_ldA 0 (i_cV 12 0 (FX12_keepNow n) (i_cst (.int (0)) (i_stI 2 (mit (kX12_priceBehind_6 n ) n))))
set_option maxRecDepth 20000 in
theorem okX12_priceBehind_0 {E : mE} {X : State → Heap → Prop} {l : Launch} (hX : mXok E X) (n : Nat) : Sd E X l yX12_priceBehind cX12_priceBehind 3 (some .int) 6 0 0 0 0 0 (kX12_priceBehind_0 n) := s_aload_n dX12_priceBehind_0 rfl (s_cV dX12_priceBehind_1 lMX12_442 bVX12_keepNow rfl (CtX12_keepNow hX n) (Nat.le_of_ble_eq_true rfl) (s_iconst dX12_priceBehind_4 (by decide) (s_istore_n dX12_priceBehind_5 rfl (s_mit (fun _ hk => okX12_priceBehind_6 hX n hk) n))) (Nat.le_of_ble_eq_true rfl) (Nat.le_of_ble_eq_true rfl))
def FX12_priceBehind (n : Nat) : List Value → mM → Option mR := mfn 3 (kX12_priceBehind_0 n)
theorem CtX12_priceBehind {E : mE} {X : State → Heap → Prop} {l : Launch} (hX : mXok E X) (n : Nat) : Ct E X l yX12_priceBehind cX12_priceBehind 3 (some .int) 6 0 0 (FX12_priceBehind n) := Ct_of (by decide) hX (okX12_priceBehind_0 hX n)
theorem dX12_quiet_0 : decode cX12_quiet 0 = .ok (.aload_n 0, 1) := by decide +kernel
theorem dX12_quiet_1 : decode cX12_quiet 1 = .ok (.invokevirtual 442, 3) := by decide +kernel
theorem dX12_quiet_4 : decode cX12_quiet 4 = .ok (.iconst 0, 1) := by decide +kernel
theorem dX12_quiet_5 : decode cX12_quiet 5 = .ok (.istore_n 1, 1) := by decide +kernel
theorem dX12_quiet_6 : decode cX12_quiet 6 = .ok (.iload_n 1, 1) := by decide +kernel
theorem dX12_quiet_7 : decode cX12_quiet 7 = .ok (.bipush 99, 2) := by decide +kernel
theorem dX12_quiet_9 : decode cX12_quiet 9 = .ok (.if_icmp .gt 20, 3) := by decide +kernel
theorem dX12_quiet_12 : decode cX12_quiet 12 = .ok (.aload_n 0, 1) := by decide +kernel
theorem dX12_quiet_13 : decode cX12_quiet 13 = .ok (.invokevirtual 403, 3) := by decide +kernel
theorem dX12_quiet_16 : decode cX12_quiet 16 = .ok (.ifCond .le 13, 3) := by decide +kernel
theorem dX12_quiet_19 : decode cX12_quiet 19 = .ok (.aload_n 0, 1) := by decide +kernel
theorem dX12_quiet_20 : decode cX12_quiet 20 = .ok (.invokevirtual 415, 3) := by decide +kernel
theorem dX12_quiet_23 : decode cX12_quiet 23 = .ok (.iinc 1 1, 3) := by decide +kernel
theorem dX12_quiet_26 : decode cX12_quiet 26 = .ok (.goto (-20), 3) := by decide +kernel
theorem dX12_quiet_29 : decode cX12_quiet 29 = .ok (.aload_n 0, 1) := by decide +kernel
theorem dX12_quiet_30 : decode cX12_quiet 30 = .ok (.invokevirtual 445, 3) := by decide +kernel
theorem dX12_quiet_33 : decode cX12_quiet 33 = .ok (.iload_n 1, 1) := by decide +kernel
theorem dX12_quiet_34 : decode cX12_quiet 34 = .ok (.bipush 99, 2) := by decide +kernel
theorem dX12_quiet_36 : decode cX12_quiet 36 = .ok (.if_icmp .gt 7, 3) := by decide +kernel
theorem dX12_quiet_39 : decode cX12_quiet 39 = .ok (.iload_n 1, 1) := by decide +kernel
theorem dX12_quiet_40 : decode cX12_quiet 40 = .ok (.goto 4, 3) := by decide +kernel
theorem dX12_quiet_43 : decode cX12_quiet 43 = .ok (.iconst (-1), 1) := by decide +kernel
theorem dX12_quiet_44 : decode cX12_quiet 44 = .ok (.ireturn, 1) := by decide +kernel
def kX12_quiet_44 (n : Nat) : mK := i_rI
set_option maxRecDepth 20000 in
theorem okX12_quiet_44 {E : mE} {X : State → Heap → Prop} {l : Launch} (hX : mXok E X) (n : Nat) : Sd E X l yX12_quiet cX12_quiet 2 (some .int) 6 0 0 0 0 44 (kX12_quiet_44 n) := s_rI dX12_quiet_44 (Nat.le_of_ble_eq_true rfl) (Nat.le_of_ble_eq_true rfl)
def kX12_quiet_29 (n : Nat) : mK := i_ldA 0 (i_cV 12 0 (FX12_bringBack n) (i_ldI 1 (i_cst (.int (99)) (i_c2 (fun x y => decide (y < x)) (i_cst (.int (-1)) (kX12_quiet_44 n)) (i_ldI 1 ((kX12_quiet_44 n)))))))
set_option maxRecDepth 20000 in
theorem okX12_quiet_29 {E : mE} {X : State → Heap → Prop} {l : Launch} (hX : mXok E X) (n : Nat) : Sd E X l yX12_quiet cX12_quiet 2 (some .int) 6 0 0 0 0 29 (kX12_quiet_29 n) := s_aload_n dX12_quiet_29 rfl (s_cV dX12_quiet_30 lMX12_445 bVX12_bringBack rfl (CtX12_bringBack hX n) (Nat.le_of_ble_eq_true rfl) (s_iload_n dX12_quiet_33 rfl (s_bipush dX12_quiet_34 (by decide) (s_icgt dX12_quiet_36 (by decide) (s_iconst dX12_quiet_43 (by decide) (okX12_quiet_44 hX n)) (s_iload_n dX12_quiet_39 rfl (s_goto dX12_quiet_40 (by decide) (okX12_quiet_44 hX n)))))) (Nat.le_of_ble_eq_true rfl) (Nat.le_of_ble_eq_true rfl))
def kX12_quiet_6 (n : Nat) (r6 : mK) : mK := i_ldI 1 (i_cst (.int (99)) (i_c2 (fun x y => decide (y < x)) (kX12_quiet_29 n) (i_ldA 0 (i_cV 12 0 (FX12_noiseNow n) (i_c0 (fun x => decide (x ≤ 0)) (kX12_quiet_29 n) (i_ldA 0 (i_cV 12 0 (FX12_goYear n) (i_inc 1 (1) (r6)))))))))
set_option maxRecDepth 20000 in
theorem okX12_quiet_6 {E : mE} {X : State → Heap → Prop} {l : Launch} (hX : mXok E X) (n : Nat) {r6 : mK} (h6 : Sd E X l yX12_quiet cX12_quiet 2 (some .int) 6 0 0 0 0 6 r6) : Sd E X l yX12_quiet cX12_quiet 2 (some .int) 6 0 0 0 0 6 (kX12_quiet_6 n r6) := s_iload_n dX12_quiet_6 rfl (s_bipush dX12_quiet_7 (by decide) (s_icgt dX12_quiet_9 (by decide) (okX12_quiet_29 hX n) (s_aload_n dX12_quiet_12 rfl (s_cV dX12_quiet_13 lMX12_403 bVX12_noiseNow rfl (CtX12_noiseNow hX n) (Nat.le_of_ble_eq_true rfl) (s_ifle dX12_quiet_16 (by decide) (okX12_quiet_29 hX n) (s_aload_n dX12_quiet_19 rfl (s_cV dX12_quiet_20 lMX12_415 bVX12_goYear rfl (CtX12_goYear hX n) (Nat.le_of_ble_eq_true rfl) (s_iinc dX12_quiet_23 (by decide) (s_goto dX12_quiet_26 (by decide) h6)) (Nat.le_of_ble_eq_true rfl) (Nat.le_of_ble_eq_true rfl)))) (Nat.le_of_ble_eq_true rfl) (Nat.le_of_ble_eq_true rfl)))))
def kX12_quiet_0 (n : Nat) : mK := i_ldA 0 (i_cV 12 0 (FX12_keepNow n) (i_cst (.int (0)) (i_stI 1 (mit (kX12_quiet_6 n ) n))))
set_option maxRecDepth 20000 in
theorem okX12_quiet_0 {E : mE} {X : State → Heap → Prop} {l : Launch} (hX : mXok E X) (n : Nat) : Sd E X l yX12_quiet cX12_quiet 2 (some .int) 6 0 0 0 0 0 (kX12_quiet_0 n) := s_aload_n dX12_quiet_0 rfl (s_cV dX12_quiet_1 lMX12_442 bVX12_keepNow rfl (CtX12_keepNow hX n) (Nat.le_of_ble_eq_true rfl) (s_iconst dX12_quiet_4 (by decide) (s_istore_n dX12_quiet_5 rfl (s_mit (fun _ hk => okX12_quiet_6 hX n hk) n))) (Nat.le_of_ble_eq_true rfl) (Nat.le_of_ble_eq_true rfl))
def FX12_quiet (n : Nat) : List Value → mM → Option mR := mfn 2 (kX12_quiet_0 n)
theorem CtX12_quiet {E : mE} {X : State → Heap → Prop} {l : Launch} (hX : mXok E X) (n : Nat) : Ct E X l yX12_quiet cX12_quiet 2 (some .int) 6 0 0 (FX12_quiet n) := Ct_of (by decide) hX (okX12_quiet_0 hX n)
theorem dX12_readCar_0 : decode cX12_readCar 0 = .ok (.bipush 8, 2) := by decide +kernel
theorem dX12_readCar_2 : decode cX12_readCar 2 = .ok (.aload_n 0, 1) := by decide +kernel
theorem dX12_readCar_3 : decode cX12_readCar 3 = .ok (.getfield 246, 3) := by decide +kernel
theorem dX12_readCar_6 : decode cX12_readCar 6 = .ok (.imul, 1) := by decide +kernel
theorem dX12_readCar_7 : decode cX12_readCar 7 = .ok (.aload_n 0, 1) := by decide +kernel
theorem dX12_readCar_8 : decode cX12_readCar 8 = .ok (.getfield 30, 3) := by decide +kernel
theorem dX12_readCar_11 : decode cX12_readCar 11 = .ok (.aload_n 0, 1) := by decide +kernel
theorem dX12_readCar_12 : decode cX12_readCar 12 = .ok (.getfield 246, 3) := by decide +kernel
theorem dX12_readCar_15 : decode cX12_readCar 15 = .ok (.iaload, 1) := by decide +kernel
theorem dX12_readCar_16 : decode cX12_readCar 16 = .ok (.iadd, 1) := by decide +kernel
theorem dX12_readCar_17 : decode cX12_readCar 17 = .ok (.istore_n 1, 1) := by decide +kernel
theorem dX12_readCar_18 : decode cX12_readCar 18 = .ok (.aload_n 0, 1) := by decide +kernel
theorem dX12_readCar_19 : decode cX12_readCar 19 = .ok (.getfield 197, 3) := by decide +kernel
theorem dX12_readCar_22 : decode cX12_readCar 22 = .ok (.iconst 2, 1) := by decide +kernel
theorem dX12_readCar_23 : decode cX12_readCar 23 = .ok (.if_icmp .eq 10, 3) := by decide +kernel
theorem dX12_readCar_26 : decode cX12_readCar 26 = .ok (.aload_n 0, 1) := by decide +kernel
theorem dX12_readCar_27 : decode cX12_readCar 27 = .ok (.invokevirtual 232, 3) := by decide +kernel
theorem dX12_readCar_30 : decode cX12_readCar 30 = .ok (.goto 19, 3) := by decide +kernel
theorem dX12_readCar_33 : decode cX12_readCar 33 = .ok (.aload_n 0, 1) := by decide +kernel
theorem dX12_readCar_34 : decode cX12_readCar 34 = .ok (.invokevirtual 282, 3) := by decide +kernel
theorem dX12_readCar_37 : decode cX12_readCar 37 = .ok (.ifCond .lt 12, 3) := by decide +kernel
theorem dX12_readCar_40 : decode cX12_readCar 40 = .ok (.aload_n 0, 1) := by decide +kernel
theorem dX12_readCar_41 : decode cX12_readCar 41 = .ok (.iconst 3, 1) := by decide +kernel
theorem dX12_readCar_42 : decode cX12_readCar 42 = .ok (.aload_n 0, 1) := by decide +kernel
theorem dX12_readCar_43 : decode cX12_readCar 43 = .ok (.getfield 190, 3) := by decide +kernel
theorem dX12_readCar_46 : decode cX12_readCar 46 = .ok (.invokevirtual 221, 3) := by decide +kernel
theorem dX12_readCar_49 : decode cX12_readCar 49 = .ok (.aload_n 0, 1) := by decide +kernel
theorem dX12_readCar_50 : decode cX12_readCar 50 = .ok (.invokevirtual 225, 3) := by decide +kernel
theorem dX12_readCar_53 : decode cX12_readCar 53 = .ok (.ifCond .ne 4, 3) := by decide +kernel
theorem dX12_readCar_56 : decode cX12_readCar 56 = .ok (.return_, 1) := by decide +kernel
theorem dX12_readCar_57 : decode cX12_readCar 57 = .ok (.aload_n 0, 1) := by decide +kernel
theorem dX12_readCar_58 : decode cX12_readCar 58 = .ok (.getfield 63, 3) := by decide +kernel
theorem dX12_readCar_61 : decode cX12_readCar 61 = .ok (.iload_n 1, 1) := by decide +kernel
theorem dX12_readCar_62 : decode cX12_readCar 62 = .ok (.aload_n 0, 1) := by decide +kernel
theorem dX12_readCar_63 : decode cX12_readCar 63 = .ok (.getfield 204, 3) := by decide +kernel
theorem dX12_readCar_66 : decode cX12_readCar 66 = .ok (.lastore, 1) := by decide +kernel
theorem dX12_readCar_67 : decode cX12_readCar 67 = .ok (.aload_n 0, 1) := by decide +kernel
theorem dX12_readCar_68 : decode cX12_readCar 68 = .ok (.invokevirtual 229, 3) := by decide +kernel
theorem dX12_readCar_71 : decode cX12_readCar 71 = .ok (.aload_n 0, 1) := by decide +kernel
theorem dX12_readCar_72 : decode cX12_readCar 72 = .ok (.getfield 45, 3) := by decide +kernel
theorem dX12_readCar_75 : decode cX12_readCar 75 = .ok (.iload_n 1, 1) := by decide +kernel
theorem dX12_readCar_76 : decode cX12_readCar 76 = .ok (.aload_n 0, 1) := by decide +kernel
theorem dX12_readCar_77 : decode cX12_readCar 77 = .ok (.invokevirtual 286, 3) := by decide +kernel
theorem dX12_readCar_80 : decode cX12_readCar 80 = .ok (.iastore, 1) := by decide +kernel
theorem dX12_readCar_81 : decode cX12_readCar 81 = .ok (.aload_n 0, 1) := by decide +kernel
theorem dX12_readCar_82 : decode cX12_readCar 82 = .ok (.getfield 48, 3) := by decide +kernel
theorem dX12_readCar_85 : decode cX12_readCar 85 = .ok (.iload_n 1, 1) := by decide +kernel
theorem dX12_readCar_86 : decode cX12_readCar 86 = .ok (.aload_n 0, 1) := by decide +kernel
theorem dX12_readCar_87 : decode cX12_readCar 87 = .ok (.ldc2_w 157, 3) := by decide +kernel
theorem dX12_readCar_90 : decode cX12_readCar 90 = .ok (.iconst 0, 1) := by decide +kernel
theorem dX12_readCar_91 : decode cX12_readCar 91 = .ok (.iconst 3, 1) := by decide +kernel
theorem dX12_readCar_92 : decode cX12_readCar 92 = .ok (.invokevirtual 268, 3) := by decide +kernel
theorem dX12_readCar_95 : decode cX12_readCar 95 = .ok (.iastore, 1) := by decide +kernel
theorem dX12_readCar_96 : decode cX12_readCar 96 = .ok (.aload_n 0, 1) := by decide +kernel
theorem dX12_readCar_97 : decode cX12_readCar 97 = .ok (.getfield 51, 3) := by decide +kernel
theorem dX12_readCar_100 : decode cX12_readCar 100 = .ok (.iload_n 1, 1) := by decide +kernel
theorem dX12_readCar_101 : decode cX12_readCar 101 = .ok (.aload_n 0, 1) := by decide +kernel
theorem dX12_readCar_102 : decode cX12_readCar 102 = .ok (.ldc2_w 159, 3) := by decide +kernel
theorem dX12_readCar_105 : decode cX12_readCar 105 = .ok (.iconst 0, 1) := by decide +kernel
theorem dX12_readCar_106 : decode cX12_readCar 106 = .ok (.bipush 99, 2) := by decide +kernel
theorem dX12_readCar_108 : decode cX12_readCar 108 = .ok (.invokevirtual 268, 3) := by decide +kernel
theorem dX12_readCar_111 : decode cX12_readCar 111 = .ok (.iastore, 1) := by decide +kernel
theorem dX12_readCar_112 : decode cX12_readCar 112 = .ok (.aload_n 0, 1) := by decide +kernel
theorem dX12_readCar_113 : decode cX12_readCar 113 = .ok (.getfield 54, 3) := by decide +kernel
theorem dX12_readCar_116 : decode cX12_readCar 116 = .ok (.iload_n 1, 1) := by decide +kernel
theorem dX12_readCar_117 : decode cX12_readCar 117 = .ok (.aload_n 0, 1) := by decide +kernel
theorem dX12_readCar_118 : decode cX12_readCar 118 = .ok (.invokevirtual 225, 3) := by decide +kernel
theorem dX12_readCar_121 : decode cX12_readCar 121 = .ok (.ifCond .eq 26, 3) := by decide +kernel
theorem dX12_readCar_124 : decode cX12_readCar 124 = .ok (.aload_n 0, 1) := by decide +kernel
theorem dX12_readCar_125 : decode cX12_readCar 125 = .ok (.ldc2_w 161, 3) := by decide +kernel
theorem dX12_readCar_128 : decode cX12_readCar 128 = .ok (.invokevirtual 235, 3) := by decide +kernel
theorem dX12_readCar_131 : decode cX12_readCar 131 = .ok (.ifCond .eq 16, 3) := by decide +kernel
theorem dX12_readCar_134 : decode cX12_readCar 134 = .ok (.aload_n 0, 1) := by decide +kernel
theorem dX12_readCar_135 : decode cX12_readCar 135 = .ok (.ldc2_w 161, 3) := by decide +kernel
theorem dX12_readCar_138 : decode cX12_readCar 138 = .ok (.iconst 0, 1) := by decide +kernel
theorem dX12_readCar_139 : decode cX12_readCar 139 = .ok (.bipush 9, 2) := by decide +kernel
theorem dX12_readCar_141 : decode cX12_readCar 141 = .ok (.invokevirtual 268, 3) := by decide +kernel
theorem dX12_readCar_144 : decode cX12_readCar 144 = .ok (.goto 4, 3) := by decide +kernel
theorem dX12_readCar_147 : decode cX12_readCar 147 = .ok (.iconst 1, 1) := by decide +kernel
theorem dX12_readCar_148 : decode cX12_readCar 148 = .ok (.iastore, 1) := by decide +kernel
theorem dX12_readCar_149 : decode cX12_readCar 149 = .ok (.aload_n 0, 1) := by decide +kernel
theorem dX12_readCar_150 : decode cX12_readCar 150 = .ok (.getfield 30, 3) := by decide +kernel
theorem dX12_readCar_153 : decode cX12_readCar 153 = .ok (.aload_n 0, 1) := by decide +kernel
theorem dX12_readCar_154 : decode cX12_readCar 154 = .ok (.getfield 246, 3) := by decide +kernel
theorem dX12_readCar_157 : decode cX12_readCar 157 = .ok (.dup2, 1) := by decide +kernel
theorem dX12_readCar_158 : decode cX12_readCar 158 = .ok (.iaload, 1) := by decide +kernel
theorem dX12_readCar_159 : decode cX12_readCar 159 = .ok (.iconst 1, 1) := by decide +kernel
theorem dX12_readCar_160 : decode cX12_readCar 160 = .ok (.iadd, 1) := by decide +kernel
theorem dX12_readCar_161 : decode cX12_readCar 161 = .ok (.iastore, 1) := by decide +kernel
theorem dX12_readCar_162 : decode cX12_readCar 162 = .ok (.return_, 1) := by decide +kernel
def kX12_readCar_148 (n : Nat) : mK := i_as 0 (i_ldA 0 (i_gA 12 14 (i_ldA 0 (i_gI 12 32 (i_dp2 (i_al 0 (i_cst (.int (1)) (i_bin (fun x y => x + y) (i_as 0 (i_rV))))))))))
set_option maxRecDepth 20000 in
theorem okX12_readCar_148 {E : mE} {X : State → Heap → Prop} {l : Launch} (hX : mXok E X) (n : Nat) : Sd E X l yX12_readCar cX12_readCar 2 none 6 0 0 0 0 148 (kX12_readCar_148 n) := s_iast dX12_readCar_148 (s_aload_n dX12_readCar_149 rfl (s_gA dX12_readCar_150 lFX12_30 (s_aload_n dX12_readCar_153 rfl (s_gI dX12_readCar_154 lFX12_246 (by decide) (s_dup2 dX12_readCar_157 (s_iald dX12_readCar_158 (s_iconst dX12_readCar_159 (by decide) (s_iadd dX12_readCar_160 (s_iast dX12_readCar_161 (s_rV dX12_readCar_162 (Nat.le_of_ble_eq_true rfl) (Nat.le_of_ble_eq_true rfl)))))))))))
def kX12_readCar_147 (n : Nat) : mK := i_cst (.int (1)) (kX12_readCar_148 n)
set_option maxRecDepth 20000 in
theorem okX12_readCar_147 {E : mE} {X : State → Heap → Prop} {l : Launch} (hX : mXok E X) (n : Nat) : Sd E X l yX12_readCar cX12_readCar 2 none 6 0 0 0 0 147 (kX12_readCar_147 n) := s_iconst dX12_readCar_147 (by decide) (okX12_readCar_148 hX n)
def kX12_readCar_139 (n : Nat) : mK := i_cst (.int (9)) (i_cV 12 3 (FX12_after n) ((kX12_readCar_148 n)))
set_option maxRecDepth 20000 in
theorem okX12_readCar_139 {E : mE} {X : State → Heap → Prop} {l : Launch} (hX : mXok E X) (n : Nat) : Sd E X l yX12_readCar cX12_readCar 2 none 6 0 0 0 0 139 (kX12_readCar_139 n) := s_bipush dX12_readCar_139 (by decide) (s_cV dX12_readCar_141 lMX12_268 bVX12_after rfl (CtX12_after hX n) (Nat.le_of_ble_eq_true rfl) (s_goto dX12_readCar_144 (by decide) (okX12_readCar_148 hX n)) (Nat.le_of_ble_eq_true rfl) (Nat.le_of_ble_eq_true rfl))
def kX12_readCar_92 (n : Nat) : mK := i_cV 12 3 (FX12_after n) (i_as 0 (i_ldA 0 (i_gA 12 21 (i_ldI 1 (i_ldA 0 (i_cst (.long (448546174067)) (i_cst (.int (0)) (i_cst (.int (99)) (i_cV 12 3 (FX12_after n) (i_as 0 (i_ldA 0 (i_gA 12 22 (i_ldI 1 (i_ldA 0 (i_cV 12 0 (FX12_isGood n) (i_c0 (fun x => decide (x = 0)) (kX12_readCar_147 n) (i_ldA 0 (i_cst (.long (1651467385)) (i_cV 12 1 (FX12_isWord n) (i_c0 (fun x => decide (x = 0)) (kX12_readCar_147 n) (i_ldA 0 (i_cst (.long (1651467385)) (i_cst (.int (0)) (kX12_readCar_139 n))))))))))))))))))))))))
set_option maxRecDepth 20000 in
theorem okX12_readCar_92 {E : mE} {X : State → Heap → Prop} {l : Launch} (hX : mXok E X) (n : Nat) : Sd E X l yX12_readCar cX12_readCar 2 none 6 0 0 0 0 92 (kX12_readCar_92 n) := s_cV dX12_readCar_92 lMX12_268 bVX12_after rfl (CtX12_after hX n) (Nat.le_of_ble_eq_true rfl) (s_iast dX12_readCar_95 (s_aload_n dX12_readCar_96 rfl (s_gA dX12_readCar_97 lFX12_51 (s_iload_n dX12_readCar_100 rfl (s_aload_n dX12_readCar_101 rfl (s_ldc2 dX12_readCar_102 lCX12_159 (s_iconst dX12_readCar_105 (by decide) (s_bipush dX12_readCar_106 (by decide) (s_cV dX12_readCar_108 lMX12_268 bVX12_after rfl (CtX12_after hX n) (Nat.le_of_ble_eq_true rfl) (s_iast dX12_readCar_111 (s_aload_n dX12_readCar_112 rfl (s_gA dX12_readCar_113 lFX12_54 (s_iload_n dX12_readCar_116 rfl (s_aload_n dX12_readCar_117 rfl (s_cV dX12_readCar_118 lMX12_225 bVX12_isGood rfl (CtX12_isGood hX n) (Nat.le_of_ble_eq_true rfl) (s_ifeq dX12_readCar_121 (by decide) (okX12_readCar_147 hX n) (s_aload_n dX12_readCar_124 rfl (s_ldc2 dX12_readCar_125 lCX12_161 (s_cV dX12_readCar_128 lMX12_235 bVX12_isWord rfl (CtX12_isWord hX n) (Nat.le_of_ble_eq_true rfl) (s_ifeq dX12_readCar_131 (by decide) (okX12_readCar_147 hX n) (s_aload_n dX12_readCar_134 rfl (s_ldc2 dX12_readCar_135 lCX12_161 (s_iconst dX12_readCar_138 (by decide) (okX12_readCar_139 hX n))))) (Nat.le_of_ble_eq_true rfl) (Nat.le_of_ble_eq_true rfl))))) (Nat.le_of_ble_eq_true rfl) (Nat.le_of_ble_eq_true rfl))))))) (Nat.le_of_ble_eq_true rfl) (Nat.le_of_ble_eq_true rfl)))))))))) (Nat.le_of_ble_eq_true rfl) (Nat.le_of_ble_eq_true rfl)
def kX12_readCar_49 (n : Nat) : mK := i_ldA 0 (i_cV 12 0 (FX12_isGood n) (i_c0 (fun x => decide (¬ x = 0)) (i_ldA 0 (i_gA 12 25 (i_ldI 1 (i_ldA 0 (i_gJ 12 10 (i_asJ (i_ldA 0 (i_cV 12 0 (FX12_goOn n) (i_ldA 0 (i_gA 12 19 (i_ldI 1 (i_ldA 0 (i_cV 12 0 (FX12_readCell n) (i_as 0 (i_ldA 0 (i_gA 12 20 (i_ldI 1 (i_ldA 0 (i_cst (.long (448377480307)) (i_cst (.int (0)) (i_cst (.int (3)) (kX12_readCar_92 n)))))))))))))))))))))) (i_rV)))
set_option maxRecDepth 20000 in
theorem okX12_readCar_49 {E : mE} {X : State → Heap → Prop} {l : Launch} (hX : mXok E X) (n : Nat) : Sd E X l yX12_readCar cX12_readCar 2 none 6 0 0 0 0 49 (kX12_readCar_49 n) := s_aload_n dX12_readCar_49 rfl (s_cV dX12_readCar_50 lMX12_225 bVX12_isGood rfl (CtX12_isGood hX n) (Nat.le_of_ble_eq_true rfl) (s_ifne dX12_readCar_53 (by decide) (s_aload_n dX12_readCar_57 rfl (s_gA dX12_readCar_58 lFX12_63 (s_iload_n dX12_readCar_61 rfl (s_aload_n dX12_readCar_62 rfl (s_gJ dX12_readCar_63 lFX12_204 (s_last dX12_readCar_66 (s_aload_n dX12_readCar_67 rfl (s_cV dX12_readCar_68 lMX12_229 bVX12_goOn rfl (CtX12_goOn hX n) (Nat.le_of_ble_eq_true rfl) (s_aload_n dX12_readCar_71 rfl (s_gA dX12_readCar_72 lFX12_45 (s_iload_n dX12_readCar_75 rfl (s_aload_n dX12_readCar_76 rfl (s_cV dX12_readCar_77 lMX12_286 bVX12_readCell rfl (CtX12_readCell hX n) (Nat.le_of_ble_eq_true rfl) (s_iast dX12_readCar_80 (s_aload_n dX12_readCar_81 rfl (s_gA dX12_readCar_82 lFX12_48 (s_iload_n dX12_readCar_85 rfl (s_aload_n dX12_readCar_86 rfl (s_ldc2 dX12_readCar_87 lCX12_157 (s_iconst dX12_readCar_90 (by decide) (s_iconst dX12_readCar_91 (by decide) (okX12_readCar_92 hX n))))))))) (Nat.le_of_ble_eq_true rfl) (Nat.le_of_ble_eq_true rfl)))))) (Nat.le_of_ble_eq_true rfl) (Nat.le_of_ble_eq_true rfl))))))))) (s_rV dX12_readCar_56 (Nat.le_of_ble_eq_true rfl) (Nat.le_of_ble_eq_true rfl))) (Nat.le_of_ble_eq_true rfl) (Nat.le_of_ble_eq_true rfl))
def kX12_readCar_0 (n : Nat) : mK := i_cst (.int (8)) (i_ldA 0 (i_gI 12 32 (i_bin (fun x y => x * y) (i_ldA 0 (i_gA 12 14 (i_ldA 0 (i_gI 12 32 (i_al 0 (i_bin (fun x y => x + y) (i_stI 1 (i_ldA 0 (i_gI 12 8 (i_cst (.int (2)) (i_c2 (fun x y => decide (x = y)) (i_ldA 0 (i_cV 12 0 (FX12_carHere n) (i_c0 (fun x => decide (x < 0)) (kX12_readCar_49 n) (i_ldA 0 (i_cst (.int (3)) (i_ldA 0 (i_gI 12 6 (i_cV 12 2 (FX12_fails n) (kX12_readCar_49 n))))))))) (i_ldA 0 (i_cV 12 0 (FX12_misplaced n) ((kX12_readCar_49 n))))))))))))))))))
set_option maxRecDepth 20000 in
theorem okX12_readCar_0 {E : mE} {X : State → Heap → Prop} {l : Launch} (hX : mXok E X) (n : Nat) : Sd E X l yX12_readCar cX12_readCar 2 none 6 0 0 0 0 0 (kX12_readCar_0 n) := s_bipush dX12_readCar_0 (by decide) (s_aload_n dX12_readCar_2 rfl (s_gI dX12_readCar_3 lFX12_246 (by decide) (s_imul dX12_readCar_6 (s_aload_n dX12_readCar_7 rfl (s_gA dX12_readCar_8 lFX12_30 (s_aload_n dX12_readCar_11 rfl (s_gI dX12_readCar_12 lFX12_246 (by decide) (s_iald dX12_readCar_15 (s_iadd dX12_readCar_16 (s_istore_n dX12_readCar_17 rfl (s_aload_n dX12_readCar_18 rfl (s_gI dX12_readCar_19 lFX12_197 (by decide) (s_iconst dX12_readCar_22 (by decide) (s_iceq dX12_readCar_23 (by decide) (s_aload_n dX12_readCar_33 rfl (s_cV dX12_readCar_34 lMX12_282 bVX12_carHere rfl (CtX12_carHere hX n) (Nat.le_of_ble_eq_true rfl) (s_iflt dX12_readCar_37 (by decide) (okX12_readCar_49 hX n) (s_aload_n dX12_readCar_40 rfl (s_iconst dX12_readCar_41 (by decide) (s_aload_n dX12_readCar_42 rfl (s_gI dX12_readCar_43 lFX12_190 (by decide) (s_cV dX12_readCar_46 lMX12_221 bVX12_fails rfl (CtX12_fails hX n) (Nat.le_of_ble_eq_true rfl) (okX12_readCar_49 hX n) (Nat.le_of_ble_eq_true rfl) (Nat.le_of_ble_eq_true rfl))))))) (Nat.le_of_ble_eq_true rfl) (Nat.le_of_ble_eq_true rfl))) (s_aload_n dX12_readCar_26 rfl (s_cV dX12_readCar_27 lMX12_232 bVX12_misplaced rfl (CtX12_misplaced hX n) (Nat.le_of_ble_eq_true rfl) (s_goto dX12_readCar_30 (by decide) (okX12_readCar_49 hX n)) (Nat.le_of_ble_eq_true rfl) (Nat.le_of_ble_eq_true rfl)))))))))))))))))
def FX12_readCar (n : Nat) : List Value → mM → Option mR := mfn 2 (kX12_readCar_0 n)
theorem CtX12_readCar {E : mE} {X : State → Heap → Prop} {l : Launch} (hX : mXok E X) (n : Nat) : Ct E X l yX12_readCar cX12_readCar 2 none 6 0 0 (FX12_readCar n) := Ct_of (by decide) hX (okX12_readCar_0 hX n)
theorem dX12_readRule_0 : decode cX12_readRule 0 = .ok (.aload_n 0, 1) := by decide +kernel
theorem dX12_readRule_1 : decode cX12_readRule 1 = .ok (.getfield 42, 3) := by decide +kernel
theorem dX12_readRule_4 : decode cX12_readRule 4 = .ok (.aload_n 0, 1) := by decide +kernel
theorem dX12_readRule_5 : decode cX12_readRule 5 = .ok (.getfield 246, 3) := by decide +kernel
theorem dX12_readRule_8 : decode cX12_readRule 8 = .ok (.dup2, 1) := by decide +kernel
theorem dX12_readRule_9 : decode cX12_readRule 9 = .ok (.iaload, 1) := by decide +kernel
theorem dX12_readRule_10 : decode cX12_readRule 10 = .ok (.iconst 1, 1) := by decide +kernel
theorem dX12_readRule_11 : decode cX12_readRule 11 = .ok (.iload_n 1, 1) := by decide +kernel
theorem dX12_readRule_12 : decode cX12_readRule 12 = .ok (.ishl, 1) := by decide +kernel
theorem dX12_readRule_13 : decode cX12_readRule 13 = .ok (.ior, 1) := by decide +kernel
theorem dX12_readRule_14 : decode cX12_readRule 14 = .ok (.iastore, 1) := by decide +kernel
theorem dX12_readRule_15 : decode cX12_readRule 15 = .ok (.aload_n 0, 1) := by decide +kernel
theorem dX12_readRule_16 : decode cX12_readRule 16 = .ok (.iconst 0, 1) := by decide +kernel
theorem dX12_readRule_17 : decode cX12_readRule 17 = .ok (.putfield 289, 3) := by decide +kernel
theorem dX12_readRule_20 : decode cX12_readRule 20 = .ok (.aload_n 0, 1) := by decide +kernel
theorem dX12_readRule_21 : decode cX12_readRule 21 = .ok (.getfield 57, 3) := by decide +kernel
theorem dX12_readRule_24 : decode cX12_readRule 24 = .ok (.iconst 2, 1) := by decide +kernel
theorem dX12_readRule_25 : decode cX12_readRule 25 = .ok (.aload_n 0, 1) := by decide +kernel
theorem dX12_readRule_26 : decode cX12_readRule 26 = .ok (.getfield 246, 3) := by decide +kernel
theorem dX12_readRule_29 : decode cX12_readRule 29 = .ok (.imul, 1) := by decide +kernel
theorem dX12_readRule_30 : decode cX12_readRule 30 = .ok (.iload_n 1, 1) := by decide +kernel
theorem dX12_readRule_31 : decode cX12_readRule 31 = .ok (.iadd, 1) := by decide +kernel
theorem dX12_readRule_32 : decode cX12_readRule 32 = .ok (.aload_n 0, 1) := by decide +kernel
theorem dX12_readRule_33 : decode cX12_readRule 33 = .ok (.getfield 249, 3) := by decide +kernel
theorem dX12_readRule_36 : decode cX12_readRule 36 = .ok (.iastore, 1) := by decide +kernel
theorem dX12_readRule_37 : decode cX12_readRule 37 = .ok (.aload_n 0, 1) := by decide +kernel
theorem dX12_readRule_38 : decode cX12_readRule 38 = .ok (.invokevirtual 292, 3) := by decide +kernel
theorem dX12_readRule_41 : decode cX12_readRule 41 = .ok (.aload_n 0, 1) := by decide +kernel
theorem dX12_readRule_42 : decode cX12_readRule 42 = .ok (.getfield 60, 3) := by decide +kernel
theorem dX12_readRule_45 : decode cX12_readRule 45 = .ok (.iconst 2, 1) := by decide +kernel
theorem dX12_readRule_46 : decode cX12_readRule 46 = .ok (.aload_n 0, 1) := by decide +kernel
theorem dX12_readRule_47 : decode cX12_readRule 47 = .ok (.getfield 246, 3) := by decide +kernel
theorem dX12_readRule_50 : decode cX12_readRule 50 = .ok (.imul, 1) := by decide +kernel
theorem dX12_readRule_51 : decode cX12_readRule 51 = .ok (.iload_n 1, 1) := by decide +kernel
theorem dX12_readRule_52 : decode cX12_readRule 52 = .ok (.iadd, 1) := by decide +kernel
theorem dX12_readRule_53 : decode cX12_readRule 53 = .ok (.aload_n 0, 1) := by decide +kernel
theorem dX12_readRule_54 : decode cX12_readRule 54 = .ok (.getfield 249, 3) := by decide +kernel
theorem dX12_readRule_57 : decode cX12_readRule 57 = .ok (.iastore, 1) := by decide +kernel
theorem dX12_readRule_58 : decode cX12_readRule 58 = .ok (.return_, 1) := by decide +kernel
def kX12_readRule_36 (n : Nat) : mK := i_as 0 (i_ldA 0 (i_cV 12 0 (FX12_e n) (i_ldA 0 (i_gA 12 24 (i_cst (.int (2)) (i_ldA 0 (i_gI 12 32 (i_bin (fun x y => x * y) (i_ldI 1 (i_bin (fun x y => x + y) (i_ldA 0 (i_gI 12 33 (i_as 0 (i_rV))))))))))))))
set_option maxRecDepth 20000 in
theorem okX12_readRule_36 {E : mE} {X : State → Heap → Prop} {l : Launch} (hX : mXok E X) (n : Nat) : Sd E X l yX12_readRule cX12_readRule 2 none 6 0 0 0 0 36 (kX12_readRule_36 n) := s_iast dX12_readRule_36 (s_aload_n dX12_readRule_37 rfl (s_cV dX12_readRule_38 lMX12_292 bVX12_e rfl (CtX12_e hX n) (Nat.le_of_ble_eq_true rfl) (s_aload_n dX12_readRule_41 rfl (s_gA dX12_readRule_42 lFX12_60 (s_iconst dX12_readRule_45 (by decide) (s_aload_n dX12_readRule_46 rfl (s_gI dX12_readRule_47 lFX12_246 (by decide) (s_imul dX12_readRule_50 (s_iload_n dX12_readRule_51 rfl (s_iadd dX12_readRule_52 (s_aload_n dX12_readRule_53 rfl (s_gI dX12_readRule_54 lFX12_249 (by decide) (s_iast dX12_readRule_57 (s_rV dX12_readRule_58 (Nat.le_of_ble_eq_true rfl) (Nat.le_of_ble_eq_true rfl))))))))))))) (Nat.le_of_ble_eq_true rfl) (Nat.le_of_ble_eq_true rfl)))
def kX12_readRule_0 (n : Nat) : mK := i_ldA 0 (i_gA 12 18 (i_ldA 0 (i_gI 12 32 (i_dp2 (i_al 0 (i_cst (.int (1)) (i_ldI 1 (i_bin (fun x y => x <<< (y &&& 31)) (i_bin (fun x y => x ||| y) (i_as 0 (i_ldA 0 (i_cst (.int (0)) (i_pI 12 36 (i_ldA 0 (i_gA 12 23 (i_cst (.int (2)) (i_ldA 0 (i_gI 12 32 (i_bin (fun x y => x * y) (i_ldI 1 (i_bin (fun x y => x + y) (i_ldA 0 (i_gI 12 33 (kX12_readRule_36 n))))))))))))))))))))))))
set_option maxRecDepth 20000 in
theorem okX12_readRule_0 {E : mE} {X : State → Heap → Prop} {l : Launch} (hX : mXok E X) (n : Nat) : Sd E X l yX12_readRule cX12_readRule 2 none 6 0 0 0 0 0 (kX12_readRule_0 n) := s_aload_n dX12_readRule_0 rfl (s_gA dX12_readRule_1 lFX12_42 (s_aload_n dX12_readRule_4 rfl (s_gI dX12_readRule_5 lFX12_246 (by decide) (s_dup2 dX12_readRule_8 (s_iald dX12_readRule_9 (s_iconst dX12_readRule_10 (by decide) (s_iload_n dX12_readRule_11 rfl (s_ishl dX12_readRule_12 (s_ior dX12_readRule_13 (s_iast dX12_readRule_14 (s_aload_n dX12_readRule_15 rfl (s_iconst dX12_readRule_16 (by decide) (s_pI dX12_readRule_17 lFX12_289 (s_aload_n dX12_readRule_20 rfl (s_gA dX12_readRule_21 lFX12_57 (s_iconst dX12_readRule_24 (by decide) (s_aload_n dX12_readRule_25 rfl (s_gI dX12_readRule_26 lFX12_246 (by decide) (s_imul dX12_readRule_29 (s_iload_n dX12_readRule_30 rfl (s_iadd dX12_readRule_31 (s_aload_n dX12_readRule_32 rfl (s_gI dX12_readRule_33 lFX12_249 (by decide) (okX12_readRule_36 hX n))))))))))))))))))))))))
def FX12_readRule (n : Nat) : List Value → mM → Option mR := mfn 2 (kX12_readRule_0 n)
theorem CtX12_readRule {E : mE} {X : State → Heap → Prop} {l : Launch} (hX : mXok E X) (n : Nat) : Ct E X l yX12_readRule cX12_readRule 2 none 6 0 0 (FX12_readRule n) := Ct_of (by decide) hX (okX12_readRule_0 hX n)
theorem dX12_year_0 : decode cX12_year 0 = .ok (.aload_n 0, 1) := by decide +kernel
theorem dX12_year_1 : decode cX12_year 1 = .ok (.getfield 82, 3) := by decide +kernel
theorem dX12_year_4 : decode cX12_year 4 = .ok (.bipush 32, 2) := by decide +kernel
theorem dX12_year_6 : decode cX12_year 6 = .ok (.iaload, 1) := by decide +kernel
theorem dX12_year_7 : decode cX12_year 7 = .ok (.sipush 999, 3) := by decide +kernel
theorem dX12_year_10 : decode cX12_year 10 = .ok (.if_icmp .ne 5, 3) := by decide +kernel
theorem dX12_year_13 : decode cX12_year 13 = .ok (.iconst (-1), 1) := by decide +kernel
theorem dX12_year_14 : decode cX12_year 14 = .ok (.ireturn, 1) := by decide +kernel
theorem dX12_year_15 : decode cX12_year 15 = .ok (.aload_n 0, 1) := by decide +kernel
theorem dX12_year_16 : decode cX12_year 16 = .ok (.invokevirtual 412, 3) := by decide +kernel
theorem dX12_year_19 : decode cX12_year 19 = .ok (.aload_n 0, 1) := by decide +kernel
theorem dX12_year_20 : decode cX12_year 20 = .ok (.invokevirtual 415, 3) := by decide +kernel
theorem dX12_year_23 : decode cX12_year 23 = .ok (.iconst 0, 1) := by decide +kernel
theorem dX12_year_24 : decode cX12_year 24 = .ok (.istore_n 1, 1) := by decide +kernel
theorem dX12_year_25 : decode cX12_year 25 = .ok (.iconst 0, 1) := by decide +kernel
theorem dX12_year_26 : decode cX12_year 26 = .ok (.istore_n 2, 1) := by decide +kernel
theorem dX12_year_27 : decode cX12_year 27 = .ok (.iload_n 2, 1) := by decide +kernel
theorem dX12_year_28 : decode cX12_year 28 = .ok (.aload_n 0, 1) := by decide +kernel
theorem dX12_year_29 : decode cX12_year 29 = .ok (.invokevirtual 341, 3) := by decide +kernel
theorem dX12_year_32 : decode cX12_year 32 = .ok (.if_icmp .ge 104, 3) := by decide +kernel
theorem dX12_year_35 : decode cX12_year 35 = .ok (.aload_n 0, 1) := by decide +kernel
theorem dX12_year_36 : decode cX12_year 36 = .ok (.getfield 82, 3) := by decide +kernel
theorem dX12_year_39 : decode cX12_year 39 = .ok (.iconst 0, 1) := by decide +kernel
theorem dX12_year_40 : decode cX12_year 40 = .ok (.iload_n 2, 1) := by decide +kernel
theorem dX12_year_41 : decode cX12_year 41 = .ok (.iadd, 1) := by decide +kernel
theorem dX12_year_42 : decode cX12_year 42 = .ok (.iaload, 1) := by decide +kernel
theorem dX12_year_43 : decode cX12_year 43 = .ok (.ifCond .ge 6, 3) := by decide +kernel
theorem dX12_year_46 : decode cX12_year 46 = .ok (.goto 84, 3) := by decide +kernel
theorem dX12_year_49 : decode cX12_year 49 = .ok (.aload_n 0, 1) := by decide +kernel
theorem dX12_year_50 : decode cX12_year 50 = .ok (.getfield 82, 3) := by decide +kernel
theorem dX12_year_53 : decode cX12_year 53 = .ok (.bipush 33, 2) := by decide +kernel
theorem dX12_year_55 : decode cX12_year 55 = .ok (.sipush 137, 3) := by decide +kernel
theorem dX12_year_58 : decode cX12_year 58 = .ok (.aload_n 0, 1) := by decide +kernel
theorem dX12_year_59 : decode cX12_year 59 = .ok (.getfield 82, 3) := by decide +kernel
theorem dX12_year_62 : decode cX12_year 62 = .ok (.bipush 33, 2) := by decide +kernel
theorem dX12_year_64 : decode cX12_year 64 = .ok (.iaload, 1) := by decide +kernel
theorem dX12_year_65 : decode cX12_year 65 = .ok (.imul, 1) := by decide +kernel
theorem dX12_year_66 : decode cX12_year 66 = .ok (.bipush 71, 2) := by decide +kernel
theorem dX12_year_68 : decode cX12_year 68 = .ok (.iadd, 1) := by decide +kernel
theorem dX12_year_69 : decode cX12_year 69 = .ok (.sipush 1000, 3) := by decide +kernel
theorem dX12_year_72 : decode cX12_year 72 = .ok (.irem, 1) := by decide +kernel
theorem dX12_year_73 : decode cX12_year 73 = .ok (.iastore, 1) := by decide +kernel
theorem dX12_year_74 : decode cX12_year 74 = .ok (.aload_n 0, 1) := by decide +kernel
theorem dX12_year_75 : decode cX12_year 75 = .ok (.getfield 82, 3) := by decide +kernel
theorem dX12_year_78 : decode cX12_year 78 = .ok (.bipush 33, 2) := by decide +kernel
theorem dX12_year_80 : decode cX12_year 80 = .ok (.iaload, 1) := by decide +kernel
theorem dX12_year_81 : decode cX12_year 81 = .ok (.bipush 100, 2) := by decide +kernel
theorem dX12_year_83 : decode cX12_year 83 = .ok (.irem, 1) := by decide +kernel
theorem dX12_year_84 : decode cX12_year 84 = .ok (.aload_n 0, 1) := by decide +kernel
theorem dX12_year_85 : decode cX12_year 85 = .ok (.getfield 36, 3) := by decide +kernel
theorem dX12_year_88 : decode cX12_year 88 = .ok (.aload_n 0, 1) := by decide +kernel
theorem dX12_year_89 : decode cX12_year 89 = .ok (.getfield 255, 3) := by decide +kernel
theorem dX12_year_92 : decode cX12_year 92 = .ok (.iaload, 1) := by decide +kernel
theorem dX12_year_93 : decode cX12_year 93 = .ok (.if_icmp .lt 6, 3) := by decide +kernel
theorem dX12_year_96 : decode cX12_year 96 = .ok (.goto 34, 3) := by decide +kernel
theorem dX12_year_99 : decode cX12_year 99 = .ok (.iload_n 1, 1) := by decide +kernel
theorem dX12_year_100 : decode cX12_year 100 = .ok (.iconst 1, 1) := by decide +kernel
theorem dX12_year_101 : decode cX12_year 101 = .ok (.iload_n 2, 1) := by decide +kernel
theorem dX12_year_102 : decode cX12_year 102 = .ok (.ishl, 1) := by decide +kernel
theorem dX12_year_103 : decode cX12_year 103 = .ok (.ior, 1) := by decide +kernel
theorem dX12_year_104 : decode cX12_year 104 = .ok (.istore_n 1, 1) := by decide +kernel
theorem dX12_year_105 : decode cX12_year 105 = .ok (.aload_n 0, 1) := by decide +kernel
theorem dX12_year_106 : decode cX12_year 106 = .ok (.getfield 82, 3) := by decide +kernel
theorem dX12_year_109 : decode cX12_year 109 = .ok (.bipush 24, 2) := by decide +kernel
theorem dX12_year_111 : decode cX12_year 111 = .ok (.iload_n 2, 1) := by decide +kernel
theorem dX12_year_112 : decode cX12_year 112 = .ok (.iadd, 1) := by decide +kernel
theorem dX12_year_113 : decode cX12_year 113 = .ok (.iaload, 1) := by decide +kernel
theorem dX12_year_114 : decode cX12_year 114 = .ok (.ifCond .le 16, 3) := by decide +kernel
theorem dX12_year_117 : decode cX12_year 117 = .ok (.aload_n 0, 1) := by decide +kernel
theorem dX12_year_118 : decode cX12_year 118 = .ok (.getfield 82, 3) := by decide +kernel
theorem dX12_year_121 : decode cX12_year 121 = .ok (.bipush 24, 2) := by decide +kernel
theorem dX12_year_123 : decode cX12_year 123 = .ok (.iload_n 2, 1) := by decide +kernel
theorem dX12_year_124 : decode cX12_year 124 = .ok (.iadd, 1) := by decide +kernel
theorem dX12_year_125 : decode cX12_year 125 = .ok (.dup2, 1) := by decide +kernel
theorem dX12_year_126 : decode cX12_year 126 = .ok (.iaload, 1) := by decide +kernel
theorem dX12_year_127 : decode cX12_year 127 = .ok (.iconst 1, 1) := by decide +kernel
theorem dX12_year_128 : decode cX12_year 128 = .ok (.isub, 1) := by decide +kernel
theorem dX12_year_129 : decode cX12_year 129 = .ok (.iastore, 1) := by decide +kernel
theorem dX12_year_130 : decode cX12_year 130 = .ok (.iinc 2 1, 3) := by decide +kernel
theorem dX12_year_133 : decode cX12_year 133 = .ok (.goto (-106), 3) := by decide +kernel
theorem dX12_year_136 : decode cX12_year 136 = .ok (.iload_n 1, 1) := by decide +kernel
theorem dX12_year_137 : decode cX12_year 137 = .ok (.ireturn, 1) := by decide +kernel
def kX12_year_130 (n : Nat) (r27 : mK) : mK := i_inc 2 (1) (r27)
set_option maxRecDepth 20000 in
theorem okX12_year_130 {E : mE} {X : State → Heap → Prop} {l : Launch} (hX : mXok E X) (n : Nat) {r27 : mK} (h27 : Sd E X l yX12_year cX12_year 3 (some .int) 6 0 0 0 0 27 r27) : Sd E X l yX12_year cX12_year 3 (some .int) 6 0 0 0 0 130 (kX12_year_130 n r27) := s_iinc dX12_year_130 (by decide) (s_goto dX12_year_133 (by decide) h27)
def kX12_year_113 (n : Nat) (r27 : mK) : mK := i_al 0 (i_c0 (fun x => decide (x ≤ 0)) (kX12_year_130 n r27) (i_ldA 0 (i_gA 12 39 (i_cst (.int (24)) (i_ldI 2 (i_bin (fun x y => x + y) (i_dp2 (i_al 0 (i_cst (.int (1)) (i_bin (fun x y => x - y) (i_as 0 (kX12_year_130 n r27))))))))))))
set_option maxRecDepth 20000 in
theorem okX12_year_113 {E : mE} {X : State → Heap → Prop} {l : Launch} (hX : mXok E X) (n : Nat) {r27 : mK} (h27 : Sd E X l yX12_year cX12_year 3 (some .int) 6 0 0 0 0 27 r27) : Sd E X l yX12_year cX12_year 3 (some .int) 6 0 0 0 0 113 (kX12_year_113 n r27) := s_iald dX12_year_113 (s_ifle dX12_year_114 (by decide) (okX12_year_130 hX n h27) (s_aload_n dX12_year_117 rfl (s_gA dX12_year_118 lFX12_82 (s_bipush dX12_year_121 (by decide) (s_iload_n dX12_year_123 rfl (s_iadd dX12_year_124 (s_dup2 dX12_year_125 (s_iald dX12_year_126 (s_iconst dX12_year_127 (by decide) (s_isub dX12_year_128 (s_iast dX12_year_129 (okX12_year_130 hX n h27))))))))))))
def kX12_year_73 (n : Nat) (r27 : mK) : mK := i_as 0 (i_ldA 0 (i_gA 12 39 (i_cst (.int (33)) (i_al 0 (i_cst (.int (100)) (i_dv (fun x y => x - x / y * y) (i_ldA 0 (i_gA 12 16 (i_ldA 0 (i_gI 12 31 (i_al 0 (i_c2 (fun x y => decide (x < y)) (i_ldI 1 (i_cst (.int (1)) (i_ldI 2 (i_bin (fun x y => x <<< (y &&& 31)) (i_bin (fun x y => x ||| y) (i_stI 1 (i_ldA 0 (i_gA 12 39 (i_cst (.int (24)) (i_ldI 2 (i_bin (fun x y => x + y) (kX12_year_113 n r27)))))))))))) ((kX12_year_130 n r27))))))))))))))
set_option maxRecDepth 20000 in
theorem okX12_year_73 {E : mE} {X : State → Heap → Prop} {l : Launch} (hX : mXok E X) (n : Nat) {r27 : mK} (h27 : Sd E X l yX12_year cX12_year 3 (some .int) 6 0 0 0 0 27 r27) : Sd E X l yX12_year cX12_year 3 (some .int) 6 0 0 0 0 73 (kX12_year_73 n r27) := s_iast dX12_year_73 (s_aload_n dX12_year_74 rfl (s_gA dX12_year_75 lFX12_82 (s_bipush dX12_year_78 (by decide) (s_iald dX12_year_80 (s_bipush dX12_year_81 (by decide) (s_irem dX12_year_83 (s_aload_n dX12_year_84 rfl (s_gA dX12_year_85 lFX12_36 (s_aload_n dX12_year_88 rfl (s_gI dX12_year_89 lFX12_255 (by decide) (s_iald dX12_year_92 (s_iclt dX12_year_93 (by decide) (s_iload_n dX12_year_99 rfl (s_iconst dX12_year_100 (by decide) (s_iload_n dX12_year_101 rfl (s_ishl dX12_year_102 (s_ior dX12_year_103 (s_istore_n dX12_year_104 rfl (s_aload_n dX12_year_105 rfl (s_gA dX12_year_106 lFX12_82 (s_bipush dX12_year_109 (by decide) (s_iload_n dX12_year_111 rfl (s_iadd dX12_year_112 (okX12_year_113 hX n h27)))))))))))) (s_goto dX12_year_96 (by decide) (okX12_year_130 hX n h27))))))))))))))
def kX12_year_27 (n : Nat) (r27 : mK) : mK := i_ldI 2 (i_ldA 0 (i_cV 12 0 (FX12_many n) (i_c2 (fun x y => decide (y ≤ x)) (i_ldI 1 (i_rI)) (i_ldA 0 (i_gA 12 39 (i_cst (.int (0)) (i_ldI 2 (i_bin (fun x y => x + y) (i_al 0 (i_c0 (fun x => decide (0 ≤ x)) (i_ldA 0 (i_gA 12 39 (i_cst (.int (33)) (i_cst (.int (137)) (i_ldA 0 (i_gA 12 39 (i_cst (.int (33)) (i_al 0 (i_bin (fun x y => x * y) (i_cst (.int (71)) (i_bin (fun x y => x + y) (i_cst (.int (1000)) (i_dv (fun x y => x - x / y * y) (kX12_year_73 n r27)))))))))))))) ((kX12_year_130 n r27))))))))))))
set_option maxRecDepth 20000 in
theorem okX12_year_27 {E : mE} {X : State → Heap → Prop} {l : Launch} (hX : mXok E X) (n : Nat) {r27 : mK} (h27 : Sd E X l yX12_year cX12_year 3 (some .int) 6 0 0 0 0 27 r27) : Sd E X l yX12_year cX12_year 3 (some .int) 6 0 0 0 0 27 (kX12_year_27 n r27) := s_iload_n dX12_year_27 rfl (s_aload_n dX12_year_28 rfl (s_cV dX12_year_29 lMX12_341 bVX12_many rfl (CtX12_many hX n) (Nat.le_of_ble_eq_true rfl) (s_icge dX12_year_32 (by decide) (s_iload_n dX12_year_136 rfl (s_rI dX12_year_137 (Nat.le_of_ble_eq_true rfl) (Nat.le_of_ble_eq_true rfl))) (s_aload_n dX12_year_35 rfl (s_gA dX12_year_36 lFX12_82 (s_iconst dX12_year_39 (by decide) (s_iload_n dX12_year_40 rfl (s_iadd dX12_year_41 (s_iald dX12_year_42 (s_ifge dX12_year_43 (by decide) (s_aload_n dX12_year_49 rfl (s_gA dX12_year_50 lFX12_82 (s_bipush dX12_year_53 (by decide) (s_sipush dX12_year_55 (by decide) (s_aload_n dX12_year_58 rfl (s_gA dX12_year_59 lFX12_82 (s_bipush dX12_year_62 (by decide) (s_iald dX12_year_64 (s_imul dX12_year_65 (s_bipush dX12_year_66 (by decide) (s_iadd dX12_year_68 (s_sipush dX12_year_69 (by decide) (s_irem dX12_year_72 (okX12_year_73 hX n h27)))))))))))))) (s_goto dX12_year_46 (by decide) (okX12_year_130 hX n h27)))))))))) (Nat.le_of_ble_eq_true rfl) (Nat.le_of_ble_eq_true rfl)))
def kX12_year_0 (n : Nat) : mK := i_ldA 0 (i_gA 12 39 (i_cst (.int (32)) (i_al 0 (i_cst (.int (999)) (i_c2 (fun x y => decide (¬ x = y)) (i_ldA 0 (i_cV 12 0 (FX12_keepAct n) (i_ldA 0 (i_cV 12 0 (FX12_goYear n) (i_cst (.int (0)) (i_stI 1 (i_cst (.int (0)) (i_stI 2 (mit (kX12_year_27 n ) n))))))))) (i_cst (.int (-1)) (i_rI)))))))
set_option maxRecDepth 20000 in
theorem okX12_year_0 {E : mE} {X : State → Heap → Prop} {l : Launch} (hX : mXok E X) (n : Nat) : Sd E X l yX12_year cX12_year 3 (some .int) 6 0 0 0 0 0 (kX12_year_0 n) := s_aload_n dX12_year_0 rfl (s_gA dX12_year_1 lFX12_82 (s_bipush dX12_year_4 (by decide) (s_iald dX12_year_6 (s_sipush dX12_year_7 (by decide) (s_icne dX12_year_10 (by decide) (s_aload_n dX12_year_15 rfl (s_cV dX12_year_16 lMX12_412 bVX12_keepAct rfl (CtX12_keepAct hX n) (Nat.le_of_ble_eq_true rfl) (s_aload_n dX12_year_19 rfl (s_cV dX12_year_20 lMX12_415 bVX12_goYear rfl (CtX12_goYear hX n) (Nat.le_of_ble_eq_true rfl) (s_iconst dX12_year_23 (by decide) (s_istore_n dX12_year_24 rfl (s_iconst dX12_year_25 (by decide) (s_istore_n dX12_year_26 rfl (s_mit (fun _ hk => okX12_year_27 hX n hk) n))))) (Nat.le_of_ble_eq_true rfl) (Nat.le_of_ble_eq_true rfl))) (Nat.le_of_ble_eq_true rfl) (Nat.le_of_ble_eq_true rfl))) (s_iconst dX12_year_13 (by decide) (s_rI dX12_year_14 (Nat.le_of_ble_eq_true rfl) (Nat.le_of_ble_eq_true rfl))))))))
def FX12_year (n : Nat) : List Value → mM → Option mR := mfn 3 (kX12_year_0 n)
theorem CtX12_year {E : mE} {X : State → Heap → Prop} {l : Launch} (hX : mXok E X) (n : Nat) : Ct E X l yX12_year cX12_year 3 (some .int) 6 0 0 (FX12_year n) := Ct_of (by decide) hX (okX12_year_0 hX n)
theorem dX2_countFits_0 : decode cX2_countFits 0 = .ok (.aload_n 0, 1) := by decide +kernel
theorem dX2_countFits_1 : decode cX2_countFits 1 = .ok (.iconst 0, 1) := by decide +kernel
theorem dX2_countFits_2 : decode cX2_countFits 2 = .ok (.putfield 61, 3) := by decide +kernel
theorem dX2_countFits_5 : decode cX2_countFits 5 = .ok (.aload_n 0, 1) := by decide +kernel
theorem dX2_countFits_6 : decode cX2_countFits 6 = .ok (.getfield 34, 3) := by decide +kernel
theorem dX2_countFits_9 : decode cX2_countFits 9 = .ok (.getfield 48, 3) := by decide +kernel
theorem dX2_countFits_12 : decode cX2_countFits 12 = .ok (.ifCond .ne 5, 3) := by decide +kernel
theorem dX2_countFits_15 : decode cX2_countFits 15 = .ok (.iconst 0, 1) := by decide +kernel
theorem dX2_countFits_16 : decode cX2_countFits 16 = .ok (.ireturn, 1) := by decide +kernel
theorem dX2_countFits_17 : decode cX2_countFits 17 = .ok (.aload_n 0, 1) := by decide +kernel
theorem dX2_countFits_18 : decode cX2_countFits 18 = .ok (.invokevirtual 64, 3) := by decide +kernel
theorem dX2_countFits_21 : decode cX2_countFits 21 = .ok (.iconst 0, 1) := by decide +kernel
theorem dX2_countFits_22 : decode cX2_countFits 22 = .ok (.istore_n 2, 1) := by decide +kernel
theorem dX2_countFits_23 : decode cX2_countFits 23 = .ok (.iload_n 2, 1) := by decide +kernel
theorem dX2_countFits_24 : decode cX2_countFits 24 = .ok (.bipush 100, 2) := by decide +kernel
theorem dX2_countFits_26 : decode cX2_countFits 26 = .ok (.if_icmp .ge 40, 3) := by decide +kernel
theorem dX2_countFits_29 : decode cX2_countFits 29 = .ok (.aload_n 0, 1) := by decide +kernel
theorem dX2_countFits_30 : decode cX2_countFits 30 = .ok (.iload_n 2, 1) := by decide +kernel
theorem dX2_countFits_31 : decode cX2_countFits 31 = .ok (.iload_n 1, 1) := by decide +kernel
theorem dX2_countFits_32 : decode cX2_countFits 32 = .ok (.invokevirtual 67, 3) := by decide +kernel
theorem dX2_countFits_35 : decode cX2_countFits 35 = .ok (.ifCond .eq 25, 3) := by decide +kernel
theorem dX2_countFits_38 : decode cX2_countFits 38 = .ok (.aload_n 0, 1) := by decide +kernel
theorem dX2_countFits_39 : decode cX2_countFits 39 = .ok (.getfield 31, 3) := by decide +kernel
theorem dX2_countFits_42 : decode cX2_countFits 42 = .ok (.aload_n 0, 1) := by decide +kernel
theorem dX2_countFits_43 : decode cX2_countFits 43 = .ok (.getfield 61, 3) := by decide +kernel
theorem dX2_countFits_46 : decode cX2_countFits 46 = .ok (.iload_n 2, 1) := by decide +kernel
theorem dX2_countFits_47 : decode cX2_countFits 47 = .ok (.invokestatic 49, 3) := by decide +kernel
theorem dX2_countFits_50 : decode cX2_countFits 50 = .ok (.aload_n 0, 1) := by decide +kernel
theorem dX2_countFits_51 : decode cX2_countFits 51 = .ok (.dup, 1) := by decide +kernel
theorem dX2_countFits_52 : decode cX2_countFits 52 = .ok (.getfield 61, 3) := by decide +kernel
theorem dX2_countFits_55 : decode cX2_countFits 55 = .ok (.iconst 1, 1) := by decide +kernel
theorem dX2_countFits_56 : decode cX2_countFits 56 = .ok (.iadd, 1) := by decide +kernel
theorem dX2_countFits_57 : decode cX2_countFits 57 = .ok (.putfield 61, 3) := by decide +kernel
theorem dX2_countFits_60 : decode cX2_countFits 60 = .ok (.iinc 2 1, 3) := by decide +kernel
theorem dX2_countFits_63 : decode cX2_countFits 63 = .ok (.goto (-40), 3) := by decide +kernel
theorem dX2_countFits_66 : decode cX2_countFits 66 = .ok (.aload_n 0, 1) := by decide +kernel
theorem dX2_countFits_67 : decode cX2_countFits 67 = .ok (.getfield 61, 3) := by decide +kernel
theorem dX2_countFits_70 : decode cX2_countFits 70 = .ok (.ireturn, 1) := by decide +kernel
def kX2_countFits_60 (n : Nat) (r23 : mK) : mK := i_inc 2 (1) (r23)
set_option maxRecDepth 20000 in
theorem okX2_countFits_60 {E : mE} {X : State → Heap → Prop} {l : Launch} (hX : mXok E X) (n : Nat) {r23 : mK} (h23 : Sd E X l yX2_countFits cX2_countFits 3 (some .int) 6 0 0 0 0 23 r23) : Sd E X l yX2_countFits cX2_countFits 3 (some .int) 6 0 0 0 0 60 (kX2_countFits_60 n r23) := s_iinc dX2_countFits_60 (by decide) (s_goto dX2_countFits_63 (by decide) h23)
def kX2_countFits_23 (n : Nat) (r23 : mK) : mK := i_ldI 2 (i_cst (.int (100)) (i_c2 (fun x y => decide (y ≤ x)) (i_ldA 0 (i_gI 2 11 (i_rI))) (i_ldA 0 (i_ldI 2 (i_ldI 1 (i_cV 2 2 (FX2_fitsAll n) (i_c0 (fun x => decide (x = 0)) (kX2_countFits_60 n r23) (i_ldA 0 (i_gA 2 10 (i_ldA 0 (i_gI 2 11 (i_ldI 2 (i_cS 3 (FX11_set n) (i_ldA 0 (i_dup (i_gI 2 11 (i_cst (.int (1)) (i_bin (fun x y => x + y) (i_pI 2 11 (kX2_countFits_60 n r23))))))))))))))))))))
set_option maxRecDepth 20000 in
theorem okX2_countFits_23 {E : mE} {X : State → Heap → Prop} {l : Launch} (hX : mXok E X) (n : Nat) {r23 : mK} (h23 : Sd E X l yX2_countFits cX2_countFits 3 (some .int) 6 0 0 0 0 23 r23) : Sd E X l yX2_countFits cX2_countFits 3 (some .int) 6 0 0 0 0 23 (kX2_countFits_23 n r23) := s_iload_n dX2_countFits_23 rfl (s_bipush dX2_countFits_24 (by decide) (s_icge dX2_countFits_26 (by decide) (s_aload_n dX2_countFits_66 rfl (s_gI dX2_countFits_67 lFX2_61 (by decide) (s_rI dX2_countFits_70 (Nat.le_of_ble_eq_true rfl) (Nat.le_of_ble_eq_true rfl)))) (s_aload_n dX2_countFits_29 rfl (s_iload_n dX2_countFits_30 rfl (s_iload_n dX2_countFits_31 rfl (s_cV dX2_countFits_32 lMX2_67 bVX2_fitsAll rfl (CtX2_fitsAll hX n) (Nat.le_of_ble_eq_true rfl) (s_ifeq dX2_countFits_35 (by decide) (okX2_countFits_60 hX n h23) (s_aload_n dX2_countFits_38 rfl (s_gA dX2_countFits_39 lFX2_31 (s_aload_n dX2_countFits_42 rfl (s_gI dX2_countFits_43 lFX2_61 (by decide) (s_iload_n dX2_countFits_46 rfl (s_cN dX2_countFits_47 lNX2_49 bSX11_set (CtX11_set hX n) (Nat.le_of_ble_eq_true rfl) (s_aload_n dX2_countFits_50 rfl (s_dup dX2_countFits_51 (s_gI dX2_countFits_52 lFX2_61 (by decide) (s_iconst dX2_countFits_55 (by decide) (s_iadd dX2_countFits_56 (s_pI dX2_countFits_57 lFX2_61 (okX2_countFits_60 hX n h23))))))) (Nat.le_of_ble_eq_true rfl) (Nat.le_of_ble_eq_true rfl)))))))) (Nat.le_of_ble_eq_true rfl) (Nat.le_of_ble_eq_true rfl)))))))
def kX2_countFits_0 (n : Nat) : mK := i_ldA 0 (i_cst (.int (0)) (i_pI 2 11 (i_ldA 0 (i_gA 2 0 (i_gI 4 2 (i_c0 (fun x => decide (¬ x = 0)) (i_ldA 0 (i_cV 2 0 (FX2_makeTable n) (i_cst (.int (0)) (i_stI 2 (mit (kX2_countFits_23 n ) n))))) (i_cst (.int (0)) (i_rI))))))))
set_option maxRecDepth 20000 in
theorem okX2_countFits_0 {E : mE} {X : State → Heap → Prop} {l : Launch} (hX : mXok E X) (n : Nat) : Sd E X l yX2_countFits cX2_countFits 3 (some .int) 6 0 0 0 0 0 (kX2_countFits_0 n) := s_aload_n dX2_countFits_0 rfl (s_iconst dX2_countFits_1 (by decide) (s_pI dX2_countFits_2 lFX2_61 (s_aload_n dX2_countFits_5 rfl (s_gA dX2_countFits_6 lFX2_34 (s_gI dX2_countFits_9 lFX2_48 (by decide) (s_ifne dX2_countFits_12 (by decide) (s_aload_n dX2_countFits_17 rfl (s_cV dX2_countFits_18 lMX2_64 bVX2_makeTable rfl (CtX2_makeTable hX n) (Nat.le_of_ble_eq_true rfl) (s_iconst dX2_countFits_21 (by decide) (s_istore_n dX2_countFits_22 rfl (s_mit (fun _ hk => okX2_countFits_23 hX n hk) n))) (Nat.le_of_ble_eq_true rfl) (Nat.le_of_ble_eq_true rfl))) (s_iconst dX2_countFits_15 (by decide) (s_rI dX2_countFits_16 (Nat.le_of_ble_eq_true rfl) (Nat.le_of_ble_eq_true rfl)))))))))
def FX2_countFits (n : Nat) : List Value → mM → Option mR := mfn 3 (kX2_countFits_0 n)
theorem CtX2_countFits {E : mE} {X : State → Heap → Prop} {l : Launch} (hX : mXok E X) (n : Nat) : Ct E X l yX2_countFits cX2_countFits 3 (some .int) 6 0 0 (FX2_countFits n) := Ct_of (by decide) hX (okX2_countFits_0 hX n)
theorem dX8_passQuietly_0 : decode cX8_passQuietly 0 = .ok (.aload_n 0, 1) := by decide +kernel
theorem dX8_passQuietly_1 : decode cX8_passQuietly 1 = .ok (.invokevirtual 115, 3) := by decide +kernel
theorem dX8_passQuietly_4 : decode cX8_passQuietly 4 = .ok (.aload_n 0, 1) := by decide +kernel
theorem dX8_passQuietly_5 : decode cX8_passQuietly 5 = .ok (.dup, 1) := by decide +kernel
theorem dX8_passQuietly_6 : decode cX8_passQuietly 6 = .ok (.getfield 38, 3) := by decide +kernel
theorem dX8_passQuietly_9 : decode cX8_passQuietly 9 = .ok (.iconst 1, 1) := by decide +kernel
theorem dX8_passQuietly_10 : decode cX8_passQuietly 10 = .ok (.iadd, 1) := by decide +kernel
theorem dX8_passQuietly_11 : decode cX8_passQuietly 11 = .ok (.putfield 38, 3) := by decide +kernel
theorem dX8_passQuietly_14 : decode cX8_passQuietly 14 = .ok (.return_, 1) := by decide +kernel
def kX8_passQuietly_0 (n : Nat) : mK := i_ldA 0 (i_cV 8 0 (FX8_soften n) (i_ldA 0 (i_dup (i_gI 8 5 (i_cst (.int (1)) (i_bin (fun x y => x + y) (i_pI 8 5 (i_rV))))))))
set_option maxRecDepth 20000 in
theorem okX8_passQuietly_0 {E : mE} {X : State → Heap → Prop} {l : Launch} (hX : mXok E X) (n : Nat) : Sd E X l yX8_passQuietly cX8_passQuietly 1 none 6 0 0 0 0 0 (kX8_passQuietly_0 n) := s_aload_n dX8_passQuietly_0 rfl (s_cV dX8_passQuietly_1 lMX8_115 bVX8_soften rfl (CtX8_soften hX n) (Nat.le_of_ble_eq_true rfl) (s_aload_n dX8_passQuietly_4 rfl (s_dup dX8_passQuietly_5 (s_gI dX8_passQuietly_6 lFX8_38 (by decide) (s_iconst dX8_passQuietly_9 (by decide) (s_iadd dX8_passQuietly_10 (s_pI dX8_passQuietly_11 lFX8_38 (s_rV dX8_passQuietly_14 (Nat.le_of_ble_eq_true rfl) (Nat.le_of_ble_eq_true rfl)))))))) (Nat.le_of_ble_eq_true rfl) (Nat.le_of_ble_eq_true rfl))
def FX8_passQuietly (n : Nat) : List Value → mM → Option mR := mfn 1 (kX8_passQuietly_0 n)
theorem CtX8_passQuietly {E : mE} {X : State → Heap → Prop} {l : Launch} (hX : mXok E X) (n : Nat) : Ct E X l yX8_passQuietly cX8_passQuietly 1 none 6 0 0 (FX8_passQuietly n) := Ct_of (by decide) hX (okX8_passQuietly_0 hX n)
theorem dX9_kindOfWord_0 : decode cX9_kindOfWord 0 = .ok (.iconst 0, 1) := by decide +kernel
theorem dX9_kindOfWord_1 : decode cX9_kindOfWord 1 = .ok (.istore_n 3, 1) := by decide +kernel
theorem dX9_kindOfWord_2 : decode cX9_kindOfWord 2 = .ok (.iload_n 3, 1) := by decide +kernel
theorem dX9_kindOfWord_3 : decode cX9_kindOfWord 3 = .ok (.iconst 1, 1) := by decide +kernel
theorem dX9_kindOfWord_4 : decode cX9_kindOfWord 4 = .ok (.iadd, 1) := by decide +kernel
theorem dX9_kindOfWord_5 : decode cX9_kindOfWord 5 = .ok (.bipush 8, 2) := by decide +kernel
theorem dX9_kindOfWord_7 : decode cX9_kindOfWord 7 = .ok (.imul, 1) := by decide +kernel
theorem dX9_kindOfWord_8 : decode cX9_kindOfWord 8 = .ok (.ldc 63, 2) := by decide +kernel
theorem dX9_kindOfWord_10 : decode cX9_kindOfWord 10 = .ok (.invokevirtual 65, 3) := by decide +kernel
theorem dX9_kindOfWord_13 : decode cX9_kindOfWord 13 = .ok (.if_icmp .gt 24, 3) := by decide +kernel
theorem dX9_kindOfWord_16 : decode cX9_kindOfWord 16 = .ok (.aload_n 0, 1) := by decide +kernel
theorem dX9_kindOfWord_17 : decode cX9_kindOfWord 17 = .ok (.iload_n 3, 1) := by decide +kernel
theorem dX9_kindOfWord_18 : decode cX9_kindOfWord 18 = .ok (.iload_n 1, 1) := by decide +kernel
theorem dX9_kindOfWord_19 : decode cX9_kindOfWord 19 = .ok (.iload_n 2, 1) := by decide +kernel
theorem dX9_kindOfWord_20 : decode cX9_kindOfWord 20 = .ok (.invokevirtual 69, 3) := by decide +kernel
theorem dX9_kindOfWord_23 : decode cX9_kindOfWord 23 = .ok (.ifCond .eq 8, 3) := by decide +kernel
theorem dX9_kindOfWord_26 : decode cX9_kindOfWord 26 = .ok (.bipush 15, 2) := by decide +kernel
theorem dX9_kindOfWord_28 : decode cX9_kindOfWord 28 = .ok (.iload_n 3, 1) := by decide +kernel
theorem dX9_kindOfWord_29 : decode cX9_kindOfWord 29 = .ok (.iadd, 1) := by decide +kernel
theorem dX9_kindOfWord_30 : decode cX9_kindOfWord 30 = .ok (.ireturn, 1) := by decide +kernel
theorem dX9_kindOfWord_31 : decode cX9_kindOfWord 31 = .ok (.iinc 3 1, 3) := by decide +kernel
theorem dX9_kindOfWord_34 : decode cX9_kindOfWord 34 = .ok (.goto (-32), 3) := by decide +kernel
theorem dX9_kindOfWord_37 : decode cX9_kindOfWord 37 = .ok (.iconst 3, 1) := by decide +kernel
theorem dX9_kindOfWord_38 : decode cX9_kindOfWord 38 = .ok (.ireturn, 1) := by decide +kernel
def kX9_kindOfWord_2 (n : Nat) (r2 : mK) : mK := i_ldI 3 (i_cst (.int (1)) (i_bin (fun x y => x + y) (i_cst (.int (8)) (i_bin (fun x y => x * y) (i_cst (.float 2) (i_cX 0 (FJ0_length_8abf5 n) (i_c2 (fun x y => decide (y < x)) (i_cst (.int (3)) (i_rI)) (i_ldA 0 (i_ldI 3 (i_ldI 1 (i_ldI 2 (i_cV 9 3 (FX9_isWord n) (i_c0 (fun x => decide (x = 0)) (i_inc 3 (1) (r2)) (i_cst (.int (15)) (i_ldI 3 (i_bin (fun x y => x + y) (i_rI)))))))))))))))))
set_option maxRecDepth 20000 in
theorem okX9_kindOfWord_2 {E : mE} {X : State → Heap → Prop} {l : Launch} (hX : mXok E X) (n : Nat) {r2 : mK} (h2 : Sd E X l yX9_kindOfWord cX9_kindOfWord 4 (some .int) 6 0 0 0 0 2 r2) : Sd E X l yX9_kindOfWord cX9_kindOfWord 4 (some .int) 6 0 0 0 0 2 (kX9_kindOfWord_2 n r2) := s_iload_n dX9_kindOfWord_2 rfl (s_iconst dX9_kindOfWord_3 (by decide) (s_iadd dX9_kindOfWord_4 (s_bipush dX9_kindOfWord_5 (by decide) (s_imul dX9_kindOfWord_7 (s_ldS2 dX9_kindOfWord_8 rfl (s_cX dX9_kindOfWord_10 lMX9_65 bVJ0_length_8abf5 rfl (CtJ0_length_8abf5 hX n) (Nat.le_of_ble_eq_true rfl) (s_icgt dX9_kindOfWord_13 (by decide) (s_iconst dX9_kindOfWord_37 (by decide) (s_rI dX9_kindOfWord_38 (Nat.le_of_ble_eq_true rfl) (Nat.le_of_ble_eq_true rfl))) (s_aload_n dX9_kindOfWord_16 rfl (s_iload_n dX9_kindOfWord_17 rfl (s_iload_n dX9_kindOfWord_18 rfl (s_iload_n dX9_kindOfWord_19 rfl (s_cV dX9_kindOfWord_20 lMX9_69 bVX9_isWord rfl (CtX9_isWord hX n) (Nat.le_of_ble_eq_true rfl) (s_ifeq dX9_kindOfWord_23 (by decide) (s_iinc dX9_kindOfWord_31 (by decide) (s_goto dX9_kindOfWord_34 (by decide) h2)) (s_bipush dX9_kindOfWord_26 (by decide) (s_iload_n dX9_kindOfWord_28 rfl (s_iadd dX9_kindOfWord_29 (s_rI dX9_kindOfWord_30 (Nat.le_of_ble_eq_true rfl) (Nat.le_of_ble_eq_true rfl)))))) (Nat.le_of_ble_eq_true rfl) (Nat.le_of_ble_eq_true rfl))))))) (Nat.le_of_ble_eq_true rfl) (Nat.le_of_ble_eq_true rfl)))))))
def kX9_kindOfWord_0 (n : Nat) : mK := i_cst (.int (0)) (i_stI 3 (mit (kX9_kindOfWord_2 n ) n))
set_option maxRecDepth 20000 in
theorem okX9_kindOfWord_0 {E : mE} {X : State → Heap → Prop} {l : Launch} (hX : mXok E X) (n : Nat) : Sd E X l yX9_kindOfWord cX9_kindOfWord 4 (some .int) 6 0 0 0 0 0 (kX9_kindOfWord_0 n) := s_iconst dX9_kindOfWord_0 (by decide) (s_istore_n dX9_kindOfWord_1 rfl (s_mit (fun _ hk => okX9_kindOfWord_2 hX n hk) n))
def FX9_kindOfWord (n : Nat) : List Value → mM → Option mR := mfn 4 (kX9_kindOfWord_0 n)
theorem CtX9_kindOfWord {E : mE} {X : State → Heap → Prop} {l : Launch} (hX : mXok E X) (n : Nat) : Ct E X l yX9_kindOfWord cX9_kindOfWord 4 (some .int) 6 0 0 (FX9_kindOfWord n) := Ct_of (by decide) hX (okX9_kindOfWord_0 hX n)
theorem dX11_ask_0 : decode cX11_ask 0 = .ok (.iload_n 1, 1) := by decide +kernel
theorem dX11_ask_1 : decode cX11_ask 1 = .ok (.ifCond .eq 8, 3) := by decide +kernel
theorem dX11_ask_4 : decode cX11_ask 4 = .ok (.iload_n 1, 1) := by decide +kernel
theorem dX11_ask_5 : decode cX11_ask 5 = .ok (.iconst 1, 1) := by decide +kernel
theorem dX11_ask_6 : decode cX11_ask 6 = .ok (.if_icmp .ne 14, 3) := by decide +kernel
theorem dX11_ask_9 : decode cX11_ask 9 = .ok (.aload_n 0, 1) := by decide +kernel
theorem dX11_ask_10 : decode cX11_ask 10 = .ok (.getfield 70, 3) := by decide +kernel
theorem dX11_ask_13 : decode cX11_ask 13 = .ok (.iload_n 2, 1) := by decide +kernel
theorem dX11_ask_14 : decode cX11_ask 14 = .ok (.invokevirtual 339, 3) := by decide +kernel
theorem dX11_ask_17 : decode cX11_ask 17 = .ok (.ifCond .ne 5, 3) := by decide +kernel
theorem dX11_ask_20 : decode cX11_ask 20 = .ok (.iconst (-1), 1) := by decide +kernel
theorem dX11_ask_21 : decode cX11_ask 21 = .ok (.ireturn, 1) := by decide +kernel
theorem dX11_ask_22 : decode cX11_ask 22 = .ok (.aload_n 0, 1) := by decide +kernel
theorem dX11_ask_23 : decode cX11_ask 23 = .ok (.getfield 70, 3) := by decide +kernel
theorem dX11_ask_26 : decode cX11_ask 26 = .ok (.invokevirtual 348, 3) := by decide +kernel
theorem dX11_ask_29 : decode cX11_ask 29 = .ok (.iload_n 1, 1) := by decide +kernel
theorem dX11_ask_30 : decode cX11_ask 30 = .ok (.ifCond .ne 13, 3) := by decide +kernel
theorem dX11_ask_33 : decode cX11_ask 33 = .ok (.aload_n 0, 1) := by decide +kernel
theorem dX11_ask_34 : decode cX11_ask 34 = .ok (.getfield 70, 3) := by decide +kernel
theorem dX11_ask_37 : decode cX11_ask 37 = .ok (.getfield 351, 3) := by decide +kernel
theorem dX11_ask_40 : decode cX11_ask 40 = .ok (.goto 10, 3) := by decide +kernel
theorem dX11_ask_43 : decode cX11_ask 43 = .ok (.aload_n 0, 1) := by decide +kernel
theorem dX11_ask_44 : decode cX11_ask 44 = .ok (.getfield 70, 3) := by decide +kernel
theorem dX11_ask_47 : decode cX11_ask 47 = .ok (.getfield 354, 3) := by decide +kernel
theorem dX11_ask_50 : decode cX11_ask 50 = .ok (.ireturn, 1) := by decide +kernel
def kX11_ask_20 (n : Nat) : mK := i_cst (.int (-1)) (i_rI)
set_option maxRecDepth 20000 in
theorem okX11_ask_20 {E : mE} {X : State → Heap → Prop} {l : Launch} (hX : mXok E X) (n : Nat) : Sd E X l yX11_ask cX11_ask 3 (some .int) 7 0 0 0 0 20 (kX11_ask_20 n) := s_iconst dX11_ask_20 (by decide) (s_rI dX11_ask_21 (Nat.le_of_ble_eq_true rfl) (Nat.le_of_ble_eq_true rfl))
def kX11_ask_50 (n : Nat) : mK := i_rI
set_option maxRecDepth 20000 in
theorem okX11_ask_50 {E : mE} {X : State → Heap → Prop} {l : Launch} (hX : mXok E X) (n : Nat) : Sd E X l yX11_ask cX11_ask 3 (some .int) 7 0 0 0 0 50 (kX11_ask_50 n) := s_rI dX11_ask_50 (Nat.le_of_ble_eq_true rfl) (Nat.le_of_ble_eq_true rfl)
def kX11_ask_9 (n : Nat) : mK := i_ldA 0 (i_gA 11 10 (i_ldI 2 (i_cV 2 1 (FX2_countFits n) (i_c0 (fun x => decide (¬ x = 0)) (i_ldA 0 (i_gA 11 10 (i_cV 2 0 (FX2_findAsk n) (i_ldI 1 (i_c0 (fun x => decide (¬ x = 0)) (i_ldA 0 (i_gA 11 10 (i_gI 2 13 (kX11_ask_50 n)))) (i_ldA 0 (i_gA 11 10 (i_gI 2 12 ((kX11_ask_50 n)))))))))) (kX11_ask_20 n)))))
set_option maxRecDepth 20000 in
theorem okX11_ask_9 {E : mE} {X : State → Heap → Prop} {l : Launch} (hX : mXok E X) (n : Nat) : Sd E X l yX11_ask cX11_ask 3 (some .int) 7 0 0 0 0 9 (kX11_ask_9 n) := s_aload_n dX11_ask_9 rfl (s_gA dX11_ask_10 lFX11_70 (s_iload_n dX11_ask_13 rfl (s_cV dX11_ask_14 lMX11_339 bVX2_countFits rfl (CtX2_countFits hX n) (Nat.le_of_ble_eq_true rfl) (s_ifne dX11_ask_17 (by decide) (s_aload_n dX11_ask_22 rfl (s_gA dX11_ask_23 lFX11_70 (s_cV dX11_ask_26 lMX11_348 bVX2_findAsk rfl (CtX2_findAsk hX n) (Nat.le_of_ble_eq_true rfl) (s_iload_n dX11_ask_29 rfl (s_ifne dX11_ask_30 (by decide) (s_aload_n dX11_ask_43 rfl (s_gA dX11_ask_44 lFX11_70 (s_gI dX11_ask_47 lFX11_354 (by decide) (okX11_ask_50 hX n)))) (s_aload_n dX11_ask_33 rfl (s_gA dX11_ask_34 lFX11_70 (s_gI dX11_ask_37 lFX11_351 (by decide) (s_goto dX11_ask_40 (by decide) (okX11_ask_50 hX n))))))) (Nat.le_of_ble_eq_true rfl) (Nat.le_of_ble_eq_true rfl)))) (okX11_ask_20 hX n)) (Nat.le_of_ble_eq_true rfl) (Nat.le_of_ble_eq_true rfl))))
def kX11_ask_0 (n : Nat) : mK := i_ldI 1 (i_c0 (fun x => decide (x = 0)) (kX11_ask_9 n) (i_ldI 1 (i_cst (.int (1)) (i_c2 (fun x y => decide (¬ x = y)) (kX11_ask_20 n) (kX11_ask_9 n)))))
set_option maxRecDepth 20000 in
theorem okX11_ask_0 {E : mE} {X : State → Heap → Prop} {l : Launch} (hX : mXok E X) (n : Nat) : Sd E X l yX11_ask cX11_ask 3 (some .int) 7 0 0 0 0 0 (kX11_ask_0 n) := s_iload_n dX11_ask_0 rfl (s_ifeq dX11_ask_1 (by decide) (okX11_ask_9 hX n) (s_iload_n dX11_ask_4 rfl (s_iconst dX11_ask_5 (by decide) (s_icne dX11_ask_6 (by decide) (okX11_ask_20 hX n) (okX11_ask_9 hX n)))))
def FX11_ask (n : Nat) : List Value → mM → Option mR := mfn 3 (kX11_ask_0 n)
theorem CtX11_ask {E : mE} {X : State → Heap → Prop} {l : Launch} (hX : mXok E X) (n : Nat) : Ct E X l yX11_ask cX11_ask 3 (some .int) 7 0 0 (FX11_ask n) := Ct_of (by decide) hX (okX11_ask_0 hX n)
theorem dX11_exchange_0 : decode cX11_exchange 0 = .ok (.iload_n 1, 1) := by decide +kernel
theorem dX11_exchange_1 : decode cX11_exchange 1 = .ok (.ifCond .lt 12, 3) := by decide +kernel
theorem dX11_exchange_4 : decode cX11_exchange 4 = .ok (.iload_n 1, 1) := by decide +kernel
theorem dX11_exchange_5 : decode cX11_exchange 5 = .ok (.aload_n 0, 1) := by decide +kernel
theorem dX11_exchange_6 : decode cX11_exchange 6 = .ok (.getfield 88, 3) := by decide +kernel
theorem dX11_exchange_9 : decode cX11_exchange 9 = .ok (.arraylength, 1) := by decide +kernel
theorem dX11_exchange_10 : decode cX11_exchange 10 = .ok (.if_icmp .lt 5, 3) := by decide +kernel
theorem dX11_exchange_13 : decode cX11_exchange 13 = .ok (.iconst (-1), 1) := by decide +kernel
theorem dX11_exchange_14 : decode cX11_exchange 14 = .ok (.ireturn, 1) := by decide +kernel
theorem dX11_exchange_15 : decode cX11_exchange 15 = .ok (.aload_n 0, 1) := by decide +kernel
theorem dX11_exchange_16 : decode cX11_exchange 16 = .ok (.getfield 41, 3) := by decide +kernel
theorem dX11_exchange_19 : decode cX11_exchange 19 = .ok (.aload_n 0, 1) := by decide +kernel
theorem dX11_exchange_20 : decode cX11_exchange 20 = .ok (.getfield 37, 3) := by decide +kernel
theorem dX11_exchange_23 : decode cX11_exchange 23 = .ok (.invokevirtual 253, 3) := by decide +kernel
theorem dX11_exchange_26 : decode cX11_exchange 26 = .ok (.aload_n 0, 1) := by decide +kernel
theorem dX11_exchange_27 : decode cX11_exchange 27 = .ok (.iconst (-1), 1) := by decide +kernel
theorem dX11_exchange_28 : decode cX11_exchange 28 = .ok (.iconst (-1), 1) := by decide +kernel
theorem dX11_exchange_29 : decode cX11_exchange 29 = .ok (.aload_n 0, 1) := by decide +kernel
theorem dX11_exchange_30 : decode cX11_exchange 30 = .ok (.getfield 37, 3) := by decide +kernel
theorem dX11_exchange_33 : decode cX11_exchange 33 = .ok (.invokevirtual 210, 3) := by decide +kernel
theorem dX11_exchange_36 : decode cX11_exchange 36 = .ok (.invokestatic 229, 3) := by decide +kernel
theorem dX11_exchange_39 : decode cX11_exchange 39 = .ok (.invokevirtual 255, 3) := by decide +kernel
theorem dX11_exchange_42 : decode cX11_exchange 42 = .ok (.iconst 0, 1) := by decide +kernel
theorem dX11_exchange_43 : decode cX11_exchange 43 = .ok (.istore_n 2, 1) := by decide +kernel
theorem dX11_exchange_44 : decode cX11_exchange 44 = .ok (.iload_n 2, 1) := by decide +kernel
theorem dX11_exchange_45 : decode cX11_exchange 45 = .ok (.bipush 8, 2) := by decide +kernel
theorem dX11_exchange_47 : decode cX11_exchange 47 = .ok (.if_icmp .ge 53, 3) := by decide +kernel
theorem dX11_exchange_50 : decode cX11_exchange 50 = .ok (.iload_n 2, 1) := by decide +kernel
theorem dX11_exchange_51 : decode cX11_exchange 51 = .ok (.iconst 1, 1) := by decide +kernel
theorem dX11_exchange_52 : decode cX11_exchange 52 = .ok (.iadd, 1) := by decide +kernel
theorem dX11_exchange_53 : decode cX11_exchange 53 = .ok (.istore_n 3, 1) := by decide +kernel
theorem dX11_exchange_54 : decode cX11_exchange 54 = .ok (.iload_n 3, 1) := by decide +kernel
theorem dX11_exchange_55 : decode cX11_exchange 55 = .ok (.bipush 8, 2) := by decide +kernel
theorem dX11_exchange_57 : decode cX11_exchange 57 = .ok (.if_icmp .ge 37, 3) := by decide +kernel
theorem dX11_exchange_60 : decode cX11_exchange 60 = .ok (.aload_n 0, 1) := by decide +kernel
theorem dX11_exchange_61 : decode cX11_exchange 61 = .ok (.getfield 37, 3) := by decide +kernel
theorem dX11_exchange_64 : decode cX11_exchange 64 = .ok (.iload_n 2, 1) := by decide +kernel
theorem dX11_exchange_65 : decode cX11_exchange 65 = .ok (.invokevirtual 167, 3) := by decide +kernel
theorem dX11_exchange_68 : decode cX11_exchange 68 = .ok (.ifCond .eq 20, 3) := by decide +kernel
theorem dX11_exchange_71 : decode cX11_exchange 71 = .ok (.aload_n 0, 1) := by decide +kernel
theorem dX11_exchange_72 : decode cX11_exchange 72 = .ok (.getfield 37, 3) := by decide +kernel
theorem dX11_exchange_75 : decode cX11_exchange 75 = .ok (.iload_n 3, 1) := by decide +kernel
theorem dX11_exchange_76 : decode cX11_exchange 76 = .ok (.invokevirtual 167, 3) := by decide +kernel
theorem dX11_exchange_79 : decode cX11_exchange 79 = .ok (.ifCond .eq 9, 3) := by decide +kernel
theorem dX11_exchange_82 : decode cX11_exchange 82 = .ok (.aload_n 0, 1) := by decide +kernel
theorem dX11_exchange_83 : decode cX11_exchange 83 = .ok (.iload_n 2, 1) := by decide +kernel
theorem dX11_exchange_84 : decode cX11_exchange 84 = .ok (.iload_n 3, 1) := by decide +kernel
theorem dX11_exchange_85 : decode cX11_exchange 85 = .ok (.invokevirtual 262, 3) := by decide +kernel
theorem dX11_exchange_88 : decode cX11_exchange 88 = .ok (.iinc 3 1, 3) := by decide +kernel
theorem dX11_exchange_91 : decode cX11_exchange 91 = .ok (.goto (-37), 3) := by decide +kernel
theorem dX11_exchange_94 : decode cX11_exchange 94 = .ok (.iinc 2 1, 3) := by decide +kernel
theorem dX11_exchange_97 : decode cX11_exchange 97 = .ok (.goto (-53), 3) := by decide +kernel
theorem dX11_exchange_100 : decode cX11_exchange 100 = .ok (.aload_n 0, 1) := by decide +kernel
theorem dX11_exchange_101 : decode cX11_exchange 101 = .ok (.getfield 88, 3) := by decide +kernel
theorem dX11_exchange_104 : decode cX11_exchange 104 = .ok (.iconst 0, 1) := by decide +kernel
theorem dX11_exchange_105 : decode cX11_exchange 105 = .ok (.invokestatic 144, 3) := by decide +kernel
theorem dX11_exchange_108 : decode cX11_exchange 108 = .ok (.iconst (-1), 1) := by decide +kernel
theorem dX11_exchange_109 : decode cX11_exchange 109 = .ok (.if_icmp .ne 7, 3) := by decide +kernel
theorem dX11_exchange_112 : decode cX11_exchange 112 = .ok (.iconst (-1), 1) := by decide +kernel
theorem dX11_exchange_113 : decode cX11_exchange 113 = .ok (.goto 11, 3) := by decide +kernel
theorem dX11_exchange_116 : decode cX11_exchange 116 = .ok (.aload_n 0, 1) := by decide +kernel
theorem dX11_exchange_117 : decode cX11_exchange 117 = .ok (.getfield 88, 3) := by decide +kernel
theorem dX11_exchange_120 : decode cX11_exchange 120 = .ok (.iload_n 1, 1) := by decide +kernel
theorem dX11_exchange_121 : decode cX11_exchange 121 = .ok (.invokestatic 144, 3) := by decide +kernel
theorem dX11_exchange_124 : decode cX11_exchange 124 = .ok (.ireturn, 1) := by decide +kernel
def kX11_exchange_13 (n : Nat) : mK := i_cst (.int (-1)) (i_rI)
set_option maxRecDepth 20000 in
theorem okX11_exchange_13 {E : mE} {X : State → Heap → Prop} {l : Launch} (hX : mXok E X) (n : Nat) : Sd E X l yX11_exchange cX11_exchange 4 (some .int) 7 0 0 0 0 13 (kX11_exchange_13 n) := s_iconst dX11_exchange_13 (by decide) (s_rI dX11_exchange_14 (Nat.le_of_ble_eq_true rfl) (Nat.le_of_ble_eq_true rfl))
def kX11_exchange_88 (n : Nat) (r44 : mK) (r54 : mK) : mK := i_inc 3 (1) (r54)
set_option maxRecDepth 20000 in
theorem okX11_exchange_88 {E : mE} {X : State → Heap → Prop} {l : Launch} (hX : mXok E X) (n : Nat) {r44 : mK} (h44 : Sd E X l yX11_exchange cX11_exchange 4 (some .int) 7 0 0 0 0 44 r44) {r54 : mK} (h54 : Sd E X l yX11_exchange cX11_exchange 4 (some .int) 7 0 0 0 0 54 r54) : Sd E X l yX11_exchange cX11_exchange 4 (some .int) 7 0 0 0 0 88 (kX11_exchange_88 n r44 r54) := s_iinc dX11_exchange_88 (by decide) (s_goto dX11_exchange_91 (by decide) h54)
def kX11_exchange_54 (n : Nat) (r44 : mK) (r54 : mK) : mK := i_ldI 3 (i_cst (.int (8)) (i_c2 (fun x y => decide (y ≤ x)) (i_inc 2 (1) (r44)) (i_ldA 0 (i_gA 11 5 (i_ldI 2 (i_cV 8 1 (FX8_isIn n) (i_c0 (fun x => decide (x = 0)) (kX11_exchange_88 n r44 r54) (i_ldA 0 (i_gA 11 5 (i_ldI 3 (i_cV 8 1 (FX8_isIn n) (i_c0 (fun x => decide (x = 0)) (kX11_exchange_88 n r44 r54) (i_ldA 0 (i_ldI 2 (i_ldI 3 (i_cV 11 2 (FX11_tryExchange n) (kX11_exchange_88 n r44 r54)))))))))))))))))
set_option maxRecDepth 20000 in
theorem okX11_exchange_54 {E : mE} {X : State → Heap → Prop} {l : Launch} (hX : mXok E X) (n : Nat) {r44 : mK} (h44 : Sd E X l yX11_exchange cX11_exchange 4 (some .int) 7 0 0 0 0 44 r44) {r54 : mK} (h54 : Sd E X l yX11_exchange cX11_exchange 4 (some .int) 7 0 0 0 0 54 r54) : Sd E X l yX11_exchange cX11_exchange 4 (some .int) 7 0 0 0 0 54 (kX11_exchange_54 n r44 r54) := s_iload_n dX11_exchange_54 rfl (s_bipush dX11_exchange_55 (by decide) (s_icge dX11_exchange_57 (by decide) (s_iinc dX11_exchange_94 (by decide) (s_goto dX11_exchange_97 (by decide) h44)) (s_aload_n dX11_exchange_60 rfl (s_gA dX11_exchange_61 lFX11_37 (s_iload_n dX11_exchange_64 rfl (s_cV dX11_exchange_65 lMX11_167 bVX8_isIn rfl (CtX8_isIn hX n) (Nat.le_of_ble_eq_true rfl) (s_ifeq dX11_exchange_68 (by decide) (okX11_exchange_88 hX n h44 h54) (s_aload_n dX11_exchange_71 rfl (s_gA dX11_exchange_72 lFX11_37 (s_iload_n dX11_exchange_75 rfl (s_cV dX11_exchange_76 lMX11_167 bVX8_isIn rfl (CtX8_isIn hX n) (Nat.le_of_ble_eq_true rfl) (s_ifeq dX11_exchange_79 (by decide) (okX11_exchange_88 hX n h44 h54) (s_aload_n dX11_exchange_82 rfl (s_iload_n dX11_exchange_83 rfl (s_iload_n dX11_exchange_84 rfl (s_cV dX11_exchange_85 lMX11_262 bVX11_tryExchange rfl (CtX11_tryExchange hX n) (Nat.le_of_ble_eq_true rfl) (okX11_exchange_88 hX n h44 h54) (Nat.le_of_ble_eq_true rfl) (Nat.le_of_ble_eq_true rfl)))))) (Nat.le_of_ble_eq_true rfl) (Nat.le_of_ble_eq_true rfl)))))) (Nat.le_of_ble_eq_true rfl) (Nat.le_of_ble_eq_true rfl)))))))
def kX11_exchange_124 (n : Nat) : mK := i_rI
set_option maxRecDepth 20000 in
theorem okX11_exchange_124 {E : mE} {X : State → Heap → Prop} {l : Launch} (hX : mXok E X) (n : Nat) : Sd E X l yX11_exchange cX11_exchange 4 (some .int) 7 0 0 0 0 124 (kX11_exchange_124 n) := s_rI dX11_exchange_124 (Nat.le_of_ble_eq_true rfl) (Nat.le_of_ble_eq_true rfl)
def kX11_exchange_44 (n : Nat) (r44 : mK) : mK := i_ldI 2 (i_cst (.int (8)) (i_c2 (fun x y => decide (y ≤ x)) (i_ldA 0 (i_gA 11 13 (i_cst (.int (0)) (i_cS 2 (FX11_at n) (i_cst (.int (-1)) (i_c2 (fun x y => decide (¬ x = y)) (i_ldA 0 (i_gA 11 13 (i_ldI 1 (i_cS 2 (FX11_at n) (kX11_exchange_124 n))))) (i_cst (.int (-1)) ((kX11_exchange_124 n))))))))) (i_ldI 2 (i_cst (.int (1)) (i_bin (fun x y => x + y) (i_stI 3 (mit (kX11_exchange_54 n r44) n)))))))
set_option maxRecDepth 20000 in
theorem okX11_exchange_44 {E : mE} {X : State → Heap → Prop} {l : Launch} (hX : mXok E X) (n : Nat) {r44 : mK} (h44 : Sd E X l yX11_exchange cX11_exchange 4 (some .int) 7 0 0 0 0 44 r44) : Sd E X l yX11_exchange cX11_exchange 4 (some .int) 7 0 0 0 0 44 (kX11_exchange_44 n r44) := s_iload_n dX11_exchange_44 rfl (s_bipush dX11_exchange_45 (by decide) (s_icge dX11_exchange_47 (by decide) (s_aload_n dX11_exchange_100 rfl (s_gA dX11_exchange_101 lFX11_88 (s_iconst dX11_exchange_104 (by decide) (s_cS dX11_exchange_105 lMX11_144 bSX11_at (CtX11_at hX n) (Nat.le_of_ble_eq_true rfl) (s_iconst dX11_exchange_108 (by decide) (s_icne dX11_exchange_109 (by decide) (s_aload_n dX11_exchange_116 rfl (s_gA dX11_exchange_117 lFX11_88 (s_iload_n dX11_exchange_120 rfl (s_cS dX11_exchange_121 lMX11_144 bSX11_at (CtX11_at hX n) (Nat.le_of_ble_eq_true rfl) (okX11_exchange_124 hX n) (Nat.le_of_ble_eq_true rfl) (Nat.le_of_ble_eq_true rfl))))) (s_iconst dX11_exchange_112 (by decide) (s_goto dX11_exchange_113 (by decide) (okX11_exchange_124 hX n))))) (Nat.le_of_ble_eq_true rfl) (Nat.le_of_ble_eq_true rfl))))) (s_iload_n dX11_exchange_50 rfl (s_iconst dX11_exchange_51 (by decide) (s_iadd dX11_exchange_52 (s_istore_n dX11_exchange_53 rfl (s_mit (fun _ hk => okX11_exchange_54 hX n h44 hk) n)))))))
def kX11_exchange_0 (n : Nat) : mK := i_ldI 1 (i_c0 (fun x => decide (x < 0)) (kX11_exchange_13 n) (i_ldI 1 (i_ldA 0 (i_gA 11 13 (i_len (i_c2 (fun x y => decide (x < y)) (i_ldA 0 (i_gA 11 6 (i_ldA 0 (i_gA 11 5 (i_cV 8 1 (FX8_copyFrom n) (i_ldA 0 (i_cst (.int (-1)) (i_cst (.int (-1)) (i_ldA 0 (i_gA 11 5 (i_cV 8 0 (FX8_whoIsFree n) (i_cS 1 (FJ6_bitCount_0f7a4 n) (i_cV 11 3 (FX11_find n) (i_cst (.int (0)) (i_stI 2 (mit (kX11_exchange_44 n ) n)))))))))))))))) (kX11_exchange_13 n)))))))
set_option maxRecDepth 20000 in
theorem okX11_exchange_0 {E : mE} {X : State → Heap → Prop} {l : Launch} (hX : mXok E X) (n : Nat) : Sd E X l yX11_exchange cX11_exchange 4 (some .int) 7 0 0 0 0 0 (kX11_exchange_0 n) := s_iload_n dX11_exchange_0 rfl (s_iflt dX11_exchange_1 (by decide) (okX11_exchange_13 hX n) (s_iload_n dX11_exchange_4 rfl (s_aload_n dX11_exchange_5 rfl (s_gA dX11_exchange_6 lFX11_88 (s_len dX11_exchange_9 (s_iclt dX11_exchange_10 (by decide) (s_aload_n dX11_exchange_15 rfl (s_gA dX11_exchange_16 lFX11_41 (s_aload_n dX11_exchange_19 rfl (s_gA dX11_exchange_20 lFX11_37 (s_cV dX11_exchange_23 lMX11_253 bVX8_copyFrom rfl (CtX8_copyFrom hX n) (Nat.le_of_ble_eq_true rfl) (s_aload_n dX11_exchange_26 rfl (s_iconst dX11_exchange_27 (by decide) (s_iconst dX11_exchange_28 (by decide) (s_aload_n dX11_exchange_29 rfl (s_gA dX11_exchange_30 lFX11_37 (s_cV dX11_exchange_33 lMX11_210 bVX8_whoIsFree rfl (CtX8_whoIsFree hX n) (Nat.le_of_ble_eq_true rfl) (s_cS dX11_exchange_36 lMX11_229 bSJ6_bitCount_0f7a4 (CtJ6_bitCount_0f7a4 hX n) (Nat.le_of_ble_eq_true rfl) (s_cV dX11_exchange_39 lMX11_255 bVX11_find rfl (CtX11_find hX n) (Nat.le_of_ble_eq_true rfl) (s_iconst dX11_exchange_42 (by decide) (s_istore_n dX11_exchange_43 rfl (s_mit (fun _ hk => okX11_exchange_44 hX n hk) n))) (Nat.le_of_ble_eq_true rfl) (Nat.le_of_ble_eq_true rfl)) (Nat.le_of_ble_eq_true rfl) (Nat.le_of_ble_eq_true rfl)) (Nat.le_of_ble_eq_true rfl) (Nat.le_of_ble_eq_true rfl))))))) (Nat.le_of_ble_eq_true rfl) (Nat.le_of_ble_eq_true rfl)))))) (okX11_exchange_13 hX n)))))))
def FX11_exchange (n : Nat) : List Value → mM → Option mR := mfn 4 (kX11_exchange_0 n)
theorem CtX11_exchange {E : mE} {X : State → Heap → Prop} {l : Launch} (hX : mXok E X) (n : Nat) : Ct E X l yX11_exchange cX11_exchange 4 (some .int) 7 0 0 (FX11_exchange n) := Ct_of (by decide) hX (okX11_exchange_0 hX n)
