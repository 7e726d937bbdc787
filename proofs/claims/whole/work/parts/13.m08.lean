theorem dX11_redo_0 : decode cX11_redo 0 = .ok (.aload_n 0, 1) := by decide +kernel
theorem dX11_redo_1 : decode cX11_redo 1 = .ok (.getfield 63, 3) := by decide +kernel
theorem dX11_redo_4 : decode cX11_redo 4 = .ok (.invokevirtual 207, 3) := by decide +kernel
theorem dX11_redo_7 : decode cX11_redo 7 = .ok (.ireturn, 1) := by decide +kernel
def kX11_redo_0 (n : Nat) : mK := i_ldA 0 (i_gA 11 9 (i_cV 3 0 (FX3_stepOn n) (i_rZ)))
set_option maxRecDepth 20000 in
theorem okX11_redo_0 {E : mE} {X : State → Heap → Prop} {l : Launch} (hX : mXok E X) (n : Nat) : Sd E X l yX11_redo cX11_redo 1 (some .boolean) 4 0 0 0 0 0 (kX11_redo_0 n) := s_aload_n dX11_redo_0 rfl (s_gA dX11_redo_1 lFX11_63 (s_cV dX11_redo_4 lMX11_207 bVX3_stepOn rfl (CtX3_stepOn hX n) (Nat.le_of_ble_eq_true rfl) (s_rZ dX11_redo_7 (Nat.le_of_ble_eq_true rfl) (Nat.le_of_ble_eq_true rfl)) (Nat.le_of_ble_eq_true rfl) (Nat.le_of_ble_eq_true rfl)))
def FX11_redo (n : Nat) : List Value → mM → Option mR := mfn 1 (kX11_redo_0 n)
theorem CtX11_redo {E : mE} {X : State → Heap → Prop} {l : Launch} (hX : mXok E X) (n : Nat) : Ct E X l yX11_redo cX11_redo 1 (some .boolean) 4 0 0 (FX11_redo n) := Ct_of (by decide) hX (okX11_redo_0 hX n)
theorem dX11_spot_0 : decode cX11_spot 0 = .ok (.aload_n 0, 1) := by decide +kernel
theorem dX11_spot_1 : decode cX11_spot 1 = .ok (.getfield 37, 3) := by decide +kernel
theorem dX11_spot_4 : decode cX11_spot 4 = .ok (.iload_n 1, 1) := by decide +kernel
theorem dX11_spot_5 : decode cX11_spot 5 = .ok (.invokevirtual 164, 3) := by decide +kernel
theorem dX11_spot_8 : decode cX11_spot 8 = .ok (.ireturn, 1) := by decide +kernel
def kX11_spot_0 (n : Nat) : mK := i_ldA 0 (i_gA 11 5 (i_ldI 1 (i_cV 8 1 (FX8_whoIsAt n) (i_rI))))
set_option maxRecDepth 20000 in
theorem okX11_spot_0 {E : mE} {X : State → Heap → Prop} {l : Launch} (hX : mXok E X) (n : Nat) : Sd E X l yX11_spot cX11_spot 2 (some .int) 4 0 0 0 0 0 (kX11_spot_0 n) := s_aload_n dX11_spot_0 rfl (s_gA dX11_spot_1 lFX11_37 (s_iload_n dX11_spot_4 rfl (s_cV dX11_spot_5 lMX11_164 bVX8_whoIsAt rfl (CtX8_whoIsAt hX n) (Nat.le_of_ble_eq_true rfl) (s_rI dX11_spot_8 (Nat.le_of_ble_eq_true rfl) (Nat.le_of_ble_eq_true rfl)) (Nat.le_of_ble_eq_true rfl) (Nat.le_of_ble_eq_true rfl))))
def FX11_spot (n : Nat) : List Value → mM → Option mR := mfn 2 (kX11_spot_0 n)
theorem CtX11_spot {E : mE} {X : State → Heap → Prop} {l : Launch} (hX : mXok E X) (n : Nat) : Ct E X l yX11_spot cX11_spot 2 (some .int) 4 0 0 (FX11_spot n) := Ct_of (by decide) hX (okX11_spot_0 hX n)
theorem dX11_undo_0 : decode cX11_undo 0 = .ok (.aload_n 0, 1) := by decide +kernel
theorem dX11_undo_1 : decode cX11_undo 1 = .ok (.getfield 63, 3) := by decide +kernel
theorem dX11_undo_4 : decode cX11_undo 4 = .ok (.invokevirtual 203, 3) := by decide +kernel
theorem dX11_undo_7 : decode cX11_undo 7 = .ok (.ireturn, 1) := by decide +kernel
def kX11_undo_0 (n : Nat) : mK := i_ldA 0 (i_gA 11 9 (i_cV 3 0 (FX3_stepBack n) (i_rZ)))
set_option maxRecDepth 20000 in
theorem okX11_undo_0 {E : mE} {X : State → Heap → Prop} {l : Launch} (hX : mXok E X) (n : Nat) : Sd E X l yX11_undo cX11_undo 1 (some .boolean) 4 0 0 0 0 0 (kX11_undo_0 n) := s_aload_n dX11_undo_0 rfl (s_gA dX11_undo_1 lFX11_63 (s_cV dX11_undo_4 lMX11_203 bVX3_stepBack rfl (CtX3_stepBack hX n) (Nat.le_of_ble_eq_true rfl) (s_rZ dX11_undo_7 (Nat.le_of_ble_eq_true rfl) (Nat.le_of_ble_eq_true rfl)) (Nat.le_of_ble_eq_true rfl) (Nat.le_of_ble_eq_true rfl)))
def FX11_undo (n : Nat) : List Value → mM → Option mR := mfn 1 (kX11_undo_0 n)
theorem CtX11_undo {E : mE} {X : State → Heap → Prop} {l : Launch} (hX : mXok E X) (n : Nat) : Ct E X l yX11_undo cX11_undo 1 (some .boolean) 4 0 0 (FX11_undo n) := Ct_of (by decide) hX (okX11_undo_0 hX n)
theorem dX12_after_0 : decode cX12_after 0 = .ok (.aload_n 0, 1) := by decide +kernel
theorem dX12_after_1 : decode cX12_after 1 = .ok (.aload_n 0, 1) := by decide +kernel
theorem dX12_after_2 : decode cX12_after 2 = .ok (.lload_n 1, 1) := by decide +kernel
theorem dX12_after_3 : decode cX12_after 3 = .ok (.invokevirtual 235, 3) := by decide +kernel
theorem dX12_after_6 : decode cX12_after 6 = .ok (.invokevirtual 238, 3) := by decide +kernel
theorem dX12_after_9 : decode cX12_after 9 = .ok (.aload_n 0, 1) := by decide +kernel
theorem dX12_after_10 : decode cX12_after 10 = .ok (.iload_n 3, 1) := by decide +kernel
theorem dX12_after_11 : decode cX12_after 11 = .ok (.iload 4, 2) := by decide +kernel
theorem dX12_after_13 : decode cX12_after 13 = .ok (.invokevirtual 242, 3) := by decide +kernel
theorem dX12_after_16 : decode cX12_after 16 = .ok (.ireturn, 1) := by decide +kernel
def kX12_after_0 (n : Nat) : mK := i_ldA 0 (i_ldA 0 (i_ldJ 1 (i_cV 12 1 (FX12_isWord n) (i_cV 12 1 (FX12_must n) (i_ldA 0 (i_ldI 3 (i_ldI 4 (i_cV 12 2 (FX12_numeral n) (i_rI)))))))))
set_option maxRecDepth 20000 in
theorem okX12_after_0 {E : mE} {X : State → Heap → Prop} {l : Launch} (hX : mXok E X) (n : Nat) : Sd E X l yX12_after cX12_after 5 (some .int) 4 0 0 0 0 0 (kX12_after_0 n) := s_aload_n dX12_after_0 rfl (s_aload_n dX12_after_1 rfl (s_lload_n dX12_after_2 rfl (s_cV dX12_after_3 lMX12_235 bVX12_isWord rfl (CtX12_isWord hX n) (Nat.le_of_ble_eq_true rfl) (s_cV dX12_after_6 lMX12_238 bVX12_must rfl (CtX12_must hX n) (Nat.le_of_ble_eq_true rfl) (s_aload_n dX12_after_9 rfl (s_iload_n dX12_after_10 rfl (s_iload dX12_after_11 (s_cV dX12_after_13 lMX12_242 bVX12_numeral rfl (CtX12_numeral hX n) (Nat.le_of_ble_eq_true rfl) (s_rI dX12_after_16 (Nat.le_of_ble_eq_true rfl) (Nat.le_of_ble_eq_true rfl)) (Nat.le_of_ble_eq_true rfl) (Nat.le_of_ble_eq_true rfl))))) (Nat.le_of_ble_eq_true rfl) (Nat.le_of_ble_eq_true rfl)) (Nat.le_of_ble_eq_true rfl) (Nat.le_of_ble_eq_true rfl))))
def FX12_after (n : Nat) : List Value → mM → Option mR := mfn 5 (kX12_after_0 n)
theorem CtX12_after {E : mE} {X : State → Heap → Prop} {l : Launch} (hX : mXok E X) (n : Nat) : Ct E X l yX12_after cX12_after 5 (some .int) 4 0 0 (FX12_after n) := Ct_of (by decide) hX (okX12_after_0 hX n)
theorem dX12_aheadOf_0 : decode cX12_aheadOf 0 = .ok (.aload_n 0, 1) := by decide +kernel
theorem dX12_aheadOf_1 : decode cX12_aheadOf 1 = .ok (.invokevirtual 424, 3) := by decide +kernel
theorem dX12_aheadOf_4 : decode cX12_aheadOf 4 = .ok (.aload_n 0, 1) := by decide +kernel
theorem dX12_aheadOf_5 : decode cX12_aheadOf 5 = .ok (.getfield 100, 3) := by decide +kernel
theorem dX12_aheadOf_8 : decode cX12_aheadOf 8 = .ok (.iload_n 1, 1) := by decide +kernel
theorem dX12_aheadOf_9 : decode cX12_aheadOf 9 = .ok (.iaload, 1) := by decide +kernel
theorem dX12_aheadOf_10 : decode cX12_aheadOf 10 = .ok (.istore_n 2, 1) := by decide +kernel
theorem dX12_aheadOf_11 : decode cX12_aheadOf 11 = .ok (.iconst 0, 1) := by decide +kernel
theorem dX12_aheadOf_12 : decode cX12_aheadOf 12 = .ok (.istore_n 3, 1) := by decide +kernel
theorem dX12_aheadOf_13 : decode cX12_aheadOf 13 = .ok (.iload_n 3, 1) := by decide +kernel
theorem dX12_aheadOf_14 : decode cX12_aheadOf 14 = .ok (.bipush 8, 2) := by decide +kernel
theorem dX12_aheadOf_16 : decode cX12_aheadOf 16 = .ok (.if_icmp .ge 46, 3) := by decide +kernel
theorem dX12_aheadOf_19 : decode cX12_aheadOf 19 = .ok (.iconst 0, 1) := by decide +kernel
theorem dX12_aheadOf_20 : decode cX12_aheadOf 20 = .ok (.istore 4, 2) := by decide +kernel
theorem dX12_aheadOf_22 : decode cX12_aheadOf 22 = .ok (.iload 4, 2) := by decide +kernel
theorem dX12_aheadOf_24 : decode cX12_aheadOf 24 = .ok (.aload_n 0, 1) := by decide +kernel
theorem dX12_aheadOf_25 : decode cX12_aheadOf 25 = .ok (.invokevirtual 341, 3) := by decide +kernel
theorem dX12_aheadOf_28 : decode cX12_aheadOf 28 = .ok (.if_icmp .ge 28, 3) := by decide +kernel
theorem dX12_aheadOf_31 : decode cX12_aheadOf 31 = .ok (.iload_n 2, 1) := by decide +kernel
theorem dX12_aheadOf_32 : decode cX12_aheadOf 32 = .ok (.iload 4, 2) := by decide +kernel
theorem dX12_aheadOf_34 : decode cX12_aheadOf 34 = .ok (.invokestatic 261, 3) := by decide +kernel
theorem dX12_aheadOf_37 : decode cX12_aheadOf 37 = .ok (.ifCond .eq 13, 3) := by decide +kernel
theorem dX12_aheadOf_40 : decode cX12_aheadOf 40 = .ok (.iload_n 2, 1) := by decide +kernel
theorem dX12_aheadOf_41 : decode cX12_aheadOf 41 = .ok (.aload_n 0, 1) := by decide +kernel
theorem dX12_aheadOf_42 : decode cX12_aheadOf 42 = .ok (.getfield 100, 3) := by decide +kernel
theorem dX12_aheadOf_45 : decode cX12_aheadOf 45 = .ok (.iload 4, 2) := by decide +kernel
theorem dX12_aheadOf_47 : decode cX12_aheadOf 47 = .ok (.iaload, 1) := by decide +kernel
theorem dX12_aheadOf_48 : decode cX12_aheadOf 48 = .ok (.ior, 1) := by decide +kernel
theorem dX12_aheadOf_49 : decode cX12_aheadOf 49 = .ok (.istore_n 2, 1) := by decide +kernel
theorem dX12_aheadOf_50 : decode cX12_aheadOf 50 = .ok (.iinc 4 1, 3) := by decide +kernel
theorem dX12_aheadOf_53 : decode cX12_aheadOf 53 = .ok (.goto (-31), 3) := by decide +kernel
theorem dX12_aheadOf_56 : decode cX12_aheadOf 56 = .ok (.iinc 3 1, 3) := by decide +kernel
theorem dX12_aheadOf_59 : decode cX12_aheadOf 59 = .ok (.goto (-46), 3) := by decide +kernel
theorem dX12_aheadOf_62 : decode cX12_aheadOf 62 = .ok (.iload_n 2, 1) := by decide +kernel
theorem dX12_aheadOf_63 : decode cX12_aheadOf 63 = .ok (.ireturn, 1) := by decide +kernel
def kX12_aheadOf_50 (n : Nat) (r13 : mK) (r22 : mK) : mK := i_inc 4 (1) (r22)
set_option maxRecDepth 20000 in
theorem okX12_aheadOf_50 {E : mE} {X : State → Heap → Prop} {l : Launch} (hX : mXok E X) (n : Nat) {r13 : mK} (h13 : Sd E X l yX12_aheadOf cX12_aheadOf 5 (some .int) 4 0 0 0 0 13 r13) {r22 : mK} (h22 : Sd E X l yX12_aheadOf cX12_aheadOf 5 (some .int) 4 0 0 0 0 22 r22) : Sd E X l yX12_aheadOf cX12_aheadOf 5 (some .int) 4 0 0 0 0 50 (kX12_aheadOf_50 n r13 r22) := s_iinc dX12_aheadOf_50 (by decide) (s_goto dX12_aheadOf_53 (by decide) h22)
def kX12_aheadOf_22 (n : Nat) (r13 : mK) (r22 : mK) : mK := i_ldI 4 (i_ldA 0 (i_cV 12 0 (FX12_many n) (i_c2 (fun x y => decide (y ≤ x)) (i_inc 3 (1) (r13)) (i_ldI 2 (i_ldI 4 (i_cS 2 (FX12_bit n) (i_c0 (fun x => decide (x = 0)) (kX12_aheadOf_50 n r13 r22) (i_ldI 2 (i_ldA 0 (i_gA 12 47 (i_ldI 4 (i_al 0 (i_bin (fun x y => x ||| y) (i_stI 2 (kX12_aheadOf_50 n r13 r22)))))))))))))))
set_option maxRecDepth 20000 in
theorem okX12_aheadOf_22 {E : mE} {X : State → Heap → Prop} {l : Launch} (hX : mXok E X) (n : Nat) {r13 : mK} (h13 : Sd E X l yX12_aheadOf cX12_aheadOf 5 (some .int) 4 0 0 0 0 13 r13) {r22 : mK} (h22 : Sd E X l yX12_aheadOf cX12_aheadOf 5 (some .int) 4 0 0 0 0 22 r22) : Sd E X l yX12_aheadOf cX12_aheadOf 5 (some .int) 4 0 0 0 0 22 (kX12_aheadOf_22 n r13 r22) := s_iload dX12_aheadOf_22 (s_aload_n dX12_aheadOf_24 rfl (s_cV dX12_aheadOf_25 lMX12_341 bVX12_many rfl (CtX12_many hX n) (Nat.le_of_ble_eq_true rfl) (s_icge dX12_aheadOf_28 (by decide) (s_iinc dX12_aheadOf_56 (by decide) (s_goto dX12_aheadOf_59 (by decide) h13)) (s_iload_n dX12_aheadOf_31 rfl (s_iload dX12_aheadOf_32 (s_cS dX12_aheadOf_34 lMX12_261 bSX12_bit (CtX12_bit hX n) (Nat.le_of_ble_eq_true rfl) (s_ifeq dX12_aheadOf_37 (by decide) (okX12_aheadOf_50 hX n h13 h22) (s_iload_n dX12_aheadOf_40 rfl (s_aload_n dX12_aheadOf_41 rfl (s_gA dX12_aheadOf_42 lFX12_100 (s_iload dX12_aheadOf_45 (s_iald dX12_aheadOf_47 (s_ior dX12_aheadOf_48 (s_istore_n dX12_aheadOf_49 rfl (okX12_aheadOf_50 hX n h13 h22))))))))) (Nat.le_of_ble_eq_true rfl) (Nat.le_of_ble_eq_true rfl))))) (Nat.le_of_ble_eq_true rfl) (Nat.le_of_ble_eq_true rfl)))
def kX12_aheadOf_13 (n : Nat) (r13 : mK) : mK := i_ldI 3 (i_cst (.int (8)) (i_c2 (fun x y => decide (y ≤ x)) (i_ldI 2 (i_rI)) (i_cst (.int (0)) (i_stI 4 (mit (kX12_aheadOf_22 n r13) n)))))
set_option maxRecDepth 20000 in
theorem okX12_aheadOf_13 {E : mE} {X : State → Heap → Prop} {l : Launch} (hX : mXok E X) (n : Nat) {r13 : mK} (h13 : Sd E X l yX12_aheadOf cX12_aheadOf 5 (some .int) 4 0 0 0 0 13 r13) : Sd E X l yX12_aheadOf cX12_aheadOf 5 (some .int) 4 0 0 0 0 13 (kX12_aheadOf_13 n r13) := s_iload_n dX12_aheadOf_13 rfl (s_bipush dX12_aheadOf_14 (by decide) (s_icge dX12_aheadOf_16 (by decide) (s_iload_n dX12_aheadOf_62 rfl (s_rI dX12_aheadOf_63 (Nat.le_of_ble_eq_true rfl) (Nat.le_of_ble_eq_true rfl))) (s_iconst dX12_aheadOf_19 (by decide) (s_istore dX12_aheadOf_20 (s_mit (fun _ hk => okX12_aheadOf_22 hX n h13 hk) n)))))
def kX12_aheadOf_0 (n : Nat) : mK := i_ldA 0 (i_cV 12 0 (FX12_layBars n) (i_ldA 0 (i_gA 12 47 (i_ldI 1 (i_al 0 (i_stI 2 (i_cst (.int (0)) (i_stI 3 (mit (kX12_aheadOf_13 n ) n)))))))))
set_option maxRecDepth 20000 in
theorem okX12_aheadOf_0 {E : mE} {X : State → Heap → Prop} {l : Launch} (hX : mXok E X) (n : Nat) : Sd E X l yX12_aheadOf cX12_aheadOf 5 (some .int) 4 0 0 0 0 0 (kX12_aheadOf_0 n) := s_aload_n dX12_aheadOf_0 rfl (s_cV dX12_aheadOf_1 lMX12_424 bVX12_layBars rfl (CtX12_layBars hX n) (Nat.le_of_ble_eq_true rfl) (s_aload_n dX12_aheadOf_4 rfl (s_gA dX12_aheadOf_5 lFX12_100 (s_iload_n dX12_aheadOf_8 rfl (s_iald dX12_aheadOf_9 (s_istore_n dX12_aheadOf_10 rfl (s_iconst dX12_aheadOf_11 (by decide) (s_istore_n dX12_aheadOf_12 rfl (s_mit (fun _ hk => okX12_aheadOf_13 hX n hk) n)))))))) (Nat.le_of_ble_eq_true rfl) (Nat.le_of_ble_eq_true rfl))
def FX12_aheadOf (n : Nat) : List Value → mM → Option mR := mfn 5 (kX12_aheadOf_0 n)
theorem CtX12_aheadOf {E : mE} {X : State → Heap → Prop} {l : Launch} (hX : mXok E X) (n : Nat) : Ct E X l yX12_aheadOf cX12_aheadOf 5 (some .int) 4 0 0 (FX12_aheadOf n) := Ct_of (by decide) hX (okX12_aheadOf_0 hX n)
theorem dX12_behindUnit_0 : decode cX12_behindUnit 0 = .ok (.aload_n 0, 1) := by decide +kernel
theorem dX12_behindUnit_1 : decode cX12_behindUnit 1 = .ok (.invokevirtual 316, 3) := by decide +kernel
theorem dX12_behindUnit_4 : decode cX12_behindUnit 4 = .ok (.istore_n 1, 1) := by decide +kernel
theorem dX12_behindUnit_5 : decode cX12_behindUnit 5 = .ok (.iload_n 1, 1) := by decide +kernel
theorem dX12_behindUnit_6 : decode cX12_behindUnit 6 = .ok (.iconst 4, 1) := by decide +kernel
theorem dX12_behindUnit_7 : decode cX12_behindUnit 7 = .ok (.if_icmp .ne 16, 3) := by decide +kernel
theorem dX12_behindUnit_10 : decode cX12_behindUnit 10 = .ok (.aload_n 0, 1) := by decide +kernel
theorem dX12_behindUnit_11 : decode cX12_behindUnit 11 = .ok (.invokevirtual 319, 3) := by decide +kernel
theorem dX12_behindUnit_14 : decode cX12_behindUnit 14 = .ok (.ifCond .eq 9, 3) := by decide +kernel
theorem dX12_behindUnit_17 : decode cX12_behindUnit 17 = .ok (.aload_n 0, 1) := by decide +kernel
theorem dX12_behindUnit_18 : decode cX12_behindUnit 18 = .ok (.invokevirtual 232, 3) := by decide +kernel
theorem dX12_behindUnit_21 : decode cX12_behindUnit 21 = .ok (.iconst 1, 1) := by decide +kernel
theorem dX12_behindUnit_22 : decode cX12_behindUnit 22 = .ok (.ireturn, 1) := by decide +kernel
theorem dX12_behindUnit_23 : decode cX12_behindUnit 23 = .ok (.aload_n 0, 1) := by decide +kernel
theorem dX12_behindUnit_24 : decode cX12_behindUnit 24 = .ok (.getfield 73, 3) := by decide +kernel
theorem dX12_behindUnit_27 : decode cX12_behindUnit 27 = .ok (.aload_n 0, 1) := by decide +kernel
theorem dX12_behindUnit_28 : decode cX12_behindUnit 28 = .ok (.getfield 295, 3) := by decide +kernel
theorem dX12_behindUnit_31 : decode cX12_behindUnit 31 = .ok (.iconst 1, 1) := by decide +kernel
theorem dX12_behindUnit_32 : decode cX12_behindUnit 32 = .ok (.isub, 1) := by decide +kernel
theorem dX12_behindUnit_33 : decode cX12_behindUnit 33 = .ok (.iaload, 1) := by decide +kernel
theorem dX12_behindUnit_34 : decode cX12_behindUnit 34 = .ok (.bipush 6, 2) := by decide +kernel
theorem dX12_behindUnit_36 : decode cX12_behindUnit 36 = .ok (.if_icmp .gt 68, 3) := by decide +kernel
theorem dX12_behindUnit_39 : decode cX12_behindUnit 39 = .ok (.aload_n 0, 1) := by decide +kernel
theorem dX12_behindUnit_40 : decode cX12_behindUnit 40 = .ok (.getfield 73, 3) := by decide +kernel
theorem dX12_behindUnit_43 : decode cX12_behindUnit 43 = .ok (.aload_n 0, 1) := by decide +kernel
theorem dX12_behindUnit_44 : decode cX12_behindUnit 44 = .ok (.getfield 295, 3) := by decide +kernel
theorem dX12_behindUnit_47 : decode cX12_behindUnit 47 = .ok (.iconst 1, 1) := by decide +kernel
theorem dX12_behindUnit_48 : decode cX12_behindUnit 48 = .ok (.isub, 1) := by decide +kernel
theorem dX12_behindUnit_49 : decode cX12_behindUnit 49 = .ok (.iaload, 1) := by decide +kernel
theorem dX12_behindUnit_50 : decode cX12_behindUnit 50 = .ok (.iload_n 1, 1) := by decide +kernel
theorem dX12_behindUnit_51 : decode cX12_behindUnit 51 = .ok (.if_icmp .lt 53, 3) := by decide +kernel
theorem dX12_behindUnit_54 : decode cX12_behindUnit 54 = .ok (.aload_n 0, 1) := by decide +kernel
theorem dX12_behindUnit_55 : decode cX12_behindUnit 55 = .ok (.dup, 1) := by decide +kernel
theorem dX12_behindUnit_56 : decode cX12_behindUnit 56 = .ok (.getfield 295, 3) := by decide +kernel
theorem dX12_behindUnit_59 : decode cX12_behindUnit 59 = .ok (.iconst 1, 1) := by decide +kernel
theorem dX12_behindUnit_60 : decode cX12_behindUnit 60 = .ok (.isub, 1) := by decide +kernel
theorem dX12_behindUnit_61 : decode cX12_behindUnit 61 = .ok (.putfield 295, 3) := by decide +kernel
theorem dX12_behindUnit_64 : decode cX12_behindUnit 64 = .ok (.aload_n 0, 1) := by decide +kernel
theorem dX12_behindUnit_65 : decode cX12_behindUnit 65 = .ok (.getfield 73, 3) := by decide +kernel
theorem dX12_behindUnit_68 : decode cX12_behindUnit 68 = .ok (.aload_n 0, 1) := by decide +kernel
theorem dX12_behindUnit_69 : decode cX12_behindUnit 69 = .ok (.getfield 295, 3) := by decide +kernel
theorem dX12_behindUnit_72 : decode cX12_behindUnit 72 = .ok (.iaload, 1) := by decide +kernel
theorem dX12_behindUnit_73 : decode cX12_behindUnit 73 = .ok (.iconst 3, 1) := by decide +kernel
theorem dX12_behindUnit_74 : decode cX12_behindUnit 74 = .ok (.if_icmp .ne 13, 3) := by decide +kernel
theorem dX12_behindUnit_77 : decode cX12_behindUnit 77 = .ok (.aload_n 0, 1) := by decide +kernel
theorem dX12_behindUnit_78 : decode cX12_behindUnit 78 = .ok (.dup, 1) := by decide +kernel
theorem dX12_behindUnit_79 : decode cX12_behindUnit 79 = .ok (.getfield 298, 3) := by decide +kernel
theorem dX12_behindUnit_82 : decode cX12_behindUnit 82 = .ok (.iconst 1, 1) := by decide +kernel
theorem dX12_behindUnit_83 : decode cX12_behindUnit 83 = .ok (.isub, 1) := by decide +kernel
theorem dX12_behindUnit_84 : decode cX12_behindUnit 84 = .ok (.putfield 298, 3) := by decide +kernel
theorem dX12_behindUnit_87 : decode cX12_behindUnit 87 = .ok (.aload_n 0, 1) := by decide +kernel
theorem dX12_behindUnit_88 : decode cX12_behindUnit 88 = .ok (.aload_n 0, 1) := by decide +kernel
theorem dX12_behindUnit_89 : decode cX12_behindUnit 89 = .ok (.getfield 76, 3) := by decide +kernel
theorem dX12_behindUnit_92 : decode cX12_behindUnit 92 = .ok (.aload_n 0, 1) := by decide +kernel
theorem dX12_behindUnit_93 : decode cX12_behindUnit 93 = .ok (.getfield 295, 3) := by decide +kernel
theorem dX12_behindUnit_96 : decode cX12_behindUnit 96 = .ok (.iaload, 1) := by decide +kernel
theorem dX12_behindUnit_97 : decode cX12_behindUnit 97 = .ok (.iconst 0, 1) := by decide +kernel
theorem dX12_behindUnit_98 : decode cX12_behindUnit 98 = .ok (.invokevirtual 313, 3) := by decide +kernel
theorem dX12_behindUnit_101 : decode cX12_behindUnit 101 = .ok (.goto (-78), 3) := by decide +kernel
theorem dX12_behindUnit_104 : decode cX12_behindUnit 104 = .ok (.iload_n 1, 1) := by decide +kernel
theorem dX12_behindUnit_105 : decode cX12_behindUnit 105 = .ok (.ifCond .le 42, 3) := by decide +kernel
theorem dX12_behindUnit_108 : decode cX12_behindUnit 108 = .ok (.aload_n 0, 1) := by decide +kernel
theorem dX12_behindUnit_109 : decode cX12_behindUnit 109 = .ok (.iload_n 1, 1) := by decide +kernel
theorem dX12_behindUnit_110 : decode cX12_behindUnit 110 = .ok (.iload_n 1, 1) := by decide +kernel
theorem dX12_behindUnit_111 : decode cX12_behindUnit 111 = .ok (.iconst 2, 1) := by decide +kernel
theorem dX12_behindUnit_112 : decode cX12_behindUnit 112 = .ok (.if_icmp .ne 8, 3) := by decide +kernel
theorem dX12_behindUnit_115 : decode cX12_behindUnit 115 = .ok (.bipush 38, 2) := by decide +kernel
theorem dX12_behindUnit_117 : decode cX12_behindUnit 117 = .ok (.goto 21, 3) := by decide +kernel
theorem dX12_behindUnit_120 : decode cX12_behindUnit 120 = .ok (.iload_n 1, 1) := by decide +kernel
theorem dX12_behindUnit_121 : decode cX12_behindUnit 121 = .ok (.iconst 1, 1) := by decide +kernel
theorem dX12_behindUnit_122 : decode cX12_behindUnit 122 = .ok (.if_icmp .ne 8, 3) := by decide +kernel
theorem dX12_behindUnit_125 : decode cX12_behindUnit 125 = .ok (.bipush 124, 2) := by decide +kernel
theorem dX12_behindUnit_127 : decode cX12_behindUnit 127 = .ok (.goto 11, 3) := by decide +kernel
theorem dX12_behindUnit_130 : decode cX12_behindUnit 130 = .ok (.aload_n 0, 1) := by decide +kernel
theorem dX12_behindUnit_131 : decode cX12_behindUnit 131 = .ok (.aload_n 0, 1) := by decide +kernel
theorem dX12_behindUnit_132 : decode cX12_behindUnit 132 = .ok (.getfield 190, 3) := by decide +kernel
theorem dX12_behindUnit_135 : decode cX12_behindUnit 135 = .ok (.invokevirtual 193, 3) := by decide +kernel
theorem dX12_behindUnit_138 : decode cX12_behindUnit 138 = .ok (.invokevirtual 301, 3) := by decide +kernel
theorem dX12_behindUnit_141 : decode cX12_behindUnit 141 = .ok (.aload_n 0, 1) := by decide +kernel
theorem dX12_behindUnit_142 : decode cX12_behindUnit 142 = .ok (.invokevirtual 229, 3) := by decide +kernel
theorem dX12_behindUnit_145 : decode cX12_behindUnit 145 = .ok (.iconst 1, 1) := by decide +kernel
theorem dX12_behindUnit_146 : decode cX12_behindUnit 146 = .ok (.ireturn, 1) := by decide +kernel
theorem dX12_behindUnit_147 : decode cX12_behindUnit 147 = .ok (.aload_n 0, 1) := by decide +kernel
theorem dX12_behindUnit_148 : decode cX12_behindUnit 148 = .ok (.dup, 1) := by decide +kernel
theorem dX12_behindUnit_149 : decode cX12_behindUnit 149 = .ok (.getfield 295, 3) := by decide +kernel
theorem dX12_behindUnit_152 : decode cX12_behindUnit 152 = .ok (.iconst 1, 1) := by decide +kernel
theorem dX12_behindUnit_153 : decode cX12_behindUnit 153 = .ok (.isub, 1) := by decide +kernel
theorem dX12_behindUnit_154 : decode cX12_behindUnit 154 = .ok (.putfield 295, 3) := by decide +kernel
theorem dX12_behindUnit_157 : decode cX12_behindUnit 157 = .ok (.aload_n 0, 1) := by decide +kernel
theorem dX12_behindUnit_158 : decode cX12_behindUnit 158 = .ok (.getfield 73, 3) := by decide +kernel
theorem dX12_behindUnit_161 : decode cX12_behindUnit 161 = .ok (.aload_n 0, 1) := by decide +kernel
theorem dX12_behindUnit_162 : decode cX12_behindUnit 162 = .ok (.getfield 295, 3) := by decide +kernel
theorem dX12_behindUnit_165 : decode cX12_behindUnit 165 = .ok (.iaload, 1) := by decide +kernel
theorem dX12_behindUnit_166 : decode cX12_behindUnit 166 = .ok (.bipush 7, 2) := by decide +kernel
theorem dX12_behindUnit_168 : decode cX12_behindUnit 168 = .ok (.if_icmp .ne 23, 3) := by decide +kernel
theorem dX12_behindUnit_171 : decode cX12_behindUnit 171 = .ok (.aload_n 0, 1) := by decide +kernel
theorem dX12_behindUnit_172 : decode cX12_behindUnit 172 = .ok (.dup, 1) := by decide +kernel
theorem dX12_behindUnit_173 : decode cX12_behindUnit 173 = .ok (.getfield 298, 3) := by decide +kernel
theorem dX12_behindUnit_176 : decode cX12_behindUnit 176 = .ok (.iconst 1, 1) := by decide +kernel
theorem dX12_behindUnit_177 : decode cX12_behindUnit 177 = .ok (.isub, 1) := by decide +kernel
theorem dX12_behindUnit_178 : decode cX12_behindUnit 178 = .ok (.putfield 298, 3) := by decide +kernel
theorem dX12_behindUnit_181 : decode cX12_behindUnit 181 = .ok (.aload_n 0, 1) := by decide +kernel
theorem dX12_behindUnit_182 : decode cX12_behindUnit 182 = .ok (.aload_n 0, 1) := by decide +kernel
theorem dX12_behindUnit_183 : decode cX12_behindUnit 183 = .ok (.bipush 41, 2) := by decide +kernel
theorem dX12_behindUnit_185 : decode cX12_behindUnit 185 = .ok (.invokevirtual 279, 3) := by decide +kernel
theorem dX12_behindUnit_188 : decode cX12_behindUnit 188 = .ok (.invokevirtual 238, 3) := by decide +kernel
theorem dX12_behindUnit_191 : decode cX12_behindUnit 191 = .ok (.iconst 0, 1) := by decide +kernel
theorem dX12_behindUnit_192 : decode cX12_behindUnit 192 = .ok (.ireturn, 1) := by decide +kernel
def kX12_behindUnit_138 (n : Nat) : mK := i_cV 12 2 (FX12_pushE n) (i_ldA 0 (i_cV 12 0 (FX12_goOn n) (i_cst (.int (1)) (i_rZ))))
set_option maxRecDepth 20000 in
theorem okX12_behindUnit_138 {E : mE} {X : State → Heap → Prop} {l : Launch} (hX : mXok E X) (n : Nat) : Sd E X l yX12_behindUnit cX12_behindUnit 2 (some .boolean) 4 0 0 0 0 138 (kX12_behindUnit_138 n) := s_cV dX12_behindUnit_138 lMX12_301 bVX12_pushE rfl (CtX12_pushE hX n) (Nat.le_of_ble_eq_true rfl) (s_aload_n dX12_behindUnit_141 rfl (s_cV dX12_behindUnit_142 lMX12_229 bVX12_goOn rfl (CtX12_goOn hX n) (Nat.le_of_ble_eq_true rfl) (s_iconst dX12_behindUnit_145 (by decide) (s_rZ dX12_behindUnit_146 (Nat.le_of_ble_eq_true rfl) (Nat.le_of_ble_eq_true rfl))) (Nat.le_of_ble_eq_true rfl) (Nat.le_of_ble_eq_true rfl))) (Nat.le_of_ble_eq_true rfl) (Nat.le_of_ble_eq_true rfl)
def kX12_behindUnit_191 (n : Nat) : mK := i_cst (.int (0)) (i_rZ)
set_option maxRecDepth 20000 in
theorem okX12_behindUnit_191 {E : mE} {X : State → Heap → Prop} {l : Launch} (hX : mXok E X) (n : Nat) : Sd E X l yX12_behindUnit cX12_behindUnit 2 (some .boolean) 4 0 0 0 0 191 (kX12_behindUnit_191 n) := s_iconst dX12_behindUnit_191 (by decide) (s_rZ dX12_behindUnit_192 (Nat.le_of_ble_eq_true rfl) (Nat.le_of_ble_eq_true rfl))
def kX12_behindUnit_185 (n : Nat) : mK := i_cV 12 1 (FX12_isSignHere n) (i_cV 12 1 (FX12_must n) (kX12_behindUnit_191 n))
set_option maxRecDepth 20000 in
theorem okX12_behindUnit_185 {E : mE} {X : State → Heap → Prop} {l : Launch} (hX : mXok E X) (n : Nat) : Sd E X l yX12_behindUnit cX12_behindUnit 2 (some .boolean) 4 0 0 0 0 185 (kX12_behindUnit_185 n) := s_cV dX12_behindUnit_185 lMX12_279 bVX12_isSignHere rfl (CtX12_isSignHere hX n) (Nat.le_of_ble_eq_true rfl) (s_cV dX12_behindUnit_188 lMX12_238 bVX12_must rfl (CtX12_must hX n) (Nat.le_of_ble_eq_true rfl) (okX12_behindUnit_191 hX n) (Nat.le_of_ble_eq_true rfl) (Nat.le_of_ble_eq_true rfl)) (Nat.le_of_ble_eq_true rfl) (Nat.le_of_ble_eq_true rfl)
def kX12_behindUnit_104 (n : Nat) : mK := i_ldI 1 (i_c0 (fun x => decide (x ≤ 0)) (i_ldA 0 (i_dup (i_gI 12 35 (i_cst (.int (1)) (i_bin (fun x y => x - y) (i_pI 12 35 (i_ldA 0 (i_gA 12 28 (i_ldA 0 (i_gI 12 35 (i_al 0 (i_cst (.int (7)) (i_c2 (fun x y => decide (¬ x = y)) (kX12_behindUnit_191 n) (i_ldA 0 (i_dup (i_gI 12 34 (i_cst (.int (1)) (i_bin (fun x y => x - y) (i_pI 12 34 (i_ldA 0 (i_ldA 0 (i_cst (.int (41)) (kX12_behindUnit_185 n))))))))))))))))))))))) (i_ldA 0 (i_ldI 1 (i_ldI 1 (i_cst (.int (2)) (i_c2 (fun x y => decide (¬ x = y)) (i_ldI 1 (i_cst (.int (1)) (i_c2 (fun x y => decide (¬ x = y)) (i_ldA 0 (i_ldA 0 (i_gI 12 6 (i_cV 12 1 (FX12_sign n) (kX12_behindUnit_138 n))))) (i_cst (.int (124)) ((kX12_behindUnit_138 n)))))) (i_cst (.int (38)) ((kX12_behindUnit_138 n)))))))))
set_option maxRecDepth 20000 in
theorem okX12_behindUnit_104 {E : mE} {X : State → Heap → Prop} {l : Launch} (hX : mXok E X) (n : Nat) : Sd E X l yX12_behindUnit cX12_behindUnit 2 (some .boolean) 4 0 0 0 0 104 (kX12_behindUnit_104 n) := s_iload_n dX12_behindUnit_104 rfl (s_ifle dX12_behindUnit_105 (by decide) (s_aload_n dX12_behindUnit_147 rfl (s_dup dX12_behindUnit_148 (s_gI dX12_behindUnit_149 lFX12_295 (by decide) (s_iconst dX12_behindUnit_152 (by decide) (s_isub dX12_behindUnit_153 (s_pI dX12_behindUnit_154 lFX12_295 (s_aload_n dX12_behindUnit_157 rfl (s_gA dX12_behindUnit_158 lFX12_73 (s_aload_n dX12_behindUnit_161 rfl (s_gI dX12_behindUnit_162 lFX12_295 (by decide) (s_iald dX12_behindUnit_165 (s_bipush dX12_behindUnit_166 (by decide) (s_icne dX12_behindUnit_168 (by decide) (okX12_behindUnit_191 hX n) (s_aload_n dX12_behindUnit_171 rfl (s_dup dX12_behindUnit_172 (s_gI dX12_behindUnit_173 lFX12_298 (by decide) (s_iconst dX12_behindUnit_176 (by decide) (s_isub dX12_behindUnit_177 (s_pI dX12_behindUnit_178 lFX12_298 (s_aload_n dX12_behindUnit_181 rfl (s_aload_n dX12_behindUnit_182 rfl (s_bipush dX12_behindUnit_183 (by decide) (okX12_behindUnit_185 hX n))))))))))))))))))))))) (s_aload_n dX12_behindUnit_108 rfl (s_iload_n dX12_behindUnit_109 rfl (s_iload_n dX12_behindUnit_110 rfl (s_iconst dX12_behindUnit_111 (by decide) (s_icne dX12_behindUnit_112 (by decide) (s_iload_n dX12_behindUnit_120 rfl (s_iconst dX12_behindUnit_121 (by decide) (s_icne dX12_behindUnit_122 (by decide) (s_aload_n dX12_behindUnit_130 rfl (s_aload_n dX12_behindUnit_131 rfl (s_gI dX12_behindUnit_132 lFX12_190 (by decide) (s_cV dX12_behindUnit_135 lMX12_193 bVX12_sign rfl (CtX12_sign hX n) (Nat.le_of_ble_eq_true rfl) (okX12_behindUnit_138 hX n) (Nat.le_of_ble_eq_true rfl) (Nat.le_of_ble_eq_true rfl))))) (s_bipush dX12_behindUnit_125 (by decide) (s_goto dX12_behindUnit_127 (by decide) (okX12_behindUnit_138 hX n)))))) (s_bipush dX12_behindUnit_115 (by decide) (s_goto dX12_behindUnit_117 (by decide) (okX12_behindUnit_138 hX n)))))))))
def kX12_behindUnit_87 (n : Nat) (r23 : mK) : mK := i_ldA 0 (i_ldA 0 (i_gA 12 29 (i_ldA 0 (i_gI 12 35 (i_al 0 (i_cst (.int (0)) (i_cV 12 2 (FX12_emit n) (r23))))))))
set_option maxRecDepth 20000 in
theorem okX12_behindUnit_87 {E : mE} {X : State → Heap → Prop} {l : Launch} (hX : mXok E X) (n : Nat) {r23 : mK} (h23 : Sd E X l yX12_behindUnit cX12_behindUnit 2 (some .boolean) 4 0 0 0 0 23 r23) : Sd E X l yX12_behindUnit cX12_behindUnit 2 (some .boolean) 4 0 0 0 0 87 (kX12_behindUnit_87 n r23) := s_aload_n dX12_behindUnit_87 rfl (s_aload_n dX12_behindUnit_88 rfl (s_gA dX12_behindUnit_89 lFX12_76 (s_aload_n dX12_behindUnit_92 rfl (s_gI dX12_behindUnit_93 lFX12_295 (by decide) (s_iald dX12_behindUnit_96 (s_iconst dX12_behindUnit_97 (by decide) (s_cV dX12_behindUnit_98 lMX12_313 bVX12_emit rfl (CtX12_emit hX n) (Nat.le_of_ble_eq_true rfl) (s_goto dX12_behindUnit_101 (by decide) h23) (Nat.le_of_ble_eq_true rfl) (Nat.le_of_ble_eq_true rfl))))))))
def kX12_behindUnit_64 (n : Nat) (r23 : mK) : mK := i_ldA 0 (i_gA 12 28 (i_ldA 0 (i_gI 12 35 (i_al 0 (i_cst (.int (3)) (i_c2 (fun x y => decide (¬ x = y)) (kX12_behindUnit_87 n r23) (i_ldA 0 (i_dup (i_gI 12 34 (i_cst (.int (1)) (i_bin (fun x y => x - y) (i_pI 12 34 (kX12_behindUnit_87 n r23)))))))))))))
set_option maxRecDepth 20000 in
theorem okX12_behindUnit_64 {E : mE} {X : State → Heap → Prop} {l : Launch} (hX : mXok E X) (n : Nat) {r23 : mK} (h23 : Sd E X l yX12_behindUnit cX12_behindUnit 2 (some .boolean) 4 0 0 0 0 23 r23) : Sd E X l yX12_behindUnit cX12_behindUnit 2 (some .boolean) 4 0 0 0 0 64 (kX12_behindUnit_64 n r23) := s_aload_n dX12_behindUnit_64 rfl (s_gA dX12_behindUnit_65 lFX12_73 (s_aload_n dX12_behindUnit_68 rfl (s_gI dX12_behindUnit_69 lFX12_295 (by decide) (s_iald dX12_behindUnit_72 (s_iconst dX12_behindUnit_73 (by decide) (s_icne dX12_behindUnit_74 (by decide) (okX12_behindUnit_87 hX n h23) (s_aload_n dX12_behindUnit_77 rfl (s_dup dX12_behindUnit_78 (s_gI dX12_behindUnit_79 lFX12_298 (by decide) (s_iconst dX12_behindUnit_82 (by decide) (s_isub dX12_behindUnit_83 (s_pI dX12_behindUnit_84 lFX12_298 (okX12_behindUnit_87 hX n h23)))))))))))))
def kX12_behindUnit_23 (n : Nat) (r23 : mK) : mK := i_ldA 0 (i_gA 12 28 (i_ldA 0 (i_gI 12 35 (i_cst (.int (1)) (i_bin (fun x y => x - y) (i_al 0 (i_cst (.int (6)) (i_c2 (fun x y => decide (y < x)) (kX12_behindUnit_104 n) (i_ldA 0 (i_gA 12 28 (i_ldA 0 (i_gI 12 35 (i_cst (.int (1)) (i_bin (fun x y => x - y) (i_al 0 (i_ldI 1 (i_c2 (fun x y => decide (x < y)) (kX12_behindUnit_104 n) (i_ldA 0 (i_dup (i_gI 12 35 (i_cst (.int (1)) (i_bin (fun x y => x - y) (i_pI 12 35 (kX12_behindUnit_64 n r23))))))))))))))))))))))))
set_option maxRecDepth 20000 in
theorem okX12_behindUnit_23 {E : mE} {X : State → Heap → Prop} {l : Launch} (hX : mXok E X) (n : Nat) {r23 : mK} (h23 : Sd E X l yX12_behindUnit cX12_behindUnit 2 (some .boolean) 4 0 0 0 0 23 r23) : Sd E X l yX12_behindUnit cX12_behindUnit 2 (some .boolean) 4 0 0 0 0 23 (kX12_behindUnit_23 n r23) := s_aload_n dX12_behindUnit_23 rfl (s_gA dX12_behindUnit_24 lFX12_73 (s_aload_n dX12_behindUnit_27 rfl (s_gI dX12_behindUnit_28 lFX12_295 (by decide) (s_iconst dX12_behindUnit_31 (by decide) (s_isub dX12_behindUnit_32 (s_iald dX12_behindUnit_33 (s_bipush dX12_behindUnit_34 (by decide) (s_icgt dX12_behindUnit_36 (by decide) (okX12_behindUnit_104 hX n) (s_aload_n dX12_behindUnit_39 rfl (s_gA dX12_behindUnit_40 lFX12_73 (s_aload_n dX12_behindUnit_43 rfl (s_gI dX12_behindUnit_44 lFX12_295 (by decide) (s_iconst dX12_behindUnit_47 (by decide) (s_isub dX12_behindUnit_48 (s_iald dX12_behindUnit_49 (s_iload_n dX12_behindUnit_50 rfl (s_iclt dX12_behindUnit_51 (by decide) (okX12_behindUnit_104 hX n) (s_aload_n dX12_behindUnit_54 rfl (s_dup dX12_behindUnit_55 (s_gI dX12_behindUnit_56 lFX12_295 (by decide) (s_iconst dX12_behindUnit_59 (by decide) (s_isub dX12_behindUnit_60 (s_pI dX12_behindUnit_61 lFX12_295 (okX12_behindUnit_64 hX n h23))))))))))))))))))))))))
def kX12_behindUnit_0 (n : Nat) : mK := i_ldA 0 (i_cV 12 0 (FX12_rankHere n) (i_stI 1 (i_ldI 1 (i_cst (.int (4)) (i_c2 (fun x y => decide (¬ x = y)) (mit (kX12_behindUnit_23 n ) n) (i_ldA 0 (i_cV 12 0 (FX12_isCompared n) (i_c0 (fun x => decide (x = 0)) (mit (kX12_behindUnit_23 n ) n) (i_ldA 0 (i_cV 12 0 (FX12_misplaced n) (i_cst (.int (1)) (i_rZ))))))))))))
set_option maxRecDepth 20000 in
theorem okX12_behindUnit_0 {E : mE} {X : State → Heap → Prop} {l : Launch} (hX : mXok E X) (n : Nat) : Sd E X l yX12_behindUnit cX12_behindUnit 2 (some .boolean) 4 0 0 0 0 0 (kX12_behindUnit_0 n) := s_aload_n dX12_behindUnit_0 rfl (s_cV dX12_behindUnit_1 lMX12_316 bVX12_rankHere rfl (CtX12_rankHere hX n) (Nat.le_of_ble_eq_true rfl) (s_istore_n dX12_behindUnit_4 rfl (s_iload_n dX12_behindUnit_5 rfl (s_iconst dX12_behindUnit_6 (by decide) (s_icne dX12_behindUnit_7 (by decide) (s_mit (fun _ hk => okX12_behindUnit_23 hX n hk) n) (s_aload_n dX12_behindUnit_10 rfl (s_cV dX12_behindUnit_11 lMX12_319 bVX12_isCompared rfl (CtX12_isCompared hX n) (Nat.le_of_ble_eq_true rfl) (s_ifeq dX12_behindUnit_14 (by decide) (s_mit (fun _ hk => okX12_behindUnit_23 hX n hk) n) (s_aload_n dX12_behindUnit_17 rfl (s_cV dX12_behindUnit_18 lMX12_232 bVX12_misplaced rfl (CtX12_misplaced hX n) (Nat.le_of_ble_eq_true rfl) (s_iconst dX12_behindUnit_21 (by decide) (s_rZ dX12_behindUnit_22 (Nat.le_of_ble_eq_true rfl) (Nat.le_of_ble_eq_true rfl))) (Nat.le_of_ble_eq_true rfl) (Nat.le_of_ble_eq_true rfl)))) (Nat.le_of_ble_eq_true rfl) (Nat.le_of_ble_eq_true rfl))))))) (Nat.le_of_ble_eq_true rfl) (Nat.le_of_ble_eq_true rfl))
def FX12_behindUnit (n : Nat) : List Value → mM → Option mR := mfn 2 (kX12_behindUnit_0 n)
theorem CtX12_behindUnit {E : mE} {X : State → Heap → Prop} {l : Launch} (hX : mXok E X) (n : Nat) : Ct E X l yX12_behindUnit cX12_behindUnit 2 (some .boolean) 4 0 0 (FX12_behindUnit n) := Ct_of (by decide) hX (okX12_behindUnit_0 hX n)
theorem dX12_car_0 : decode cX12_car 0 = .ok (.aload_n 0, 1) := by decide +kernel
theorem dX12_car_1 : decode cX12_car 1 = .ok (.iload_n 1, 1) := by decide +kernel
theorem dX12_car_2 : decode cX12_car 2 = .ok (.invokevirtual 348, 3) := by decide +kernel
theorem dX12_car_5 : decode cX12_car 5 = .ok (.ifCond .ne 6, 3) := by decide +kernel
theorem dX12_car_8 : decode cX12_car 8 = .ok (.bipush (-2), 2) := by decide +kernel
theorem dX12_car_10 : decode cX12_car 10 = .ok (.ireturn, 1) := by decide +kernel
theorem dX12_car_11 : decode cX12_car 11 = .ok (.iload_n 2, 1) := by decide +kernel
theorem dX12_car_12 : decode cX12_car 12 = .ok (.tableswitch 91 0 5 #[40, 49, 59, 69, 79, 85], 40) := by decide +kernel
theorem dX12_car_52 : decode cX12_car 52 = .ok (.aload_n 0, 1) := by decide +kernel
theorem dX12_car_53 : decode cX12_car 53 = .ok (.getfield 82, 3) := by decide +kernel
theorem dX12_car_56 : decode cX12_car 56 = .ok (.iconst 0, 1) := by decide +kernel
theorem dX12_car_57 : decode cX12_car 57 = .ok (.iload_n 1, 1) := by decide +kernel
theorem dX12_car_58 : decode cX12_car 58 = .ok (.iadd, 1) := by decide +kernel
theorem dX12_car_59 : decode cX12_car 59 = .ok (.iaload, 1) := by decide +kernel
theorem dX12_car_60 : decode cX12_car 60 = .ok (.ireturn, 1) := by decide +kernel
theorem dX12_car_61 : decode cX12_car 61 = .ok (.aload_n 0, 1) := by decide +kernel
theorem dX12_car_62 : decode cX12_car 62 = .ok (.getfield 82, 3) := by decide +kernel
theorem dX12_car_65 : decode cX12_car 65 = .ok (.bipush 8, 2) := by decide +kernel
theorem dX12_car_67 : decode cX12_car 67 = .ok (.iload_n 1, 1) := by decide +kernel
theorem dX12_car_68 : decode cX12_car 68 = .ok (.iadd, 1) := by decide +kernel
theorem dX12_car_69 : decode cX12_car 69 = .ok (.iaload, 1) := by decide +kernel
theorem dX12_car_70 : decode cX12_car 70 = .ok (.ireturn, 1) := by decide +kernel
theorem dX12_car_71 : decode cX12_car 71 = .ok (.aload_n 0, 1) := by decide +kernel
theorem dX12_car_72 : decode cX12_car 72 = .ok (.getfield 82, 3) := by decide +kernel
theorem dX12_car_75 : decode cX12_car 75 = .ok (.bipush 16, 2) := by decide +kernel
theorem dX12_car_77 : decode cX12_car 77 = .ok (.iload_n 1, 1) := by decide +kernel
theorem dX12_car_78 : decode cX12_car 78 = .ok (.iadd, 1) := by decide +kernel
theorem dX12_car_79 : decode cX12_car 79 = .ok (.iaload, 1) := by decide +kernel
theorem dX12_car_80 : decode cX12_car 80 = .ok (.ireturn, 1) := by decide +kernel
theorem dX12_car_81 : decode cX12_car 81 = .ok (.aload_n 0, 1) := by decide +kernel
theorem dX12_car_82 : decode cX12_car 82 = .ok (.getfield 82, 3) := by decide +kernel
theorem dX12_car_85 : decode cX12_car 85 = .ok (.bipush 24, 2) := by decide +kernel
theorem dX12_car_87 : decode cX12_car 87 = .ok (.iload_n 1, 1) := by decide +kernel
theorem dX12_car_88 : decode cX12_car 88 = .ok (.iadd, 1) := by decide +kernel
theorem dX12_car_89 : decode cX12_car 89 = .ok (.iaload, 1) := by decide +kernel
theorem dX12_car_90 : decode cX12_car 90 = .ok (.ireturn, 1) := by decide +kernel
theorem dX12_car_91 : decode cX12_car 91 = .ok (.aload_n 0, 1) := by decide +kernel
theorem dX12_car_92 : decode cX12_car 92 = .ok (.iload_n 1, 1) := by decide +kernel
theorem dX12_car_93 : decode cX12_car 93 = .ok (.invokevirtual 372, 3) := by decide +kernel
theorem dX12_car_96 : decode cX12_car 96 = .ok (.ireturn, 1) := by decide +kernel
theorem dX12_car_97 : decode cX12_car 97 = .ok (.aload_n 0, 1) := by decide +kernel
theorem dX12_car_98 : decode cX12_car 98 = .ok (.iload_n 1, 1) := by decide +kernel
theorem dX12_car_99 : decode cX12_car 99 = .ok (.invokevirtual 387, 3) := by decide +kernel
theorem dX12_car_102 : decode cX12_car 102 = .ok (.ireturn, 1) := by decide +kernel
theorem dX12_car_103 : decode cX12_car 103 = .ok (.bipush (-2), 2) := by decide +kernel
theorem dX12_car_105 : decode cX12_car 105 = .ok (.ireturn, 1) := by decide +kernel
def kX12_car_0 (n : Nat) : mK := i_ldA 0 (i_ldI 1 (i_cV 12 1 (FX12_isCar n) (i_c0 (fun x => decide (¬ x = 0)) (i_ldI 2 (i_sw [(0, (i_ldA 0 (i_gA 12 39 (i_cst (.int (0)) (i_ldI 1 (i_bin (fun x y => x + y) (i_al 0 (i_rI)))))))), (1, (i_ldA 0 (i_gA 12 39 (i_cst (.int (8)) (i_ldI 1 (i_bin (fun x y => x + y) (i_al 0 (i_rI)))))))), (2, (i_ldA 0 (i_gA 12 39 (i_cst (.int (16)) (i_ldI 1 (i_bin (fun x y => x + y) (i_al 0 (i_rI)))))))), (3, (i_ldA 0 (i_gA 12 39 (i_cst (.int (24)) (i_ldI 1 (i_bin (fun x y => x + y) (i_al 0 (i_rI)))))))), (4, (i_ldA 0 (i_ldI 1 (i_cV 12 1 (FX12_barsOf n) (i_rI))))), (5, (i_ldA 0 (i_ldI 1 (i_cV 12 1 (FX12_barredBy n) (i_rI)))))] (i_cst (.int (-2)) (i_rI)))) (i_cst (.int (-2)) (i_rI)))))
set_option maxRecDepth 20000 in
theorem okX12_car_0 {E : mE} {X : State → Heap → Prop} {l : Launch} (hX : mXok E X) (n : Nat) : Sd E X l yX12_car cX12_car 3 (some .int) 4 0 0 0 0 0 (kX12_car_0 n) := s_aload_n dX12_car_0 rfl (s_iload_n dX12_car_1 rfl (s_cV dX12_car_2 lMX12_348 bVX12_isCar rfl (CtX12_isCar hX n) (Nat.le_of_ble_eq_true rfl) (s_ifne dX12_car_5 (by decide) (s_iload_n dX12_car_11 rfl (s_tsw dX12_car_12 (by decide) (s_bipush dX12_car_103 (by decide) (s_rI dX12_car_105 (Nat.le_of_ble_eq_true rfl) (Nat.le_of_ble_eq_true rfl))) (by decide) (tsw_c (by decide) (by decide) (s_aload_n dX12_car_52 rfl (s_gA dX12_car_53 lFX12_82 (s_iconst dX12_car_56 (by decide) (s_iload_n dX12_car_57 rfl (s_iadd dX12_car_58 (s_iald dX12_car_59 (s_rI dX12_car_60 (Nat.le_of_ble_eq_true rfl) (Nat.le_of_ble_eq_true rfl)))))))) (tsw_c (by decide) (by decide) (s_aload_n dX12_car_61 rfl (s_gA dX12_car_62 lFX12_82 (s_bipush dX12_car_65 (by decide) (s_iload_n dX12_car_67 rfl (s_iadd dX12_car_68 (s_iald dX12_car_69 (s_rI dX12_car_70 (Nat.le_of_ble_eq_true rfl) (Nat.le_of_ble_eq_true rfl)))))))) (tsw_c (by decide) (by decide) (s_aload_n dX12_car_71 rfl (s_gA dX12_car_72 lFX12_82 (s_bipush dX12_car_75 (by decide) (s_iload_n dX12_car_77 rfl (s_iadd dX12_car_78 (s_iald dX12_car_79 (s_rI dX12_car_80 (Nat.le_of_ble_eq_true rfl) (Nat.le_of_ble_eq_true rfl)))))))) (tsw_c (by decide) (by decide) (s_aload_n dX12_car_81 rfl (s_gA dX12_car_82 lFX12_82 (s_bipush dX12_car_85 (by decide) (s_iload_n dX12_car_87 rfl (s_iadd dX12_car_88 (s_iald dX12_car_89 (s_rI dX12_car_90 (Nat.le_of_ble_eq_true rfl) (Nat.le_of_ble_eq_true rfl)))))))) (tsw_c (by decide) (by decide) (s_aload_n dX12_car_91 rfl (s_iload_n dX12_car_92 rfl (s_cV dX12_car_93 lMX12_372 bVX12_barsOf rfl (CtX12_barsOf hX n) (Nat.le_of_ble_eq_true rfl) (s_rI dX12_car_96 (Nat.le_of_ble_eq_true rfl) (Nat.le_of_ble_eq_true rfl)) (Nat.le_of_ble_eq_true rfl) (Nat.le_of_ble_eq_true rfl)))) (tsw_c (by decide) (by decide) (s_aload_n dX12_car_97 rfl (s_iload_n dX12_car_98 rfl (s_cV dX12_car_99 lMX12_387 bVX12_barredBy rfl (CtX12_barredBy hX n) (Nat.le_of_ble_eq_true rfl) (s_rI dX12_car_102 (Nat.le_of_ble_eq_true rfl) (Nat.le_of_ble_eq_true rfl)) (Nat.le_of_ble_eq_true rfl) (Nat.le_of_ble_eq_true rfl)))) tsw_n)))))))) (s_bipush dX12_car_8 (by decide) (s_rI dX12_car_10 (Nat.le_of_ble_eq_true rfl) (Nat.le_of_ble_eq_true rfl)))) (Nat.le_of_ble_eq_true rfl) (Nat.le_of_ble_eq_true rfl)))
def FX12_car (n : Nat) : List Value → mM → Option mR := mfn 3 (kX12_car_0 n)
theorem CtX12_car {E : mE} {X : State → Heap → Prop} {l : Launch} (hX : mXok E X) (n : Nat) : Ct E X l yX12_car cX12_car 3 (some .int) 4 0 0 (FX12_car n) := Ct_of (by decide) hX (okX12_car_0 hX n)
theorem dX12_exchange_0 : decode cX12_exchange 0 = .ok (.iload_n 1, 1) := by decide +kernel
theorem dX12_exchange_1 : decode cX12_exchange 1 = .ok (.iconst 0, 1) := by decide +kernel
theorem dX12_exchange_2 : decode cX12_exchange 2 = .ok (.iconst 2, 1) := by decide +kernel
theorem dX12_exchange_3 : decode cX12_exchange 3 = .ok (.invokestatic 344, 3) := by decide +kernel
theorem dX12_exchange_6 : decode cX12_exchange 6 = .ok (.ifCond .ne 5, 3) := by decide +kernel
theorem dX12_exchange_9 : decode cX12_exchange 9 = .ok (.iconst (-1), 1) := by decide +kernel
theorem dX12_exchange_10 : decode cX12_exchange 10 = .ok (.ireturn, 1) := by decide +kernel
theorem dX12_exchange_11 : decode cX12_exchange 11 = .ok (.iconst (-1), 1) := by decide +kernel
theorem dX12_exchange_12 : decode cX12_exchange 12 = .ok (.istore_n 2, 1) := by decide +kernel
theorem dX12_exchange_13 : decode cX12_exchange 13 = .ok (.aload_n 0, 1) := by decide +kernel
theorem dX12_exchange_14 : decode cX12_exchange 14 = .ok (.invokevirtual 400, 3) := by decide +kernel
theorem dX12_exchange_17 : decode cX12_exchange 17 = .ok (.invokestatic 331, 3) := by decide +kernel
theorem dX12_exchange_20 : decode cX12_exchange 20 = .ok (.istore_n 3, 1) := by decide +kernel
theorem dX12_exchange_21 : decode cX12_exchange 21 = .ok (.iconst 0, 1) := by decide +kernel
theorem dX12_exchange_22 : decode cX12_exchange 22 = .ok (.istore 4, 2) := by decide +kernel
theorem dX12_exchange_24 : decode cX12_exchange 24 = .ok (.iload 4, 2) := by decide +kernel
theorem dX12_exchange_26 : decode cX12_exchange 26 = .ok (.bipush 64, 2) := by decide +kernel
theorem dX12_exchange_28 : decode cX12_exchange 28 = .ok (.if_icmp .ge 91, 3) := by decide +kernel
theorem dX12_exchange_31 : decode cX12_exchange 31 = .ok (.iload 4, 2) := by decide +kernel
theorem dX12_exchange_33 : decode cX12_exchange 33 = .ok (.bipush 8, 2) := by decide +kernel
theorem dX12_exchange_35 : decode cX12_exchange 35 = .ok (.idiv, 1) := by decide +kernel
theorem dX12_exchange_36 : decode cX12_exchange 36 = .ok (.istore 5, 2) := by decide +kernel
theorem dX12_exchange_38 : decode cX12_exchange 38 = .ok (.iload 4, 2) := by decide +kernel
theorem dX12_exchange_40 : decode cX12_exchange 40 = .ok (.bipush 8, 2) := by decide +kernel
theorem dX12_exchange_42 : decode cX12_exchange 42 = .ok (.irem, 1) := by decide +kernel
theorem dX12_exchange_43 : decode cX12_exchange 43 = .ok (.istore 6, 2) := by decide +kernel
theorem dX12_exchange_45 : decode cX12_exchange 45 = .ok (.iload 5, 2) := by decide +kernel
theorem dX12_exchange_47 : decode cX12_exchange 47 = .ok (.iload 6, 2) := by decide +kernel
theorem dX12_exchange_49 : decode cX12_exchange 49 = .ok (.if_icmp .ge 64, 3) := by decide +kernel
theorem dX12_exchange_52 : decode cX12_exchange 52 = .ok (.aload_n 0, 1) := by decide +kernel
theorem dX12_exchange_53 : decode cX12_exchange 53 = .ok (.iload 5, 2) := by decide +kernel
theorem dX12_exchange_55 : decode cX12_exchange 55 = .ok (.invokevirtual 396, 3) := by decide +kernel
theorem dX12_exchange_58 : decode cX12_exchange 58 = .ok (.ifCond .eq 55, 3) := by decide +kernel
theorem dX12_exchange_61 : decode cX12_exchange 61 = .ok (.aload_n 0, 1) := by decide +kernel
theorem dX12_exchange_62 : decode cX12_exchange 62 = .ok (.iload 6, 2) := by decide +kernel
theorem dX12_exchange_64 : decode cX12_exchange 64 = .ok (.invokevirtual 396, 3) := by decide +kernel
theorem dX12_exchange_67 : decode cX12_exchange 67 = .ok (.ifCond .ne 6, 3) := by decide +kernel
theorem dX12_exchange_70 : decode cX12_exchange 70 = .ok (.goto 43, 3) := by decide +kernel
theorem dX12_exchange_73 : decode cX12_exchange 73 = .ok (.aload_n 0, 1) := by decide +kernel
theorem dX12_exchange_74 : decode cX12_exchange 74 = .ok (.iload 5, 2) := by decide +kernel
theorem dX12_exchange_76 : decode cX12_exchange 76 = .ok (.iload 6, 2) := by decide +kernel
theorem dX12_exchange_78 : decode cX12_exchange 78 = .ok (.invokevirtual 439, 3) := by decide +kernel
theorem dX12_exchange_81 : decode cX12_exchange 81 = .ok (.aload_n 0, 1) := by decide +kernel
theorem dX12_exchange_82 : decode cX12_exchange 82 = .ok (.invokevirtual 400, 3) := by decide +kernel
theorem dX12_exchange_85 : decode cX12_exchange 85 = .ok (.invokestatic 331, 3) := by decide +kernel
theorem dX12_exchange_88 : decode cX12_exchange 88 = .ok (.istore 7, 2) := by decide +kernel
theorem dX12_exchange_90 : decode cX12_exchange 90 = .ok (.aload_n 0, 1) := by decide +kernel
theorem dX12_exchange_91 : decode cX12_exchange 91 = .ok (.iload 5, 2) := by decide +kernel
theorem dX12_exchange_93 : decode cX12_exchange 93 = .ok (.iload 6, 2) := by decide +kernel
theorem dX12_exchange_95 : decode cX12_exchange 95 = .ok (.invokevirtual 439, 3) := by decide +kernel
theorem dX12_exchange_98 : decode cX12_exchange 98 = .ok (.iload 7, 2) := by decide +kernel
theorem dX12_exchange_100 : decode cX12_exchange 100 = .ok (.iload_n 3, 1) := by decide +kernel
theorem dX12_exchange_101 : decode cX12_exchange 101 = .ok (.if_icmp .gt 6, 3) := by decide +kernel
theorem dX12_exchange_104 : decode cX12_exchange 104 = .ok (.goto 9, 3) := by decide +kernel
theorem dX12_exchange_107 : decode cX12_exchange 107 = .ok (.iload 4, 2) := by decide +kernel
theorem dX12_exchange_109 : decode cX12_exchange 109 = .ok (.istore_n 2, 1) := by decide +kernel
theorem dX12_exchange_110 : decode cX12_exchange 110 = .ok (.iload 7, 2) := by decide +kernel
theorem dX12_exchange_112 : decode cX12_exchange 112 = .ok (.istore_n 3, 1) := by decide +kernel
theorem dX12_exchange_113 : decode cX12_exchange 113 = .ok (.iinc 4 1, 3) := by decide +kernel
theorem dX12_exchange_116 : decode cX12_exchange 116 = .ok (.goto (-92), 3) := by decide +kernel
theorem dX12_exchange_119 : decode cX12_exchange 119 = .ok (.iload_n 2, 1) := by decide +kernel
theorem dX12_exchange_120 : decode cX12_exchange 120 = .ok (.ifCond .ge 7, 3) := by decide +kernel
theorem dX12_exchange_123 : decode cX12_exchange 123 = .ok (.iconst (-1), 1) := by decide +kernel
theorem dX12_exchange_124 : decode cX12_exchange 124 = .ok (.goto 27, 3) := by decide +kernel
theorem dX12_exchange_127 : decode cX12_exchange 127 = .ok (.iload_n 1, 1) := by decide +kernel
theorem dX12_exchange_128 : decode cX12_exchange 128 = .ok (.ifCond .ne 10, 3) := by decide +kernel
theorem dX12_exchange_131 : decode cX12_exchange 131 = .ok (.iload_n 2, 1) := by decide +kernel
theorem dX12_exchange_132 : decode cX12_exchange 132 = .ok (.bipush 8, 2) := by decide +kernel
theorem dX12_exchange_134 : decode cX12_exchange 134 = .ok (.idiv, 1) := by decide +kernel
theorem dX12_exchange_135 : decode cX12_exchange 135 = .ok (.goto 16, 3) := by decide +kernel
theorem dX12_exchange_138 : decode cX12_exchange 138 = .ok (.iload_n 1, 1) := by decide +kernel
theorem dX12_exchange_139 : decode cX12_exchange 139 = .ok (.iconst 1, 1) := by decide +kernel
theorem dX12_exchange_140 : decode cX12_exchange 140 = .ok (.if_icmp .ne 10, 3) := by decide +kernel
theorem dX12_exchange_143 : decode cX12_exchange 143 = .ok (.iload_n 2, 1) := by decide +kernel
theorem dX12_exchange_144 : decode cX12_exchange 144 = .ok (.bipush 8, 2) := by decide +kernel
theorem dX12_exchange_146 : decode cX12_exchange 146 = .ok (.irem, 1) := by decide +kernel
theorem dX12_exchange_147 : decode cX12_exchange 147 = .ok (.goto 4, 3) := by decide +kernel
theorem dX12_exchange_150 : decode cX12_exchange 150 = .ok (.iload_n 3, 1) := by decide +kernel
theorem dX12_exchange_151 : decode cX12_exchange 151 = .ok (.ireturn, 1) := by decide +kernel
def kX12_exchange_113 (n : Nat) (r24 : mK) : mK := i_inc 4 (1) (r24)
set_option maxRecDepth 20000 in
theorem okX12_exchange_113 {E : mE} {X : State → Heap → Prop} {l : Launch} (hX : mXok E X) (n : Nat) {r24 : mK} (h24 : Sd E X l yX12_exchange cX12_exchange 8 (some .int) 4 0 0 0 0 24 r24) : Sd E X l yX12_exchange cX12_exchange 8 (some .int) 4 0 0 0 0 113 (kX12_exchange_113 n r24) := s_iinc dX12_exchange_113 (by decide) (s_goto dX12_exchange_116 (by decide) h24)
def kX12_exchange_76 (n : Nat) (r24 : mK) : mK := i_ldI 6 (i_cV 12 2 (FX12_changeCells n) (i_ldA 0 (i_cV 12 0 (FX12_freeNow n) (i_cS 1 (FX12_bitsOf n) (i_stI 7 (i_ldA 0 (i_ldI 5 (i_ldI 6 (i_cV 12 2 (FX12_changeCells n) (i_ldI 7 (i_ldI 3 (i_c2 (fun x y => decide (y < x)) (i_ldI 4 (i_stI 2 (i_ldI 7 (i_stI 3 (kX12_exchange_113 n r24))))) ((kX12_exchange_113 n r24))))))))))))))
set_option maxRecDepth 20000 in
theorem okX12_exchange_76 {E : mE} {X : State → Heap → Prop} {l : Launch} (hX : mXok E X) (n : Nat) {r24 : mK} (h24 : Sd E X l yX12_exchange cX12_exchange 8 (some .int) 4 0 0 0 0 24 r24) : Sd E X l yX12_exchange cX12_exchange 8 (some .int) 4 0 0 0 0 76 (kX12_exchange_76 n r24) := s_iload dX12_exchange_76 (s_cV dX12_exchange_78 lMX12_439 bVX12_changeCells rfl (CtX12_changeCells hX n) (Nat.le_of_ble_eq_true rfl) (s_aload_n dX12_exchange_81 rfl (s_cV dX12_exchange_82 lMX12_400 bVX12_freeNow rfl (CtX12_freeNow hX n) (Nat.le_of_ble_eq_true rfl) (s_cS dX12_exchange_85 lMX12_331 bSX12_bitsOf (CtX12_bitsOf hX n) (Nat.le_of_ble_eq_true rfl) (s_istore dX12_exchange_88 (s_aload_n dX12_exchange_90 rfl (s_iload dX12_exchange_91 (s_iload dX12_exchange_93 (s_cV dX12_exchange_95 lMX12_439 bVX12_changeCells rfl (CtX12_changeCells hX n) (Nat.le_of_ble_eq_true rfl) (s_iload dX12_exchange_98 (s_iload_n dX12_exchange_100 rfl (s_icgt dX12_exchange_101 (by decide) (s_iload dX12_exchange_107 (s_istore_n dX12_exchange_109 rfl (s_iload dX12_exchange_110 (s_istore_n dX12_exchange_112 rfl (okX12_exchange_113 hX n h24))))) (s_goto dX12_exchange_104 (by decide) (okX12_exchange_113 hX n h24))))) (Nat.le_of_ble_eq_true rfl) (Nat.le_of_ble_eq_true rfl)))))) (Nat.le_of_ble_eq_true rfl) (Nat.le_of_ble_eq_true rfl)) (Nat.le_of_ble_eq_true rfl) (Nat.le_of_ble_eq_true rfl))) (Nat.le_of_ble_eq_true rfl) (Nat.le_of_ble_eq_true rfl))
def kX12_exchange_151 (n : Nat) : mK := i_rI
set_option maxRecDepth 20000 in
theorem okX12_exchange_151 {E : mE} {X : State → Heap → Prop} {l : Launch} (hX : mXok E X) (n : Nat) : Sd E X l yX12_exchange cX12_exchange 8 (some .int) 4 0 0 0 0 151 (kX12_exchange_151 n) := s_rI dX12_exchange_151 (Nat.le_of_ble_eq_true rfl) (Nat.le_of_ble_eq_true rfl)
def kX12_exchange_24 (n : Nat) (r24 : mK) : mK := i_ldI 4 (i_cst (.int (64)) (i_c2 (fun x y => decide (y ≤ x)) (i_ldI 2 (i_c0 (fun x => decide (0 ≤ x)) (i_ldI 1 (i_c0 (fun x => decide (¬ x = 0)) (i_ldI 1 (i_cst (.int (1)) (i_c2 (fun x y => decide (¬ x = y)) (i_ldI 3 (kX12_exchange_151 n)) (i_ldI 2 (i_cst (.int (8)) (i_dv (fun x y => x - x / y * y) ((kX12_exchange_151 n)))))))) (i_ldI 2 (i_cst (.int (8)) (i_dv (fun x y => x / y) ((kX12_exchange_151 n))))))) (i_cst (.int (-1)) ((kX12_exchange_151 n))))) (i_ldI 4 (i_cst (.int (8)) (i_dv (fun x y => x / y) (i_stI 5 (i_ldI 4 (i_cst (.int (8)) (i_dv (fun x y => x - x / y * y) (i_stI 6 (i_ldI 5 (i_ldI 6 (i_c2 (fun x y => decide (y ≤ x)) (kX12_exchange_113 n r24) (i_ldA 0 (i_ldI 5 (i_cV 12 1 (FX12_isHere n) (i_c0 (fun x => decide (x = 0)) (kX12_exchange_113 n r24) (i_ldA 0 (i_ldI 6 (i_cV 12 1 (FX12_isHere n) (i_c0 (fun x => decide (¬ x = 0)) (i_ldA 0 (i_ldI 5 (kX12_exchange_76 n r24))) ((kX12_exchange_113 n r24)))))))))))))))))))))))
set_option maxRecDepth 20000 in
theorem okX12_exchange_24 {E : mE} {X : State → Heap → Prop} {l : Launch} (hX : mXok E X) (n : Nat) {r24 : mK} (h24 : Sd E X l yX12_exchange cX12_exchange 8 (some .int) 4 0 0 0 0 24 r24) : Sd E X l yX12_exchange cX12_exchange 8 (some .int) 4 0 0 0 0 24 (kX12_exchange_24 n r24) := s_iload dX12_exchange_24 (s_bipush dX12_exchange_26 (by decide) (s_icge dX12_exchange_28 (by decide) (s_iload_n dX12_exchange_119 rfl (s_ifge dX12_exchange_120 (by decide) (s_iload_n dX12_exchange_127 rfl (s_ifne dX12_exchange_128 (by decide) (s_iload_n dX12_exchange_138 rfl (s_iconst dX12_exchange_139 (by decide) (s_icne dX12_exchange_140 (by decide) (s_iload_n dX12_exchange_150 rfl (okX12_exchange_151 hX n)) (s_iload_n dX12_exchange_143 rfl (s_bipush dX12_exchange_144 (by decide) (s_irem dX12_exchange_146 (s_goto dX12_exchange_147 (by decide) (okX12_exchange_151 hX n)))))))) (s_iload_n dX12_exchange_131 rfl (s_bipush dX12_exchange_132 (by decide) (s_idiv dX12_exchange_134 (s_goto dX12_exchange_135 (by decide) (okX12_exchange_151 hX n))))))) (s_iconst dX12_exchange_123 (by decide) (s_goto dX12_exchange_124 (by decide) (okX12_exchange_151 hX n))))) (s_iload dX12_exchange_31 (s_bipush dX12_exchange_33 (by decide) (s_idiv dX12_exchange_35 (s_istore dX12_exchange_36 (s_iload dX12_exchange_38 (s_bipush dX12_exchange_40 (by decide) (s_irem dX12_exchange_42 (s_istore dX12_exchange_43 (s_iload dX12_exchange_45 (s_iload dX12_exchange_47 (s_icge dX12_exchange_49 (by decide) (okX12_exchange_113 hX n h24) (s_aload_n dX12_exchange_52 rfl (s_iload dX12_exchange_53 (s_cV dX12_exchange_55 lMX12_396 bVX12_isHere rfl (CtX12_isHere hX n) (Nat.le_of_ble_eq_true rfl) (s_ifeq dX12_exchange_58 (by decide) (okX12_exchange_113 hX n h24) (s_aload_n dX12_exchange_61 rfl (s_iload dX12_exchange_62 (s_cV dX12_exchange_64 lMX12_396 bVX12_isHere rfl (CtX12_isHere hX n) (Nat.le_of_ble_eq_true rfl) (s_ifne dX12_exchange_67 (by decide) (s_aload_n dX12_exchange_73 rfl (s_iload dX12_exchange_74 (okX12_exchange_76 hX n h24))) (s_goto dX12_exchange_70 (by decide) (okX12_exchange_113 hX n h24))) (Nat.le_of_ble_eq_true rfl) (Nat.le_of_ble_eq_true rfl))))) (Nat.le_of_ble_eq_true rfl) (Nat.le_of_ble_eq_true rfl)))))))))))))))))
def kX12_exchange_0 (n : Nat) : mK := i_ldI 1 (i_cst (.int (0)) (i_cst (.int (2)) (i_cS 3 (FX12_isIn n) (i_c0 (fun x => decide (¬ x = 0)) (i_cst (.int (-1)) (i_stI 2 (i_ldA 0 (i_cV 12 0 (FX12_freeNow n) (i_cS 1 (FX12_bitsOf n) (i_stI 3 (i_cst (.int (0)) (i_stI 4 (mit (kX12_exchange_24 n ) n))))))))) (i_cst (.int (-1)) (i_rI))))))
set_option maxRecDepth 20000 in
theorem okX12_exchange_0 {E : mE} {X : State → Heap → Prop} {l : Launch} (hX : mXok E X) (n : Nat) : Sd E X l yX12_exchange cX12_exchange 8 (some .int) 4 0 0 0 0 0 (kX12_exchange_0 n) := s_iload_n dX12_exchange_0 rfl (s_iconst dX12_exchange_1 (by decide) (s_iconst dX12_exchange_2 (by decide) (s_cS dX12_exchange_3 lMX12_344 bSX12_isIn (CtX12_isIn hX n) (Nat.le_of_ble_eq_true rfl) (s_ifne dX12_exchange_6 (by decide) (s_iconst dX12_exchange_11 (by decide) (s_istore_n dX12_exchange_12 rfl (s_aload_n dX12_exchange_13 rfl (s_cV dX12_exchange_14 lMX12_400 bVX12_freeNow rfl (CtX12_freeNow hX n) (Nat.le_of_ble_eq_true rfl) (s_cS dX12_exchange_17 lMX12_331 bSX12_bitsOf (CtX12_bitsOf hX n) (Nat.le_of_ble_eq_true rfl) (s_istore_n dX12_exchange_20 rfl (s_iconst dX12_exchange_21 (by decide) (s_istore dX12_exchange_22 (s_mit (fun _ hk => okX12_exchange_24 hX n hk) n)))) (Nat.le_of_ble_eq_true rfl) (Nat.le_of_ble_eq_true rfl)) (Nat.le_of_ble_eq_true rfl) (Nat.le_of_ble_eq_true rfl))))) (s_iconst dX12_exchange_9 (by decide) (s_rI dX12_exchange_10 (Nat.le_of_ble_eq_true rfl) (Nat.le_of_ble_eq_true rfl)))) (Nat.le_of_ble_eq_true rfl) (Nat.le_of_ble_eq_true rfl))))
def FX12_exchange (n : Nat) : List Value → mM → Option mR := mfn 8 (kX12_exchange_0 n)
theorem CtX12_exchange {E : mE} {X : State → Heap → Prop} {l : Launch} (hX : mXok E X) (n : Nat) : Ct E X l yX12_exchange cX12_exchange 8 (some .int) 4 0 0 (FX12_exchange n) := Ct_of (by decide) hX (okX12_exchange_0 hX n)
theorem dX12_free_0 : decode cX12_free 0 = .ok (.aload_n 0, 1) := by decide +kernel
theorem dX12_free_1 : decode cX12_free 1 = .ok (.invokevirtual 400, 3) := by decide +kernel
theorem dX12_free_4 : decode cX12_free 4 = .ok (.ireturn, 1) := by decide +kernel
def kX12_free_0 (n : Nat) : mK := i_ldA 0 (i_cV 12 0 (FX12_freeNow n) (i_rI))
set_option maxRecDepth 20000 in
theorem okX12_free_0 {E : mE} {X : State → Heap → Prop} {l : Launch} (hX : mXok E X) (n : Nat) : Sd E X l yX12_free cX12_free 1 (some .int) 4 0 0 0 0 0 (kX12_free_0 n) := s_aload_n dX12_free_0 rfl (s_cV dX12_free_1 lMX12_400 bVX12_freeNow rfl (CtX12_freeNow hX n) (Nat.le_of_ble_eq_true rfl) (s_rI dX12_free_4 (Nat.le_of_ble_eq_true rfl) (Nat.le_of_ble_eq_true rfl)) (Nat.le_of_ble_eq_true rfl) (Nat.le_of_ble_eq_true rfl))
def FX12_free (n : Nat) : List Value → mM → Option mR := mfn 1 (kX12_free_0 n)
theorem CtX12_free {E : mE} {X : State → Heap → Prop} {l : Launch} (hX : mXok E X) (n : Nat) : Ct E X l yX12_free cX12_free 1 (some .int) 4 0 0 (FX12_free n) := Ct_of (by decide) hX (okX12_free_0 hX n)
theorem dX12_init_0 : decode cX12_init 0 = .ok (.aload_n 0, 1) := by decide +kernel
theorem dX12_init_1 : decode cX12_init 1 = .ok (.invokespecial 1, 3) := by decide +kernel
theorem dX12_init_4 : decode cX12_init 4 = .ok (.aload_n 0, 1) := by decide +kernel
theorem dX12_init_5 : decode cX12_init 5 = .ok (.sipush 1620, 3) := by decide +kernel
theorem dX12_init_8 : decode cX12_init 8 = .ok (.newarray .byte, 2) := by decide +kernel
theorem dX12_init_10 : decode cX12_init 10 = .ok (.putfield 7, 3) := by decide +kernel
theorem dX12_init_13 : decode cX12_init 13 = .ok (.aload_n 0, 1) := by decide +kernel
theorem dX12_init_14 : decode cX12_init 14 = .ok (.sipush 1600, 3) := by decide +kernel
theorem dX12_init_17 : decode cX12_init 17 = .ok (.newarray .byte, 2) := by decide +kernel
theorem dX12_init_19 : decode cX12_init 19 = .ok (.putfield 13, 3) := by decide +kernel
theorem dX12_init_22 : decode cX12_init 22 = .ok (.aload_n 0, 1) := by decide +kernel
theorem dX12_init_23 : decode cX12_init 23 = .ok (.iconst (-1), 1) := by decide +kernel
theorem dX12_init_24 : decode cX12_init 24 = .ok (.putfield 16, 3) := by decide +kernel
theorem dX12_init_27 : decode cX12_init 27 = .ok (.aload_n 0, 1) := by decide +kernel
theorem dX12_init_28 : decode cX12_init 28 = .ok (.iconst 2, 1) := by decide +kernel
theorem dX12_init_29 : decode cX12_init 29 = .ok (.newarray .int, 2) := by decide +kernel
theorem dX12_init_31 : decode cX12_init 31 = .ok (.putfield 20, 3) := by decide +kernel
theorem dX12_init_34 : decode cX12_init 34 = .ok (.aload_n 0, 1) := by decide +kernel
theorem dX12_init_35 : decode cX12_init 35 = .ok (.iconst 2, 1) := by decide +kernel
theorem dX12_init_36 : decode cX12_init 36 = .ok (.newarray .int, 2) := by decide +kernel
theorem dX12_init_38 : decode cX12_init 38 = .ok (.putfield 24, 3) := by decide +kernel
theorem dX12_init_41 : decode cX12_init 41 = .ok (.aload_n 0, 1) := by decide +kernel
theorem dX12_init_42 : decode cX12_init 42 = .ok (.iconst 2, 1) := by decide +kernel
theorem dX12_init_43 : decode cX12_init 43 = .ok (.newarray .int, 2) := by decide +kernel
theorem dX12_init_45 : decode cX12_init 45 = .ok (.putfield 27, 3) := by decide +kernel
theorem dX12_init_48 : decode cX12_init 48 = .ok (.aload_n 0, 1) := by decide +kernel
theorem dX12_init_49 : decode cX12_init 49 = .ok (.iconst 2, 1) := by decide +kernel
theorem dX12_init_50 : decode cX12_init 50 = .ok (.newarray .int, 2) := by decide +kernel
theorem dX12_init_52 : decode cX12_init 52 = .ok (.putfield 30, 3) := by decide +kernel
theorem dX12_init_55 : decode cX12_init 55 = .ok (.aload_n 0, 1) := by decide +kernel
theorem dX12_init_56 : decode cX12_init 56 = .ok (.iconst 2, 1) := by decide +kernel
theorem dX12_init_57 : decode cX12_init 57 = .ok (.newarray .int, 2) := by decide +kernel
theorem dX12_init_59 : decode cX12_init 59 = .ok (.putfield 33, 3) := by decide +kernel
theorem dX12_init_62 : decode cX12_init 62 = .ok (.aload_n 0, 1) := by decide +kernel
theorem dX12_init_63 : decode cX12_init 63 = .ok (.iconst 2, 1) := by decide +kernel
theorem dX12_init_64 : decode cX12_init 64 = .ok (.newarray .int, 2) := by decide +kernel
theorem dX12_init_66 : decode cX12_init 66 = .ok (.putfield 36, 3) := by decide +kernel
theorem dX12_init_69 : decode cX12_init 69 = .ok (.aload_n 0, 1) := by decide +kernel
theorem dX12_init_70 : decode cX12_init 70 = .ok (.iconst 2, 1) := by decide +kernel
theorem dX12_init_71 : decode cX12_init 71 = .ok (.newarray .int, 2) := by decide +kernel
theorem dX12_init_73 : decode cX12_init 73 = .ok (.putfield 39, 3) := by decide +kernel
theorem dX12_init_76 : decode cX12_init 76 = .ok (.aload_n 0, 1) := by decide +kernel
theorem dX12_init_77 : decode cX12_init 77 = .ok (.iconst 2, 1) := by decide +kernel
theorem dX12_init_78 : decode cX12_init 78 = .ok (.newarray .int, 2) := by decide +kernel
theorem dX12_init_80 : decode cX12_init 80 = .ok (.putfield 42, 3) := by decide +kernel
theorem dX12_init_83 : decode cX12_init 83 = .ok (.aload_n 0, 1) := by decide +kernel
theorem dX12_init_84 : decode cX12_init 84 = .ok (.bipush 16, 2) := by decide +kernel
theorem dX12_init_86 : decode cX12_init 86 = .ok (.newarray .int, 2) := by decide +kernel
theorem dX12_init_88 : decode cX12_init 88 = .ok (.putfield 45, 3) := by decide +kernel
theorem dX12_init_91 : decode cX12_init 91 = .ok (.aload_n 0, 1) := by decide +kernel
theorem dX12_init_92 : decode cX12_init 92 = .ok (.bipush 16, 2) := by decide +kernel
theorem dX12_init_94 : decode cX12_init 94 = .ok (.newarray .int, 2) := by decide +kernel
theorem dX12_init_96 : decode cX12_init 96 = .ok (.putfield 48, 3) := by decide +kernel
theorem dX12_init_99 : decode cX12_init 99 = .ok (.aload_n 0, 1) := by decide +kernel
theorem dX12_init_100 : decode cX12_init 100 = .ok (.bipush 16, 2) := by decide +kernel
theorem dX12_init_102 : decode cX12_init 102 = .ok (.newarray .int, 2) := by decide +kernel
theorem dX12_init_104 : decode cX12_init 104 = .ok (.putfield 51, 3) := by decide +kernel
theorem dX12_init_107 : decode cX12_init 107 = .ok (.aload_n 0, 1) := by decide +kernel
theorem dX12_init_108 : decode cX12_init 108 = .ok (.bipush 16, 2) := by decide +kernel
theorem dX12_init_110 : decode cX12_init 110 = .ok (.newarray .int, 2) := by decide +kernel
theorem dX12_init_112 : decode cX12_init 112 = .ok (.putfield 54, 3) := by decide +kernel
theorem dX12_init_115 : decode cX12_init 115 = .ok (.aload_n 0, 1) := by decide +kernel
theorem dX12_init_116 : decode cX12_init 116 = .ok (.iconst 4, 1) := by decide +kernel
theorem dX12_init_117 : decode cX12_init 117 = .ok (.newarray .int, 2) := by decide +kernel
theorem dX12_init_119 : decode cX12_init 119 = .ok (.putfield 57, 3) := by decide +kernel
theorem dX12_init_122 : decode cX12_init 122 = .ok (.aload_n 0, 1) := by decide +kernel
theorem dX12_init_123 : decode cX12_init 123 = .ok (.iconst 4, 1) := by decide +kernel
theorem dX12_init_124 : decode cX12_init 124 = .ok (.newarray .int, 2) := by decide +kernel
theorem dX12_init_126 : decode cX12_init 126 = .ok (.putfield 60, 3) := by decide +kernel
theorem dX12_init_129 : decode cX12_init 129 = .ok (.aload_n 0, 1) := by decide +kernel
theorem dX12_init_130 : decode cX12_init 130 = .ok (.bipush 16, 2) := by decide +kernel
theorem dX12_init_132 : decode cX12_init 132 = .ok (.newarray .long, 2) := by decide +kernel
theorem dX12_init_134 : decode cX12_init 134 = .ok (.putfield 63, 3) := by decide +kernel
theorem dX12_init_137 : decode cX12_init 137 = .ok (.aload_n 0, 1) := by decide +kernel
theorem dX12_init_138 : decode cX12_init 138 = .ok (.sipush 1120, 3) := by decide +kernel
theorem dX12_init_141 : decode cX12_init 141 = .ok (.newarray .int, 2) := by decide +kernel
theorem dX12_init_143 : decode cX12_init 143 = .ok (.putfield 67, 3) := by decide +kernel
theorem dX12_init_146 : decode cX12_init 146 = .ok (.aload_n 0, 1) := by decide +kernel
theorem dX12_init_147 : decode cX12_init 147 = .ok (.sipush 1120, 3) := by decide +kernel
theorem dX12_init_150 : decode cX12_init 150 = .ok (.newarray .int, 2) := by decide +kernel
theorem dX12_init_152 : decode cX12_init 152 = .ok (.putfield 70, 3) := by decide +kernel
theorem dX12_init_155 : decode cX12_init 155 = .ok (.aload_n 0, 1) := by decide +kernel
theorem dX12_init_156 : decode cX12_init 156 = .ok (.bipush 90, 2) := by decide +kernel
theorem dX12_init_158 : decode cX12_init 158 = .ok (.newarray .int, 2) := by decide +kernel
theorem dX12_init_160 : decode cX12_init 160 = .ok (.putfield 73, 3) := by decide +kernel
theorem dX12_init_163 : decode cX12_init 163 = .ok (.aload_n 0, 1) := by decide +kernel
theorem dX12_init_164 : decode cX12_init 164 = .ok (.bipush 90, 2) := by decide +kernel
theorem dX12_init_166 : decode cX12_init 166 = .ok (.newarray .int, 2) := by decide +kernel
theorem dX12_init_168 : decode cX12_init 168 = .ok (.putfield 76, 3) := by decide +kernel
theorem dX12_init_171 : decode cX12_init 171 = .ok (.aload_n 0, 1) := by decide +kernel
theorem dX12_init_172 : decode cX12_init 172 = .ok (.bipush 60, 2) := by decide +kernel
theorem dX12_init_174 : decode cX12_init 174 = .ok (.newarray .int, 2) := by decide +kernel
theorem dX12_init_176 : decode cX12_init 176 = .ok (.putfield 79, 3) := by decide +kernel
theorem dX12_init_179 : decode cX12_init 179 = .ok (.aload_n 0, 1) := by decide +kernel
theorem dX12_init_180 : decode cX12_init 180 = .ok (.bipush 34, 2) := by decide +kernel
theorem dX12_init_182 : decode cX12_init 182 = .ok (.newarray .int, 2) := by decide +kernel
theorem dX12_init_184 : decode cX12_init 184 = .ok (.putfield 82, 3) := by decide +kernel
theorem dX12_init_187 : decode cX12_init 187 = .ok (.aload_n 0, 1) := by decide +kernel
theorem dX12_init_188 : decode cX12_init 188 = .ok (.iconst (-1), 1) := by decide +kernel
theorem dX12_init_189 : decode cX12_init 189 = .ok (.putfield 85, 3) := by decide +kernel
theorem dX12_init_192 : decode cX12_init 192 = .ok (.aload_n 0, 1) := by decide +kernel
theorem dX12_init_193 : decode cX12_init 193 = .ok (.bipush 8, 2) := by decide +kernel
theorem dX12_init_195 : decode cX12_init 195 = .ok (.newarray .int, 2) := by decide +kernel
theorem dX12_init_197 : decode cX12_init 197 = .ok (.putfield 88, 3) := by decide +kernel
theorem dX12_init_200 : decode cX12_init 200 = .ok (.aload_n 0, 1) := by decide +kernel
theorem dX12_init_201 : decode cX12_init 201 = .ok (.sipush 1394, 3) := by decide +kernel
theorem dX12_init_204 : decode cX12_init 204 = .ok (.newarray .int, 2) := by decide +kernel
theorem dX12_init_206 : decode cX12_init 206 = .ok (.putfield 91, 3) := by decide +kernel
theorem dX12_init_209 : decode cX12_init 209 = .ok (.aload_n 0, 1) := by decide +kernel
theorem dX12_init_210 : decode cX12_init 210 = .ok (.bipush 34, 2) := by decide +kernel
theorem dX12_init_212 : decode cX12_init 212 = .ok (.newarray .int, 2) := by decide +kernel
theorem dX12_init_214 : decode cX12_init 214 = .ok (.putfield 94, 3) := by decide +kernel
theorem dX12_init_217 : decode cX12_init 217 = .ok (.aload_n 0, 1) := by decide +kernel
theorem dX12_init_218 : decode cX12_init 218 = .ok (.bipush 16, 2) := by decide +kernel
theorem dX12_init_220 : decode cX12_init 220 = .ok (.newarray .int, 2) := by decide +kernel
theorem dX12_init_222 : decode cX12_init 222 = .ok (.putfield 97, 3) := by decide +kernel
theorem dX12_init_225 : decode cX12_init 225 = .ok (.aload_n 0, 1) := by decide +kernel
theorem dX12_init_226 : decode cX12_init 226 = .ok (.bipush 8, 2) := by decide +kernel
theorem dX12_init_228 : decode cX12_init 228 = .ok (.newarray .int, 2) := by decide +kernel
theorem dX12_init_230 : decode cX12_init 230 = .ok (.putfield 100, 3) := by decide +kernel
theorem dX12_init_233 : decode cX12_init 233 = .ok (.aload_n 0, 1) := by decide +kernel
theorem dX12_init_234 : decode cX12_init 234 = .ok (.bipush 16, 2) := by decide +kernel
theorem dX12_init_236 : decode cX12_init 236 = .ok (.newarray .int, 2) := by decide +kernel
theorem dX12_init_238 : decode cX12_init 238 = .ok (.putfield 103, 3) := by decide +kernel
theorem dX12_init_241 : decode cX12_init 241 = .ok (.aload_n 0, 1) := by decide +kernel
theorem dX12_init_242 : decode cX12_init 242 = .ok (.bipush 64, 2) := by decide +kernel
theorem dX12_init_244 : decode cX12_init 244 = .ok (.newarray .int, 2) := by decide +kernel
theorem dX12_init_246 : decode cX12_init 246 = .ok (.putfield 106, 3) := by decide +kernel
theorem dX12_init_249 : decode cX12_init 249 = .ok (.aload_n 0, 1) := by decide +kernel
theorem dX12_init_250 : decode cX12_init 250 = .ok (.sipush 2100, 3) := by decide +kernel
theorem dX12_init_253 : decode cX12_init 253 = .ok (.newarray .int, 2) := by decide +kernel
theorem dX12_init_255 : decode cX12_init 255 = .ok (.putfield 109, 3) := by decide +kernel
theorem dX12_init_258 : decode cX12_init 258 = .ok (.aload_n 0, 1) := by decide +kernel
theorem dX12_init_259 : decode cX12_init 259 = .ok (.bipush 30, 2) := by decide +kernel
theorem dX12_init_261 : decode cX12_init 261 = .ok (.newarray .int, 2) := by decide +kernel
theorem dX12_init_263 : decode cX12_init 263 = .ok (.putfield 112, 3) := by decide +kernel
theorem dX12_init_266 : decode cX12_init 266 = .ok (.aload_n 0, 1) := by decide +kernel
theorem dX12_init_267 : decode cX12_init 267 = .ok (.bipush 30, 2) := by decide +kernel
theorem dX12_init_269 : decode cX12_init 269 = .ok (.newarray .int, 2) := by decide +kernel
theorem dX12_init_271 : decode cX12_init 271 = .ok (.putfield 115, 3) := by decide +kernel
theorem dX12_init_274 : decode cX12_init 274 = .ok (.aload_n 0, 1) := by decide +kernel
theorem dX12_init_275 : decode cX12_init 275 = .ok (.bipush 30, 2) := by decide +kernel
theorem dX12_init_277 : decode cX12_init 277 = .ok (.newarray .int, 2) := by decide +kernel
theorem dX12_init_279 : decode cX12_init 279 = .ok (.putfield 118, 3) := by decide +kernel
theorem dX12_init_282 : decode cX12_init 282 = .ok (.aload_n 0, 1) := by decide +kernel
theorem dX12_init_283 : decode cX12_init 283 = .ok (.bipush 30, 2) := by decide +kernel
theorem dX12_init_285 : decode cX12_init 285 = .ok (.newarray .int, 2) := by decide +kernel
theorem dX12_init_287 : decode cX12_init 287 = .ok (.putfield 121, 3) := by decide +kernel
theorem dX12_init_290 : decode cX12_init 290 = .ok (.aload_n 0, 1) := by decide +kernel
theorem dX12_init_291 : decode cX12_init 291 = .ok (.bipush 30, 2) := by decide +kernel
theorem dX12_init_293 : decode cX12_init 293 = .ok (.newarray .int, 2) := by decide +kernel
theorem dX12_init_295 : decode cX12_init 295 = .ok (.putfield 124, 3) := by decide +kernel
theorem dX12_init_298 : decode cX12_init 298 = .ok (.aload_n 0, 1) := by decide +kernel
theorem dX12_init_299 : decode cX12_init 299 = .ok (.bipush 100, 2) := by decide +kernel
theorem dX12_init_301 : decode cX12_init 301 = .ok (.newarray .int, 2) := by decide +kernel
theorem dX12_init_303 : decode cX12_init 303 = .ok (.putfield 127, 3) := by decide +kernel
theorem dX12_init_306 : decode cX12_init 306 = .ok (.aload_n 0, 1) := by decide +kernel
theorem dX12_init_307 : decode cX12_init 307 = .ok (.bipush 102, 2) := by decide +kernel
theorem dX12_init_309 : decode cX12_init 309 = .ok (.newarray .int, 2) := by decide +kernel
theorem dX12_init_311 : decode cX12_init 311 = .ok (.putfield 130, 3) := by decide +kernel
theorem dX12_init_314 : decode cX12_init 314 = .ok (.aload_n 0, 1) := by decide +kernel
theorem dX12_init_315 : decode cX12_init 315 = .ok (.iconst 3, 1) := by decide +kernel
theorem dX12_init_316 : decode cX12_init 316 = .ok (.newarray .boolean, 2) := by decide +kernel
theorem dX12_init_318 : decode cX12_init 318 = .ok (.putfield 133, 3) := by decide +kernel
theorem dX12_init_321 : decode cX12_init 321 = .ok (.aload_n 0, 1) := by decide +kernel
theorem dX12_init_322 : decode cX12_init 322 = .ok (.invokevirtual 137, 3) := by decide +kernel
theorem dX12_init_325 : decode cX12_init 325 = .ok (.aload_n 0, 1) := by decide +kernel
theorem dX12_init_326 : decode cX12_init 326 = .ok (.invokevirtual 140, 3) := by decide +kernel
theorem dX12_init_329 : decode cX12_init 329 = .ok (.return_, 1) := by decide +kernel
def kX12_init_329 (n : Nat) : mK := i_rV
set_option maxRecDepth 20000 in
theorem okX12_init_329 {E : mE} {X : State → Heap → Prop} {l : Launch} (hX : mXok E X) (n : Nat) : Sd E X l yX12_init cX12_init 1 none 4 39 9833 39 9833 329 (kX12_init_329 n) := s_rV dX12_init_329 (Nat.le_of_ble_eq_true rfl) (Nat.le_of_ble_eq_true rfl)
def kX12_init_282 (n : Nat) : mK := i_ldA 0 (i_cst (.int (30)) (i_na 0 30 (i_pA 12 55 (i_ldA 0 (i_cst (.int (30)) (i_na 0 30 (i_pA 12 56 (i_ldA 0 (i_cst (.int (100)) (i_na 0 100 (i_pA 12 59 (i_ldA 0 (i_cst (.int (102)) (i_na 0 102 (i_pA 12 61 (i_ldA 0 (i_cst (.int (3)) (i_na 2 3 (i_pA 12 62 (i_ldA 0 (i_cV 12 0 (FX12_clearBank n) (i_ldA 0 (i_cV 12 0 (FX12_startAnew n) (kX12_init_329 n))))))))))))))))))))))))
set_option maxRecDepth 20000 in
theorem okX12_init_282 {E : mE} {X : State → Heap → Prop} {l : Launch} (hX : mXok E X) (n : Nat) : Sd E X l yX12_init cX12_init 1 none 4 39 9833 34 9568 282 (kX12_init_282 n) := s_aload_n dX12_init_282 rfl (s_bipush dX12_init_283 (by decide) (s_na dX12_init_285 rfl (by decide) lA_0 (Nat.le_of_ble_eq_true rfl) (Nat.le_of_ble_eq_true rfl) (Nat.le_of_ble_eq_true rfl) (s_pF dX12_init_287 lFX12_121 rfl rfl (s_aload_n dX12_init_290 rfl (s_bipush dX12_init_291 (by decide) (s_na dX12_init_293 rfl (by decide) lA_0 (Nat.le_of_ble_eq_true rfl) (Nat.le_of_ble_eq_true rfl) (Nat.le_of_ble_eq_true rfl) (s_pF dX12_init_295 lFX12_124 rfl rfl (s_aload_n dX12_init_298 rfl (s_bipush dX12_init_299 (by decide) (s_na dX12_init_301 rfl (by decide) lA_0 (Nat.le_of_ble_eq_true rfl) (Nat.le_of_ble_eq_true rfl) (Nat.le_of_ble_eq_true rfl) (s_pF dX12_init_303 lFX12_127 rfl rfl (s_aload_n dX12_init_306 rfl (s_bipush dX12_init_307 (by decide) (s_na dX12_init_309 rfl (by decide) lA_0 (Nat.le_of_ble_eq_true rfl) (Nat.le_of_ble_eq_true rfl) (Nat.le_of_ble_eq_true rfl) (s_pF dX12_init_311 lFX12_130 rfl rfl (s_aload_n dX12_init_314 rfl (s_iconst dX12_init_315 (by decide) (s_na dX12_init_316 rfl (by decide) lA_2 (Nat.le_of_ble_eq_true rfl) (Nat.le_of_ble_eq_true rfl) (Nat.le_of_ble_eq_true rfl) (s_pF dX12_init_318 lFX12_133 rfl rfl (s_aload_n dX12_init_321 rfl (s_cV dX12_init_322 lMX12_137 bVX12_clearBank rfl (CtX12_clearBank hX n) (Nat.le_of_ble_eq_true rfl) (s_aload_n dX12_init_325 rfl (s_cV dX12_init_326 lMX12_140 bVX12_startAnew rfl (CtX12_startAnew hX n) (Nat.le_of_ble_eq_true rfl) (okX12_init_329 hX n) (Nat.le_of_ble_eq_true rfl) (Nat.le_of_ble_eq_true rfl))) (Nat.le_of_ble_eq_true rfl) (Nat.le_of_ble_eq_true rfl))))))))))))))))))))))
def kX12_init_233 (n : Nat) : mK := i_ldA 0 (i_cst (.int (16)) (i_na 0 16 (i_pA 12 49 (i_ldA 0 (i_cst (.int (64)) (i_na 0 64 (i_pA 12 50 (i_ldA 0 (i_cst (.int (2100)) (i_na 0 2100 (i_pA 12 51 (i_ldA 0 (i_cst (.int (30)) (i_na 0 30 (i_pA 12 52 (i_ldA 0 (i_cst (.int (30)) (i_na 0 30 (i_pA 12 53 (i_ldA 0 (i_cst (.int (30)) (i_na 0 30 (i_pA 12 54 (kX12_init_282 n))))))))))))))))))))))))
set_option maxRecDepth 20000 in
theorem okX12_init_233 {E : mE} {X : State → Heap → Prop} {l : Launch} (hX : mXok E X) (n : Nat) : Sd E X l yX12_init cX12_init 1 none 4 39 9833 28 7298 233 (kX12_init_233 n) := s_aload_n dX12_init_233 rfl (s_bipush dX12_init_234 (by decide) (s_na dX12_init_236 rfl (by decide) lA_0 (Nat.le_of_ble_eq_true rfl) (Nat.le_of_ble_eq_true rfl) (Nat.le_of_ble_eq_true rfl) (s_pF dX12_init_238 lFX12_103 rfl rfl (s_aload_n dX12_init_241 rfl (s_bipush dX12_init_242 (by decide) (s_na dX12_init_244 rfl (by decide) lA_0 (Nat.le_of_ble_eq_true rfl) (Nat.le_of_ble_eq_true rfl) (Nat.le_of_ble_eq_true rfl) (s_pF dX12_init_246 lFX12_106 rfl rfl (s_aload_n dX12_init_249 rfl (s_sipush dX12_init_250 (by decide) (s_na dX12_init_253 rfl (by decide) lA_0 (Nat.le_of_ble_eq_true rfl) (Nat.le_of_ble_eq_true rfl) (Nat.le_of_ble_eq_true rfl) (s_pF dX12_init_255 lFX12_109 rfl rfl (s_aload_n dX12_init_258 rfl (s_bipush dX12_init_259 (by decide) (s_na dX12_init_261 rfl (by decide) lA_0 (Nat.le_of_ble_eq_true rfl) (Nat.le_of_ble_eq_true rfl) (Nat.le_of_ble_eq_true rfl) (s_pF dX12_init_263 lFX12_112 rfl rfl (s_aload_n dX12_init_266 rfl (s_bipush dX12_init_267 (by decide) (s_na dX12_init_269 rfl (by decide) lA_0 (Nat.le_of_ble_eq_true rfl) (Nat.le_of_ble_eq_true rfl) (Nat.le_of_ble_eq_true rfl) (s_pF dX12_init_271 lFX12_115 rfl rfl (s_aload_n dX12_init_274 rfl (s_bipush dX12_init_275 (by decide) (s_na dX12_init_277 rfl (by decide) lA_0 (Nat.le_of_ble_eq_true rfl) (Nat.le_of_ble_eq_true rfl) (Nat.le_of_ble_eq_true rfl) (s_pF dX12_init_279 lFX12_118 rfl rfl (okX12_init_282 hX n))))))))))))))))))))))))
def kX12_init_184 (n : Nat) : mK := i_pA 12 39 (i_ldA 0 (i_cst (.int (-1)) (i_pI 12 40 (i_ldA 0 (i_cst (.int (8)) (i_na 0 8 (i_pA 12 41 (i_ldA 0 (i_cst (.int (1394)) (i_na 0 1394 (i_pA 12 42 (i_ldA 0 (i_cst (.int (34)) (i_na 0 34 (i_pA 12 45 (i_ldA 0 (i_cst (.int (16)) (i_na 0 16 (i_pA 12 46 (i_ldA 0 (i_cst (.int (8)) (i_na 0 8 (i_pA 12 47 (kX12_init_233 n))))))))))))))))))))))))
set_option maxRecDepth 20000 in
theorem okX12_init_184 {E : mE} {X : State → Heap → Prop} {l : Launch} (hX : mXok E X) (n : Nat) : Sd E X l yX12_init cX12_init 1 none 4 39 9833 23 5838 184 (kX12_init_184 n) := s_pF dX12_init_184 lFX12_82 rfl rfl (s_aload_n dX12_init_187 rfl (s_iconst dX12_init_188 (by decide) (s_pI dX12_init_189 lFX12_85 (s_aload_n dX12_init_192 rfl (s_bipush dX12_init_193 (by decide) (s_na dX12_init_195 rfl (by decide) lA_0 (Nat.le_of_ble_eq_true rfl) (Nat.le_of_ble_eq_true rfl) (Nat.le_of_ble_eq_true rfl) (s_pF dX12_init_197 lFX12_88 rfl rfl (s_aload_n dX12_init_200 rfl (s_sipush dX12_init_201 (by decide) (s_na dX12_init_204 rfl (by decide) lA_0 (Nat.le_of_ble_eq_true rfl) (Nat.le_of_ble_eq_true rfl) (Nat.le_of_ble_eq_true rfl) (s_pF dX12_init_206 lFX12_91 rfl rfl (s_aload_n dX12_init_209 rfl (s_bipush dX12_init_210 (by decide) (s_na dX12_init_212 rfl (by decide) lA_0 (Nat.le_of_ble_eq_true rfl) (Nat.le_of_ble_eq_true rfl) (Nat.le_of_ble_eq_true rfl) (s_pF dX12_init_214 lFX12_94 rfl rfl (s_aload_n dX12_init_217 rfl (s_bipush dX12_init_218 (by decide) (s_na dX12_init_220 rfl (by decide) lA_0 (Nat.le_of_ble_eq_true rfl) (Nat.le_of_ble_eq_true rfl) (Nat.le_of_ble_eq_true rfl) (s_pF dX12_init_222 lFX12_97 rfl rfl (s_aload_n dX12_init_225 rfl (s_bipush dX12_init_226 (by decide) (s_na dX12_init_228 rfl (by decide) lA_0 (Nat.le_of_ble_eq_true rfl) (Nat.le_of_ble_eq_true rfl) (Nat.le_of_ble_eq_true rfl) (s_pF dX12_init_230 lFX12_100 rfl rfl (okX12_init_233 hX n))))))))))))))))))))))))
def kX12_init_134 (n : Nat) : mK := i_pA 12 25 (i_ldA 0 (i_cst (.int (1120)) (i_na 0 1120 (i_pA 12 26 (i_ldA 0 (i_cst (.int (1120)) (i_na 0 1120 (i_pA 12 27 (i_ldA 0 (i_cst (.int (90)) (i_na 0 90 (i_pA 12 28 (i_ldA 0 (i_cst (.int (90)) (i_na 0 90 (i_pA 12 29 (i_ldA 0 (i_cst (.int (60)) (i_na 0 60 (i_pA 12 30 (i_ldA 0 (i_cst (.int (34)) (i_na 0 34 (kX12_init_184 n))))))))))))))))))))))))
set_option maxRecDepth 20000 in
theorem okX12_init_134 {E : mE} {X : State → Heap → Prop} {l : Launch} (hX : mXok E X) (n : Nat) : Sd E X l yX12_init cX12_init 1 none 4 39 9833 17 3324 134 (kX12_init_134 n) := s_pF dX12_init_134 lFX12_63 rfl rfl (s_aload_n dX12_init_137 rfl (s_sipush dX12_init_138 (by decide) (s_na dX12_init_141 rfl (by decide) lA_0 (Nat.le_of_ble_eq_true rfl) (Nat.le_of_ble_eq_true rfl) (Nat.le_of_ble_eq_true rfl) (s_pF dX12_init_143 lFX12_67 rfl rfl (s_aload_n dX12_init_146 rfl (s_sipush dX12_init_147 (by decide) (s_na dX12_init_150 rfl (by decide) lA_0 (Nat.le_of_ble_eq_true rfl) (Nat.le_of_ble_eq_true rfl) (Nat.le_of_ble_eq_true rfl) (s_pF dX12_init_152 lFX12_70 rfl rfl (s_aload_n dX12_init_155 rfl (s_bipush dX12_init_156 (by decide) (s_na dX12_init_158 rfl (by decide) lA_0 (Nat.le_of_ble_eq_true rfl) (Nat.le_of_ble_eq_true rfl) (Nat.le_of_ble_eq_true rfl) (s_pF dX12_init_160 lFX12_73 rfl rfl (s_aload_n dX12_init_163 rfl (s_bipush dX12_init_164 (by decide) (s_na dX12_init_166 rfl (by decide) lA_0 (Nat.le_of_ble_eq_true rfl) (Nat.le_of_ble_eq_true rfl) (Nat.le_of_ble_eq_true rfl) (s_pF dX12_init_168 lFX12_76 rfl rfl (s_aload_n dX12_init_171 rfl (s_bipush dX12_init_172 (by decide) (s_na dX12_init_174 rfl (by decide) lA_0 (Nat.le_of_ble_eq_true rfl) (Nat.le_of_ble_eq_true rfl) (Nat.le_of_ble_eq_true rfl) (s_pF dX12_init_176 lFX12_79 rfl rfl (s_aload_n dX12_init_179 rfl (s_bipush dX12_init_180 (by decide) (s_na dX12_init_182 rfl (by decide) lA_0 (Nat.le_of_ble_eq_true rfl) (Nat.le_of_ble_eq_true rfl) (Nat.le_of_ble_eq_true rfl) (okX12_init_184 hX n))))))))))))))))))))))))
def kX12_init_88 (n : Nat) : mK := i_pA 12 19 (i_ldA 0 (i_cst (.int (16)) (i_na 0 16 (i_pA 12 20 (i_ldA 0 (i_cst (.int (16)) (i_na 0 16 (i_pA 12 21 (i_ldA 0 (i_cst (.int (16)) (i_na 0 16 (i_pA 12 22 (i_ldA 0 (i_cst (.int (4)) (i_na 0 4 (i_pA 12 23 (i_ldA 0 (i_cst (.int (4)) (i_na 0 4 (i_pA 12 24 (i_ldA 0 (i_cst (.int (16)) (i_na 3 16 (kX12_init_134 n))))))))))))))))))))))))
set_option maxRecDepth 20000 in
theorem okX12_init_88 {E : mE} {X : State → Heap → Prop} {l : Launch} (hX : mXok E X) (n : Nat) : Sd E X l yX12_init cX12_init 1 none 4 39 9833 11 3252 88 (kX12_init_88 n) := s_pF dX12_init_88 lFX12_45 rfl rfl (s_aload_n dX12_init_91 rfl (s_bipush dX12_init_92 (by decide) (s_na dX12_init_94 rfl (by decide) lA_0 (Nat.le_of_ble_eq_true rfl) (Nat.le_of_ble_eq_true rfl) (Nat.le_of_ble_eq_true rfl) (s_pF dX12_init_96 lFX12_48 rfl rfl (s_aload_n dX12_init_99 rfl (s_bipush dX12_init_100 (by decide) (s_na dX12_init_102 rfl (by decide) lA_0 (Nat.le_of_ble_eq_true rfl) (Nat.le_of_ble_eq_true rfl) (Nat.le_of_ble_eq_true rfl) (s_pF dX12_init_104 lFX12_51 rfl rfl (s_aload_n dX12_init_107 rfl (s_bipush dX12_init_108 (by decide) (s_na dX12_init_110 rfl (by decide) lA_0 (Nat.le_of_ble_eq_true rfl) (Nat.le_of_ble_eq_true rfl) (Nat.le_of_ble_eq_true rfl) (s_pF dX12_init_112 lFX12_54 rfl rfl (s_aload_n dX12_init_115 rfl (s_iconst dX12_init_116 (by decide) (s_na dX12_init_117 rfl (by decide) lA_0 (Nat.le_of_ble_eq_true rfl) (Nat.le_of_ble_eq_true rfl) (Nat.le_of_ble_eq_true rfl) (s_pF dX12_init_119 lFX12_57 rfl rfl (s_aload_n dX12_init_122 rfl (s_iconst dX12_init_123 (by decide) (s_na dX12_init_124 rfl (by decide) lA_0 (Nat.le_of_ble_eq_true rfl) (Nat.le_of_ble_eq_true rfl) (Nat.le_of_ble_eq_true rfl) (s_pF dX12_init_126 lFX12_60 rfl rfl (s_aload_n dX12_init_129 rfl (s_bipush dX12_init_130 (by decide) (s_na dX12_init_132 rfl (by decide) lA_3 (Nat.le_of_ble_eq_true rfl) (Nat.le_of_ble_eq_true rfl) (Nat.le_of_ble_eq_true rfl) (okX12_init_134 hX n))))))))))))))))))))))))
def kX12_init_45 (n : Nat) : mK := i_pA 12 13 (i_ldA 0 (i_cst (.int (2)) (i_na 0 2 (i_pA 12 14 (i_ldA 0 (i_cst (.int (2)) (i_na 0 2 (i_pA 12 15 (i_ldA 0 (i_cst (.int (2)) (i_na 0 2 (i_pA 12 16 (i_ldA 0 (i_cst (.int (2)) (i_na 0 2 (i_pA 12 17 (i_ldA 0 (i_cst (.int (2)) (i_na 0 2 (i_pA 12 18 (i_ldA 0 (i_cst (.int (16)) (i_na 0 16 (kX12_init_88 n))))))))))))))))))))))))
set_option maxRecDepth 20000 in
theorem okX12_init_45 {E : mE} {X : State → Heap → Prop} {l : Launch} (hX : mXok E X) (n : Nat) : Sd E X l yX12_init cX12_init 1 none 4 39 9833 5 3226 45 (kX12_init_45 n) := s_pF dX12_init_45 lFX12_27 rfl rfl (s_aload_n dX12_init_48 rfl (s_iconst dX12_init_49 (by decide) (s_na dX12_init_50 rfl (by decide) lA_0 (Nat.le_of_ble_eq_true rfl) (Nat.le_of_ble_eq_true rfl) (Nat.le_of_ble_eq_true rfl) (s_pF dX12_init_52 lFX12_30 rfl rfl (s_aload_n dX12_init_55 rfl (s_iconst dX12_init_56 (by decide) (s_na dX12_init_57 rfl (by decide) lA_0 (Nat.le_of_ble_eq_true rfl) (Nat.le_of_ble_eq_true rfl) (Nat.le_of_ble_eq_true rfl) (s_pF dX12_init_59 lFX12_33 rfl rfl (s_aload_n dX12_init_62 rfl (s_iconst dX12_init_63 (by decide) (s_na dX12_init_64 rfl (by decide) lA_0 (Nat.le_of_ble_eq_true rfl) (Nat.le_of_ble_eq_true rfl) (Nat.le_of_ble_eq_true rfl) (s_pF dX12_init_66 lFX12_36 rfl rfl (s_aload_n dX12_init_69 rfl (s_iconst dX12_init_70 (by decide) (s_na dX12_init_71 rfl (by decide) lA_0 (Nat.le_of_ble_eq_true rfl) (Nat.le_of_ble_eq_true rfl) (Nat.le_of_ble_eq_true rfl) (s_pF dX12_init_73 lFX12_39 rfl rfl (s_aload_n dX12_init_76 rfl (s_iconst dX12_init_77 (by decide) (s_na dX12_init_78 rfl (by decide) lA_0 (Nat.le_of_ble_eq_true rfl) (Nat.le_of_ble_eq_true rfl) (Nat.le_of_ble_eq_true rfl) (s_pF dX12_init_80 lFX12_42 rfl rfl (s_aload_n dX12_init_83 rfl (s_bipush dX12_init_84 (by decide) (s_na dX12_init_86 rfl (by decide) lA_0 (Nat.le_of_ble_eq_true rfl) (Nat.le_of_ble_eq_true rfl) (Nat.le_of_ble_eq_true rfl) (okX12_init_88 hX n))))))))))))))))))))))))
def kX12_init_0 (n : Nat) : mK := i_ldA 0 (i_obj (i_ldA 0 (i_cst (.int (1620)) (i_na 1 1620 (i_pA 12 0 (i_ldA 0 (i_cst (.int (1600)) (i_na 1 1600 (i_pA 12 1 (i_ldA 0 (i_cst (.int (-1)) (i_pI 12 5 (i_ldA 0 (i_cst (.int (2)) (i_na 0 2 (i_pA 12 11 (i_ldA 0 (i_cst (.int (2)) (i_na 0 2 (i_pA 12 12 (i_ldA 0 (i_cst (.int (2)) (i_na 0 2 (kX12_init_45 n))))))))))))))))))))))))
set_option maxRecDepth 20000 in
theorem okX12_init_0 {E : mE} {X : State → Heap → Prop} {l : Launch} (hX : mXok E X) (n : Nat) : Sd E X l yX12_init cX12_init 1 none 4 39 9833 0 0 0 (kX12_init_0 n) := s_aload_n dX12_init_0 rfl (s_obj dX12_init_1 lMX12_1 lObj1 lObj2 (Nat.le_of_ble_eq_true rfl) (s_aload_n dX12_init_4 rfl (s_sipush dX12_init_5 (by decide) (s_na dX12_init_8 rfl (by decide) lA_1 (Nat.le_of_ble_eq_true rfl) (Nat.le_of_ble_eq_true rfl) (Nat.le_of_ble_eq_true rfl) (s_pF dX12_init_10 lFX12_7 rfl rfl (s_aload_n dX12_init_13 rfl (s_sipush dX12_init_14 (by decide) (s_na dX12_init_17 rfl (by decide) lA_1 (Nat.le_of_ble_eq_true rfl) (Nat.le_of_ble_eq_true rfl) (Nat.le_of_ble_eq_true rfl) (s_pF dX12_init_19 lFX12_13 rfl rfl (s_aload_n dX12_init_22 rfl (s_iconst dX12_init_23 (by decide) (s_pI dX12_init_24 lFX12_16 (s_aload_n dX12_init_27 rfl (s_iconst dX12_init_28 (by decide) (s_na dX12_init_29 rfl (by decide) lA_0 (Nat.le_of_ble_eq_true rfl) (Nat.le_of_ble_eq_true rfl) (Nat.le_of_ble_eq_true rfl) (s_pF dX12_init_31 lFX12_20 rfl rfl (s_aload_n dX12_init_34 rfl (s_iconst dX12_init_35 (by decide) (s_na dX12_init_36 rfl (by decide) lA_0 (Nat.le_of_ble_eq_true rfl) (Nat.le_of_ble_eq_true rfl) (Nat.le_of_ble_eq_true rfl) (s_pF dX12_init_38 lFX12_24 rfl rfl (s_aload_n dX12_init_41 rfl (s_iconst dX12_init_42 (by decide) (s_na dX12_init_43 rfl (by decide) lA_0 (Nat.le_of_ble_eq_true rfl) (Nat.le_of_ble_eq_true rfl) (Nat.le_of_ble_eq_true rfl) (okX12_init_45 hX n))))))))))))))))))))))))
def FX12_init (n : Nat) : List Value → mM → Option mR := mfn 1 (kX12_init_0 n)
theorem CtX12_init {E : mE} {X : State → Heap → Prop} {l : Launch} (hX : mXok E X) (n : Nat) : Ct E X l yX12_init cX12_init 1 none 4 39 9833 (FX12_init n) := Ct_of (by decide) hX (okX12_init_0 hX n)
theorem dX12_law_0 : decode cX12_law 0 = .ok (.iload_n 1, 1) := by decide +kernel
theorem dX12_law_1 : decode cX12_law 1 = .ok (.iconst 0, 1) := by decide +kernel
theorem dX12_law_2 : decode cX12_law 2 = .ok (.iconst 3, 1) := by decide +kernel
theorem dX12_law_3 : decode cX12_law 3 = .ok (.invokestatic 344, 3) := by decide +kernel
theorem dX12_law_6 : decode cX12_law 6 = .ok (.ifCond .ne 5, 3) := by decide +kernel
theorem dX12_law_9 : decode cX12_law 9 = .ok (.iconst (-1), 1) := by decide +kernel
theorem dX12_law_10 : decode cX12_law 10 = .ok (.ireturn, 1) := by decide +kernel
theorem dX12_law_11 : decode cX12_law 11 = .ok (.aload_n 0, 1) := by decide +kernel
theorem dX12_law_12 : decode cX12_law 12 = .ok (.invokevirtual 442, 3) := by decide +kernel
theorem dX12_law_15 : decode cX12_law 15 = .ok (.iconst 0, 1) := by decide +kernel
theorem dX12_law_16 : decode cX12_law 16 = .ok (.istore_n 2, 1) := by decide +kernel
theorem dX12_law_17 : decode cX12_law 17 = .ok (.iload_n 2, 1) := by decide +kernel
theorem dX12_law_18 : decode cX12_law 18 = .ok (.aload_n 0, 1) := by decide +kernel
theorem dX12_law_19 : decode cX12_law 19 = .ok (.invokevirtual 341, 3) := by decide +kernel
theorem dX12_law_22 : decode cX12_law 22 = .ok (.if_icmp .ge 19, 3) := by decide +kernel
theorem dX12_law_25 : decode cX12_law 25 = .ok (.aload_n 0, 1) := by decide +kernel
theorem dX12_law_26 : decode cX12_law 26 = .ok (.getfield 82, 3) := by decide +kernel
theorem dX12_law_29 : decode cX12_law 29 = .ok (.bipush 8, 2) := by decide +kernel
theorem dX12_law_31 : decode cX12_law 31 = .ok (.iload_n 2, 1) := by decide +kernel
theorem dX12_law_32 : decode cX12_law 32 = .ok (.iadd, 1) := by decide +kernel
theorem dX12_law_33 : decode cX12_law 33 = .ok (.iload_n 1, 1) := by decide +kernel
theorem dX12_law_34 : decode cX12_law 34 = .ok (.iastore, 1) := by decide +kernel
theorem dX12_law_35 : decode cX12_law 35 = .ok (.iinc 2 1, 3) := by decide +kernel
theorem dX12_law_38 : decode cX12_law 38 = .ok (.goto (-21), 3) := by decide +kernel
theorem dX12_law_41 : decode cX12_law 41 = .ok (.aload_n 0, 1) := by decide +kernel
theorem dX12_law_42 : decode cX12_law 42 = .ok (.invokevirtual 400, 3) := by decide +kernel
theorem dX12_law_45 : decode cX12_law 45 = .ok (.invokestatic 331, 3) := by decide +kernel
theorem dX12_law_48 : decode cX12_law 48 = .ok (.istore_n 2, 1) := by decide +kernel
theorem dX12_law_49 : decode cX12_law 49 = .ok (.aload_n 0, 1) := by decide +kernel
theorem dX12_law_50 : decode cX12_law 50 = .ok (.invokevirtual 445, 3) := by decide +kernel
theorem dX12_law_53 : decode cX12_law 53 = .ok (.iload_n 2, 1) := by decide +kernel
theorem dX12_law_54 : decode cX12_law 54 = .ok (.ireturn, 1) := by decide +kernel
def kX12_law_17 (n : Nat) (r17 : mK) : mK := i_ldI 2 (i_ldA 0 (i_cV 12 0 (FX12_many n) (i_c2 (fun x y => decide (y ≤ x)) (i_ldA 0 (i_cV 12 0 (FX12_freeNow n) (i_cS 1 (FX12_bitsOf n) (i_stI 2 (i_ldA 0 (i_cV 12 0 (FX12_bringBack n) (i_ldI 2 (i_rI)))))))) (i_ldA 0 (i_gA 12 39 (i_cst (.int (8)) (i_ldI 2 (i_bin (fun x y => x + y) (i_ldI 1 (i_as 0 (i_inc 2 (1) (r17))))))))))))
set_option maxRecDepth 20000 in
theorem okX12_law_17 {E : mE} {X : State → Heap → Prop} {l : Launch} (hX : mXok E X) (n : Nat) {r17 : mK} (h17 : Sd E X l yX12_law cX12_law 3 (some .int) 4 0 0 0 0 17 r17) : Sd E X l yX12_law cX12_law 3 (some .int) 4 0 0 0 0 17 (kX12_law_17 n r17) := s_iload_n dX12_law_17 rfl (s_aload_n dX12_law_18 rfl (s_cV dX12_law_19 lMX12_341 bVX12_many rfl (CtX12_many hX n) (Nat.le_of_ble_eq_true rfl) (s_icge dX12_law_22 (by decide) (s_aload_n dX12_law_41 rfl (s_cV dX12_law_42 lMX12_400 bVX12_freeNow rfl (CtX12_freeNow hX n) (Nat.le_of_ble_eq_true rfl) (s_cS dX12_law_45 lMX12_331 bSX12_bitsOf (CtX12_bitsOf hX n) (Nat.le_of_ble_eq_true rfl) (s_istore_n dX12_law_48 rfl (s_aload_n dX12_law_49 rfl (s_cV dX12_law_50 lMX12_445 bVX12_bringBack rfl (CtX12_bringBack hX n) (Nat.le_of_ble_eq_true rfl) (s_iload_n dX12_law_53 rfl (s_rI dX12_law_54 (Nat.le_of_ble_eq_true rfl) (Nat.le_of_ble_eq_true rfl))) (Nat.le_of_ble_eq_true rfl) (Nat.le_of_ble_eq_true rfl)))) (Nat.le_of_ble_eq_true rfl) (Nat.le_of_ble_eq_true rfl)) (Nat.le_of_ble_eq_true rfl) (Nat.le_of_ble_eq_true rfl))) (s_aload_n dX12_law_25 rfl (s_gA dX12_law_26 lFX12_82 (s_bipush dX12_law_29 (by decide) (s_iload_n dX12_law_31 rfl (s_iadd dX12_law_32 (s_iload_n dX12_law_33 rfl (s_iast dX12_law_34 (s_iinc dX12_law_35 (by decide) (s_goto dX12_law_38 (by decide) h17)))))))))) (Nat.le_of_ble_eq_true rfl) (Nat.le_of_ble_eq_true rfl)))
def kX12_law_0 (n : Nat) : mK := i_ldI 1 (i_cst (.int (0)) (i_cst (.int (3)) (i_cS 3 (FX12_isIn n) (i_c0 (fun x => decide (¬ x = 0)) (i_ldA 0 (i_cV 12 0 (FX12_keepNow n) (i_cst (.int (0)) (i_stI 2 (mit (kX12_law_17 n ) n))))) (i_cst (.int (-1)) (i_rI))))))
set_option maxRecDepth 20000 in
theorem okX12_law_0 {E : mE} {X : State → Heap → Prop} {l : Launch} (hX : mXok E X) (n : Nat) : Sd E X l yX12_law cX12_law 3 (some .int) 4 0 0 0 0 0 (kX12_law_0 n) := s_iload_n dX12_law_0 rfl (s_iconst dX12_law_1 (by decide) (s_iconst dX12_law_2 (by decide) (s_cS dX12_law_3 lMX12_344 bSX12_isIn (CtX12_isIn hX n) (Nat.le_of_ble_eq_true rfl) (s_ifne dX12_law_6 (by decide) (s_aload_n dX12_law_11 rfl (s_cV dX12_law_12 lMX12_442 bVX12_keepNow rfl (CtX12_keepNow hX n) (Nat.le_of_ble_eq_true rfl) (s_iconst dX12_law_15 (by decide) (s_istore_n dX12_law_16 rfl (s_mit (fun _ hk => okX12_law_17 hX n hk) n))) (Nat.le_of_ble_eq_true rfl) (Nat.le_of_ble_eq_true rfl))) (s_iconst dX12_law_9 (by decide) (s_rI dX12_law_10 (Nat.le_of_ble_eq_true rfl) (Nat.le_of_ble_eq_true rfl)))) (Nat.le_of_ble_eq_true rfl) (Nat.le_of_ble_eq_true rfl))))
def FX12_law (n : Nat) : List Value → mM → Option mR := mfn 3 (kX12_law_0 n)
theorem CtX12_law {E : mE} {X : State → Heap → Prop} {l : Launch} (hX : mXok E X) (n : Nat) : Ct E X l yX12_law cX12_law 3 (some .int) 4 0 0 (FX12_law n) := Ct_of (by decide) hX (okX12_law_0 hX n)
theorem dX12_layFrom_0 : decode cX12_layFrom 0 = .ok (.iconst 0, 1) := by decide +kernel
theorem dX12_layFrom_1 : decode cX12_layFrom 1 = .ok (.istore_n 2, 1) := by decide +kernel
theorem dX12_layFrom_2 : decode cX12_layFrom 2 = .ok (.iload_n 2, 1) := by decide +kernel
theorem dX12_layFrom_3 : decode cX12_layFrom 3 = .ok (.aload_n 0, 1) := by decide +kernel
theorem dX12_layFrom_4 : decode cX12_layFrom 4 = .ok (.invokevirtual 351, 3) := by decide +kernel
theorem dX12_layFrom_7 : decode cX12_layFrom 7 = .ok (.if_icmp .ge 35, 3) := by decide +kernel
theorem dX12_layFrom_10 : decode cX12_layFrom 10 = .ok (.aload_n 0, 1) := by decide +kernel
theorem dX12_layFrom_11 : decode cX12_layFrom 11 = .ok (.getfield 106, 3) := by decide +kernel
theorem dX12_layFrom_14 : decode cX12_layFrom 14 = .ok (.iload_n 2, 1) := by decide +kernel
theorem dX12_layFrom_15 : decode cX12_layFrom 15 = .ok (.iload_n 2, 1) := by decide +kernel
theorem dX12_layFrom_16 : decode cX12_layFrom 16 = .ok (.iload_n 1, 1) := by decide +kernel
theorem dX12_layFrom_17 : decode cX12_layFrom 17 = .ok (.if_icmp .ne 15, 3) := by decide +kernel
theorem dX12_layFrom_20 : decode cX12_layFrom 20 = .ok (.aload_n 0, 1) := by decide +kernel
theorem dX12_layFrom_21 : decode cX12_layFrom 21 = .ok (.iload_n 2, 1) := by decide +kernel
theorem dX12_layFrom_22 : decode cX12_layFrom 22 = .ok (.invokevirtual 393, 3) := by decide +kernel
theorem dX12_layFrom_25 : decode cX12_layFrom 25 = .ok (.ifCond .ge 7, 3) := by decide +kernel
theorem dX12_layFrom_28 : decode cX12_layFrom 28 = .ok (.iconst 0, 1) := by decide +kernel
theorem dX12_layFrom_29 : decode cX12_layFrom 29 = .ok (.goto 6, 3) := by decide +kernel
theorem dX12_layFrom_32 : decode cX12_layFrom 32 = .ok (.sipush 1000, 3) := by decide +kernel
theorem dX12_layFrom_35 : decode cX12_layFrom 35 = .ok (.iastore, 1) := by decide +kernel
theorem dX12_layFrom_36 : decode cX12_layFrom 36 = .ok (.iinc 2 1, 3) := by decide +kernel
theorem dX12_layFrom_39 : decode cX12_layFrom 39 = .ok (.goto (-37), 3) := by decide +kernel
theorem dX12_layFrom_42 : decode cX12_layFrom 42 = .ok (.aload_n 0, 1) := by decide +kernel
theorem dX12_layFrom_43 : decode cX12_layFrom 43 = .ok (.invokevirtual 463, 3) := by decide +kernel
theorem dX12_layFrom_46 : decode cX12_layFrom 46 = .ok (.return_, 1) := by decide +kernel
def kX12_layFrom_35 (n : Nat) (r2 : mK) : mK := i_as 0 (i_inc 2 (1) (r2))
set_option maxRecDepth 20000 in
theorem okX12_layFrom_35 {E : mE} {X : State → Heap → Prop} {l : Launch} (hX : mXok E X) (n : Nat) {r2 : mK} (h2 : Sd E X l yX12_layFrom cX12_layFrom 3 none 4 0 0 0 0 2 r2) : Sd E X l yX12_layFrom cX12_layFrom 3 none 4 0 0 0 0 35 (kX12_layFrom_35 n r2) := s_iast dX12_layFrom_35 (s_iinc dX12_layFrom_36 (by decide) (s_goto dX12_layFrom_39 (by decide) h2))
def kX12_layFrom_32 (n : Nat) (r2 : mK) : mK := i_cst (.int (1000)) (kX12_layFrom_35 n r2)
set_option maxRecDepth 20000 in
theorem okX12_layFrom_32 {E : mE} {X : State → Heap → Prop} {l : Launch} (hX : mXok E X) (n : Nat) {r2 : mK} (h2 : Sd E X l yX12_layFrom cX12_layFrom 3 none 4 0 0 0 0 2 r2) : Sd E X l yX12_layFrom cX12_layFrom 3 none 4 0 0 0 0 32 (kX12_layFrom_32 n r2) := s_sipush dX12_layFrom_32 (by decide) (okX12_layFrom_35 hX n h2)
def kX12_layFrom_2 (n : Nat) (r2 : mK) : mK := i_ldI 2 (i_ldA 0 (i_cV 12 0 (FX12_spots n) (i_c2 (fun x y => decide (y ≤ x)) (i_ldA 0 (i_cV 12 0 (FX12_layFar n) (i_rV))) (i_ldA 0 (i_gA 12 50 (i_ldI 2 (i_ldI 2 (i_ldI 1 (i_c2 (fun x y => decide (¬ x = y)) (kX12_layFrom_32 n r2) (i_ldA 0 (i_ldI 2 (i_cV 12 1 (FX12_whoAt n) (i_c0 (fun x => decide (0 ≤ x)) (kX12_layFrom_32 n r2) (i_cst (.int (0)) ((kX12_layFrom_35 n r2))))))))))))))))
set_option maxRecDepth 20000 in
theorem okX12_layFrom_2 {E : mE} {X : State → Heap → Prop} {l : Launch} (hX : mXok E X) (n : Nat) {r2 : mK} (h2 : Sd E X l yX12_layFrom cX12_layFrom 3 none 4 0 0 0 0 2 r2) : Sd E X l yX12_layFrom cX12_layFrom 3 none 4 0 0 0 0 2 (kX12_layFrom_2 n r2) := s_iload_n dX12_layFrom_2 rfl (s_aload_n dX12_layFrom_3 rfl (s_cV dX12_layFrom_4 lMX12_351 bVX12_spots rfl (CtX12_spots hX n) (Nat.le_of_ble_eq_true rfl) (s_icge dX12_layFrom_7 (by decide) (s_aload_n dX12_layFrom_42 rfl (s_cV dX12_layFrom_43 lMX12_463 bVX12_layFar rfl (CtX12_layFar hX n) (Nat.le_of_ble_eq_true rfl) (s_rV dX12_layFrom_46 (Nat.le_of_ble_eq_true rfl) (Nat.le_of_ble_eq_true rfl)) (Nat.le_of_ble_eq_true rfl) (Nat.le_of_ble_eq_true rfl))) (s_aload_n dX12_layFrom_10 rfl (s_gA dX12_layFrom_11 lFX12_106 (s_iload_n dX12_layFrom_14 rfl (s_iload_n dX12_layFrom_15 rfl (s_iload_n dX12_layFrom_16 rfl (s_icne dX12_layFrom_17 (by decide) (okX12_layFrom_32 hX n h2) (s_aload_n dX12_layFrom_20 rfl (s_iload_n dX12_layFrom_21 rfl (s_cV dX12_layFrom_22 lMX12_393 bVX12_whoAt rfl (CtX12_whoAt hX n) (Nat.le_of_ble_eq_true rfl) (s_ifge dX12_layFrom_25 (by decide) (okX12_layFrom_32 hX n h2) (s_iconst dX12_layFrom_28 (by decide) (s_goto dX12_layFrom_29 (by decide) (okX12_layFrom_35 hX n h2)))) (Nat.le_of_ble_eq_true rfl) (Nat.le_of_ble_eq_true rfl))))))))))) (Nat.le_of_ble_eq_true rfl) (Nat.le_of_ble_eq_true rfl)))
def kX12_layFrom_0 (n : Nat) : mK := i_cst (.int (0)) (i_stI 2 (mit (kX12_layFrom_2 n ) n))
set_option maxRecDepth 20000 in
theorem okX12_layFrom_0 {E : mE} {X : State → Heap → Prop} {l : Launch} (hX : mXok E X) (n : Nat) : Sd E X l yX12_layFrom cX12_layFrom 3 none 4 0 0 0 0 0 (kX12_layFrom_0 n) := s_iconst dX12_layFrom_0 (by decide) (s_istore_n dX12_layFrom_1 rfl (s_mit (fun _ hk => okX12_layFrom_2 hX n hk) n))
def FX12_layFrom (n : Nat) : List Value → mM → Option mR := mfn 3 (kX12_layFrom_0 n)
theorem CtX12_layFrom {E : mE} {X : State → Heap → Prop} {l : Launch} (hX : mXok E X) (n : Nat) : Ct E X l yX12_layFrom cX12_layFrom 3 none 4 0 0 (FX12_layFrom n) := Ct_of (by decide) hX (okX12_layFrom_0 hX n)
theorem dX12_let_0 : decode cX12_let 0 = .ok (.aload_n 0, 1) := by decide +kernel
theorem dX12_let_1 : decode cX12_let 1 = .ok (.iload_n 1, 1) := by decide +kernel
theorem dX12_let_2 : decode cX12_let 2 = .ok (.invokevirtual 396, 3) := by decide +kernel
theorem dX12_let_5 : decode cX12_let 5 = .ok (.ifCond .eq 19, 3) := by decide +kernel
theorem dX12_let_8 : decode cX12_let 8 = .ok (.aload_n 0, 1) := by decide +kernel
theorem dX12_let_9 : decode cX12_let 9 = .ok (.iload_n 1, 1) := by decide +kernel
theorem dX12_let_10 : decode cX12_let 10 = .ok (.invokevirtual 372, 3) := by decide +kernel
theorem dX12_let_13 : decode cX12_let 13 = .ok (.ifCond .ne 11, 3) := by decide +kernel
theorem dX12_let_16 : decode cX12_let 16 = .ok (.aload_n 0, 1) := by decide +kernel
theorem dX12_let_17 : decode cX12_let 17 = .ok (.iload_n 1, 1) := by decide +kernel
theorem dX12_let_18 : decode cX12_let 18 = .ok (.invokevirtual 418, 3) := by decide +kernel
theorem dX12_let_21 : decode cX12_let 21 = .ok (.goto 4, 3) := by decide +kernel
theorem dX12_let_24 : decode cX12_let 24 = .ok (.iconst (-1), 1) := by decide +kernel
theorem dX12_let_25 : decode cX12_let 25 = .ok (.ireturn, 1) := by decide +kernel
def kX12_let_25 (n : Nat) : mK := i_rI
set_option maxRecDepth 20000 in
theorem okX12_let_25 {E : mE} {X : State → Heap → Prop} {l : Launch} (hX : mXok E X) (n : Nat) : Sd E X l yX12_let cX12_let 2 (some .int) 4 0 0 0 0 25 (kX12_let_25 n) := s_rI dX12_let_25 (Nat.le_of_ble_eq_true rfl) (Nat.le_of_ble_eq_true rfl)
def kX12_let_24 (n : Nat) : mK := i_cst (.int (-1)) (kX12_let_25 n)
set_option maxRecDepth 20000 in
theorem okX12_let_24 {E : mE} {X : State → Heap → Prop} {l : Launch} (hX : mXok E X) (n : Nat) : Sd E X l yX12_let cX12_let 2 (some .int) 4 0 0 0 0 24 (kX12_let_24 n) := s_iconst dX12_let_24 (by decide) (okX12_let_25 hX n)
def kX12_let_0 (n : Nat) : mK := i_ldA 0 (i_ldI 1 (i_cV 12 1 (FX12_isHere n) (i_c0 (fun x => decide (x = 0)) (kX12_let_24 n) (i_ldA 0 (i_ldI 1 (i_cV 12 1 (FX12_barsOf n) (i_c0 (fun x => decide (¬ x = 0)) (kX12_let_24 n) (i_ldA 0 (i_ldI 1 (i_cV 12 1 (FX12_goOff n) ((kX12_let_25 n))))))))))))
set_option maxRecDepth 20000 in
theorem okX12_let_0 {E : mE} {X : State → Heap → Prop} {l : Launch} (hX : mXok E X) (n : Nat) : Sd E X l yX12_let cX12_let 2 (some .int) 4 0 0 0 0 0 (kX12_let_0 n) := s_aload_n dX12_let_0 rfl (s_iload_n dX12_let_1 rfl (s_cV dX12_let_2 lMX12_396 bVX12_isHere rfl (CtX12_isHere hX n) (Nat.le_of_ble_eq_true rfl) (s_ifeq dX12_let_5 (by decide) (okX12_let_24 hX n) (s_aload_n dX12_let_8 rfl (s_iload_n dX12_let_9 rfl (s_cV dX12_let_10 lMX12_372 bVX12_barsOf rfl (CtX12_barsOf hX n) (Nat.le_of_ble_eq_true rfl) (s_ifne dX12_let_13 (by decide) (okX12_let_24 hX n) (s_aload_n dX12_let_16 rfl (s_iload_n dX12_let_17 rfl (s_cV dX12_let_18 lMX12_418 bVX12_goOff rfl (CtX12_goOff hX n) (Nat.le_of_ble_eq_true rfl) (s_goto dX12_let_21 (by decide) (okX12_let_25 hX n)) (Nat.le_of_ble_eq_true rfl) (Nat.le_of_ble_eq_true rfl))))) (Nat.le_of_ble_eq_true rfl) (Nat.le_of_ble_eq_true rfl))))) (Nat.le_of_ble_eq_true rfl) (Nat.le_of_ble_eq_true rfl)))
def FX12_let (n : Nat) : List Value → mM → Option mR := mfn 2 (kX12_let_0 n)
theorem CtX12_let {E : mE} {X : State → Heap → Prop} {l : Launch} (hX : mXok E X) (n : Nat) : Ct E X l yX12_let cX12_let 2 (some .int) 4 0 0 (FX12_let n) := Ct_of (by decide) hX (okX12_let_0 hX n)
theorem dX12_loose_0 : decode cX12_loose 0 = .ok (.aload_n 0, 1) := by decide +kernel
theorem dX12_loose_1 : decode cX12_loose 1 = .ok (.invokevirtual 424, 3) := by decide +kernel
theorem dX12_loose_4 : decode cX12_loose 4 = .ok (.aload_n 0, 1) := by decide +kernel
theorem dX12_loose_5 : decode cX12_loose 5 = .ok (.aload_n 0, 1) := by decide +kernel
theorem dX12_loose_6 : decode cX12_loose 6 = .ok (.invokevirtual 328, 3) := by decide +kernel
theorem dX12_loose_9 : decode cX12_loose 9 = .ok (.invokevirtual 430, 3) := by decide +kernel
theorem dX12_loose_12 : decode cX12_loose 12 = .ok (.ireturn, 1) := by decide +kernel
def kX12_loose_0 (n : Nat) : mK := i_ldA 0 (i_cV 12 0 (FX12_layBars n) (i_ldA 0 (i_ldA 0 (i_cV 12 0 (FX12_those n) (i_cV 12 1 (FX12_offOf n) (i_rI))))))
set_option maxRecDepth 20000 in
theorem okX12_loose_0 {E : mE} {X : State → Heap → Prop} {l : Launch} (hX : mXok E X) (n : Nat) : Sd E X l yX12_loose cX12_loose 1 (some .int) 4 0 0 0 0 0 (kX12_loose_0 n) := s_aload_n dX12_loose_0 rfl (s_cV dX12_loose_1 lMX12_424 bVX12_layBars rfl (CtX12_layBars hX n) (Nat.le_of_ble_eq_true rfl) (s_aload_n dX12_loose_4 rfl (s_aload_n dX12_loose_5 rfl (s_cV dX12_loose_6 lMX12_328 bVX12_those rfl (CtX12_those hX n) (Nat.le_of_ble_eq_true rfl) (s_cV dX12_loose_9 lMX12_430 bVX12_offOf rfl (CtX12_offOf hX n) (Nat.le_of_ble_eq_true rfl) (s_rI dX12_loose_12 (Nat.le_of_ble_eq_true rfl) (Nat.le_of_ble_eq_true rfl)) (Nat.le_of_ble_eq_true rfl) (Nat.le_of_ble_eq_true rfl)) (Nat.le_of_ble_eq_true rfl) (Nat.le_of_ble_eq_true rfl)))) (Nat.le_of_ble_eq_true rfl) (Nat.le_of_ble_eq_true rfl))
def FX12_loose (n : Nat) : List Value → mM → Option mR := mfn 1 (kX12_loose_0 n)
theorem CtX12_loose {E : mE} {X : State → Heap → Prop} {l : Launch} (hX : mXok E X) (n : Nat) : Ct E X l yX12_loose cX12_loose 1 (some .int) 4 0 0 (FX12_loose n) := Ct_of (by decide) hX (okX12_loose_0 hX n)
theorem dX12_lot_0 : decode cX12_lot 0 = .ok (.aload_n 0, 1) := by decide +kernel
theorem dX12_lot_1 : decode cX12_lot 1 = .ok (.iload_n 1, 1) := by decide +kernel
theorem dX12_lot_2 : decode cX12_lot 2 = .ok (.invokevirtual 348, 3) := by decide +kernel
theorem dX12_lot_5 : decode cX12_lot 5 = .ok (.ifCond .eq 11, 3) := by decide +kernel
theorem dX12_lot_8 : decode cX12_lot 8 = .ok (.aload_n 0, 1) := by decide +kernel
theorem dX12_lot_9 : decode cX12_lot 9 = .ok (.iload_n 1, 1) := by decide +kernel
theorem dX12_lot_10 : decode cX12_lot 10 = .ok (.invokevirtual 396, 3) := by decide +kernel
theorem dX12_lot_13 : decode cX12_lot 13 = .ok (.ifCond .eq 5, 3) := by decide +kernel
theorem dX12_lot_16 : decode cX12_lot 16 = .ok (.iconst (-1), 1) := by decide +kernel
theorem dX12_lot_17 : decode cX12_lot 17 = .ok (.ireturn, 1) := by decide +kernel
theorem dX12_lot_18 : decode cX12_lot 18 = .ok (.iconst (-1), 1) := by decide +kernel
theorem dX12_lot_19 : decode cX12_lot 19 = .ok (.istore_n 2, 1) := by decide +kernel
theorem dX12_lot_20 : decode cX12_lot 20 = .ok (.iconst (-1), 1) := by decide +kernel
theorem dX12_lot_21 : decode cX12_lot 21 = .ok (.istore_n 3, 1) := by decide +kernel
theorem dX12_lot_22 : decode cX12_lot 22 = .ok (.iconst 0, 1) := by decide +kernel
theorem dX12_lot_23 : decode cX12_lot 23 = .ok (.istore 4, 2) := by decide +kernel
theorem dX12_lot_25 : decode cX12_lot 25 = .ok (.iload 4, 2) := by decide +kernel
theorem dX12_lot_27 : decode cX12_lot 27 = .ok (.aload_n 0, 1) := by decide +kernel
theorem dX12_lot_28 : decode cX12_lot 28 = .ok (.invokevirtual 351, 3) := by decide +kernel
theorem dX12_lot_31 : decode cX12_lot 31 = .ok (.if_icmp .ge 64, 3) := by decide +kernel
theorem dX12_lot_34 : decode cX12_lot 34 = .ok (.aload_n 0, 1) := by decide +kernel
theorem dX12_lot_35 : decode cX12_lot 35 = .ok (.iload 4, 2) := by decide +kernel
theorem dX12_lot_37 : decode cX12_lot 37 = .ok (.invokevirtual 393, 3) := by decide +kernel
theorem dX12_lot_40 : decode cX12_lot 40 = .ok (.ifCond .lt 6, 3) := by decide +kernel
theorem dX12_lot_43 : decode cX12_lot 43 = .ok (.goto 46, 3) := by decide +kernel
theorem dX12_lot_46 : decode cX12_lot 46 = .ok (.aload_n 0, 1) := by decide +kernel
theorem dX12_lot_47 : decode cX12_lot 47 = .ok (.getfield 82, 3) := by decide +kernel
theorem dX12_lot_50 : decode cX12_lot 50 = .ok (.iconst 0, 1) := by decide +kernel
theorem dX12_lot_51 : decode cX12_lot 51 = .ok (.iload_n 1, 1) := by decide +kernel
theorem dX12_lot_52 : decode cX12_lot 52 = .ok (.iadd, 1) := by decide +kernel
theorem dX12_lot_53 : decode cX12_lot 53 = .ok (.iload 4, 2) := by decide +kernel
theorem dX12_lot_55 : decode cX12_lot 55 = .ok (.iastore, 1) := by decide +kernel
theorem dX12_lot_56 : decode cX12_lot 56 = .ok (.aload_n 0, 1) := by decide +kernel
theorem dX12_lot_57 : decode cX12_lot 57 = .ok (.invokevirtual 400, 3) := by decide +kernel
theorem dX12_lot_60 : decode cX12_lot 60 = .ok (.invokestatic 331, 3) := by decide +kernel
theorem dX12_lot_63 : decode cX12_lot 63 = .ok (.istore 5, 2) := by decide +kernel
theorem dX12_lot_65 : decode cX12_lot 65 = .ok (.aload_n 0, 1) := by decide +kernel
theorem dX12_lot_66 : decode cX12_lot 66 = .ok (.getfield 82, 3) := by decide +kernel
theorem dX12_lot_69 : decode cX12_lot 69 = .ok (.iconst 0, 1) := by decide +kernel
theorem dX12_lot_70 : decode cX12_lot 70 = .ok (.iload_n 1, 1) := by decide +kernel
theorem dX12_lot_71 : decode cX12_lot 71 = .ok (.iadd, 1) := by decide +kernel
theorem dX12_lot_72 : decode cX12_lot 72 = .ok (.iconst (-1), 1) := by decide +kernel
theorem dX12_lot_73 : decode cX12_lot 73 = .ok (.iastore, 1) := by decide +kernel
theorem dX12_lot_74 : decode cX12_lot 74 = .ok (.iload 5, 2) := by decide +kernel
theorem dX12_lot_76 : decode cX12_lot 76 = .ok (.iload_n 3, 1) := by decide +kernel
theorem dX12_lot_77 : decode cX12_lot 77 = .ok (.if_icmp .gt 6, 3) := by decide +kernel
theorem dX12_lot_80 : decode cX12_lot 80 = .ok (.goto 9, 3) := by decide +kernel
theorem dX12_lot_83 : decode cX12_lot 83 = .ok (.iload 4, 2) := by decide +kernel
theorem dX12_lot_85 : decode cX12_lot 85 = .ok (.istore_n 2, 1) := by decide +kernel
theorem dX12_lot_86 : decode cX12_lot 86 = .ok (.iload 5, 2) := by decide +kernel
theorem dX12_lot_88 : decode cX12_lot 88 = .ok (.istore_n 3, 1) := by decide +kernel
theorem dX12_lot_89 : decode cX12_lot 89 = .ok (.iinc 4 1, 3) := by decide +kernel
theorem dX12_lot_92 : decode cX12_lot 92 = .ok (.goto (-67), 3) := by decide +kernel
theorem dX12_lot_95 : decode cX12_lot 95 = .ok (.iload_n 2, 1) := by decide +kernel
theorem dX12_lot_96 : decode cX12_lot 96 = .ok (.ireturn, 1) := by decide +kernel
def kX12_lot_16 (n : Nat) : mK := i_cst (.int (-1)) (i_rI)
set_option maxRecDepth 20000 in
theorem okX12_lot_16 {E : mE} {X : State → Heap → Prop} {l : Launch} (hX : mXok E X) (n : Nat) : Sd E X l yX12_lot cX12_lot 6 (some .int) 4 0 0 0 0 16 (kX12_lot_16 n) := s_iconst dX12_lot_16 (by decide) (s_rI dX12_lot_17 (Nat.le_of_ble_eq_true rfl) (Nat.le_of_ble_eq_true rfl))
def kX12_lot_89 (n : Nat) (r25 : mK) : mK := i_inc 4 (1) (r25)
set_option maxRecDepth 20000 in
theorem okX12_lot_89 {E : mE} {X : State → Heap → Prop} {l : Launch} (hX : mXok E X) (n : Nat) {r25 : mK} (h25 : Sd E X l yX12_lot cX12_lot 6 (some .int) 4 0 0 0 0 25 r25) : Sd E X l yX12_lot cX12_lot 6 (some .int) 4 0 0 0 0 89 (kX12_lot_89 n r25) := s_iinc dX12_lot_89 (by decide) (s_goto dX12_lot_92 (by decide) h25)
def kX12_lot_72 (n : Nat) (r25 : mK) : mK := i_cst (.int (-1)) (i_as 0 (i_ldI 5 (i_ldI 3 (i_c2 (fun x y => decide (y < x)) (i_ldI 4 (i_stI 2 (i_ldI 5 (i_stI 3 (kX12_lot_89 n r25))))) ((kX12_lot_89 n r25))))))
set_option maxRecDepth 20000 in
theorem okX12_lot_72 {E : mE} {X : State → Heap → Prop} {l : Launch} (hX : mXok E X) (n : Nat) {r25 : mK} (h25 : Sd E X l yX12_lot cX12_lot 6 (some .int) 4 0 0 0 0 25 r25) : Sd E X l yX12_lot cX12_lot 6 (some .int) 4 0 0 0 0 72 (kX12_lot_72 n r25) := s_iconst dX12_lot_72 (by decide) (s_iast dX12_lot_73 (s_iload dX12_lot_74 (s_iload_n dX12_lot_76 rfl (s_icgt dX12_lot_77 (by decide) (s_iload dX12_lot_83 (s_istore_n dX12_lot_85 rfl (s_iload dX12_lot_86 (s_istore_n dX12_lot_88 rfl (okX12_lot_89 hX n h25))))) (s_goto dX12_lot_80 (by decide) (okX12_lot_89 hX n h25))))))
def kX12_lot_25 (n : Nat) (r25 : mK) : mK := i_ldI 4 (i_ldA 0 (i_cV 12 0 (FX12_spots n) (i_c2 (fun x y => decide (y ≤ x)) (i_ldI 2 (i_rI)) (i_ldA 0 (i_ldI 4 (i_cV 12 1 (FX12_whoAt n) (i_c0 (fun x => decide (x < 0)) (i_ldA 0 (i_gA 12 39 (i_cst (.int (0)) (i_ldI 1 (i_bin (fun x y => x + y) (i_ldI 4 (i_as 0 (i_ldA 0 (i_cV 12 0 (FX12_freeNow n) (i_cS 1 (FX12_bitsOf n) (i_stI 5 (i_ldA 0 (i_gA 12 39 (i_cst (.int (0)) (i_ldI 1 (i_bin (fun x y => x + y) (kX12_lot_72 n r25))))))))))))))))) ((kX12_lot_89 n r25)))))))))
set_option maxRecDepth 20000 in
theorem okX12_lot_25 {E : mE} {X : State → Heap → Prop} {l : Launch} (hX : mXok E X) (n : Nat) {r25 : mK} (h25 : Sd E X l yX12_lot cX12_lot 6 (some .int) 4 0 0 0 0 25 r25) : Sd E X l yX12_lot cX12_lot 6 (some .int) 4 0 0 0 0 25 (kX12_lot_25 n r25) := s_iload dX12_lot_25 (s_aload_n dX12_lot_27 rfl (s_cV dX12_lot_28 lMX12_351 bVX12_spots rfl (CtX12_spots hX n) (Nat.le_of_ble_eq_true rfl) (s_icge dX12_lot_31 (by decide) (s_iload_n dX12_lot_95 rfl (s_rI dX12_lot_96 (Nat.le_of_ble_eq_true rfl) (Nat.le_of_ble_eq_true rfl))) (s_aload_n dX12_lot_34 rfl (s_iload dX12_lot_35 (s_cV dX12_lot_37 lMX12_393 bVX12_whoAt rfl (CtX12_whoAt hX n) (Nat.le_of_ble_eq_true rfl) (s_iflt dX12_lot_40 (by decide) (s_aload_n dX12_lot_46 rfl (s_gA dX12_lot_47 lFX12_82 (s_iconst dX12_lot_50 (by decide) (s_iload_n dX12_lot_51 rfl (s_iadd dX12_lot_52 (s_iload dX12_lot_53 (s_iast dX12_lot_55 (s_aload_n dX12_lot_56 rfl (s_cV dX12_lot_57 lMX12_400 bVX12_freeNow rfl (CtX12_freeNow hX n) (Nat.le_of_ble_eq_true rfl) (s_cS dX12_lot_60 lMX12_331 bSX12_bitsOf (CtX12_bitsOf hX n) (Nat.le_of_ble_eq_true rfl) (s_istore dX12_lot_63 (s_aload_n dX12_lot_65 rfl (s_gA dX12_lot_66 lFX12_82 (s_iconst dX12_lot_69 (by decide) (s_iload_n dX12_lot_70 rfl (s_iadd dX12_lot_71 (okX12_lot_72 hX n h25))))))) (Nat.le_of_ble_eq_true rfl) (Nat.le_of_ble_eq_true rfl)) (Nat.le_of_ble_eq_true rfl) (Nat.le_of_ble_eq_true rfl)))))))))) (s_goto dX12_lot_43 (by decide) (okX12_lot_89 hX n h25))) (Nat.le_of_ble_eq_true rfl) (Nat.le_of_ble_eq_true rfl))))) (Nat.le_of_ble_eq_true rfl) (Nat.le_of_ble_eq_true rfl)))
def kX12_lot_0 (n : Nat) : mK := i_ldA 0 (i_ldI 1 (i_cV 12 1 (FX12_isCar n) (i_c0 (fun x => decide (x = 0)) (kX12_lot_16 n) (i_ldA 0 (i_ldI 1 (i_cV 12 1 (FX12_isHere n) (i_c0 (fun x => decide (x = 0)) (i_cst (.int (-1)) (i_stI 2 (i_cst (.int (-1)) (i_stI 3 (i_cst (.int (0)) (i_stI 4 (mit (kX12_lot_25 n ) n))))))) (kX12_lot_16 n))))))))
set_option maxRecDepth 20000 in
theorem okX12_lot_0 {E : mE} {X : State → Heap → Prop} {l : Launch} (hX : mXok E X) (n : Nat) : Sd E X l yX12_lot cX12_lot 6 (some .int) 4 0 0 0 0 0 (kX12_lot_0 n) := s_aload_n dX12_lot_0 rfl (s_iload_n dX12_lot_1 rfl (s_cV dX12_lot_2 lMX12_348 bVX12_isCar rfl (CtX12_isCar hX n) (Nat.le_of_ble_eq_true rfl) (s_ifeq dX12_lot_5 (by decide) (okX12_lot_16 hX n) (s_aload_n dX12_lot_8 rfl (s_iload_n dX12_lot_9 rfl (s_cV dX12_lot_10 lMX12_396 bVX12_isHere rfl (CtX12_isHere hX n) (Nat.le_of_ble_eq_true rfl) (s_ifeq dX12_lot_13 (by decide) (s_iconst dX12_lot_18 (by decide) (s_istore_n dX12_lot_19 rfl (s_iconst dX12_lot_20 (by decide) (s_istore_n dX12_lot_21 rfl (s_iconst dX12_lot_22 (by decide) (s_istore dX12_lot_23 (s_mit (fun _ hk => okX12_lot_25 hX n hk) n))))))) (okX12_lot_16 hX n)) (Nat.le_of_ble_eq_true rfl) (Nat.le_of_ble_eq_true rfl))))) (Nat.le_of_ble_eq_true rfl) (Nat.le_of_ble_eq_true rfl)))
def FX12_lot (n : Nat) : List Value → mM → Option mR := mfn 6 (kX12_lot_0 n)
theorem CtX12_lot {E : mE} {X : State → Heap → Prop} {l : Launch} (hX : mXok E X) (n : Nat) : Ct E X l yX12_lot cX12_lot 6 (some .int) 4 0 0 (FX12_lot n) := Ct_of (by decide) hX (okX12_lot_0 hX n)
theorem dX12_odds_0 : decode cX12_odds 0 = .ok (.aload_n 0, 1) := by decide +kernel
theorem dX12_odds_1 : decode cX12_odds 1 = .ok (.iload_n 1, 1) := by decide +kernel
theorem dX12_odds_2 : decode cX12_odds 2 = .ok (.invokevirtual 396, 3) := by decide +kernel
theorem dX12_odds_5 : decode cX12_odds 5 = .ok (.ifCond .eq 21, 3) := by decide +kernel
theorem dX12_odds_8 : decode cX12_odds 8 = .ok (.iload_n 2, 1) := by decide +kernel
theorem dX12_odds_9 : decode cX12_odds 9 = .ok (.iconst 0, 1) := by decide +kernel
theorem dX12_odds_10 : decode cX12_odds 10 = .ok (.iconst 4, 1) := by decide +kernel
theorem dX12_odds_11 : decode cX12_odds 11 = .ok (.invokestatic 344, 3) := by decide +kernel
theorem dX12_odds_14 : decode cX12_odds 14 = .ok (.ifCond .eq 12, 3) := by decide +kernel
theorem dX12_odds_17 : decode cX12_odds 17 = .ok (.iload_n 3, 1) := by decide +kernel
theorem dX12_odds_18 : decode cX12_odds 18 = .ok (.iconst 0, 1) := by decide +kernel
theorem dX12_odds_19 : decode cX12_odds 19 = .ok (.iconst 1, 1) := by decide +kernel
theorem dX12_odds_20 : decode cX12_odds 20 = .ok (.invokestatic 344, 3) := by decide +kernel
theorem dX12_odds_23 : decode cX12_odds 23 = .ok (.ifCond .ne 5, 3) := by decide +kernel
theorem dX12_odds_26 : decode cX12_odds 26 = .ok (.iconst (-1), 1) := by decide +kernel
theorem dX12_odds_27 : decode cX12_odds 27 = .ok (.ireturn, 1) := by decide +kernel
theorem dX12_odds_28 : decode cX12_odds 28 = .ok (.bipush 100, 2) := by decide +kernel
theorem dX12_odds_30 : decode cX12_odds 30 = .ok (.aload_n 0, 1) := by decide +kernel
theorem dX12_odds_31 : decode cX12_odds 31 = .ok (.getfield 36, 3) := by decide +kernel
theorem dX12_odds_34 : decode cX12_odds 34 = .ok (.aload_n 0, 1) := by decide +kernel
theorem dX12_odds_35 : decode cX12_odds 35 = .ok (.getfield 255, 3) := by decide +kernel
theorem dX12_odds_38 : decode cX12_odds 38 = .ok (.iaload, 1) := by decide +kernel
theorem dX12_odds_39 : decode cX12_odds 39 = .ok (.isub, 1) := by decide +kernel
theorem dX12_odds_40 : decode cX12_odds 40 = .ok (.iload_n 2, 1) := by decide +kernel
theorem dX12_odds_41 : decode cX12_odds 41 = .ok (.invokestatic 454, 3) := by decide +kernel
theorem dX12_odds_44 : decode cX12_odds 44 = .ok (.istore 4, 2) := by decide +kernel
theorem dX12_odds_46 : decode cX12_odds 46 = .ok (.bipush 100, 2) := by decide +kernel
theorem dX12_odds_48 : decode cX12_odds 48 = .ok (.iload_n 2, 1) := by decide +kernel
theorem dX12_odds_49 : decode cX12_odds 49 = .ok (.invokestatic 454, 3) := by decide +kernel
theorem dX12_odds_52 : decode cX12_odds 52 = .ok (.istore 5, 2) := by decide +kernel
theorem dX12_odds_54 : decode cX12_odds 54 = .ok (.iload_n 3, 1) := by decide +kernel
theorem dX12_odds_55 : decode cX12_odds 55 = .ok (.ifCond .ne 8, 3) := by decide +kernel
theorem dX12_odds_58 : decode cX12_odds 58 = .ok (.iload 4, 2) := by decide +kernel
theorem dX12_odds_60 : decode cX12_odds 60 = .ok (.goto 5, 3) := by decide +kernel
theorem dX12_odds_63 : decode cX12_odds 63 = .ok (.iload 5, 2) := by decide +kernel
theorem dX12_odds_65 : decode cX12_odds 65 = .ok (.iload 5, 2) := by decide +kernel
theorem dX12_odds_67 : decode cX12_odds 67 = .ok (.iload 4, 2) := by decide +kernel
theorem dX12_odds_69 : decode cX12_odds 69 = .ok (.invokestatic 457, 3) := by decide +kernel
theorem dX12_odds_72 : decode cX12_odds 72 = .ok (.idiv, 1) := by decide +kernel
theorem dX12_odds_73 : decode cX12_odds 73 = .ok (.ireturn, 1) := by decide +kernel
def kX12_odds_26 (n : Nat) : mK := i_cst (.int (-1)) (i_rI)
set_option maxRecDepth 20000 in
theorem okX12_odds_26 {E : mE} {X : State → Heap → Prop} {l : Launch} (hX : mXok E X) (n : Nat) : Sd E X l yX12_odds cX12_odds 6 (some .int) 4 0 0 0 0 26 (kX12_odds_26 n) := s_iconst dX12_odds_26 (by decide) (s_rI dX12_odds_27 (Nat.le_of_ble_eq_true rfl) (Nat.le_of_ble_eq_true rfl))
def kX12_odds_65 (n : Nat) : mK := i_ldI 5 (i_ldI 4 (i_cS 2 (FX12_divisor n) (i_dv (fun x y => x / y) (i_rI))))
set_option maxRecDepth 20000 in
theorem okX12_odds_65 {E : mE} {X : State → Heap → Prop} {l : Launch} (hX : mXok E X) (n : Nat) : Sd E X l yX12_odds cX12_odds 6 (some .int) 4 0 0 0 0 65 (kX12_odds_65 n) := s_iload dX12_odds_65 (s_iload dX12_odds_67 (s_cS dX12_odds_69 lMX12_457 bSX12_divisor (CtX12_divisor hX n) (Nat.le_of_ble_eq_true rfl) (s_idiv dX12_odds_72 (s_rI dX12_odds_73 (Nat.le_of_ble_eq_true rfl) (Nat.le_of_ble_eq_true rfl))) (Nat.le_of_ble_eq_true rfl) (Nat.le_of_ble_eq_true rfl)))
def kX12_odds_46 (n : Nat) : mK := i_cst (.int (100)) (i_ldI 2 (i_cS 2 (FX12_power n) (i_stI 5 (i_ldI 3 (i_c0 (fun x => decide (¬ x = 0)) (i_ldI 5 (kX12_odds_65 n)) (i_ldI 4 ((kX12_odds_65 n))))))))
set_option maxRecDepth 20000 in
theorem okX12_odds_46 {E : mE} {X : State → Heap → Prop} {l : Launch} (hX : mXok E X) (n : Nat) : Sd E X l yX12_odds cX12_odds 6 (some .int) 4 0 0 0 0 46 (kX12_odds_46 n) := s_bipush dX12_odds_46 (by decide) (s_iload_n dX12_odds_48 rfl (s_cS dX12_odds_49 lMX12_454 bSX12_power (CtX12_power hX n) (Nat.le_of_ble_eq_true rfl) (s_istore dX12_odds_52 (s_iload_n dX12_odds_54 rfl (s_ifne dX12_odds_55 (by decide) (s_iload dX12_odds_63 (okX12_odds_65 hX n)) (s_iload dX12_odds_58 (s_goto dX12_odds_60 (by decide) (okX12_odds_65 hX n)))))) (Nat.le_of_ble_eq_true rfl) (Nat.le_of_ble_eq_true rfl)))
def kX12_odds_0 (n : Nat) : mK := i_ldA 0 (i_ldI 1 (i_cV 12 1 (FX12_isHere n) (i_c0 (fun x => decide (x = 0)) (kX12_odds_26 n) (i_ldI 2 (i_cst (.int (0)) (i_cst (.int (4)) (i_cS 3 (FX12_isIn n) (i_c0 (fun x => decide (x = 0)) (kX12_odds_26 n) (i_ldI 3 (i_cst (.int (0)) (i_cst (.int (1)) (i_cS 3 (FX12_isIn n) (i_c0 (fun x => decide (¬ x = 0)) (i_cst (.int (100)) (i_ldA 0 (i_gA 12 16 (i_ldA 0 (i_gI 12 31 (i_al 0 (i_bin (fun x y => x - y) (i_ldI 2 (i_cS 2 (FX12_power n) (i_stI 4 (kX12_odds_46 n))))))))))) (kX12_odds_26 n))))))))))))))
set_option maxRecDepth 20000 in
theorem okX12_odds_0 {E : mE} {X : State → Heap → Prop} {l : Launch} (hX : mXok E X) (n : Nat) : Sd E X l yX12_odds cX12_odds 6 (some .int) 4 0 0 0 0 0 (kX12_odds_0 n) := s_aload_n dX12_odds_0 rfl (s_iload_n dX12_odds_1 rfl (s_cV dX12_odds_2 lMX12_396 bVX12_isHere rfl (CtX12_isHere hX n) (Nat.le_of_ble_eq_true rfl) (s_ifeq dX12_odds_5 (by decide) (okX12_odds_26 hX n) (s_iload_n dX12_odds_8 rfl (s_iconst dX12_odds_9 (by decide) (s_iconst dX12_odds_10 (by decide) (s_cS dX12_odds_11 lMX12_344 bSX12_isIn (CtX12_isIn hX n) (Nat.le_of_ble_eq_true rfl) (s_ifeq dX12_odds_14 (by decide) (okX12_odds_26 hX n) (s_iload_n dX12_odds_17 rfl (s_iconst dX12_odds_18 (by decide) (s_iconst dX12_odds_19 (by decide) (s_cS dX12_odds_20 lMX12_344 bSX12_isIn (CtX12_isIn hX n) (Nat.le_of_ble_eq_true rfl) (s_ifne dX12_odds_23 (by decide) (s_bipush dX12_odds_28 (by decide) (s_aload_n dX12_odds_30 rfl (s_gA dX12_odds_31 lFX12_36 (s_aload_n dX12_odds_34 rfl (s_gI dX12_odds_35 lFX12_255 (by decide) (s_iald dX12_odds_38 (s_isub dX12_odds_39 (s_iload_n dX12_odds_40 rfl (s_cS dX12_odds_41 lMX12_454 bSX12_power (CtX12_power hX n) (Nat.le_of_ble_eq_true rfl) (s_istore dX12_odds_44 (okX12_odds_46 hX n)) (Nat.le_of_ble_eq_true rfl) (Nat.le_of_ble_eq_true rfl)))))))))) (okX12_odds_26 hX n)) (Nat.le_of_ble_eq_true rfl) (Nat.le_of_ble_eq_true rfl)))))) (Nat.le_of_ble_eq_true rfl) (Nat.le_of_ble_eq_true rfl)))))) (Nat.le_of_ble_eq_true rfl) (Nat.le_of_ble_eq_true rfl)))
def FX12_odds (n : Nat) : List Value → mM → Option mR := mfn 6 (kX12_odds_0 n)
theorem CtX12_odds {E : mE} {X : State → Heap → Prop} {l : Launch} (hX : mXok E X) (n : Nat) : Ct E X l yX12_odds cX12_odds 6 (some .int) 4 0 0 (FX12_odds n) := Ct_of (by decide) hX (okX12_odds_0 hX n)
theorem dX12_order_0 : decode cX12_order 0 = .ok (.aload_n 0, 1) := by decide +kernel
theorem dX12_order_1 : decode cX12_order 1 = .ok (.invokevirtual 424, 3) := by decide +kernel
theorem dX12_order_4 : decode cX12_order 4 = .ok (.aload_n 0, 1) := by decide +kernel
theorem dX12_order_5 : decode cX12_order 5 = .ok (.aload_n 0, 1) := by decide +kernel
theorem dX12_order_6 : decode cX12_order 6 = .ok (.invokevirtual 328, 3) := by decide +kernel
theorem dX12_order_9 : decode cX12_order 9 = .ok (.invokevirtual 427, 3) := by decide +kernel
theorem dX12_order_12 : decode cX12_order 12 = .ok (.istore_n 1, 1) := by decide +kernel
theorem dX12_order_13 : decode cX12_order 13 = .ok (.aload_n 0, 1) := by decide +kernel
theorem dX12_order_14 : decode cX12_order 14 = .ok (.iload_n 1, 1) := by decide +kernel
theorem dX12_order_15 : decode cX12_order 15 = .ok (.aload_n 0, 1) := by decide +kernel
theorem dX12_order_16 : decode cX12_order 16 = .ok (.invokevirtual 328, 3) := by decide +kernel
theorem dX12_order_19 : decode cX12_order 19 = .ok (.invokestatic 331, 3) := by decide +kernel
theorem dX12_order_22 : decode cX12_order 22 = .ok (.if_icmp .ne 7, 3) := by decide +kernel
theorem dX12_order_25 : decode cX12_order 25 = .ok (.iload_n 1, 1) := by decide +kernel
theorem dX12_order_26 : decode cX12_order 26 = .ok (.goto 4, 3) := by decide +kernel
theorem dX12_order_29 : decode cX12_order 29 = .ok (.iconst 0, 1) := by decide +kernel
theorem dX12_order_30 : decode cX12_order 30 = .ok (.putfield 366, 3) := by decide +kernel
theorem dX12_order_33 : decode cX12_order 33 = .ok (.iload_n 1, 1) := by decide +kernel
theorem dX12_order_34 : decode cX12_order 34 = .ok (.aload_n 0, 1) := by decide +kernel
theorem dX12_order_35 : decode cX12_order 35 = .ok (.invokevirtual 328, 3) := by decide +kernel
theorem dX12_order_38 : decode cX12_order 38 = .ok (.invokestatic 331, 3) := by decide +kernel
theorem dX12_order_41 : decode cX12_order 41 = .ok (.if_icmp .ne 7, 3) := by decide +kernel
theorem dX12_order_44 : decode cX12_order 44 = .ok (.iload_n 1, 1) := by decide +kernel
theorem dX12_order_45 : decode cX12_order 45 = .ok (.goto 4, 3) := by decide +kernel
theorem dX12_order_48 : decode cX12_order 48 = .ok (.iconst (-1), 1) := by decide +kernel
theorem dX12_order_49 : decode cX12_order 49 = .ok (.ireturn, 1) := by decide +kernel
def kX12_order_49 (n : Nat) : mK := i_rI
set_option maxRecDepth 20000 in
theorem okX12_order_49 {E : mE} {X : State → Heap → Prop} {l : Launch} (hX : mXok E X) (n : Nat) : Sd E X l yX12_order cX12_order 2 (some .int) 4 0 0 0 0 49 (kX12_order_49 n) := s_rI dX12_order_49 (Nat.le_of_ble_eq_true rfl) (Nat.le_of_ble_eq_true rfl)
def kX12_order_30 (n : Nat) : mK := i_pI 12 48 (i_ldI 1 (i_ldA 0 (i_cV 12 0 (FX12_those n) (i_cS 1 (FX12_bitsOf n) (i_c2 (fun x y => decide (¬ x = y)) (i_cst (.int (-1)) (kX12_order_49 n)) (i_ldI 1 ((kX12_order_49 n))))))))
set_option maxRecDepth 20000 in
theorem okX12_order_30 {E : mE} {X : State → Heap → Prop} {l : Launch} (hX : mXok E X) (n : Nat) : Sd E X l yX12_order cX12_order 2 (some .int) 4 0 0 0 0 30 (kX12_order_30 n) := s_pI dX12_order_30 lFX12_366 (s_iload_n dX12_order_33 rfl (s_aload_n dX12_order_34 rfl (s_cV dX12_order_35 lMX12_328 bVX12_those rfl (CtX12_those hX n) (Nat.le_of_ble_eq_true rfl) (s_cS dX12_order_38 lMX12_331 bSX12_bitsOf (CtX12_bitsOf hX n) (Nat.le_of_ble_eq_true rfl) (s_icne dX12_order_41 (by decide) (s_iconst dX12_order_48 (by decide) (okX12_order_49 hX n)) (s_iload_n dX12_order_44 rfl (s_goto dX12_order_45 (by decide) (okX12_order_49 hX n)))) (Nat.le_of_ble_eq_true rfl) (Nat.le_of_ble_eq_true rfl)) (Nat.le_of_ble_eq_true rfl) (Nat.le_of_ble_eq_true rfl))))
def kX12_order_0 (n : Nat) : mK := i_ldA 0 (i_cV 12 0 (FX12_layBars n) (i_ldA 0 (i_ldA 0 (i_cV 12 0 (FX12_those n) (i_cV 12 1 (FX12_comeOff n) (i_stI 1 (i_ldA 0 (i_ldI 1 (i_ldA 0 (i_cV 12 0 (FX12_those n) (i_cS 1 (FX12_bitsOf n) (i_c2 (fun x y => decide (¬ x = y)) (i_cst (.int (0)) (kX12_order_30 n)) (i_ldI 1 ((kX12_order_30 n)))))))))))))))
set_option maxRecDepth 20000 in
theorem okX12_order_0 {E : mE} {X : State → Heap → Prop} {l : Launch} (hX : mXok E X) (n : Nat) : Sd E X l yX12_order cX12_order 2 (some .int) 4 0 0 0 0 0 (kX12_order_0 n) := s_aload_n dX12_order_0 rfl (s_cV dX12_order_1 lMX12_424 bVX12_layBars rfl (CtX12_layBars hX n) (Nat.le_of_ble_eq_true rfl) (s_aload_n dX12_order_4 rfl (s_aload_n dX12_order_5 rfl (s_cV dX12_order_6 lMX12_328 bVX12_those rfl (CtX12_those hX n) (Nat.le_of_ble_eq_true rfl) (s_cV dX12_order_9 lMX12_427 bVX12_comeOff rfl (CtX12_comeOff hX n) (Nat.le_of_ble_eq_true rfl) (s_istore_n dX12_order_12 rfl (s_aload_n dX12_order_13 rfl (s_iload_n dX12_order_14 rfl (s_aload_n dX12_order_15 rfl (s_cV dX12_order_16 lMX12_328 bVX12_those rfl (CtX12_those hX n) (Nat.le_of_ble_eq_true rfl) (s_cS dX12_order_19 lMX12_331 bSX12_bitsOf (CtX12_bitsOf hX n) (Nat.le_of_ble_eq_true rfl) (s_icne dX12_order_22 (by decide) (s_iconst dX12_order_29 (by decide) (okX12_order_30 hX n)) (s_iload_n dX12_order_25 rfl (s_goto dX12_order_26 (by decide) (okX12_order_30 hX n)))) (Nat.le_of_ble_eq_true rfl) (Nat.le_of_ble_eq_true rfl)) (Nat.le_of_ble_eq_true rfl) (Nat.le_of_ble_eq_true rfl)))))) (Nat.le_of_ble_eq_true rfl) (Nat.le_of_ble_eq_true rfl)) (Nat.le_of_ble_eq_true rfl) (Nat.le_of_ble_eq_true rfl)))) (Nat.le_of_ble_eq_true rfl) (Nat.le_of_ble_eq_true rfl))
def FX12_order (n : Nat) : List Value → mM → Option mR := mfn 2 (kX12_order_0 n)
theorem CtX12_order {E : mE} {X : State → Heap → Prop} {l : Launch} (hX : mXok E X) (n : Nat) : Ct E X l yX12_order cX12_order 2 (some .int) 4 0 0 (FX12_order n) := Ct_of (by decide) hX (okX12_order_0 hX n)
theorem dX12_polish_0 : decode cX12_polish 0 = .ok (.aload_n 0, 1) := by decide +kernel
theorem dX12_polish_1 : decode cX12_polish 1 = .ok (.iload_n 1, 1) := by decide +kernel
theorem dX12_polish_2 : decode cX12_polish 2 = .ok (.invokevirtual 396, 3) := by decide +kernel
theorem dX12_polish_5 : decode cX12_polish 5 = .ok (.ifCond .eq 17, 3) := by decide +kernel
theorem dX12_polish_8 : decode cX12_polish 8 = .ok (.aload_n 0, 1) := by decide +kernel
theorem dX12_polish_9 : decode cX12_polish 9 = .ok (.getfield 82, 3) := by decide +kernel
theorem dX12_polish_12 : decode cX12_polish 12 = .ok (.bipush 24, 2) := by decide +kernel
theorem dX12_polish_14 : decode cX12_polish 14 = .ok (.iload_n 1, 1) := by decide +kernel
theorem dX12_polish_15 : decode cX12_polish 15 = .ok (.iadd, 1) := by decide +kernel
theorem dX12_polish_16 : decode cX12_polish 16 = .ok (.iaload, 1) := by decide +kernel
theorem dX12_polish_17 : decode cX12_polish 17 = .ok (.bipush 9, 2) := by decide +kernel
theorem dX12_polish_19 : decode cX12_polish 19 = .ok (.if_icmp .ne 5, 3) := by decide +kernel
theorem dX12_polish_22 : decode cX12_polish 22 = .ok (.iconst (-1), 1) := by decide +kernel
theorem dX12_polish_23 : decode cX12_polish 23 = .ok (.ireturn, 1) := by decide +kernel
theorem dX12_polish_24 : decode cX12_polish 24 = .ok (.aload_n 0, 1) := by decide +kernel
theorem dX12_polish_25 : decode cX12_polish 25 = .ok (.invokevirtual 412, 3) := by decide +kernel
theorem dX12_polish_28 : decode cX12_polish 28 = .ok (.aload_n 0, 1) := by decide +kernel
theorem dX12_polish_29 : decode cX12_polish 29 = .ok (.getfield 82, 3) := by decide +kernel
theorem dX12_polish_32 : decode cX12_polish 32 = .ok (.bipush 24, 2) := by decide +kernel
theorem dX12_polish_34 : decode cX12_polish 34 = .ok (.iload_n 1, 1) := by decide +kernel
theorem dX12_polish_35 : decode cX12_polish 35 = .ok (.iadd, 1) := by decide +kernel
theorem dX12_polish_36 : decode cX12_polish 36 = .ok (.dup2, 1) := by decide +kernel
theorem dX12_polish_37 : decode cX12_polish 37 = .ok (.iaload, 1) := by decide +kernel
theorem dX12_polish_38 : decode cX12_polish 38 = .ok (.iconst 1, 1) := by decide +kernel
theorem dX12_polish_39 : decode cX12_polish 39 = .ok (.iadd, 1) := by decide +kernel
theorem dX12_polish_40 : decode cX12_polish 40 = .ok (.iastore, 1) := by decide +kernel
theorem dX12_polish_41 : decode cX12_polish 41 = .ok (.aload_n 0, 1) := by decide +kernel
theorem dX12_polish_42 : decode cX12_polish 42 = .ok (.getfield 82, 3) := by decide +kernel
theorem dX12_polish_45 : decode cX12_polish 45 = .ok (.bipush 24, 2) := by decide +kernel
theorem dX12_polish_47 : decode cX12_polish 47 = .ok (.iload_n 1, 1) := by decide +kernel
theorem dX12_polish_48 : decode cX12_polish 48 = .ok (.iadd, 1) := by decide +kernel
theorem dX12_polish_49 : decode cX12_polish 49 = .ok (.iaload, 1) := by decide +kernel
theorem dX12_polish_50 : decode cX12_polish 50 = .ok (.ireturn, 1) := by decide +kernel
def kX12_polish_22 (n : Nat) : mK := i_cst (.int (-1)) (i_rI)
set_option maxRecDepth 20000 in
theorem okX12_polish_22 {E : mE} {X : State → Heap → Prop} {l : Launch} (hX : mXok E X) (n : Nat) : Sd E X l yX12_polish cX12_polish 2 (some .int) 4 0 0 0 0 22 (kX12_polish_22 n) := s_iconst dX12_polish_22 (by decide) (s_rI dX12_polish_23 (Nat.le_of_ble_eq_true rfl) (Nat.le_of_ble_eq_true rfl))
def kX12_polish_41 (n : Nat) : mK := i_ldA 0 (i_gA 12 39 (i_cst (.int (24)) (i_ldI 1 (i_bin (fun x y => x + y) (i_al 0 (i_rI))))))
set_option maxRecDepth 20000 in
theorem okX12_polish_41 {E : mE} {X : State → Heap → Prop} {l : Launch} (hX : mXok E X) (n : Nat) : Sd E X l yX12_polish cX12_polish 2 (some .int) 4 0 0 0 0 41 (kX12_polish_41 n) := s_aload_n dX12_polish_41 rfl (s_gA dX12_polish_42 lFX12_82 (s_bipush dX12_polish_45 (by decide) (s_iload_n dX12_polish_47 rfl (s_iadd dX12_polish_48 (s_iald dX12_polish_49 (s_rI dX12_polish_50 (Nat.le_of_ble_eq_true rfl) (Nat.le_of_ble_eq_true rfl)))))))
def kX12_polish_0 (n : Nat) : mK := i_ldA 0 (i_ldI 1 (i_cV 12 1 (FX12_isHere n) (i_c0 (fun x => decide (x = 0)) (kX12_polish_22 n) (i_ldA 0 (i_gA 12 39 (i_cst (.int (24)) (i_ldI 1 (i_bin (fun x y => x + y) (i_al 0 (i_cst (.int (9)) (i_c2 (fun x y => decide (¬ x = y)) (i_ldA 0 (i_cV 12 0 (FX12_keepAct n) (i_ldA 0 (i_gA 12 39 (i_cst (.int (24)) (i_ldI 1 (i_bin (fun x y => x + y) (i_dp2 (i_al 0 (i_cst (.int (1)) (i_bin (fun x y => x + y) (i_as 0 (kX12_polish_41 n))))))))))))) (kX12_polish_22 n))))))))))))
set_option maxRecDepth 20000 in
theorem okX12_polish_0 {E : mE} {X : State → Heap → Prop} {l : Launch} (hX : mXok E X) (n : Nat) : Sd E X l yX12_polish cX12_polish 2 (some .int) 4 0 0 0 0 0 (kX12_polish_0 n) := s_aload_n dX12_polish_0 rfl (s_iload_n dX12_polish_1 rfl (s_cV dX12_polish_2 lMX12_396 bVX12_isHere rfl (CtX12_isHere hX n) (Nat.le_of_ble_eq_true rfl) (s_ifeq dX12_polish_5 (by decide) (okX12_polish_22 hX n) (s_aload_n dX12_polish_8 rfl (s_gA dX12_polish_9 lFX12_82 (s_bipush dX12_polish_12 (by decide) (s_iload_n dX12_polish_14 rfl (s_iadd dX12_polish_15 (s_iald dX12_polish_16 (s_bipush dX12_polish_17 (by decide) (s_icne dX12_polish_19 (by decide) (s_aload_n dX12_polish_24 rfl (s_cV dX12_polish_25 lMX12_412 bVX12_keepAct rfl (CtX12_keepAct hX n) (Nat.le_of_ble_eq_true rfl) (s_aload_n dX12_polish_28 rfl (s_gA dX12_polish_29 lFX12_82 (s_bipush dX12_polish_32 (by decide) (s_iload_n dX12_polish_34 rfl (s_iadd dX12_polish_35 (s_dup2 dX12_polish_36 (s_iald dX12_polish_37 (s_iconst dX12_polish_38 (by decide) (s_iadd dX12_polish_39 (s_iast dX12_polish_40 (okX12_polish_41 hX n))))))))))) (Nat.le_of_ble_eq_true rfl) (Nat.le_of_ble_eq_true rfl))) (okX12_polish_22 hX n)))))))))) (Nat.le_of_ble_eq_true rfl) (Nat.le_of_ble_eq_true rfl)))
def FX12_polish (n : Nat) : List Value → mM → Option mR := mfn 2 (kX12_polish_0 n)
theorem CtX12_polish {E : mE} {X : State → Heap → Prop} {l : Launch} (hX : mXok E X) (n : Nat) : Ct E X l yX12_polish cX12_polish 2 (some .int) 4 0 0 (FX12_polish n) := Ct_of (by decide) hX (okX12_polish_0 hX n)
theorem dX12_put_0 : decode cX12_put 0 = .ok (.aload_n 0, 1) := by decide +kernel
theorem dX12_put_1 : decode cX12_put 1 = .ok (.iload_n 1, 1) := by decide +kernel
theorem dX12_put_2 : decode cX12_put 2 = .ok (.invokevirtual 348, 3) := by decide +kernel
theorem dX12_put_5 : decode cX12_put 5 = .ok (.ifCond .eq 27, 3) := by decide +kernel
theorem dX12_put_8 : decode cX12_put 8 = .ok (.aload_n 0, 1) := by decide +kernel
theorem dX12_put_9 : decode cX12_put 9 = .ok (.iload_n 1, 1) := by decide +kernel
theorem dX12_put_10 : decode cX12_put 10 = .ok (.invokevirtual 396, 3) := by decide +kernel
theorem dX12_put_13 : decode cX12_put 13 = .ok (.ifCond .ne 19, 3) := by decide +kernel
theorem dX12_put_16 : decode cX12_put 16 = .ok (.aload_n 0, 1) := by decide +kernel
theorem dX12_put_17 : decode cX12_put 17 = .ok (.iload_n 2, 1) := by decide +kernel
theorem dX12_put_18 : decode cX12_put 18 = .ok (.invokevirtual 390, 3) := by decide +kernel
theorem dX12_put_21 : decode cX12_put 21 = .ok (.ifCond .eq 11, 3) := by decide +kernel
theorem dX12_put_24 : decode cX12_put 24 = .ok (.aload_n 0, 1) := by decide +kernel
theorem dX12_put_25 : decode cX12_put 25 = .ok (.iload_n 2, 1) := by decide +kernel
theorem dX12_put_26 : decode cX12_put 26 = .ok (.invokevirtual 393, 3) := by decide +kernel
theorem dX12_put_29 : decode cX12_put 29 = .ok (.ifCond .lt 5, 3) := by decide +kernel
theorem dX12_put_32 : decode cX12_put 32 = .ok (.iconst (-1), 1) := by decide +kernel
theorem dX12_put_33 : decode cX12_put 33 = .ok (.ireturn, 1) := by decide +kernel
theorem dX12_put_34 : decode cX12_put 34 = .ok (.aload_n 0, 1) := by decide +kernel
theorem dX12_put_35 : decode cX12_put 35 = .ok (.invokevirtual 412, 3) := by decide +kernel
theorem dX12_put_38 : decode cX12_put 38 = .ok (.aload_n 0, 1) := by decide +kernel
theorem dX12_put_39 : decode cX12_put 39 = .ok (.getfield 82, 3) := by decide +kernel
theorem dX12_put_42 : decode cX12_put 42 = .ok (.iconst 0, 1) := by decide +kernel
theorem dX12_put_43 : decode cX12_put 43 = .ok (.iload_n 1, 1) := by decide +kernel
theorem dX12_put_44 : decode cX12_put 44 = .ok (.iadd, 1) := by decide +kernel
theorem dX12_put_45 : decode cX12_put 45 = .ok (.iload_n 2, 1) := by decide +kernel
theorem dX12_put_46 : decode cX12_put 46 = .ok (.iastore, 1) := by decide +kernel
theorem dX12_put_47 : decode cX12_put 47 = .ok (.aload_n 0, 1) := by decide +kernel
theorem dX12_put_48 : decode cX12_put 48 = .ok (.iload_n 1, 1) := by decide +kernel
theorem dX12_put_49 : decode cX12_put 49 = .ok (.invokevirtual 372, 3) := by decide +kernel
theorem dX12_put_52 : decode cX12_put 52 = .ok (.ireturn, 1) := by decide +kernel
def kX12_put_32 (n : Nat) : mK := i_cst (.int (-1)) (i_rI)
set_option maxRecDepth 20000 in
theorem okX12_put_32 {E : mE} {X : State → Heap → Prop} {l : Launch} (hX : mXok E X) (n : Nat) : Sd E X l yX12_put cX12_put 3 (some .int) 4 0 0 0 0 32 (kX12_put_32 n) := s_iconst dX12_put_32 (by decide) (s_rI dX12_put_33 (Nat.le_of_ble_eq_true rfl) (Nat.le_of_ble_eq_true rfl))
def kX12_put_46 (n : Nat) : mK := i_as 0 (i_ldA 0 (i_ldI 1 (i_cV 12 1 (FX12_barsOf n) (i_rI))))
set_option maxRecDepth 20000 in
theorem okX12_put_46 {E : mE} {X : State → Heap → Prop} {l : Launch} (hX : mXok E X) (n : Nat) : Sd E X l yX12_put cX12_put 3 (some .int) 4 0 0 0 0 46 (kX12_put_46 n) := s_iast dX12_put_46 (s_aload_n dX12_put_47 rfl (s_iload_n dX12_put_48 rfl (s_cV dX12_put_49 lMX12_372 bVX12_barsOf rfl (CtX12_barsOf hX n) (Nat.le_of_ble_eq_true rfl) (s_rI dX12_put_52 (Nat.le_of_ble_eq_true rfl) (Nat.le_of_ble_eq_true rfl)) (Nat.le_of_ble_eq_true rfl) (Nat.le_of_ble_eq_true rfl))))
def kX12_put_0 (n : Nat) : mK := i_ldA 0 (i_ldI 1 (i_cV 12 1 (FX12_isCar n) (i_c0 (fun x => decide (x = 0)) (kX12_put_32 n) (i_ldA 0 (i_ldI 1 (i_cV 12 1 (FX12_isHere n) (i_c0 (fun x => decide (¬ x = 0)) (kX12_put_32 n) (i_ldA 0 (i_ldI 2 (i_cV 12 1 (FX12_isSpot n) (i_c0 (fun x => decide (x = 0)) (kX12_put_32 n) (i_ldA 0 (i_ldI 2 (i_cV 12 1 (FX12_whoAt n) (i_c0 (fun x => decide (x < 0)) (i_ldA 0 (i_cV 12 0 (FX12_keepAct n) (i_ldA 0 (i_gA 12 39 (i_cst (.int (0)) (i_ldI 1 (i_bin (fun x y => x + y) (i_ldI 2 (kX12_put_46 n))))))))) (kX12_put_32 n))))))))))))))))
set_option maxRecDepth 20000 in
theorem okX12_put_0 {E : mE} {X : State → Heap → Prop} {l : Launch} (hX : mXok E X) (n : Nat) : Sd E X l yX12_put cX12_put 3 (some .int) 4 0 0 0 0 0 (kX12_put_0 n) := s_aload_n dX12_put_0 rfl (s_iload_n dX12_put_1 rfl (s_cV dX12_put_2 lMX12_348 bVX12_isCar rfl (CtX12_isCar hX n) (Nat.le_of_ble_eq_true rfl) (s_ifeq dX12_put_5 (by decide) (okX12_put_32 hX n) (s_aload_n dX12_put_8 rfl (s_iload_n dX12_put_9 rfl (s_cV dX12_put_10 lMX12_396 bVX12_isHere rfl (CtX12_isHere hX n) (Nat.le_of_ble_eq_true rfl) (s_ifne dX12_put_13 (by decide) (okX12_put_32 hX n) (s_aload_n dX12_put_16 rfl (s_iload_n dX12_put_17 rfl (s_cV dX12_put_18 lMX12_390 bVX12_isSpot rfl (CtX12_isSpot hX n) (Nat.le_of_ble_eq_true rfl) (s_ifeq dX12_put_21 (by decide) (okX12_put_32 hX n) (s_aload_n dX12_put_24 rfl (s_iload_n dX12_put_25 rfl (s_cV dX12_put_26 lMX12_393 bVX12_whoAt rfl (CtX12_whoAt hX n) (Nat.le_of_ble_eq_true rfl) (s_iflt dX12_put_29 (by decide) (s_aload_n dX12_put_34 rfl (s_cV dX12_put_35 lMX12_412 bVX12_keepAct rfl (CtX12_keepAct hX n) (Nat.le_of_ble_eq_true rfl) (s_aload_n dX12_put_38 rfl (s_gA dX12_put_39 lFX12_82 (s_iconst dX12_put_42 (by decide) (s_iload_n dX12_put_43 rfl (s_iadd dX12_put_44 (s_iload_n dX12_put_45 rfl (okX12_put_46 hX n))))))) (Nat.le_of_ble_eq_true rfl) (Nat.le_of_ble_eq_true rfl))) (okX12_put_32 hX n)) (Nat.le_of_ble_eq_true rfl) (Nat.le_of_ble_eq_true rfl))))) (Nat.le_of_ble_eq_true rfl) (Nat.le_of_ble_eq_true rfl))))) (Nat.le_of_ble_eq_true rfl) (Nat.le_of_ble_eq_true rfl))))) (Nat.le_of_ble_eq_true rfl) (Nat.le_of_ble_eq_true rfl)))
def FX12_put (n : Nat) : List Value → mM → Option mR := mfn 3 (kX12_put_0 n)
theorem CtX12_put {E : mE} {X : State → Heap → Prop} {l : Launch} (hX : mXok E X) (n : Nat) : Ct E X l yX12_put cX12_put 3 (some .int) 4 0 0 (FX12_put n) := Ct_of (by decide) hX (okX12_put_0 hX n)
