theorem dJ0_coder_7d493_0 : decode cJ0_coder_7d493 0 = .ok (.getstatic 38, 3) := by decide +kernel
theorem dJ0_coder_7d493_3 : decode cJ0_coder_7d493 3 = .ok (.ifCond .eq 10, 3) := by decide +kernel
theorem dJ0_coder_7d493_6 : decode cJ0_coder_7d493 6 = .ok (.aload_n 0, 1) := by decide +kernel
theorem dJ0_coder_7d493_7 : decode cJ0_coder_7d493 7 = .ok (.getfield 15, 3) := by decide +kernel
theorem dJ0_coder_7d493_10 : decode cJ0_coder_7d493 10 = .ok (.goto 4, 3) := by decide +kernel
theorem dJ0_coder_7d493_13 : decode cJ0_coder_7d493 13 = .ok (.iconst 1, 1) := by decide +kernel
theorem dJ0_coder_7d493_14 : decode cJ0_coder_7d493 14 = .ok (.ireturn, 1) := by decide +kernel
def kJ0_coder_7d493_14 (n : Nat) : mK := i_rB
set_option maxRecDepth 20000 in
theorem okJ0_coder_7d493_14 {E : mE} {X : State → Heap → Prop} {l : Launch} (hX : mXok E X) (n : Nat) : Sd E X l yJ0_coder_7d493 cJ0_coder_7d493 1 (some .byte) 1 0 0 0 0 14 (kJ0_coder_7d493_14 n) := s_rB dJ0_coder_7d493_14 (Nat.le_of_ble_eq_true rfl) (Nat.le_of_ble_eq_true rfl)
def kJ0_coder_7d493_0 (n : Nat) : mK := i_cst (.int 1) (i_c0 (fun x => decide (x = 0)) (i_cst (.int (1)) (kJ0_coder_7d493_14 n)) (i_ldA 0 (i_xC ((kJ0_coder_7d493_14 n)))))
set_option maxRecDepth 20000 in
theorem okJ0_coder_7d493_0 {E : mE} {X : State → Heap → Prop} {l : Launch} (hX : mXok E X) (n : Nat) : Sd E X l yJ0_coder_7d493 cJ0_coder_7d493 1 (some .byte) 1 0 0 0 0 0 (kJ0_coder_7d493_0 n) := s_gsC dJ0_coder_7d493_0 lXJ0_38 (s_ifeq dJ0_coder_7d493_3 (by decide) (s_iconst dJ0_coder_7d493_13 (by decide) (okJ0_coder_7d493_14 hX n)) (s_aload_n dJ0_coder_7d493_6 rfl (s_xC dJ0_coder_7d493_7 lXJ0_15 (s_goto dJ0_coder_7d493_10 (by decide) (okJ0_coder_7d493_14 hX n)))))
def FJ0_coder_7d493 (n : Nat) : List Value → mM → Option mR := mfn 1 (kJ0_coder_7d493_0 n)
theorem CtJ0_coder_7d493 {E : mE} {X : State → Heap → Prop} {l : Launch} (hX : mXok E X) (n : Nat) : Ct E X l yJ0_coder_7d493 cJ0_coder_7d493 1 (some .byte) 1 0 0 (FJ0_coder_7d493 n) := Ct_of (by decide) hX (okJ0_coder_7d493_0 hX n)
theorem dJ0_isLatin1_aae02_0 : decode cJ0_isLatin1_aae02 0 = .ok (.getstatic 38, 3) := by decide +kernel
theorem dJ0_isLatin1_aae02_3 : decode cJ0_isLatin1_aae02 3 = .ok (.ifCond .eq 14, 3) := by decide +kernel
theorem dJ0_isLatin1_aae02_6 : decode cJ0_isLatin1_aae02 6 = .ok (.aload_n 0, 1) := by decide +kernel
theorem dJ0_isLatin1_aae02_7 : decode cJ0_isLatin1_aae02 7 = .ok (.getfield 15, 3) := by decide +kernel
theorem dJ0_isLatin1_aae02_10 : decode cJ0_isLatin1_aae02 10 = .ok (.ifCond .ne 7, 3) := by decide +kernel
theorem dJ0_isLatin1_aae02_13 : decode cJ0_isLatin1_aae02 13 = .ok (.iconst 1, 1) := by decide +kernel
theorem dJ0_isLatin1_aae02_14 : decode cJ0_isLatin1_aae02 14 = .ok (.goto 4, 3) := by decide +kernel
theorem dJ0_isLatin1_aae02_17 : decode cJ0_isLatin1_aae02 17 = .ok (.iconst 0, 1) := by decide +kernel
theorem dJ0_isLatin1_aae02_18 : decode cJ0_isLatin1_aae02 18 = .ok (.ireturn, 1) := by decide +kernel
def kJ0_isLatin1_aae02_18 (n : Nat) : mK := i_rZ
set_option maxRecDepth 20000 in
theorem okJ0_isLatin1_aae02_18 {E : mE} {X : State → Heap → Prop} {l : Launch} (hX : mXok E X) (n : Nat) : Sd E X l yJ0_isLatin1_aae02 cJ0_isLatin1_aae02 1 (some .boolean) 1 0 0 0 0 18 (kJ0_isLatin1_aae02_18 n) := s_rZ dJ0_isLatin1_aae02_18 (Nat.le_of_ble_eq_true rfl) (Nat.le_of_ble_eq_true rfl)
def kJ0_isLatin1_aae02_17 (n : Nat) : mK := i_cst (.int (0)) (kJ0_isLatin1_aae02_18 n)
set_option maxRecDepth 20000 in
theorem okJ0_isLatin1_aae02_17 {E : mE} {X : State → Heap → Prop} {l : Launch} (hX : mXok E X) (n : Nat) : Sd E X l yJ0_isLatin1_aae02 cJ0_isLatin1_aae02 1 (some .boolean) 1 0 0 0 0 17 (kJ0_isLatin1_aae02_17 n) := s_iconst dJ0_isLatin1_aae02_17 (by decide) (okJ0_isLatin1_aae02_18 hX n)
def kJ0_isLatin1_aae02_0 (n : Nat) : mK := i_cst (.int 1) (i_c0 (fun x => decide (x = 0)) (kJ0_isLatin1_aae02_17 n) (i_ldA 0 (i_xC (i_c0 (fun x => decide (¬ x = 0)) (kJ0_isLatin1_aae02_17 n) (i_cst (.int (1)) ((kJ0_isLatin1_aae02_18 n)))))))
set_option maxRecDepth 20000 in
theorem okJ0_isLatin1_aae02_0 {E : mE} {X : State → Heap → Prop} {l : Launch} (hX : mXok E X) (n : Nat) : Sd E X l yJ0_isLatin1_aae02 cJ0_isLatin1_aae02 1 (some .boolean) 1 0 0 0 0 0 (kJ0_isLatin1_aae02_0 n) := s_gsC dJ0_isLatin1_aae02_0 lXJ0_38 (s_ifeq dJ0_isLatin1_aae02_3 (by decide) (okJ0_isLatin1_aae02_17 hX n) (s_aload_n dJ0_isLatin1_aae02_6 rfl (s_xC dJ0_isLatin1_aae02_7 lXJ0_15 (s_ifne dJ0_isLatin1_aae02_10 (by decide) (okJ0_isLatin1_aae02_17 hX n) (s_iconst dJ0_isLatin1_aae02_13 (by decide) (s_goto dJ0_isLatin1_aae02_14 (by decide) (okJ0_isLatin1_aae02_18 hX n)))))))
def FJ0_isLatin1_aae02 (n : Nat) : List Value → mM → Option mR := mfn 1 (kJ0_isLatin1_aae02_0 n)
theorem CtJ0_isLatin1_aae02 {E : mE} {X : State → Heap → Prop} {l : Launch} (hX : mXok E X) (n : Nat) : Ct E X l yJ0_isLatin1_aae02 cJ0_isLatin1_aae02 1 (some .boolean) 1 0 0 (FJ0_isLatin1_aae02 n) := Ct_of (by decide) hX (okJ0_isLatin1_aae02_0 hX n)
theorem dJ1_canEncode_9a6ad_0 : decode cJ1_canEncode_9a6ad 0 = .ok (.iload_n 0, 1) := by decide +kernel
theorem dJ1_canEncode_9a6ad_1 : decode cJ1_canEncode_9a6ad 1 = .ok (.ifCond .lt 14, 3) := by decide +kernel
theorem dJ1_canEncode_9a6ad_4 : decode cJ1_canEncode_9a6ad 4 = .ok (.iload_n 0, 1) := by decide +kernel
theorem dJ1_canEncode_9a6ad_5 : decode cJ1_canEncode_9a6ad 5 = .ok (.sipush 255, 3) := by decide +kernel
theorem dJ1_canEncode_9a6ad_8 : decode cJ1_canEncode_9a6ad 8 = .ok (.if_icmp .gt 7, 3) := by decide +kernel
theorem dJ1_canEncode_9a6ad_11 : decode cJ1_canEncode_9a6ad 11 = .ok (.iconst 1, 1) := by decide +kernel
theorem dJ1_canEncode_9a6ad_12 : decode cJ1_canEncode_9a6ad 12 = .ok (.goto 4, 3) := by decide +kernel
theorem dJ1_canEncode_9a6ad_15 : decode cJ1_canEncode_9a6ad 15 = .ok (.iconst 0, 1) := by decide +kernel
theorem dJ1_canEncode_9a6ad_16 : decode cJ1_canEncode_9a6ad 16 = .ok (.ireturn, 1) := by decide +kernel
def kJ1_canEncode_9a6ad_16 (n : Nat) : mK := i_rZ
set_option maxRecDepth 20000 in
theorem okJ1_canEncode_9a6ad_16 {E : mE} {X : State → Heap → Prop} {l : Launch} (hX : mXok E X) (n : Nat) : Sd E X l yJ1_canEncode_9a6ad cJ1_canEncode_9a6ad 1 (some .boolean) 1 0 0 0 0 16 (kJ1_canEncode_9a6ad_16 n) := s_rZ dJ1_canEncode_9a6ad_16 (Nat.le_of_ble_eq_true rfl) (Nat.le_of_ble_eq_true rfl)
def kJ1_canEncode_9a6ad_15 (n : Nat) : mK := i_cst (.int (0)) (kJ1_canEncode_9a6ad_16 n)
set_option maxRecDepth 20000 in
theorem okJ1_canEncode_9a6ad_15 {E : mE} {X : State → Heap → Prop} {l : Launch} (hX : mXok E X) (n : Nat) : Sd E X l yJ1_canEncode_9a6ad cJ1_canEncode_9a6ad 1 (some .boolean) 1 0 0 0 0 15 (kJ1_canEncode_9a6ad_15 n) := s_iconst dJ1_canEncode_9a6ad_15 (by decide) (okJ1_canEncode_9a6ad_16 hX n)
def kJ1_canEncode_9a6ad_0 (n : Nat) : mK := i_ldI 0 (i_c0 (fun x => decide (x < 0)) (kJ1_canEncode_9a6ad_15 n) (i_ldI 0 (i_cst (.int (255)) (i_c2 (fun x y => decide (y < x)) (kJ1_canEncode_9a6ad_15 n) (i_cst (.int (1)) ((kJ1_canEncode_9a6ad_16 n)))))))
set_option maxRecDepth 20000 in
theorem okJ1_canEncode_9a6ad_0 {E : mE} {X : State → Heap → Prop} {l : Launch} (hX : mXok E X) (n : Nat) : Sd E X l yJ1_canEncode_9a6ad cJ1_canEncode_9a6ad 1 (some .boolean) 1 0 0 0 0 0 (kJ1_canEncode_9a6ad_0 n) := s_iload_n dJ1_canEncode_9a6ad_0 rfl (s_iflt dJ1_canEncode_9a6ad_1 (by decide) (okJ1_canEncode_9a6ad_15 hX n) (s_iload_n dJ1_canEncode_9a6ad_4 rfl (s_sipush dJ1_canEncode_9a6ad_5 (by decide) (s_icgt dJ1_canEncode_9a6ad_8 (by decide) (okJ1_canEncode_9a6ad_15 hX n) (s_iconst dJ1_canEncode_9a6ad_11 (by decide) (s_goto dJ1_canEncode_9a6ad_12 (by decide) (okJ1_canEncode_9a6ad_16 hX n)))))))
def FJ1_canEncode_9a6ad (n : Nat) : List Value → mM → Option mR := mfn 1 (kJ1_canEncode_9a6ad_0 n)
theorem CtJ1_canEncode_9a6ad {E : mE} {X : State → Heap → Prop} {l : Launch} (hX : mXok E X) (n : Nat) : Ct E X l yJ1_canEncode_9a6ad cJ1_canEncode_9a6ad 1 (some .boolean) 1 0 0 (FJ1_canEncode_9a6ad n) := Ct_of (by decide) hX (okJ1_canEncode_9a6ad_0 hX n)
theorem dJ1_indexOfChar_4cfef_0 : decode cJ1_indexOfChar_4cfef 0 = .ok (.iload_n 1, 1) := by decide +kernel
theorem dJ1_indexOfChar_4cfef_1 : decode cJ1_indexOfChar_4cfef 1 = .ok (.i2b, 1) := by decide +kernel
theorem dJ1_indexOfChar_4cfef_2 : decode cJ1_indexOfChar_4cfef 2 = .ok (.istore 4, 2) := by decide +kernel
theorem dJ1_indexOfChar_4cfef_4 : decode cJ1_indexOfChar_4cfef 4 = .ok (.iload_n 2, 1) := by decide +kernel
theorem dJ1_indexOfChar_4cfef_5 : decode cJ1_indexOfChar_4cfef 5 = .ok (.istore 5, 2) := by decide +kernel
theorem dJ1_indexOfChar_4cfef_7 : decode cJ1_indexOfChar_4cfef 7 = .ok (.iload 5, 2) := by decide +kernel
theorem dJ1_indexOfChar_4cfef_9 : decode cJ1_indexOfChar_4cfef 9 = .ok (.iload_n 3, 1) := by decide +kernel
theorem dJ1_indexOfChar_4cfef_10 : decode cJ1_indexOfChar_4cfef 10 = .ok (.if_icmp .ge 21, 3) := by decide +kernel
theorem dJ1_indexOfChar_4cfef_13 : decode cJ1_indexOfChar_4cfef 13 = .ok (.aload_n 0, 1) := by decide +kernel
theorem dJ1_indexOfChar_4cfef_14 : decode cJ1_indexOfChar_4cfef 14 = .ok (.iload 5, 2) := by decide +kernel
theorem dJ1_indexOfChar_4cfef_16 : decode cJ1_indexOfChar_4cfef 16 = .ok (.baload, 1) := by decide +kernel
theorem dJ1_indexOfChar_4cfef_17 : decode cJ1_indexOfChar_4cfef 17 = .ok (.iload 4, 2) := by decide +kernel
theorem dJ1_indexOfChar_4cfef_19 : decode cJ1_indexOfChar_4cfef 19 = .ok (.if_icmp .ne 6, 3) := by decide +kernel
theorem dJ1_indexOfChar_4cfef_22 : decode cJ1_indexOfChar_4cfef 22 = .ok (.iload 5, 2) := by decide +kernel
theorem dJ1_indexOfChar_4cfef_24 : decode cJ1_indexOfChar_4cfef 24 = .ok (.ireturn, 1) := by decide +kernel
theorem dJ1_indexOfChar_4cfef_25 : decode cJ1_indexOfChar_4cfef 25 = .ok (.iinc 5 1, 3) := by decide +kernel
theorem dJ1_indexOfChar_4cfef_28 : decode cJ1_indexOfChar_4cfef 28 = .ok (.goto (-21), 3) := by decide +kernel
theorem dJ1_indexOfChar_4cfef_31 : decode cJ1_indexOfChar_4cfef 31 = .ok (.iconst (-1), 1) := by decide +kernel
theorem dJ1_indexOfChar_4cfef_32 : decode cJ1_indexOfChar_4cfef 32 = .ok (.ireturn, 1) := by decide +kernel
def kJ1_indexOfChar_4cfef_7 (n : Nat) (r7 : mK) : mK := i_ldI 5 (i_ldI 3 (i_c2 (fun x y => decide (y ≤ x)) (i_cst (.int (-1)) (i_rI)) (i_ldA 0 (i_ldI 5 (i_xal (i_ldI 4 (i_c2 (fun x y => decide (¬ x = y)) (i_inc 5 (1) (r7)) (i_ldI 5 (i_rI)))))))))
set_option maxRecDepth 20000 in
theorem okJ1_indexOfChar_4cfef_7 {E : mE} {X : State → Heap → Prop} {l : Launch} (hX : mXok E X) (n : Nat) {r7 : mK} (h7 : Sd E X l yJ1_indexOfChar_4cfef cJ1_indexOfChar_4cfef 6 (some .int) 1 0 0 0 0 7 r7) : Sd E X l yJ1_indexOfChar_4cfef cJ1_indexOfChar_4cfef 6 (some .int) 1 0 0 0 0 7 (kJ1_indexOfChar_4cfef_7 n r7) := s_iload dJ1_indexOfChar_4cfef_7 (s_iload_n dJ1_indexOfChar_4cfef_9 rfl (s_icge dJ1_indexOfChar_4cfef_10 (by decide) (s_iconst dJ1_indexOfChar_4cfef_31 (by decide) (s_rI dJ1_indexOfChar_4cfef_32 (Nat.le_of_ble_eq_true rfl) (Nat.le_of_ble_eq_true rfl))) (s_aload_n dJ1_indexOfChar_4cfef_13 rfl (s_iload dJ1_indexOfChar_4cfef_14 (s_xal dJ1_indexOfChar_4cfef_16 (s_iload dJ1_indexOfChar_4cfef_17 (s_icne dJ1_indexOfChar_4cfef_19 (by decide) (s_iinc dJ1_indexOfChar_4cfef_25 (by decide) (s_goto dJ1_indexOfChar_4cfef_28 (by decide) h7)) (s_iload dJ1_indexOfChar_4cfef_22 (s_rI dJ1_indexOfChar_4cfef_24 (Nat.le_of_ble_eq_true rfl) (Nat.le_of_ble_eq_true rfl))))))))))
def kJ1_indexOfChar_4cfef_0 (n : Nat) : mK := i_ldI 1 (i_un (fun x => x.toInt8.toInt32) (i_stI 4 (i_ldI 2 (i_stI 5 (mit (kJ1_indexOfChar_4cfef_7 n ) n)))))
set_option maxRecDepth 20000 in
theorem okJ1_indexOfChar_4cfef_0 {E : mE} {X : State → Heap → Prop} {l : Launch} (hX : mXok E X) (n : Nat) : Sd E X l yJ1_indexOfChar_4cfef cJ1_indexOfChar_4cfef 6 (some .int) 1 0 0 0 0 0 (kJ1_indexOfChar_4cfef_0 n) := s_iload_n dJ1_indexOfChar_4cfef_0 rfl (s_i2b dJ1_indexOfChar_4cfef_1 (s_istore dJ1_indexOfChar_4cfef_2 (s_iload_n dJ1_indexOfChar_4cfef_4 rfl (s_istore dJ1_indexOfChar_4cfef_5 (s_mit (fun _ hk => okJ1_indexOfChar_4cfef_7 hX n hk) n)))))
def FJ1_indexOfChar_4cfef (n : Nat) : List Value → mM → Option mR := mfn 6 (kJ1_indexOfChar_4cfef_0 n)
theorem CtJ1_indexOfChar_4cfef {E : mE} {X : State → Heap → Prop} {l : Launch} (hX : mXok E X) (n : Nat) : Ct E X l yJ1_indexOfChar_4cfef cJ1_indexOfChar_4cfef 6 (some .int) 1 0 0 (FJ1_indexOfChar_4cfef n) := Ct_of (by decide) hX (okJ1_indexOfChar_4cfef_0 hX n)
theorem dJ3_checkIndex_8e157_0 : decode cJ3_checkIndex_8e157 0 = .ok (.iload_n 0, 1) := by decide +kernel
theorem dJ3_checkIndex_8e157_1 : decode cJ3_checkIndex_8e157 1 = .ok (.ifCond .lt 8, 3) := by decide +kernel
theorem dJ3_checkIndex_8e157_4 : decode cJ3_checkIndex_8e157 4 = .ok (.iload_n 0, 1) := by decide +kernel
theorem dJ3_checkIndex_8e157_5 : decode cJ3_checkIndex_8e157 5 = .ok (.iload_n 1, 1) := by decide +kernel
theorem dJ3_checkIndex_8e157_6 : decode cJ3_checkIndex_8e157 6 = .ok (.if_icmp .lt 10, 3) := by decide +kernel
theorem dJ3_checkIndex_8e157_9 : decode cJ3_checkIndex_8e157 9 = .ok (.aload_n 2, 1) := by decide +kernel
theorem dJ3_checkIndex_8e157_10 : decode cJ3_checkIndex_8e157 10 = .ok (.iload_n 0, 1) := by decide +kernel
theorem dJ3_checkIndex_8e157_11 : decode cJ3_checkIndex_8e157 11 = .ok (.iload_n 1, 1) := by decide +kernel
theorem dJ3_checkIndex_8e157_12 : decode cJ3_checkIndex_8e157 12 = .ok (.invokestatic 95, 3) := by decide +kernel
theorem dJ3_checkIndex_8e157_16 : decode cJ3_checkIndex_8e157 16 = .ok (.iload_n 0, 1) := by decide +kernel
theorem dJ3_checkIndex_8e157_17 : decode cJ3_checkIndex_8e157 17 = .ok (.ireturn, 1) := by decide +kernel
def kJ3_checkIndex_8e157_9 (n : Nat) : mK := i_ldA 2 (i_ldI 0 (i_ldI 1 (i_no)))
set_option maxRecDepth 20000 in
theorem okJ3_checkIndex_8e157_9 {E : mE} {X : State → Heap → Prop} {l : Launch} (hX : mXok E X) (n : Nat) : Sd E X l yJ3_checkIndex_8e157 cJ3_checkIndex_8e157 3 (some .int) 1 0 0 0 0 9 (kJ3_checkIndex_8e157_9 n) := s_aload_n dJ3_checkIndex_8e157_9 rfl (s_iload_n dJ3_checkIndex_8e157_10 rfl (s_iload_n dJ3_checkIndex_8e157_11 rfl (s_no)))
def kJ3_checkIndex_8e157_0 (n : Nat) : mK := i_ldI 0 (i_c0 (fun x => decide (x < 0)) (kJ3_checkIndex_8e157_9 n) (i_ldI 0 (i_ldI 1 (i_c2 (fun x y => decide (x < y)) (i_ldI 0 (i_rI)) (kJ3_checkIndex_8e157_9 n)))))
set_option maxRecDepth 20000 in
theorem okJ3_checkIndex_8e157_0 {E : mE} {X : State → Heap → Prop} {l : Launch} (hX : mXok E X) (n : Nat) : Sd E X l yJ3_checkIndex_8e157 cJ3_checkIndex_8e157 3 (some .int) 1 0 0 0 0 0 (kJ3_checkIndex_8e157_0 n) := s_iload_n dJ3_checkIndex_8e157_0 rfl (s_iflt dJ3_checkIndex_8e157_1 (by decide) (okJ3_checkIndex_8e157_9 hX n) (s_iload_n dJ3_checkIndex_8e157_4 rfl (s_iload_n dJ3_checkIndex_8e157_5 rfl (s_iclt dJ3_checkIndex_8e157_6 (by decide) (s_iload_n dJ3_checkIndex_8e157_16 rfl (s_rI dJ3_checkIndex_8e157_17 (Nat.le_of_ble_eq_true rfl) (Nat.le_of_ble_eq_true rfl))) (okJ3_checkIndex_8e157_9 hX n)))))
def FJ3_checkIndex_8e157 (n : Nat) : List Value → mM → Option mR := mfn 3 (kJ3_checkIndex_8e157_0 n)
theorem CtJ3_checkIndex_8e157 {E : mE} {X : State → Heap → Prop} {l : Launch} (hX : mXok E X) (n : Nat) : Ct E X l yJ3_checkIndex_8e157 cJ3_checkIndex_8e157 3 (some .int) 1 0 0 (FJ3_checkIndex_8e157 n) := Ct_of (by decide) hX (okJ3_checkIndex_8e157_0 hX n)
theorem dJ6_bitCount_0f7a4_0 : decode cJ6_bitCount_0f7a4 0 = .ok (.iload_n 0, 1) := by decide +kernel
theorem dJ6_bitCount_0f7a4_1 : decode cJ6_bitCount_0f7a4 1 = .ok (.iload_n 0, 1) := by decide +kernel
theorem dJ6_bitCount_0f7a4_2 : decode cJ6_bitCount_0f7a4 2 = .ok (.iconst 1, 1) := by decide +kernel
theorem dJ6_bitCount_0f7a4_3 : decode cJ6_bitCount_0f7a4 3 = .ok (.iushr, 1) := by decide +kernel
theorem dJ6_bitCount_0f7a4_4 : decode cJ6_bitCount_0f7a4 4 = .ok (.ldc_w 265, 3) := by decide +kernel
theorem dJ6_bitCount_0f7a4_7 : decode cJ6_bitCount_0f7a4 7 = .ok (.iand, 1) := by decide +kernel
theorem dJ6_bitCount_0f7a4_8 : decode cJ6_bitCount_0f7a4 8 = .ok (.isub, 1) := by decide +kernel
theorem dJ6_bitCount_0f7a4_9 : decode cJ6_bitCount_0f7a4 9 = .ok (.istore_n 0, 1) := by decide +kernel
theorem dJ6_bitCount_0f7a4_10 : decode cJ6_bitCount_0f7a4 10 = .ok (.iload_n 0, 1) := by decide +kernel
theorem dJ6_bitCount_0f7a4_11 : decode cJ6_bitCount_0f7a4 11 = .ok (.ldc_w 266, 3) := by decide +kernel
theorem dJ6_bitCount_0f7a4_14 : decode cJ6_bitCount_0f7a4 14 = .ok (.iand, 1) := by decide +kernel
theorem dJ6_bitCount_0f7a4_15 : decode cJ6_bitCount_0f7a4 15 = .ok (.iload_n 0, 1) := by decide +kernel
theorem dJ6_bitCount_0f7a4_16 : decode cJ6_bitCount_0f7a4 16 = .ok (.iconst 2, 1) := by decide +kernel
theorem dJ6_bitCount_0f7a4_17 : decode cJ6_bitCount_0f7a4 17 = .ok (.iushr, 1) := by decide +kernel
theorem dJ6_bitCount_0f7a4_18 : decode cJ6_bitCount_0f7a4 18 = .ok (.ldc_w 266, 3) := by decide +kernel
theorem dJ6_bitCount_0f7a4_21 : decode cJ6_bitCount_0f7a4 21 = .ok (.iand, 1) := by decide +kernel
theorem dJ6_bitCount_0f7a4_22 : decode cJ6_bitCount_0f7a4 22 = .ok (.iadd, 1) := by decide +kernel
theorem dJ6_bitCount_0f7a4_23 : decode cJ6_bitCount_0f7a4 23 = .ok (.istore_n 0, 1) := by decide +kernel
theorem dJ6_bitCount_0f7a4_24 : decode cJ6_bitCount_0f7a4 24 = .ok (.iload_n 0, 1) := by decide +kernel
theorem dJ6_bitCount_0f7a4_25 : decode cJ6_bitCount_0f7a4 25 = .ok (.iload_n 0, 1) := by decide +kernel
theorem dJ6_bitCount_0f7a4_26 : decode cJ6_bitCount_0f7a4 26 = .ok (.iconst 4, 1) := by decide +kernel
theorem dJ6_bitCount_0f7a4_27 : decode cJ6_bitCount_0f7a4 27 = .ok (.iushr, 1) := by decide +kernel
theorem dJ6_bitCount_0f7a4_28 : decode cJ6_bitCount_0f7a4 28 = .ok (.iadd, 1) := by decide +kernel
theorem dJ6_bitCount_0f7a4_29 : decode cJ6_bitCount_0f7a4 29 = .ok (.ldc_w 267, 3) := by decide +kernel
theorem dJ6_bitCount_0f7a4_32 : decode cJ6_bitCount_0f7a4 32 = .ok (.iand, 1) := by decide +kernel
theorem dJ6_bitCount_0f7a4_33 : decode cJ6_bitCount_0f7a4 33 = .ok (.istore_n 0, 1) := by decide +kernel
theorem dJ6_bitCount_0f7a4_34 : decode cJ6_bitCount_0f7a4 34 = .ok (.iload_n 0, 1) := by decide +kernel
theorem dJ6_bitCount_0f7a4_35 : decode cJ6_bitCount_0f7a4 35 = .ok (.iload_n 0, 1) := by decide +kernel
theorem dJ6_bitCount_0f7a4_36 : decode cJ6_bitCount_0f7a4 36 = .ok (.bipush 8, 2) := by decide +kernel
theorem dJ6_bitCount_0f7a4_38 : decode cJ6_bitCount_0f7a4 38 = .ok (.iushr, 1) := by decide +kernel
theorem dJ6_bitCount_0f7a4_39 : decode cJ6_bitCount_0f7a4 39 = .ok (.iadd, 1) := by decide +kernel
theorem dJ6_bitCount_0f7a4_40 : decode cJ6_bitCount_0f7a4 40 = .ok (.istore_n 0, 1) := by decide +kernel
theorem dJ6_bitCount_0f7a4_41 : decode cJ6_bitCount_0f7a4 41 = .ok (.iload_n 0, 1) := by decide +kernel
theorem dJ6_bitCount_0f7a4_42 : decode cJ6_bitCount_0f7a4 42 = .ok (.iload_n 0, 1) := by decide +kernel
theorem dJ6_bitCount_0f7a4_43 : decode cJ6_bitCount_0f7a4 43 = .ok (.bipush 16, 2) := by decide +kernel
theorem dJ6_bitCount_0f7a4_45 : decode cJ6_bitCount_0f7a4 45 = .ok (.iushr, 1) := by decide +kernel
theorem dJ6_bitCount_0f7a4_46 : decode cJ6_bitCount_0f7a4 46 = .ok (.iadd, 1) := by decide +kernel
theorem dJ6_bitCount_0f7a4_47 : decode cJ6_bitCount_0f7a4 47 = .ok (.istore_n 0, 1) := by decide +kernel
theorem dJ6_bitCount_0f7a4_48 : decode cJ6_bitCount_0f7a4 48 = .ok (.iload_n 0, 1) := by decide +kernel
theorem dJ6_bitCount_0f7a4_49 : decode cJ6_bitCount_0f7a4 49 = .ok (.bipush 63, 2) := by decide +kernel
theorem dJ6_bitCount_0f7a4_51 : decode cJ6_bitCount_0f7a4 51 = .ok (.iand, 1) := by decide +kernel
theorem dJ6_bitCount_0f7a4_52 : decode cJ6_bitCount_0f7a4 52 = .ok (.ireturn, 1) := by decide +kernel
def kJ6_bitCount_0f7a4_32 (n : Nat) : mK := i_bin (fun x y => x &&& y) (i_stI 0 (i_ldI 0 (i_ldI 0 (i_cst (.int (8)) (i_bin (fun x y => (x.toUInt32 >>> (y.toUInt32 &&& Int32.toUInt32 31)).toInt32) (i_bin (fun x y => x + y) (i_stI 0 (i_ldI 0 (i_ldI 0 (i_cst (.int (16)) (i_bin (fun x y => (x.toUInt32 >>> (y.toUInt32 &&& Int32.toUInt32 31)).toInt32) (i_bin (fun x y => x + y) (i_stI 0 (i_ldI 0 (i_cst (.int (63)) (i_bin (fun x y => x &&& y) (i_rI)))))))))))))))))
set_option maxRecDepth 20000 in
theorem okJ6_bitCount_0f7a4_32 {E : mE} {X : State → Heap → Prop} {l : Launch} (hX : mXok E X) (n : Nat) : Sd E X l yJ6_bitCount_0f7a4 cJ6_bitCount_0f7a4 1 (some .int) 1 0 0 0 0 32 (kJ6_bitCount_0f7a4_32 n) := s_iand dJ6_bitCount_0f7a4_32 (s_istore_n dJ6_bitCount_0f7a4_33 rfl (s_iload_n dJ6_bitCount_0f7a4_34 rfl (s_iload_n dJ6_bitCount_0f7a4_35 rfl (s_bipush dJ6_bitCount_0f7a4_36 (by decide) (s_iushr dJ6_bitCount_0f7a4_38 (s_iadd dJ6_bitCount_0f7a4_39 (s_istore_n dJ6_bitCount_0f7a4_40 rfl (s_iload_n dJ6_bitCount_0f7a4_41 rfl (s_iload_n dJ6_bitCount_0f7a4_42 rfl (s_bipush dJ6_bitCount_0f7a4_43 (by decide) (s_iushr dJ6_bitCount_0f7a4_45 (s_iadd dJ6_bitCount_0f7a4_46 (s_istore_n dJ6_bitCount_0f7a4_47 rfl (s_iload_n dJ6_bitCount_0f7a4_48 rfl (s_bipush dJ6_bitCount_0f7a4_49 (by decide) (s_iand dJ6_bitCount_0f7a4_51 (s_rI dJ6_bitCount_0f7a4_52 (Nat.le_of_ble_eq_true rfl) (Nat.le_of_ble_eq_true rfl))))))))))))))))))
def kJ6_bitCount_0f7a4_0 (n : Nat) : mK := i_ldI 0 (i_ldI 0 (i_cst (.int (1)) (i_bin (fun x y => (x.toUInt32 >>> (y.toUInt32 &&& Int32.toUInt32 31)).toInt32) (i_cst (.int (1431655765)) (i_bin (fun x y => x &&& y) (i_bin (fun x y => x - y) (i_stI 0 (i_ldI 0 (i_cst (.int (858993459)) (i_bin (fun x y => x &&& y) (i_ldI 0 (i_cst (.int (2)) (i_bin (fun x y => (x.toUInt32 >>> (y.toUInt32 &&& Int32.toUInt32 31)).toInt32) (i_cst (.int (858993459)) (i_bin (fun x y => x &&& y) (i_bin (fun x y => x + y) (i_stI 0 (i_ldI 0 (i_ldI 0 (i_cst (.int (4)) (i_bin (fun x y => (x.toUInt32 >>> (y.toUInt32 &&& Int32.toUInt32 31)).toInt32) (i_bin (fun x y => x + y) (i_cst (.int (252645135)) (kJ6_bitCount_0f7a4_32 n))))))))))))))))))))))))
set_option maxRecDepth 20000 in
theorem okJ6_bitCount_0f7a4_0 {E : mE} {X : State → Heap → Prop} {l : Launch} (hX : mXok E X) (n : Nat) : Sd E X l yJ6_bitCount_0f7a4 cJ6_bitCount_0f7a4 1 (some .int) 1 0 0 0 0 0 (kJ6_bitCount_0f7a4_0 n) := s_iload_n dJ6_bitCount_0f7a4_0 rfl (s_iload_n dJ6_bitCount_0f7a4_1 rfl (s_iconst dJ6_bitCount_0f7a4_2 (by decide) (s_iushr dJ6_bitCount_0f7a4_3 (s_ldcw dJ6_bitCount_0f7a4_4 lCJ6_265 (s_iand dJ6_bitCount_0f7a4_7 (s_isub dJ6_bitCount_0f7a4_8 (s_istore_n dJ6_bitCount_0f7a4_9 rfl (s_iload_n dJ6_bitCount_0f7a4_10 rfl (s_ldcw dJ6_bitCount_0f7a4_11 lCJ6_266 (s_iand dJ6_bitCount_0f7a4_14 (s_iload_n dJ6_bitCount_0f7a4_15 rfl (s_iconst dJ6_bitCount_0f7a4_16 (by decide) (s_iushr dJ6_bitCount_0f7a4_17 (s_ldcw dJ6_bitCount_0f7a4_18 lCJ6_266 (s_iand dJ6_bitCount_0f7a4_21 (s_iadd dJ6_bitCount_0f7a4_22 (s_istore_n dJ6_bitCount_0f7a4_23 rfl (s_iload_n dJ6_bitCount_0f7a4_24 rfl (s_iload_n dJ6_bitCount_0f7a4_25 rfl (s_iconst dJ6_bitCount_0f7a4_26 (by decide) (s_iushr dJ6_bitCount_0f7a4_27 (s_iadd dJ6_bitCount_0f7a4_28 (s_ldcw dJ6_bitCount_0f7a4_29 lCJ6_267 (okJ6_bitCount_0f7a4_32 hX n))))))))))))))))))))))))
def FJ6_bitCount_0f7a4 (n : Nat) : List Value → mM → Option mR := mfn 1 (kJ6_bitCount_0f7a4_0 n)
theorem CtJ6_bitCount_0f7a4 {E : mE} {X : State → Heap → Prop} {l : Launch} (hX : mXok E X) (n : Nat) : Ct E X l yJ6_bitCount_0f7a4 cJ6_bitCount_0f7a4 1 (some .int) 1 0 0 (FJ6_bitCount_0f7a4 n) := Ct_of (by decide) hX (okJ6_bitCount_0f7a4_0 hX n)
theorem dX0_init_0 : decode cX0_init 0 = .ok (.aload_n 0, 1) := by decide +kernel
theorem dX0_init_1 : decode cX0_init 1 = .ok (.invokespecial 3, 3) := by decide +kernel
theorem dX0_init_4 : decode cX0_init 4 = .ok (.aload_n 0, 1) := by decide +kernel
theorem dX0_init_5 : decode cX0_init 5 = .ok (.bipush 8, 2) := by decide +kernel
theorem dX0_init_7 : decode cX0_init 7 = .ok (.newarray .int, 2) := by decide +kernel
theorem dX0_init_9 : decode cX0_init 9 = .ok (.putfield 9, 3) := by decide +kernel
theorem dX0_init_12 : decode cX0_init 12 = .ok (.aload_n 0, 1) := by decide +kernel
theorem dX0_init_13 : decode cX0_init 13 = .ok (.aload_n 1, 1) := by decide +kernel
theorem dX0_init_14 : decode cX0_init 14 = .ok (.putfield 15, 3) := by decide +kernel
theorem dX0_init_17 : decode cX0_init 17 = .ok (.return_, 1) := by decide +kernel
def kX0_init_0 (n : Nat) : mK := i_ldA 0 (i_obj (i_ldA 0 (i_cst (.int (8)) (i_na 0 8 (i_pA 0 1 (i_ldA 0 (i_ldA 1 (i_pA 0 0 (i_rV)))))))))
set_option maxRecDepth 20000 in
theorem okX0_init_0 {E : mE} {X : State → Heap → Prop} {l : Launch} (hX : mXok E X) (n : Nat) : Sd E X l yX0_init cX0_init 2 none 1 1 8 0 0 0 (kX0_init_0 n) := s_aload_n dX0_init_0 rfl (s_obj dX0_init_1 lMX0_3 lObj1 lObj2 (Nat.le_of_ble_eq_true rfl) (s_aload_n dX0_init_4 rfl (s_bipush dX0_init_5 (by decide) (s_na dX0_init_7 rfl (by decide) lA_0 (Nat.le_of_ble_eq_true rfl) (Nat.le_of_ble_eq_true rfl) (Nat.le_of_ble_eq_true rfl) (s_pF dX0_init_9 lFX0_9 rfl rfl (s_aload_n dX0_init_12 rfl (s_aload_n dX0_init_13 rfl (s_pF dX0_init_14 lFX0_15 rfl rfl (s_rV dX0_init_17 (Nat.le_of_ble_eq_true rfl) (Nat.le_of_ble_eq_true rfl))))))))))
def FX0_init (n : Nat) : List Value → mM → Option mR := mfn 2 (kX0_init_0 n)
theorem CtX0_init {E : mE} {X : State → Heap → Prop} {l : Launch} (hX : mXok E X) (n : Nat) : Ct E X l yX0_init cX0_init 2 none 1 1 8 (FX0_init n) := Ct_of (by decide) hX (okX0_init_0 hX n)
theorem dX0_isAmongIn_0 : decode cX0_isAmongIn 0 = .ok (.iload_n 1, 1) := by decide +kernel
theorem dX0_isAmongIn_1 : decode cX0_isAmongIn 1 = .ok (.aload_n 0, 1) := by decide +kernel
theorem dX0_isAmongIn_2 : decode cX0_isAmongIn 2 = .ok (.getfield 25, 3) := by decide +kernel
theorem dX0_isAmongIn_5 : decode cX0_isAmongIn 5 = .ok (.iconst (-1), 1) := by decide +kernel
theorem dX0_isAmongIn_6 : decode cX0_isAmongIn 6 = .ok (.ixor, 1) := by decide +kernel
theorem dX0_isAmongIn_7 : decode cX0_isAmongIn 7 = .ok (.iand, 1) := by decide +kernel
theorem dX0_isAmongIn_8 : decode cX0_isAmongIn 8 = .ok (.ifCond .ne 7, 3) := by decide +kernel
theorem dX0_isAmongIn_11 : decode cX0_isAmongIn 11 = .ok (.iconst 1, 1) := by decide +kernel
theorem dX0_isAmongIn_12 : decode cX0_isAmongIn 12 = .ok (.goto 4, 3) := by decide +kernel
theorem dX0_isAmongIn_15 : decode cX0_isAmongIn 15 = .ok (.iconst 0, 1) := by decide +kernel
theorem dX0_isAmongIn_16 : decode cX0_isAmongIn 16 = .ok (.ireturn, 1) := by decide +kernel
def kX0_isAmongIn_16 (n : Nat) : mK := i_rZ
set_option maxRecDepth 20000 in
theorem okX0_isAmongIn_16 {E : mE} {X : State → Heap → Prop} {l : Launch} (hX : mXok E X) (n : Nat) : Sd E X l yX0_isAmongIn cX0_isAmongIn 2 (some .boolean) 1 0 0 0 0 16 (kX0_isAmongIn_16 n) := s_rZ dX0_isAmongIn_16 (Nat.le_of_ble_eq_true rfl) (Nat.le_of_ble_eq_true rfl)
def kX0_isAmongIn_0 (n : Nat) : mK := i_ldI 1 (i_ldA 0 (i_gI 0 2 (i_cst (.int (-1)) (i_bin (fun x y => x ^^^ y) (i_bin (fun x y => x &&& y) (i_c0 (fun x => decide (¬ x = 0)) (i_cst (.int (0)) (kX0_isAmongIn_16 n)) (i_cst (.int (1)) ((kX0_isAmongIn_16 n)))))))))
set_option maxRecDepth 20000 in
theorem okX0_isAmongIn_0 {E : mE} {X : State → Heap → Prop} {l : Launch} (hX : mXok E X) (n : Nat) : Sd E X l yX0_isAmongIn cX0_isAmongIn 2 (some .boolean) 1 0 0 0 0 0 (kX0_isAmongIn_0 n) := s_iload_n dX0_isAmongIn_0 rfl (s_aload_n dX0_isAmongIn_1 rfl (s_gI dX0_isAmongIn_2 lFX0_25 (by decide) (s_iconst dX0_isAmongIn_5 (by decide) (s_ixor dX0_isAmongIn_6 (s_iand dX0_isAmongIn_7 (s_ifne dX0_isAmongIn_8 (by decide) (s_iconst dX0_isAmongIn_15 (by decide) (okX0_isAmongIn_16 hX n)) (s_iconst dX0_isAmongIn_11 (by decide) (s_goto dX0_isAmongIn_12 (by decide) (okX0_isAmongIn_16 hX n)))))))))
def FX0_isAmongIn (n : Nat) : List Value → mM → Option mR := mfn 2 (kX0_isAmongIn_0 n)
theorem CtX0_isAmongIn {E : mE} {X : State → Heap → Prop} {l : Launch} (hX : mXok E X) (n : Nat) : Ct E X l yX0_isAmongIn cX0_isAmongIn 2 (some .boolean) 1 0 0 (FX0_isAmongIn n) := Ct_of (by decide) hX (okX0_isAmongIn_0 hX n)
theorem dX10_begin_0 : decode cX10_begin 0 = .ok (.aload_n 0, 1) := by decide +kernel
theorem dX10_begin_1 : decode cX10_begin 1 = .ok (.iconst 0, 1) := by decide +kernel
theorem dX10_begin_2 : decode cX10_begin 2 = .ok (.putfield 22, 3) := by decide +kernel
theorem dX10_begin_5 : decode cX10_begin 5 = .ok (.iconst 0, 1) := by decide +kernel
theorem dX10_begin_6 : decode cX10_begin 6 = .ok (.istore_n 1, 1) := by decide +kernel
theorem dX10_begin_7 : decode cX10_begin 7 = .ok (.iload_n 1, 1) := by decide +kernel
theorem dX10_begin_8 : decode cX10_begin 8 = .ok (.aload_n 0, 1) := by decide +kernel
theorem dX10_begin_9 : decode cX10_begin 9 = .ok (.getfield 9, 3) := by decide +kernel
theorem dX10_begin_12 : decode cX10_begin 12 = .ok (.arraylength, 1) := by decide +kernel
theorem dX10_begin_13 : decode cX10_begin 13 = .ok (.if_icmp .ge 16, 3) := by decide +kernel
theorem dX10_begin_16 : decode cX10_begin 16 = .ok (.aload_n 0, 1) := by decide +kernel
theorem dX10_begin_17 : decode cX10_begin 17 = .ok (.getfield 9, 3) := by decide +kernel
theorem dX10_begin_20 : decode cX10_begin 20 = .ok (.iload_n 1, 1) := by decide +kernel
theorem dX10_begin_21 : decode cX10_begin 21 = .ok (.iconst (-1), 1) := by decide +kernel
theorem dX10_begin_22 : decode cX10_begin 22 = .ok (.iastore, 1) := by decide +kernel
theorem dX10_begin_23 : decode cX10_begin 23 = .ok (.iinc 1 1, 3) := by decide +kernel
theorem dX10_begin_26 : decode cX10_begin 26 = .ok (.goto (-19), 3) := by decide +kernel
theorem dX10_begin_29 : decode cX10_begin 29 = .ok (.return_, 1) := by decide +kernel
def kX10_begin_7 (n : Nat) (r7 : mK) : mK := i_ldI 1 (i_ldA 0 (i_gA 10 1 (i_len (i_c2 (fun x y => decide (y ≤ x)) (i_rV) (i_ldA 0 (i_gA 10 1 (i_ldI 1 (i_cst (.int (-1)) (i_as 0 (i_inc 1 (1) (r7)))))))))))
set_option maxRecDepth 20000 in
theorem okX10_begin_7 {E : mE} {X : State → Heap → Prop} {l : Launch} (hX : mXok E X) (n : Nat) {r7 : mK} (h7 : Sd E X l yX10_begin cX10_begin 2 none 1 0 0 0 0 7 r7) : Sd E X l yX10_begin cX10_begin 2 none 1 0 0 0 0 7 (kX10_begin_7 n r7) := s_iload_n dX10_begin_7 rfl (s_aload_n dX10_begin_8 rfl (s_gA dX10_begin_9 lFX10_9 (s_len dX10_begin_12 (s_icge dX10_begin_13 (by decide) (s_rV dX10_begin_29 (Nat.le_of_ble_eq_true rfl) (Nat.le_of_ble_eq_true rfl)) (s_aload_n dX10_begin_16 rfl (s_gA dX10_begin_17 lFX10_9 (s_iload_n dX10_begin_20 rfl (s_iconst dX10_begin_21 (by decide) (s_iast dX10_begin_22 (s_iinc dX10_begin_23 (by decide) (s_goto dX10_begin_26 (by decide) h7)))))))))))
def kX10_begin_0 (n : Nat) : mK := i_ldA 0 (i_cst (.int (0)) (i_pI 10 3 (i_cst (.int (0)) (i_stI 1 (mit (kX10_begin_7 n ) n)))))
set_option maxRecDepth 20000 in
theorem okX10_begin_0 {E : mE} {X : State → Heap → Prop} {l : Launch} (hX : mXok E X) (n : Nat) : Sd E X l yX10_begin cX10_begin 2 none 1 0 0 0 0 0 (kX10_begin_0 n) := s_aload_n dX10_begin_0 rfl (s_iconst dX10_begin_1 (by decide) (s_pI dX10_begin_2 lFX10_22 (s_iconst dX10_begin_5 (by decide) (s_istore_n dX10_begin_6 rfl (s_mit (fun _ hk => okX10_begin_7 hX n hk) n)))))
def FX10_begin (n : Nat) : List Value → mM → Option mR := mfn 2 (kX10_begin_0 n)
theorem CtX10_begin {E : mE} {X : State → Heap → Prop} {l : Launch} (hX : mXok E X) (n : Nat) : Ct E X l yX10_begin cX10_begin 2 none 1 0 0 (FX10_begin n) := Ct_of (by decide) hX (okX10_begin_0 hX n)
theorem dX10_init_0 : decode cX10_init 0 = .ok (.aload_n 0, 1) := by decide +kernel
theorem dX10_init_1 : decode cX10_init 1 = .ok (.invokespecial 3, 3) := by decide +kernel
theorem dX10_init_4 : decode cX10_init 4 = .ok (.aload_n 0, 1) := by decide +kernel
theorem dX10_init_5 : decode cX10_init 5 = .ok (.bipush 64, 2) := by decide +kernel
theorem dX10_init_7 : decode cX10_init 7 = .ok (.newarray .int, 2) := by decide +kernel
theorem dX10_init_9 : decode cX10_init 9 = .ok (.putfield 9, 3) := by decide +kernel
theorem dX10_init_12 : decode cX10_init 12 = .ok (.aload_n 0, 1) := by decide +kernel
theorem dX10_init_13 : decode cX10_init 13 = .ok (.bipush 64, 2) := by decide +kernel
theorem dX10_init_15 : decode cX10_init 15 = .ok (.newarray .int, 2) := by decide +kernel
theorem dX10_init_17 : decode cX10_init 17 = .ok (.putfield 15, 3) := by decide +kernel
theorem dX10_init_20 : decode cX10_init 20 = .ok (.aload_n 0, 1) := by decide +kernel
theorem dX10_init_21 : decode cX10_init 21 = .ok (.aload_n 1, 1) := by decide +kernel
theorem dX10_init_22 : decode cX10_init 22 = .ok (.putfield 18, 3) := by decide +kernel
theorem dX10_init_25 : decode cX10_init 25 = .ok (.return_, 1) := by decide +kernel
def kX10_init_0 (n : Nat) : mK := i_ldA 0 (i_obj (i_ldA 0 (i_cst (.int (64)) (i_na 0 64 (i_pA 10 1 (i_ldA 0 (i_cst (.int (64)) (i_na 0 64 (i_pA 10 2 (i_ldA 0 (i_ldA 1 (i_pA 10 0 (i_rV)))))))))))))
set_option maxRecDepth 20000 in
theorem okX10_init_0 {E : mE} {X : State → Heap → Prop} {l : Launch} (hX : mXok E X) (n : Nat) : Sd E X l yX10_init cX10_init 2 none 1 2 128 0 0 0 (kX10_init_0 n) := s_aload_n dX10_init_0 rfl (s_obj dX10_init_1 lMX10_3 lObj1 lObj2 (Nat.le_of_ble_eq_true rfl) (s_aload_n dX10_init_4 rfl (s_bipush dX10_init_5 (by decide) (s_na dX10_init_7 rfl (by decide) lA_0 (Nat.le_of_ble_eq_true rfl) (Nat.le_of_ble_eq_true rfl) (Nat.le_of_ble_eq_true rfl) (s_pF dX10_init_9 lFX10_9 rfl rfl (s_aload_n dX10_init_12 rfl (s_bipush dX10_init_13 (by decide) (s_na dX10_init_15 rfl (by decide) lA_0 (Nat.le_of_ble_eq_true rfl) (Nat.le_of_ble_eq_true rfl) (Nat.le_of_ble_eq_true rfl) (s_pF dX10_init_17 lFX10_15 rfl rfl (s_aload_n dX10_init_20 rfl (s_aload_n dX10_init_21 rfl (s_pF dX10_init_22 lFX10_18 rfl rfl (s_rV dX10_init_25 (Nat.le_of_ble_eq_true rfl) (Nat.le_of_ble_eq_true rfl))))))))))))))
def FX10_init (n : Nat) : List Value → mM → Option mR := mfn 2 (kX10_init_0 n)
theorem CtX10_init {E : mE} {X : State → Heap → Prop} {l : Launch} (hX : mXok E X) (n : Nat) : Ct E X l yX10_init cX10_init 2 none 1 2 128 (FX10_init n) := Ct_of (by decide) hX (okX10_init_0 hX n)
theorem dX11_at_0 : decode cX11_at 0 = .ok (.iload_n 1, 1) := by decide +kernel
theorem dX11_at_1 : decode cX11_at 1 = .ok (.ifCond .lt 15, 3) := by decide +kernel
theorem dX11_at_4 : decode cX11_at 4 = .ok (.iload_n 1, 1) := by decide +kernel
theorem dX11_at_5 : decode cX11_at 5 = .ok (.aload_n 0, 1) := by decide +kernel
theorem dX11_at_6 : decode cX11_at 6 = .ok (.arraylength, 1) := by decide +kernel
theorem dX11_at_7 : decode cX11_at 7 = .ok (.if_icmp .ge 9, 3) := by decide +kernel
theorem dX11_at_10 : decode cX11_at 10 = .ok (.aload_n 0, 1) := by decide +kernel
theorem dX11_at_11 : decode cX11_at 11 = .ok (.iload_n 1, 1) := by decide +kernel
theorem dX11_at_12 : decode cX11_at 12 = .ok (.iaload, 1) := by decide +kernel
theorem dX11_at_13 : decode cX11_at 13 = .ok (.goto 4, 3) := by decide +kernel
theorem dX11_at_16 : decode cX11_at 16 = .ok (.iconst 0, 1) := by decide +kernel
theorem dX11_at_17 : decode cX11_at 17 = .ok (.ireturn, 1) := by decide +kernel
def kX11_at_17 (n : Nat) : mK := i_rI
set_option maxRecDepth 20000 in
theorem okX11_at_17 {E : mE} {X : State → Heap → Prop} {l : Launch} (hX : mXok E X) (n : Nat) : Sd E X l yX11_at cX11_at 2 (some .int) 1 0 0 0 0 17 (kX11_at_17 n) := s_rI dX11_at_17 (Nat.le_of_ble_eq_true rfl) (Nat.le_of_ble_eq_true rfl)
def kX11_at_16 (n : Nat) : mK := i_cst (.int (0)) (kX11_at_17 n)
set_option maxRecDepth 20000 in
theorem okX11_at_16 {E : mE} {X : State → Heap → Prop} {l : Launch} (hX : mXok E X) (n : Nat) : Sd E X l yX11_at cX11_at 2 (some .int) 1 0 0 0 0 16 (kX11_at_16 n) := s_iconst dX11_at_16 (by decide) (okX11_at_17 hX n)
def kX11_at_0 (n : Nat) : mK := i_ldI 1 (i_c0 (fun x => decide (x < 0)) (kX11_at_16 n) (i_ldI 1 (i_ldA 0 (i_len (i_c2 (fun x y => decide (y ≤ x)) (kX11_at_16 n) (i_ldA 0 (i_ldI 1 (i_al 0 ((kX11_at_17 n))))))))))
set_option maxRecDepth 20000 in
theorem okX11_at_0 {E : mE} {X : State → Heap → Prop} {l : Launch} (hX : mXok E X) (n : Nat) : Sd E X l yX11_at cX11_at 2 (some .int) 1 0 0 0 0 0 (kX11_at_0 n) := s_iload_n dX11_at_0 rfl (s_iflt dX11_at_1 (by decide) (okX11_at_16 hX n) (s_iload_n dX11_at_4 rfl (s_aload_n dX11_at_5 rfl (s_len dX11_at_6 (s_icge dX11_at_7 (by decide) (okX11_at_16 hX n) (s_aload_n dX11_at_10 rfl (s_iload_n dX11_at_11 rfl (s_iald dX11_at_12 (s_goto dX11_at_13 (by decide) (okX11_at_17 hX n))))))))))
def FX11_at (n : Nat) : List Value → mM → Option mR := mfn 2 (kX11_at_0 n)
theorem CtX11_at {E : mE} {X : State → Heap → Prop} {l : Launch} (hX : mXok E X) (n : Nat) : Ct E X l yX11_at cX11_at 2 (some .int) 1 0 0 (FX11_at n) := Ct_of (by decide) hX (okX11_at_0 hX n)
theorem dX11_bit_0 : decode cX11_bit 0 = .ok (.iconst 1, 1) := by decide +kernel
theorem dX11_bit_1 : decode cX11_bit 1 = .ok (.iload_n 0, 1) := by decide +kernel
theorem dX11_bit_2 : decode cX11_bit 2 = .ok (.ishl, 1) := by decide +kernel
theorem dX11_bit_3 : decode cX11_bit 3 = .ok (.ireturn, 1) := by decide +kernel
def kX11_bit_0 (n : Nat) : mK := i_cst (.int (1)) (i_ldI 0 (i_bin (fun x y => x <<< (y &&& 31)) (i_rI)))
set_option maxRecDepth 20000 in
theorem okX11_bit_0 {E : mE} {X : State → Heap → Prop} {l : Launch} (hX : mXok E X) (n : Nat) : Sd E X l yX11_bit cX11_bit 1 (some .int) 1 0 0 0 0 0 (kX11_bit_0 n) := s_iconst dX11_bit_0 (by decide) (s_iload_n dX11_bit_1 rfl (s_ishl dX11_bit_2 (s_rI dX11_bit_3 (Nat.le_of_ble_eq_true rfl) (Nat.le_of_ble_eq_true rfl))))
def FX11_bit (n : Nat) : List Value → mM → Option mR := mfn 1 (kX11_bit_0 n)
theorem CtX11_bit {E : mE} {X : State → Heap → Prop} {l : Launch} (hX : mXok E X) (n : Nat) : Ct E X l yX11_bit cX11_bit 1 (some .int) 1 0 0 (FX11_bit n) := Ct_of (by decide) hX (okX11_bit_0 hX n)
theorem dX11_commonDivisor_0 : decode cX11_commonDivisor 0 = .ok (.iload_n 1, 1) := by decide +kernel
theorem dX11_commonDivisor_1 : decode cX11_commonDivisor 1 = .ok (.istore_n 2, 1) := by decide +kernel
theorem dX11_commonDivisor_2 : decode cX11_commonDivisor 2 = .ok (.iload_n 0, 1) := by decide +kernel
theorem dX11_commonDivisor_3 : decode cX11_commonDivisor 3 = .ok (.istore_n 3, 1) := by decide +kernel
theorem dX11_commonDivisor_4 : decode cX11_commonDivisor 4 = .ok (.iconst 0, 1) := by decide +kernel
theorem dX11_commonDivisor_5 : decode cX11_commonDivisor 5 = .ok (.istore 4, 2) := by decide +kernel
theorem dX11_commonDivisor_7 : decode cX11_commonDivisor 7 = .ok (.iload 4, 2) := by decide +kernel
theorem dX11_commonDivisor_9 : decode cX11_commonDivisor 9 = .ok (.bipush 100, 2) := by decide +kernel
theorem dX11_commonDivisor_11 : decode cX11_commonDivisor 11 = .ok (.if_icmp .ge 23, 3) := by decide +kernel
theorem dX11_commonDivisor_14 : decode cX11_commonDivisor 14 = .ok (.iload_n 3, 1) := by decide +kernel
theorem dX11_commonDivisor_15 : decode cX11_commonDivisor 15 = .ok (.ifCond .le 19, 3) := by decide +kernel
theorem dX11_commonDivisor_18 : decode cX11_commonDivisor 18 = .ok (.iload_n 2, 1) := by decide +kernel
theorem dX11_commonDivisor_19 : decode cX11_commonDivisor 19 = .ok (.iload_n 3, 1) := by decide +kernel
theorem dX11_commonDivisor_20 : decode cX11_commonDivisor 20 = .ok (.irem, 1) := by decide +kernel
theorem dX11_commonDivisor_21 : decode cX11_commonDivisor 21 = .ok (.istore 5, 2) := by decide +kernel
theorem dX11_commonDivisor_23 : decode cX11_commonDivisor 23 = .ok (.iload_n 3, 1) := by decide +kernel
theorem dX11_commonDivisor_24 : decode cX11_commonDivisor 24 = .ok (.istore_n 2, 1) := by decide +kernel
theorem dX11_commonDivisor_25 : decode cX11_commonDivisor 25 = .ok (.iload 5, 2) := by decide +kernel
theorem dX11_commonDivisor_27 : decode cX11_commonDivisor 27 = .ok (.istore_n 3, 1) := by decide +kernel
theorem dX11_commonDivisor_28 : decode cX11_commonDivisor 28 = .ok (.iinc 4 1, 3) := by decide +kernel
theorem dX11_commonDivisor_31 : decode cX11_commonDivisor 31 = .ok (.goto (-24), 3) := by decide +kernel
theorem dX11_commonDivisor_34 : decode cX11_commonDivisor 34 = .ok (.iload_n 2, 1) := by decide +kernel
theorem dX11_commonDivisor_35 : decode cX11_commonDivisor 35 = .ok (.ireturn, 1) := by decide +kernel
def kX11_commonDivisor_34 (n : Nat) : mK := i_ldI 2 (i_rI)
set_option maxRecDepth 20000 in
theorem okX11_commonDivisor_34 {E : mE} {X : State → Heap → Prop} {l : Launch} (hX : mXok E X) (n : Nat) : Sd E X l yX11_commonDivisor cX11_commonDivisor 6 (some .int) 1 0 0 0 0 34 (kX11_commonDivisor_34 n) := s_iload_n dX11_commonDivisor_34 rfl (s_rI dX11_commonDivisor_35 (Nat.le_of_ble_eq_true rfl) (Nat.le_of_ble_eq_true rfl))
def kX11_commonDivisor_7 (n : Nat) (r7 : mK) : mK := i_ldI 4 (i_cst (.int (100)) (i_c2 (fun x y => decide (y ≤ x)) (kX11_commonDivisor_34 n) (i_ldI 3 (i_c0 (fun x => decide (x ≤ 0)) (kX11_commonDivisor_34 n) (i_ldI 2 (i_ldI 3 (i_dv (fun x y => x - x / y * y) (i_stI 5 (i_ldI 3 (i_stI 2 (i_ldI 5 (i_stI 3 (i_inc 4 (1) (r7))))))))))))))
set_option maxRecDepth 20000 in
theorem okX11_commonDivisor_7 {E : mE} {X : State → Heap → Prop} {l : Launch} (hX : mXok E X) (n : Nat) {r7 : mK} (h7 : Sd E X l yX11_commonDivisor cX11_commonDivisor 6 (some .int) 1 0 0 0 0 7 r7) : Sd E X l yX11_commonDivisor cX11_commonDivisor 6 (some .int) 1 0 0 0 0 7 (kX11_commonDivisor_7 n r7) := s_iload dX11_commonDivisor_7 (s_bipush dX11_commonDivisor_9 (by decide) (s_icge dX11_commonDivisor_11 (by decide) (okX11_commonDivisor_34 hX n) (s_iload_n dX11_commonDivisor_14 rfl (s_ifle dX11_commonDivisor_15 (by decide) (okX11_commonDivisor_34 hX n) (s_iload_n dX11_commonDivisor_18 rfl (s_iload_n dX11_commonDivisor_19 rfl (s_irem dX11_commonDivisor_20 (s_istore dX11_commonDivisor_21 (s_iload_n dX11_commonDivisor_23 rfl (s_istore_n dX11_commonDivisor_24 rfl (s_iload dX11_commonDivisor_25 (s_istore_n dX11_commonDivisor_27 rfl (s_iinc dX11_commonDivisor_28 (by decide) (s_goto dX11_commonDivisor_31 (by decide) h7))))))))))))))
def kX11_commonDivisor_0 (n : Nat) : mK := i_ldI 1 (i_stI 2 (i_ldI 0 (i_stI 3 (i_cst (.int (0)) (i_stI 4 (mit (kX11_commonDivisor_7 n ) n))))))
set_option maxRecDepth 20000 in
theorem okX11_commonDivisor_0 {E : mE} {X : State → Heap → Prop} {l : Launch} (hX : mXok E X) (n : Nat) : Sd E X l yX11_commonDivisor cX11_commonDivisor 6 (some .int) 1 0 0 0 0 0 (kX11_commonDivisor_0 n) := s_iload_n dX11_commonDivisor_0 rfl (s_istore_n dX11_commonDivisor_1 rfl (s_iload_n dX11_commonDivisor_2 rfl (s_istore_n dX11_commonDivisor_3 rfl (s_iconst dX11_commonDivisor_4 (by decide) (s_istore dX11_commonDivisor_5 (s_mit (fun _ hk => okX11_commonDivisor_7 hX n hk) n))))))
def FX11_commonDivisor (n : Nat) : List Value → mM → Option mR := mfn 6 (kX11_commonDivisor_0 n)
theorem CtX11_commonDivisor {E : mE} {X : State → Heap → Prop} {l : Launch} (hX : mXok E X) (n : Nat) : Ct E X l yX11_commonDivisor cX11_commonDivisor 6 (some .int) 1 0 0 (FX11_commonDivisor n) := Ct_of (by decide) hX (okX11_commonDivisor_0 hX n)
theorem dX11_copyRow_0 : decode cX11_copyRow 0 = .ok (.iconst 0, 1) := by decide +kernel
theorem dX11_copyRow_1 : decode cX11_copyRow 1 = .ok (.istore_n 2, 1) := by decide +kernel
theorem dX11_copyRow_2 : decode cX11_copyRow 2 = .ok (.iload_n 2, 1) := by decide +kernel
theorem dX11_copyRow_3 : decode cX11_copyRow 3 = .ok (.aload_n 1, 1) := by decide +kernel
theorem dX11_copyRow_4 : decode cX11_copyRow 4 = .ok (.arraylength, 1) := by decide +kernel
theorem dX11_copyRow_5 : decode cX11_copyRow 5 = .ok (.if_icmp .ge 21, 3) := by decide +kernel
theorem dX11_copyRow_8 : decode cX11_copyRow 8 = .ok (.iload_n 2, 1) := by decide +kernel
theorem dX11_copyRow_9 : decode cX11_copyRow 9 = .ok (.aload_n 0, 1) := by decide +kernel
theorem dX11_copyRow_10 : decode cX11_copyRow 10 = .ok (.arraylength, 1) := by decide +kernel
theorem dX11_copyRow_11 : decode cX11_copyRow 11 = .ok (.if_icmp .ge 15, 3) := by decide +kernel
theorem dX11_copyRow_14 : decode cX11_copyRow 14 = .ok (.aload_n 1, 1) := by decide +kernel
theorem dX11_copyRow_15 : decode cX11_copyRow 15 = .ok (.iload_n 2, 1) := by decide +kernel
theorem dX11_copyRow_16 : decode cX11_copyRow 16 = .ok (.aload_n 0, 1) := by decide +kernel
theorem dX11_copyRow_17 : decode cX11_copyRow 17 = .ok (.iload_n 2, 1) := by decide +kernel
theorem dX11_copyRow_18 : decode cX11_copyRow 18 = .ok (.iaload, 1) := by decide +kernel
theorem dX11_copyRow_19 : decode cX11_copyRow 19 = .ok (.iastore, 1) := by decide +kernel
theorem dX11_copyRow_20 : decode cX11_copyRow 20 = .ok (.iinc 2 1, 3) := by decide +kernel
theorem dX11_copyRow_23 : decode cX11_copyRow 23 = .ok (.goto (-21), 3) := by decide +kernel
theorem dX11_copyRow_26 : decode cX11_copyRow 26 = .ok (.return_, 1) := by decide +kernel
def kX11_copyRow_26 (n : Nat) : mK := i_rV
set_option maxRecDepth 20000 in
theorem okX11_copyRow_26 {E : mE} {X : State → Heap → Prop} {l : Launch} (hX : mXok E X) (n : Nat) : Sd E X l yX11_copyRow cX11_copyRow 3 none 1 0 0 0 0 26 (kX11_copyRow_26 n) := s_rV dX11_copyRow_26 (Nat.le_of_ble_eq_true rfl) (Nat.le_of_ble_eq_true rfl)
def kX11_copyRow_2 (n : Nat) (r2 : mK) : mK := i_ldI 2 (i_ldA 1 (i_len (i_c2 (fun x y => decide (y ≤ x)) (kX11_copyRow_26 n) (i_ldI 2 (i_ldA 0 (i_len (i_c2 (fun x y => decide (y ≤ x)) (kX11_copyRow_26 n) (i_ldA 1 (i_ldI 2 (i_ldA 0 (i_ldI 2 (i_al 0 (i_as 0 (i_inc 2 (1) (r2)))))))))))))))
set_option maxRecDepth 20000 in
theorem okX11_copyRow_2 {E : mE} {X : State → Heap → Prop} {l : Launch} (hX : mXok E X) (n : Nat) {r2 : mK} (h2 : Sd E X l yX11_copyRow cX11_copyRow 3 none 1 0 0 0 0 2 r2) : Sd E X l yX11_copyRow cX11_copyRow 3 none 1 0 0 0 0 2 (kX11_copyRow_2 n r2) := s_iload_n dX11_copyRow_2 rfl (s_aload_n dX11_copyRow_3 rfl (s_len dX11_copyRow_4 (s_icge dX11_copyRow_5 (by decide) (okX11_copyRow_26 hX n) (s_iload_n dX11_copyRow_8 rfl (s_aload_n dX11_copyRow_9 rfl (s_len dX11_copyRow_10 (s_icge dX11_copyRow_11 (by decide) (okX11_copyRow_26 hX n) (s_aload_n dX11_copyRow_14 rfl (s_iload_n dX11_copyRow_15 rfl (s_aload_n dX11_copyRow_16 rfl (s_iload_n dX11_copyRow_17 rfl (s_iald dX11_copyRow_18 (s_iast dX11_copyRow_19 (s_iinc dX11_copyRow_20 (by decide) (s_goto dX11_copyRow_23 (by decide) h2)))))))))))))))
def kX11_copyRow_0 (n : Nat) : mK := i_cst (.int (0)) (i_stI 2 (mit (kX11_copyRow_2 n ) n))
set_option maxRecDepth 20000 in
theorem okX11_copyRow_0 {E : mE} {X : State → Heap → Prop} {l : Launch} (hX : mXok E X) (n : Nat) : Sd E X l yX11_copyRow cX11_copyRow 3 none 1 0 0 0 0 0 (kX11_copyRow_0 n) := s_iconst dX11_copyRow_0 (by decide) (s_istore_n dX11_copyRow_1 rfl (s_mit (fun _ hk => okX11_copyRow_2 hX n hk) n))
def FX11_copyRow (n : Nat) : List Value → mM → Option mR := mfn 3 (kX11_copyRow_0 n)
theorem CtX11_copyRow {E : mE} {X : State → Heap → Prop} {l : Launch} (hX : mXok E X) (n : Nat) : Ct E X l yX11_copyRow cX11_copyRow 3 none 1 0 0 (FX11_copyRow n) := Ct_of (by decide) hX (okX11_copyRow_0 hX n)
theorem dX11_end_0 : decode cX11_end 0 = .ok (.iload_n 1, 1) := by decide +kernel
theorem dX11_end_1 : decode cX11_end 1 = .ok (.ifCond .lt 11, 3) := by decide +kernel
theorem dX11_end_4 : decode cX11_end 4 = .ok (.iload_n 1, 1) := by decide +kernel
theorem dX11_end_5 : decode cX11_end 5 = .ok (.aload_n 0, 1) := by decide +kernel
theorem dX11_end_6 : decode cX11_end 6 = .ok (.getfield 104, 3) := by decide +kernel
theorem dX11_end_9 : decode cX11_end 9 = .ok (.if_icmp .le 5, 3) := by decide +kernel
theorem dX11_end_12 : decode cX11_end 12 = .ok (.iconst (-1), 1) := by decide +kernel
theorem dX11_end_13 : decode cX11_end 13 = .ok (.ireturn, 1) := by decide +kernel
theorem dX11_end_14 : decode cX11_end 14 = .ok (.aload_n 0, 1) := by decide +kernel
theorem dX11_end_15 : decode cX11_end 15 = .ok (.iload_n 1, 1) := by decide +kernel
theorem dX11_end_16 : decode cX11_end 16 = .ok (.putfield 104, 3) := by decide +kernel
theorem dX11_end_19 : decode cX11_end 19 = .ok (.iload_n 1, 1) := by decide +kernel
theorem dX11_end_20 : decode cX11_end 20 = .ok (.ireturn, 1) := by decide +kernel
def kX11_end_12 (n : Nat) : mK := i_cst (.int (-1)) (i_rI)
set_option maxRecDepth 20000 in
theorem okX11_end_12 {E : mE} {X : State → Heap → Prop} {l : Launch} (hX : mXok E X) (n : Nat) : Sd E X l yX11_end cX11_end 2 (some .int) 1 0 0 0 0 12 (kX11_end_12 n) := s_iconst dX11_end_12 (by decide) (s_rI dX11_end_13 (Nat.le_of_ble_eq_true rfl) (Nat.le_of_ble_eq_true rfl))
def kX11_end_0 (n : Nat) : mK := i_ldI 1 (i_c0 (fun x => decide (x < 0)) (kX11_end_12 n) (i_ldI 1 (i_ldA 0 (i_gI 11 1 (i_c2 (fun x y => decide (x ≤ y)) (i_ldA 0 (i_ldI 1 (i_pI 11 1 (i_ldI 1 (i_rI))))) (kX11_end_12 n))))))
set_option maxRecDepth 20000 in
theorem okX11_end_0 {E : mE} {X : State → Heap → Prop} {l : Launch} (hX : mXok E X) (n : Nat) : Sd E X l yX11_end cX11_end 2 (some .int) 1 0 0 0 0 0 (kX11_end_0 n) := s_iload_n dX11_end_0 rfl (s_iflt dX11_end_1 (by decide) (okX11_end_12 hX n) (s_iload_n dX11_end_4 rfl (s_aload_n dX11_end_5 rfl (s_gI dX11_end_6 lFX11_104 (by decide) (s_icle dX11_end_9 (by decide) (s_aload_n dX11_end_14 rfl (s_iload_n dX11_end_15 rfl (s_pI dX11_end_16 lFX11_104 (s_iload_n dX11_end_19 rfl (s_rI dX11_end_20 (Nat.le_of_ble_eq_true rfl) (Nat.le_of_ble_eq_true rfl)))))) (okX11_end_12 hX n))))))
def FX11_end (n : Nat) : List Value → mM → Option mR := mfn 2 (kX11_end_0 n)
theorem CtX11_end {E : mE} {X : State → Heap → Prop} {l : Launch} (hX : mXok E X) (n : Nat) : Ct E X l yX11_end cX11_end 2 (some .int) 1 0 0 (FX11_end n) := Ct_of (by decide) hX (okX11_end_0 hX n)
theorem dX11_fault_0 : decode cX11_fault 0 = .ok (.iload_n 1, 1) := by decide +kernel
theorem dX11_fault_1 : decode cX11_fault 1 = .ok (.ifCond .ne 11, 3) := by decide +kernel
theorem dX11_fault_4 : decode cX11_fault 4 = .ok (.aload_n 0, 1) := by decide +kernel
theorem dX11_fault_5 : decode cX11_fault 5 = .ok (.getfield 28, 3) := by decide +kernel
theorem dX11_fault_8 : decode cX11_fault 8 = .ok (.getfield 132, 3) := by decide +kernel
theorem dX11_fault_11 : decode cX11_fault 11 = .ok (.ireturn, 1) := by decide +kernel
theorem dX11_fault_12 : decode cX11_fault 12 = .ok (.iload_n 1, 1) := by decide +kernel
theorem dX11_fault_13 : decode cX11_fault 13 = .ok (.iconst 1, 1) := by decide +kernel
theorem dX11_fault_14 : decode cX11_fault 14 = .ok (.if_icmp .ne 13, 3) := by decide +kernel
theorem dX11_fault_17 : decode cX11_fault 17 = .ok (.aload_n 0, 1) := by decide +kernel
theorem dX11_fault_18 : decode cX11_fault 18 = .ok (.getfield 28, 3) := by decide +kernel
theorem dX11_fault_21 : decode cX11_fault 21 = .ok (.getfield 135, 3) := by decide +kernel
theorem dX11_fault_24 : decode cX11_fault 24 = .ok (.goto 4, 3) := by decide +kernel
theorem dX11_fault_27 : decode cX11_fault 27 = .ok (.iconst (-1), 1) := by decide +kernel
theorem dX11_fault_28 : decode cX11_fault 28 = .ok (.ireturn, 1) := by decide +kernel
def kX11_fault_28 (n : Nat) : mK := i_rI
set_option maxRecDepth 20000 in
theorem okX11_fault_28 {E : mE} {X : State → Heap → Prop} {l : Launch} (hX : mXok E X) (n : Nat) : Sd E X l yX11_fault cX11_fault 2 (some .int) 1 0 0 0 0 28 (kX11_fault_28 n) := s_rI dX11_fault_28 (Nat.le_of_ble_eq_true rfl) (Nat.le_of_ble_eq_true rfl)
def kX11_fault_0 (n : Nat) : mK := i_ldI 1 (i_c0 (fun x => decide (¬ x = 0)) (i_ldI 1 (i_cst (.int (1)) (i_c2 (fun x y => decide (¬ x = y)) (i_cst (.int (-1)) (kX11_fault_28 n)) (i_ldA 0 (i_gA 11 4 (i_gI 5 12 ((kX11_fault_28 n)))))))) (i_ldA 0 (i_gA 11 4 (i_gI 5 11 (i_rI)))))
set_option maxRecDepth 20000 in
theorem okX11_fault_0 {E : mE} {X : State → Heap → Prop} {l : Launch} (hX : mXok E X) (n : Nat) : Sd E X l yX11_fault cX11_fault 2 (some .int) 1 0 0 0 0 0 (kX11_fault_0 n) := s_iload_n dX11_fault_0 rfl (s_ifne dX11_fault_1 (by decide) (s_iload_n dX11_fault_12 rfl (s_iconst dX11_fault_13 (by decide) (s_icne dX11_fault_14 (by decide) (s_iconst dX11_fault_27 (by decide) (okX11_fault_28 hX n)) (s_aload_n dX11_fault_17 rfl (s_gA dX11_fault_18 lFX11_28 (s_gI dX11_fault_21 lFX11_135 (by decide) (s_goto dX11_fault_24 (by decide) (okX11_fault_28 hX n)))))))) (s_aload_n dX11_fault_4 rfl (s_gA dX11_fault_5 lFX11_28 (s_gI dX11_fault_8 lFX11_132 (by decide) (s_rI dX11_fault_11 (Nat.le_of_ble_eq_true rfl) (Nat.le_of_ble_eq_true rfl))))))
def FX11_fault (n : Nat) : List Value → mM → Option mR := mfn 2 (kX11_fault_0 n)
theorem CtX11_fault {E : mE} {X : State → Heap → Prop} {l : Launch} (hX : mXok E X) (n : Nat) : Ct E X l yX11_fault cX11_fault 2 (some .int) 1 0 0 (FX11_fault n) := Ct_of (by decide) hX (okX11_fault_0 hX n)
theorem dX11_isHeading_0 : decode cX11_isHeading 0 = .ok (.iload_n 0, 1) := by decide +kernel
theorem dX11_isHeading_1 : decode cX11_isHeading 1 = .ok (.ifCond .lt 12, 3) := by decide +kernel
theorem dX11_isHeading_4 : decode cX11_isHeading 4 = .ok (.iload_n 0, 1) := by decide +kernel
theorem dX11_isHeading_5 : decode cX11_isHeading 5 = .ok (.iconst 4, 1) := by decide +kernel
theorem dX11_isHeading_6 : decode cX11_isHeading 6 = .ok (.if_icmp .ge 7, 3) := by decide +kernel
theorem dX11_isHeading_9 : decode cX11_isHeading 9 = .ok (.iconst 1, 1) := by decide +kernel
theorem dX11_isHeading_10 : decode cX11_isHeading 10 = .ok (.goto 4, 3) := by decide +kernel
theorem dX11_isHeading_13 : decode cX11_isHeading 13 = .ok (.iconst 0, 1) := by decide +kernel
theorem dX11_isHeading_14 : decode cX11_isHeading 14 = .ok (.ireturn, 1) := by decide +kernel
def kX11_isHeading_14 (n : Nat) : mK := i_rZ
set_option maxRecDepth 20000 in
theorem okX11_isHeading_14 {E : mE} {X : State → Heap → Prop} {l : Launch} (hX : mXok E X) (n : Nat) : Sd E X l yX11_isHeading cX11_isHeading 1 (some .boolean) 1 0 0 0 0 14 (kX11_isHeading_14 n) := s_rZ dX11_isHeading_14 (Nat.le_of_ble_eq_true rfl) (Nat.le_of_ble_eq_true rfl)
def kX11_isHeading_13 (n : Nat) : mK := i_cst (.int (0)) (kX11_isHeading_14 n)
set_option maxRecDepth 20000 in
theorem okX11_isHeading_13 {E : mE} {X : State → Heap → Prop} {l : Launch} (hX : mXok E X) (n : Nat) : Sd E X l yX11_isHeading cX11_isHeading 1 (some .boolean) 1 0 0 0 0 13 (kX11_isHeading_13 n) := s_iconst dX11_isHeading_13 (by decide) (okX11_isHeading_14 hX n)
def kX11_isHeading_0 (n : Nat) : mK := i_ldI 0 (i_c0 (fun x => decide (x < 0)) (kX11_isHeading_13 n) (i_ldI 0 (i_cst (.int (4)) (i_c2 (fun x y => decide (y ≤ x)) (kX11_isHeading_13 n) (i_cst (.int (1)) ((kX11_isHeading_14 n)))))))
set_option maxRecDepth 20000 in
theorem okX11_isHeading_0 {E : mE} {X : State → Heap → Prop} {l : Launch} (hX : mXok E X) (n : Nat) : Sd E X l yX11_isHeading cX11_isHeading 1 (some .boolean) 1 0 0 0 0 0 (kX11_isHeading_0 n) := s_iload_n dX11_isHeading_0 rfl (s_iflt dX11_isHeading_1 (by decide) (okX11_isHeading_13 hX n) (s_iload_n dX11_isHeading_4 rfl (s_iconst dX11_isHeading_5 (by decide) (s_icge dX11_isHeading_6 (by decide) (okX11_isHeading_13 hX n) (s_iconst dX11_isHeading_9 (by decide) (s_goto dX11_isHeading_10 (by decide) (okX11_isHeading_14 hX n)))))))
def FX11_isHeading (n : Nat) : List Value → mM → Option mR := mfn 1 (kX11_isHeading_0 n)
theorem CtX11_isHeading {E : mE} {X : State → Heap → Prop} {l : Launch} (hX : mXok E X) (n : Nat) : Ct E X l yX11_isHeading cX11_isHeading 1 (some .boolean) 1 0 0 (FX11_isHeading n) := Ct_of (by decide) hX (okX11_isHeading_0 hX n)
theorem dX11_isLook_0 : decode cX11_isLook 0 = .ok (.iload_n 0, 1) := by decide +kernel
theorem dX11_isLook_1 : decode cX11_isLook 1 = .ok (.ifCond .lt 13, 3) := by decide +kernel
theorem dX11_isLook_4 : decode cX11_isLook 4 = .ok (.iload_n 0, 1) := by decide +kernel
theorem dX11_isLook_5 : decode cX11_isLook 5 = .ok (.bipush 60, 2) := by decide +kernel
theorem dX11_isLook_7 : decode cX11_isLook 7 = .ok (.if_icmp .gt 7, 3) := by decide +kernel
theorem dX11_isLook_10 : decode cX11_isLook 10 = .ok (.iconst 1, 1) := by decide +kernel
theorem dX11_isLook_11 : decode cX11_isLook 11 = .ok (.goto 4, 3) := by decide +kernel
theorem dX11_isLook_14 : decode cX11_isLook 14 = .ok (.iconst 0, 1) := by decide +kernel
theorem dX11_isLook_15 : decode cX11_isLook 15 = .ok (.ireturn, 1) := by decide +kernel
def kX11_isLook_15 (n : Nat) : mK := i_rZ
set_option maxRecDepth 20000 in
theorem okX11_isLook_15 {E : mE} {X : State → Heap → Prop} {l : Launch} (hX : mXok E X) (n : Nat) : Sd E X l yX11_isLook cX11_isLook 1 (some .boolean) 1 0 0 0 0 15 (kX11_isLook_15 n) := s_rZ dX11_isLook_15 (Nat.le_of_ble_eq_true rfl) (Nat.le_of_ble_eq_true rfl)
def kX11_isLook_14 (n : Nat) : mK := i_cst (.int (0)) (kX11_isLook_15 n)
set_option maxRecDepth 20000 in
theorem okX11_isLook_14 {E : mE} {X : State → Heap → Prop} {l : Launch} (hX : mXok E X) (n : Nat) : Sd E X l yX11_isLook cX11_isLook 1 (some .boolean) 1 0 0 0 0 14 (kX11_isLook_14 n) := s_iconst dX11_isLook_14 (by decide) (okX11_isLook_15 hX n)
def kX11_isLook_0 (n : Nat) : mK := i_ldI 0 (i_c0 (fun x => decide (x < 0)) (kX11_isLook_14 n) (i_ldI 0 (i_cst (.int (60)) (i_c2 (fun x y => decide (y < x)) (kX11_isLook_14 n) (i_cst (.int (1)) ((kX11_isLook_15 n)))))))
set_option maxRecDepth 20000 in
theorem okX11_isLook_0 {E : mE} {X : State → Heap → Prop} {l : Launch} (hX : mXok E X) (n : Nat) : Sd E X l yX11_isLook cX11_isLook 1 (some .boolean) 1 0 0 0 0 0 (kX11_isLook_0 n) := s_iload_n dX11_isLook_0 rfl (s_iflt dX11_isLook_1 (by decide) (okX11_isLook_14 hX n) (s_iload_n dX11_isLook_4 rfl (s_bipush dX11_isLook_5 (by decide) (s_icgt dX11_isLook_7 (by decide) (okX11_isLook_14 hX n) (s_iconst dX11_isLook_10 (by decide) (s_goto dX11_isLook_11 (by decide) (okX11_isLook_15 hX n)))))))
def FX11_isLook (n : Nat) : List Value → mM → Option mR := mfn 1 (kX11_isLook_0 n)
theorem CtX11_isLook {E : mE} {X : State → Heap → Prop} {l : Launch} (hX : mXok E X) (n : Nat) : Ct E X l yX11_isLook cX11_isLook 1 (some .boolean) 1 0 0 (FX11_isLook n) := Ct_of (by decide) hX (okX11_isLook_0 hX n)
theorem dX11_set_0 : decode cX11_set 0 = .ok (.iload_n 1, 1) := by decide +kernel
theorem dX11_set_1 : decode cX11_set 1 = .ok (.ifCond .lt 13, 3) := by decide +kernel
theorem dX11_set_4 : decode cX11_set 4 = .ok (.iload_n 1, 1) := by decide +kernel
theorem dX11_set_5 : decode cX11_set 5 = .ok (.aload_n 0, 1) := by decide +kernel
theorem dX11_set_6 : decode cX11_set 6 = .ok (.arraylength, 1) := by decide +kernel
theorem dX11_set_7 : decode cX11_set 7 = .ok (.if_icmp .ge 7, 3) := by decide +kernel
theorem dX11_set_10 : decode cX11_set 10 = .ok (.aload_n 0, 1) := by decide +kernel
theorem dX11_set_11 : decode cX11_set 11 = .ok (.iload_n 1, 1) := by decide +kernel
theorem dX11_set_12 : decode cX11_set 12 = .ok (.iload_n 2, 1) := by decide +kernel
theorem dX11_set_13 : decode cX11_set 13 = .ok (.iastore, 1) := by decide +kernel
theorem dX11_set_14 : decode cX11_set 14 = .ok (.return_, 1) := by decide +kernel
def kX11_set_14 (n : Nat) : mK := i_rV
set_option maxRecDepth 20000 in
theorem okX11_set_14 {E : mE} {X : State → Heap → Prop} {l : Launch} (hX : mXok E X) (n : Nat) : Sd E X l yX11_set cX11_set 3 none 1 0 0 0 0 14 (kX11_set_14 n) := s_rV dX11_set_14 (Nat.le_of_ble_eq_true rfl) (Nat.le_of_ble_eq_true rfl)
def kX11_set_0 (n : Nat) : mK := i_ldI 1 (i_c0 (fun x => decide (x < 0)) (kX11_set_14 n) (i_ldI 1 (i_ldA 0 (i_len (i_c2 (fun x y => decide (y ≤ x)) (kX11_set_14 n) (i_ldA 0 (i_ldI 1 (i_ldI 2 (i_as 0 (kX11_set_14 n))))))))))
set_option maxRecDepth 20000 in
theorem okX11_set_0 {E : mE} {X : State → Heap → Prop} {l : Launch} (hX : mXok E X) (n : Nat) : Sd E X l yX11_set cX11_set 3 none 1 0 0 0 0 0 (kX11_set_0 n) := s_iload_n dX11_set_0 rfl (s_iflt dX11_set_1 (by decide) (okX11_set_14 hX n) (s_iload_n dX11_set_4 rfl (s_aload_n dX11_set_5 rfl (s_len dX11_set_6 (s_icge dX11_set_7 (by decide) (okX11_set_14 hX n) (s_aload_n dX11_set_10 rfl (s_iload_n dX11_set_11 rfl (s_iload_n dX11_set_12 rfl (s_iast dX11_set_13 (okX11_set_14 hX n))))))))))
def FX11_set (n : Nat) : List Value → mM → Option mR := mfn 3 (kX11_set_0 n)
theorem CtX11_set {E : mE} {X : State → Heap → Prop} {l : Launch} (hX : mXok E X) (n : Nat) : Ct E X l yX11_set cX11_set 3 none 1 0 0 (FX11_set n) := Ct_of (by decide) hX (okX11_set_0 hX n)
theorem dX12_areBeside_0 : decode cX12_areBeside 0 = .ok (.iload_n 1, 1) := by decide +kernel
theorem dX12_areBeside_1 : decode cX12_areBeside 1 = .ok (.aload_n 0, 1) := by decide +kernel
theorem dX12_areBeside_2 : decode cX12_areBeside 2 = .ok (.getfield 20, 3) := by decide +kernel
theorem dX12_areBeside_5 : decode cX12_areBeside 5 = .ok (.aload_n 0, 1) := by decide +kernel
theorem dX12_areBeside_6 : decode cX12_areBeside 6 = .ok (.getfield 255, 3) := by decide +kernel
theorem dX12_areBeside_9 : decode cX12_areBeside 9 = .ok (.iaload, 1) := by decide +kernel
theorem dX12_areBeside_10 : decode cX12_areBeside 10 = .ok (.irem, 1) := by decide +kernel
theorem dX12_areBeside_11 : decode cX12_areBeside 11 = .ok (.iload_n 2, 1) := by decide +kernel
theorem dX12_areBeside_12 : decode cX12_areBeside 12 = .ok (.aload_n 0, 1) := by decide +kernel
theorem dX12_areBeside_13 : decode cX12_areBeside 13 = .ok (.getfield 20, 3) := by decide +kernel
theorem dX12_areBeside_16 : decode cX12_areBeside 16 = .ok (.aload_n 0, 1) := by decide +kernel
theorem dX12_areBeside_17 : decode cX12_areBeside 17 = .ok (.getfield 255, 3) := by decide +kernel
theorem dX12_areBeside_20 : decode cX12_areBeside 20 = .ok (.iaload, 1) := by decide +kernel
theorem dX12_areBeside_21 : decode cX12_areBeside 21 = .ok (.irem, 1) := by decide +kernel
theorem dX12_areBeside_22 : decode cX12_areBeside 22 = .ok (.isub, 1) := by decide +kernel
theorem dX12_areBeside_23 : decode cX12_areBeside 23 = .ok (.istore_n 3, 1) := by decide +kernel
theorem dX12_areBeside_24 : decode cX12_areBeside 24 = .ok (.iload_n 1, 1) := by decide +kernel
theorem dX12_areBeside_25 : decode cX12_areBeside 25 = .ok (.aload_n 0, 1) := by decide +kernel
theorem dX12_areBeside_26 : decode cX12_areBeside 26 = .ok (.getfield 20, 3) := by decide +kernel
theorem dX12_areBeside_29 : decode cX12_areBeside 29 = .ok (.aload_n 0, 1) := by decide +kernel
theorem dX12_areBeside_30 : decode cX12_areBeside 30 = .ok (.getfield 255, 3) := by decide +kernel
theorem dX12_areBeside_33 : decode cX12_areBeside 33 = .ok (.iaload, 1) := by decide +kernel
theorem dX12_areBeside_34 : decode cX12_areBeside 34 = .ok (.idiv, 1) := by decide +kernel
theorem dX12_areBeside_35 : decode cX12_areBeside 35 = .ok (.iload_n 2, 1) := by decide +kernel
theorem dX12_areBeside_36 : decode cX12_areBeside 36 = .ok (.aload_n 0, 1) := by decide +kernel
theorem dX12_areBeside_37 : decode cX12_areBeside 37 = .ok (.getfield 20, 3) := by decide +kernel
theorem dX12_areBeside_40 : decode cX12_areBeside 40 = .ok (.aload_n 0, 1) := by decide +kernel
theorem dX12_areBeside_41 : decode cX12_areBeside 41 = .ok (.getfield 255, 3) := by decide +kernel
theorem dX12_areBeside_44 : decode cX12_areBeside 44 = .ok (.iaload, 1) := by decide +kernel
theorem dX12_areBeside_45 : decode cX12_areBeside 45 = .ok (.idiv, 1) := by decide +kernel
theorem dX12_areBeside_46 : decode cX12_areBeside 46 = .ok (.isub, 1) := by decide +kernel
theorem dX12_areBeside_47 : decode cX12_areBeside 47 = .ok (.istore 4, 2) := by decide +kernel
theorem dX12_areBeside_49 : decode cX12_areBeside 49 = .ok (.iload_n 3, 1) := by decide +kernel
theorem dX12_areBeside_50 : decode cX12_areBeside 50 = .ok (.iload_n 3, 1) := by decide +kernel
theorem dX12_areBeside_51 : decode cX12_areBeside 51 = .ok (.imul, 1) := by decide +kernel
theorem dX12_areBeside_52 : decode cX12_areBeside 52 = .ok (.iload 4, 2) := by decide +kernel
theorem dX12_areBeside_54 : decode cX12_areBeside 54 = .ok (.iload 4, 2) := by decide +kernel
theorem dX12_areBeside_56 : decode cX12_areBeside 56 = .ok (.imul, 1) := by decide +kernel
theorem dX12_areBeside_57 : decode cX12_areBeside 57 = .ok (.iadd, 1) := by decide +kernel
theorem dX12_areBeside_58 : decode cX12_areBeside 58 = .ok (.iconst 1, 1) := by decide +kernel
theorem dX12_areBeside_59 : decode cX12_areBeside 59 = .ok (.if_icmp .ne 7, 3) := by decide +kernel
theorem dX12_areBeside_62 : decode cX12_areBeside 62 = .ok (.iconst 1, 1) := by decide +kernel
theorem dX12_areBeside_63 : decode cX12_areBeside 63 = .ok (.goto 4, 3) := by decide +kernel
theorem dX12_areBeside_66 : decode cX12_areBeside 66 = .ok (.iconst 0, 1) := by decide +kernel
theorem dX12_areBeside_67 : decode cX12_areBeside 67 = .ok (.ireturn, 1) := by decide +kernel
def kX12_areBeside_67 (n : Nat) : mK := i_rZ
set_option maxRecDepth 20000 in
theorem okX12_areBeside_67 {E : mE} {X : State → Heap → Prop} {l : Launch} (hX : mXok E X) (n : Nat) : Sd E X l yX12_areBeside cX12_areBeside 5 (some .boolean) 1 0 0 0 0 67 (kX12_areBeside_67 n) := s_rZ dX12_areBeside_67 (Nat.le_of_ble_eq_true rfl) (Nat.le_of_ble_eq_true rfl)
def kX12_areBeside_36 (n : Nat) : mK := i_ldA 0 (i_gA 12 11 (i_ldA 0 (i_gI 12 31 (i_al 0 (i_dv (fun x y => x / y) (i_bin (fun x y => x - y) (i_stI 4 (i_ldI 3 (i_ldI 3 (i_bin (fun x y => x * y) (i_ldI 4 (i_ldI 4 (i_bin (fun x y => x * y) (i_bin (fun x y => x + y) (i_cst (.int (1)) (i_c2 (fun x y => decide (¬ x = y)) (i_cst (.int (0)) (kX12_areBeside_67 n)) (i_cst (.int (1)) ((kX12_areBeside_67 n)))))))))))))))))))
set_option maxRecDepth 20000 in
theorem okX12_areBeside_36 {E : mE} {X : State → Heap → Prop} {l : Launch} (hX : mXok E X) (n : Nat) : Sd E X l yX12_areBeside cX12_areBeside 5 (some .boolean) 1 0 0 0 0 36 (kX12_areBeside_36 n) := s_aload_n dX12_areBeside_36 rfl (s_gA dX12_areBeside_37 lFX12_20 (s_aload_n dX12_areBeside_40 rfl (s_gI dX12_areBeside_41 lFX12_255 (by decide) (s_iald dX12_areBeside_44 (s_idiv dX12_areBeside_45 (s_isub dX12_areBeside_46 (s_istore dX12_areBeside_47 (s_iload_n dX12_areBeside_49 rfl (s_iload_n dX12_areBeside_50 rfl (s_imul dX12_areBeside_51 (s_iload dX12_areBeside_52 (s_iload dX12_areBeside_54 (s_imul dX12_areBeside_56 (s_iadd dX12_areBeside_57 (s_iconst dX12_areBeside_58 (by decide) (s_icne dX12_areBeside_59 (by decide) (s_iconst dX12_areBeside_66 (by decide) (okX12_areBeside_67 hX n)) (s_iconst dX12_areBeside_62 (by decide) (s_goto dX12_areBeside_63 (by decide) (okX12_areBeside_67 hX n)))))))))))))))))))
def kX12_areBeside_0 (n : Nat) : mK := i_ldI 1 (i_ldA 0 (i_gA 12 11 (i_ldA 0 (i_gI 12 31 (i_al 0 (i_dv (fun x y => x - x / y * y) (i_ldI 2 (i_ldA 0 (i_gA 12 11 (i_ldA 0 (i_gI 12 31 (i_al 0 (i_dv (fun x y => x - x / y * y) (i_bin (fun x y => x - y) (i_stI 3 (i_ldI 1 (i_ldA 0 (i_gA 12 11 (i_ldA 0 (i_gI 12 31 (i_al 0 (i_dv (fun x y => x / y) (i_ldI 2 (kX12_areBeside_36 n))))))))))))))))))))))))
set_option maxRecDepth 20000 in
theorem okX12_areBeside_0 {E : mE} {X : State → Heap → Prop} {l : Launch} (hX : mXok E X) (n : Nat) : Sd E X l yX12_areBeside cX12_areBeside 5 (some .boolean) 1 0 0 0 0 0 (kX12_areBeside_0 n) := s_iload_n dX12_areBeside_0 rfl (s_aload_n dX12_areBeside_1 rfl (s_gA dX12_areBeside_2 lFX12_20 (s_aload_n dX12_areBeside_5 rfl (s_gI dX12_areBeside_6 lFX12_255 (by decide) (s_iald dX12_areBeside_9 (s_irem dX12_areBeside_10 (s_iload_n dX12_areBeside_11 rfl (s_aload_n dX12_areBeside_12 rfl (s_gA dX12_areBeside_13 lFX12_20 (s_aload_n dX12_areBeside_16 rfl (s_gI dX12_areBeside_17 lFX12_255 (by decide) (s_iald dX12_areBeside_20 (s_irem dX12_areBeside_21 (s_isub dX12_areBeside_22 (s_istore_n dX12_areBeside_23 rfl (s_iload_n dX12_areBeside_24 rfl (s_aload_n dX12_areBeside_25 rfl (s_gA dX12_areBeside_26 lFX12_20 (s_aload_n dX12_areBeside_29 rfl (s_gI dX12_areBeside_30 lFX12_255 (by decide) (s_iald dX12_areBeside_33 (s_idiv dX12_areBeside_34 (s_iload_n dX12_areBeside_35 rfl (okX12_areBeside_36 hX n))))))))))))))))))))))))
def FX12_areBeside (n : Nat) : List Value → mM → Option mR := mfn 5 (kX12_areBeside_0 n)
theorem CtX12_areBeside {E : mE} {X : State → Heap → Prop} {l : Launch} (hX : mXok E X) (n : Nat) : Ct E X l yX12_areBeside cX12_areBeside 5 (some .boolean) 1 0 0 (FX12_areBeside n) := Ct_of (by decide) hX (okX12_areBeside_0 hX n)
theorem dX12_asked_0 : decode cX12_asked 0 = .ok (.iload_n 1, 1) := by decide +kernel
theorem dX12_asked_1 : decode cX12_asked 1 = .ok (.lookupswitch 112 #[(98, 64), (104, 51), (108, 82), (109, 77), (121, 104)], 51) := by decide +kernel
theorem dX12_asked_52 : decode cX12_asked 52 = .ok (.aload_n 0, 1) := by decide +kernel
theorem dX12_asked_53 : decode cX12_asked 53 = .ok (.getfield 82, 3) := by decide +kernel
theorem dX12_asked_56 : decode cX12_asked 56 = .ok (.bipush 16, 2) := by decide +kernel
theorem dX12_asked_58 : decode cX12_asked 58 = .ok (.aload_n 0, 1) := by decide +kernel
theorem dX12_asked_59 : decode cX12_asked 59 = .ok (.getfield 322, 3) := by decide +kernel
theorem dX12_asked_62 : decode cX12_asked 62 = .ok (.iadd, 1) := by decide +kernel
theorem dX12_asked_63 : decode cX12_asked 63 = .ok (.iaload, 1) := by decide +kernel
theorem dX12_asked_64 : decode cX12_asked 64 = .ok (.ireturn, 1) := by decide +kernel
theorem dX12_asked_65 : decode cX12_asked 65 = .ok (.aload_n 0, 1) := by decide +kernel
theorem dX12_asked_66 : decode cX12_asked 66 = .ok (.getfield 82, 3) := by decide +kernel
theorem dX12_asked_69 : decode cX12_asked 69 = .ok (.bipush 24, 2) := by decide +kernel
theorem dX12_asked_71 : decode cX12_asked 71 = .ok (.aload_n 0, 1) := by decide +kernel
theorem dX12_asked_72 : decode cX12_asked 72 = .ok (.getfield 322, 3) := by decide +kernel
theorem dX12_asked_75 : decode cX12_asked 75 = .ok (.iadd, 1) := by decide +kernel
theorem dX12_asked_76 : decode cX12_asked 76 = .ok (.iaload, 1) := by decide +kernel
theorem dX12_asked_77 : decode cX12_asked 77 = .ok (.ireturn, 1) := by decide +kernel
theorem dX12_asked_78 : decode cX12_asked 78 = .ok (.aload_n 0, 1) := by decide +kernel
theorem dX12_asked_79 : decode cX12_asked 79 = .ok (.getfield 325, 3) := by decide +kernel
theorem dX12_asked_82 : decode cX12_asked 82 = .ok (.ireturn, 1) := by decide +kernel
theorem dX12_asked_83 : decode cX12_asked 83 = .ok (.aload_n 0, 1) := by decide +kernel
theorem dX12_asked_84 : decode cX12_asked 84 = .ok (.getfield 82, 3) := by decide +kernel
theorem dX12_asked_87 : decode cX12_asked 87 = .ok (.iconst 0, 1) := by decide +kernel
theorem dX12_asked_88 : decode cX12_asked 88 = .ok (.aload_n 0, 1) := by decide +kernel
theorem dX12_asked_89 : decode cX12_asked 89 = .ok (.getfield 322, 3) := by decide +kernel
theorem dX12_asked_92 : decode cX12_asked 92 = .ok (.iadd, 1) := by decide +kernel
theorem dX12_asked_93 : decode cX12_asked 93 = .ok (.iaload, 1) := by decide +kernel
theorem dX12_asked_94 : decode cX12_asked 94 = .ok (.aload_n 0, 1) := by decide +kernel
theorem dX12_asked_95 : decode cX12_asked 95 = .ok (.getfield 20, 3) := by decide +kernel
theorem dX12_asked_98 : decode cX12_asked 98 = .ok (.aload_n 0, 1) := by decide +kernel
theorem dX12_asked_99 : decode cX12_asked 99 = .ok (.getfield 255, 3) := by decide +kernel
theorem dX12_asked_102 : decode cX12_asked 102 = .ok (.iaload, 1) := by decide +kernel
theorem dX12_asked_103 : decode cX12_asked 103 = .ok (.idiv, 1) := by decide +kernel
theorem dX12_asked_104 : decode cX12_asked 104 = .ok (.ireturn, 1) := by decide +kernel
theorem dX12_asked_105 : decode cX12_asked 105 = .ok (.aload_n 0, 1) := by decide +kernel
theorem dX12_asked_106 : decode cX12_asked 106 = .ok (.getfield 82, 3) := by decide +kernel
theorem dX12_asked_109 : decode cX12_asked 109 = .ok (.bipush 32, 2) := by decide +kernel
theorem dX12_asked_111 : decode cX12_asked 111 = .ok (.iaload, 1) := by decide +kernel
theorem dX12_asked_112 : decode cX12_asked 112 = .ok (.ireturn, 1) := by decide +kernel
theorem dX12_asked_113 : decode cX12_asked 113 = .ok (.iload_n 2, 1) := by decide +kernel
theorem dX12_asked_114 : decode cX12_asked 114 = .ok (.ireturn, 1) := by decide +kernel
def kX12_asked_0 (n : Nat) : mK := i_ldI 1 (i_sw [(98, (i_ldA 0 (i_gA 12 39 (i_cst (.int (24)) (i_ldA 0 (i_gI 12 37 (i_bin (fun x y => x + y) (i_al 0 (i_rI))))))))), (104, (i_ldA 0 (i_gA 12 39 (i_cst (.int (16)) (i_ldA 0 (i_gI 12 37 (i_bin (fun x y => x + y) (i_al 0 (i_rI))))))))), (108, (i_ldA 0 (i_gA 12 39 (i_cst (.int (0)) (i_ldA 0 (i_gI 12 37 (i_bin (fun x y => x + y) (i_al 0 (i_ldA 0 (i_gA 12 11 (i_ldA 0 (i_gI 12 31 (i_al 0 (i_dv (fun x y => x / y) (i_rI))))))))))))))), (109, (i_ldA 0 (i_gI 12 38 (i_rI)))), (121, (i_ldA 0 (i_gA 12 39 (i_cst (.int (32)) (i_al 0 (i_rI))))))] (i_ldI 2 (i_rI)))
set_option maxRecDepth 20000 in
theorem okX12_asked_0 {E : mE} {X : State → Heap → Prop} {l : Launch} (hX : mXok E X) (n : Nat) : Sd E X l yX12_asked cX12_asked 3 (some .int) 1 0 0 0 0 0 (kX12_asked_0 n) := s_iload_n dX12_asked_0 rfl (s_lsw dX12_asked_1 (by decide) (by decide) (s_iload_n dX12_asked_113 rfl (s_rI dX12_asked_114 (Nat.le_of_ble_eq_true rfl) (Nat.le_of_ble_eq_true rfl))) (lsw_c (by decide) (by decide) (s_aload_n dX12_asked_65 rfl (s_gA dX12_asked_66 lFX12_82 (s_bipush dX12_asked_69 (by decide) (s_aload_n dX12_asked_71 rfl (s_gI dX12_asked_72 lFX12_322 (by decide) (s_iadd dX12_asked_75 (s_iald dX12_asked_76 (s_rI dX12_asked_77 (Nat.le_of_ble_eq_true rfl) (Nat.le_of_ble_eq_true rfl))))))))) (lsw_c (by decide) (by decide) (s_aload_n dX12_asked_52 rfl (s_gA dX12_asked_53 lFX12_82 (s_bipush dX12_asked_56 (by decide) (s_aload_n dX12_asked_58 rfl (s_gI dX12_asked_59 lFX12_322 (by decide) (s_iadd dX12_asked_62 (s_iald dX12_asked_63 (s_rI dX12_asked_64 (Nat.le_of_ble_eq_true rfl) (Nat.le_of_ble_eq_true rfl))))))))) (lsw_c (by decide) (by decide) (s_aload_n dX12_asked_83 rfl (s_gA dX12_asked_84 lFX12_82 (s_iconst dX12_asked_87 (by decide) (s_aload_n dX12_asked_88 rfl (s_gI dX12_asked_89 lFX12_322 (by decide) (s_iadd dX12_asked_92 (s_iald dX12_asked_93 (s_aload_n dX12_asked_94 rfl (s_gA dX12_asked_95 lFX12_20 (s_aload_n dX12_asked_98 rfl (s_gI dX12_asked_99 lFX12_255 (by decide) (s_iald dX12_asked_102 (s_idiv dX12_asked_103 (s_rI dX12_asked_104 (Nat.le_of_ble_eq_true rfl) (Nat.le_of_ble_eq_true rfl))))))))))))))) (lsw_c (by decide) (by decide) (s_aload_n dX12_asked_78 rfl (s_gI dX12_asked_79 lFX12_325 (by decide) (s_rI dX12_asked_82 (Nat.le_of_ble_eq_true rfl) (Nat.le_of_ble_eq_true rfl)))) (lsw_c (by decide) (by decide) (s_aload_n dX12_asked_105 rfl (s_gA dX12_asked_106 lFX12_82 (s_bipush dX12_asked_109 (by decide) (s_iald dX12_asked_111 (s_rI dX12_asked_112 (Nat.le_of_ble_eq_true rfl) (Nat.le_of_ble_eq_true rfl)))))) lsw_n))))))
def FX12_asked (n : Nat) : List Value → mM → Option mR := mfn 3 (kX12_asked_0 n)
theorem CtX12_asked {E : mE} {X : State → Heap → Prop} {l : Launch} (hX : mXok E X) (n : Nat) : Ct E X l yX12_asked cX12_asked 3 (some .int) 1 0 0 (FX12_asked n) := Ct_of (by decide) hX (okX12_asked_0 hX n)
theorem dX12_bit_0 : decode cX12_bit 0 = .ok (.iload_n 0, 1) := by decide +kernel
theorem dX12_bit_1 : decode cX12_bit 1 = .ok (.iload_n 1, 1) := by decide +kernel
theorem dX12_bit_2 : decode cX12_bit 2 = .ok (.ishr, 1) := by decide +kernel
theorem dX12_bit_3 : decode cX12_bit 3 = .ok (.iconst 1, 1) := by decide +kernel
theorem dX12_bit_4 : decode cX12_bit 4 = .ok (.iand, 1) := by decide +kernel
theorem dX12_bit_5 : decode cX12_bit 5 = .ok (.iconst 1, 1) := by decide +kernel
theorem dX12_bit_6 : decode cX12_bit 6 = .ok (.if_icmp .ne 7, 3) := by decide +kernel
theorem dX12_bit_9 : decode cX12_bit 9 = .ok (.iconst 1, 1) := by decide +kernel
theorem dX12_bit_10 : decode cX12_bit 10 = .ok (.goto 4, 3) := by decide +kernel
theorem dX12_bit_13 : decode cX12_bit 13 = .ok (.iconst 0, 1) := by decide +kernel
theorem dX12_bit_14 : decode cX12_bit 14 = .ok (.ireturn, 1) := by decide +kernel
def kX12_bit_14 (n : Nat) : mK := i_rZ
set_option maxRecDepth 20000 in
theorem okX12_bit_14 {E : mE} {X : State → Heap → Prop} {l : Launch} (hX : mXok E X) (n : Nat) : Sd E X l yX12_bit cX12_bit 2 (some .boolean) 1 0 0 0 0 14 (kX12_bit_14 n) := s_rZ dX12_bit_14 (Nat.le_of_ble_eq_true rfl) (Nat.le_of_ble_eq_true rfl)
def kX12_bit_0 (n : Nat) : mK := i_ldI 0 (i_ldI 1 (i_bin (fun x y => x >>> (y &&& 31)) (i_cst (.int (1)) (i_bin (fun x y => x &&& y) (i_cst (.int (1)) (i_c2 (fun x y => decide (¬ x = y)) (i_cst (.int (0)) (kX12_bit_14 n)) (i_cst (.int (1)) ((kX12_bit_14 n)))))))))
set_option maxRecDepth 20000 in
theorem okX12_bit_0 {E : mE} {X : State → Heap → Prop} {l : Launch} (hX : mXok E X) (n : Nat) : Sd E X l yX12_bit cX12_bit 2 (some .boolean) 1 0 0 0 0 0 (kX12_bit_0 n) := s_iload_n dX12_bit_0 rfl (s_iload_n dX12_bit_1 rfl (s_ishr dX12_bit_2 (s_iconst dX12_bit_3 (by decide) (s_iand dX12_bit_4 (s_iconst dX12_bit_5 (by decide) (s_icne dX12_bit_6 (by decide) (s_iconst dX12_bit_13 (by decide) (okX12_bit_14 hX n)) (s_iconst dX12_bit_9 (by decide) (s_goto dX12_bit_10 (by decide) (okX12_bit_14 hX n)))))))))
def FX12_bit (n : Nat) : List Value → mM → Option mR := mfn 2 (kX12_bit_0 n)
theorem CtX12_bit {E : mE} {X : State → Heap → Prop} {l : Launch} (hX : mXok E X) (n : Nat) : Ct E X l yX12_bit cX12_bit 2 (some .boolean) 1 0 0 (FX12_bit n) := Ct_of (by decide) hX (okX12_bit_0 hX n)
theorem dX12_bitsOf_0 : decode cX12_bitsOf 0 = .ok (.iconst 0, 1) := by decide +kernel
theorem dX12_bitsOf_1 : decode cX12_bitsOf 1 = .ok (.istore_n 1, 1) := by decide +kernel
theorem dX12_bitsOf_2 : decode cX12_bitsOf 2 = .ok (.iload_n 0, 1) := by decide +kernel
theorem dX12_bitsOf_3 : decode cX12_bitsOf 3 = .ok (.istore_n 2, 1) := by decide +kernel
theorem dX12_bitsOf_4 : decode cX12_bitsOf 4 = .ok (.iload_n 2, 1) := by decide +kernel
theorem dX12_bitsOf_5 : decode cX12_bitsOf 5 = .ok (.ifCond .eq 15, 3) := by decide +kernel
theorem dX12_bitsOf_8 : decode cX12_bitsOf 8 = .ok (.iinc 1 1, 3) := by decide +kernel
theorem dX12_bitsOf_11 : decode cX12_bitsOf 11 = .ok (.iload_n 2, 1) := by decide +kernel
theorem dX12_bitsOf_12 : decode cX12_bitsOf 12 = .ok (.iload_n 2, 1) := by decide +kernel
theorem dX12_bitsOf_13 : decode cX12_bitsOf 13 = .ok (.iconst 1, 1) := by decide +kernel
theorem dX12_bitsOf_14 : decode cX12_bitsOf 14 = .ok (.isub, 1) := by decide +kernel
theorem dX12_bitsOf_15 : decode cX12_bitsOf 15 = .ok (.iand, 1) := by decide +kernel
theorem dX12_bitsOf_16 : decode cX12_bitsOf 16 = .ok (.istore_n 2, 1) := by decide +kernel
theorem dX12_bitsOf_17 : decode cX12_bitsOf 17 = .ok (.goto (-13), 3) := by decide +kernel
theorem dX12_bitsOf_20 : decode cX12_bitsOf 20 = .ok (.iload_n 1, 1) := by decide +kernel
theorem dX12_bitsOf_21 : decode cX12_bitsOf 21 = .ok (.ireturn, 1) := by decide +kernel
def kX12_bitsOf_4 (n : Nat) (r4 : mK) : mK := i_ldI 2 (i_c0 (fun x => decide (x = 0)) (i_ldI 1 (i_rI)) (i_inc 1 (1) (i_ldI 2 (i_ldI 2 (i_cst (.int (1)) (i_bin (fun x y => x - y) (i_bin (fun x y => x &&& y) (i_stI 2 (r4)))))))))
set_option maxRecDepth 20000 in
theorem okX12_bitsOf_4 {E : mE} {X : State → Heap → Prop} {l : Launch} (hX : mXok E X) (n : Nat) {r4 : mK} (h4 : Sd E X l yX12_bitsOf cX12_bitsOf 3 (some .int) 1 0 0 0 0 4 r4) : Sd E X l yX12_bitsOf cX12_bitsOf 3 (some .int) 1 0 0 0 0 4 (kX12_bitsOf_4 n r4) := s_iload_n dX12_bitsOf_4 rfl (s_ifeq dX12_bitsOf_5 (by decide) (s_iload_n dX12_bitsOf_20 rfl (s_rI dX12_bitsOf_21 (Nat.le_of_ble_eq_true rfl) (Nat.le_of_ble_eq_true rfl))) (s_iinc dX12_bitsOf_8 (by decide) (s_iload_n dX12_bitsOf_11 rfl (s_iload_n dX12_bitsOf_12 rfl (s_iconst dX12_bitsOf_13 (by decide) (s_isub dX12_bitsOf_14 (s_iand dX12_bitsOf_15 (s_istore_n dX12_bitsOf_16 rfl (s_goto dX12_bitsOf_17 (by decide) h4)))))))))
def kX12_bitsOf_0 (n : Nat) : mK := i_cst (.int (0)) (i_stI 1 (i_ldI 0 (i_stI 2 (mit (kX12_bitsOf_4 n ) n))))
set_option maxRecDepth 20000 in
theorem okX12_bitsOf_0 {E : mE} {X : State → Heap → Prop} {l : Launch} (hX : mXok E X) (n : Nat) : Sd E X l yX12_bitsOf cX12_bitsOf 3 (some .int) 1 0 0 0 0 0 (kX12_bitsOf_0 n) := s_iconst dX12_bitsOf_0 (by decide) (s_istore_n dX12_bitsOf_1 rfl (s_iload_n dX12_bitsOf_2 rfl (s_istore_n dX12_bitsOf_3 rfl (s_mit (fun _ hk => okX12_bitsOf_4 hX n hk) n))))
def FX12_bitsOf (n : Nat) : List Value → mM → Option mR := mfn 3 (kX12_bitsOf_0 n)
theorem CtX12_bitsOf {E : mE} {X : State → Heap → Prop} {l : Launch} (hX : mXok E X) (n : Nat) : Ct E X l yX12_bitsOf cX12_bitsOf 3 (some .int) 1 0 0 (FX12_bitsOf n) := Ct_of (by decide) hX (okX12_bitsOf_0 hX n)
theorem dX12_bringBack_0 : decode cX12_bringBack 0 = .ok (.iconst 0, 1) := by decide +kernel
theorem dX12_bringBack_1 : decode cX12_bringBack 1 = .ok (.istore_n 1, 1) := by decide +kernel
theorem dX12_bringBack_2 : decode cX12_bringBack 2 = .ok (.iload_n 1, 1) := by decide +kernel
theorem dX12_bringBack_3 : decode cX12_bringBack 3 = .ok (.bipush 34, 2) := by decide +kernel
theorem dX12_bringBack_5 : decode cX12_bringBack 5 = .ok (.if_icmp .ge 21, 3) := by decide +kernel
theorem dX12_bringBack_8 : decode cX12_bringBack 8 = .ok (.aload_n 0, 1) := by decide +kernel
theorem dX12_bringBack_9 : decode cX12_bringBack 9 = .ok (.getfield 82, 3) := by decide +kernel
theorem dX12_bringBack_12 : decode cX12_bringBack 12 = .ok (.iload_n 1, 1) := by decide +kernel
theorem dX12_bringBack_13 : decode cX12_bringBack 13 = .ok (.aload_n 0, 1) := by decide +kernel
theorem dX12_bringBack_14 : decode cX12_bringBack 14 = .ok (.getfield 94, 3) := by decide +kernel
theorem dX12_bringBack_17 : decode cX12_bringBack 17 = .ok (.iload_n 1, 1) := by decide +kernel
theorem dX12_bringBack_18 : decode cX12_bringBack 18 = .ok (.iaload, 1) := by decide +kernel
theorem dX12_bringBack_19 : decode cX12_bringBack 19 = .ok (.iastore, 1) := by decide +kernel
theorem dX12_bringBack_20 : decode cX12_bringBack 20 = .ok (.iinc 1 1, 3) := by decide +kernel
theorem dX12_bringBack_23 : decode cX12_bringBack 23 = .ok (.goto (-21), 3) := by decide +kernel
theorem dX12_bringBack_26 : decode cX12_bringBack 26 = .ok (.return_, 1) := by decide +kernel
def kX12_bringBack_2 (n : Nat) (r2 : mK) : mK := i_ldI 1 (i_cst (.int (34)) (i_c2 (fun x y => decide (y ≤ x)) (i_rV) (i_ldA 0 (i_gA 12 39 (i_ldI 1 (i_ldA 0 (i_gA 12 45 (i_ldI 1 (i_al 0 (i_as 0 (i_inc 1 (1) (r2))))))))))))
set_option maxRecDepth 20000 in
theorem okX12_bringBack_2 {E : mE} {X : State → Heap → Prop} {l : Launch} (hX : mXok E X) (n : Nat) {r2 : mK} (h2 : Sd E X l yX12_bringBack cX12_bringBack 2 none 1 0 0 0 0 2 r2) : Sd E X l yX12_bringBack cX12_bringBack 2 none 1 0 0 0 0 2 (kX12_bringBack_2 n r2) := s_iload_n dX12_bringBack_2 rfl (s_bipush dX12_bringBack_3 (by decide) (s_icge dX12_bringBack_5 (by decide) (s_rV dX12_bringBack_26 (Nat.le_of_ble_eq_true rfl) (Nat.le_of_ble_eq_true rfl)) (s_aload_n dX12_bringBack_8 rfl (s_gA dX12_bringBack_9 lFX12_82 (s_iload_n dX12_bringBack_12 rfl (s_aload_n dX12_bringBack_13 rfl (s_gA dX12_bringBack_14 lFX12_94 (s_iload_n dX12_bringBack_17 rfl (s_iald dX12_bringBack_18 (s_iast dX12_bringBack_19 (s_iinc dX12_bringBack_20 (by decide) (s_goto dX12_bringBack_23 (by decide) h2))))))))))))
def kX12_bringBack_0 (n : Nat) : mK := i_cst (.int (0)) (i_stI 1 (mit (kX12_bringBack_2 n ) n))
set_option maxRecDepth 20000 in
theorem okX12_bringBack_0 {E : mE} {X : State → Heap → Prop} {l : Launch} (hX : mXok E X) (n : Nat) : Sd E X l yX12_bringBack cX12_bringBack 2 none 1 0 0 0 0 0 (kX12_bringBack_0 n) := s_iconst dX12_bringBack_0 (by decide) (s_istore_n dX12_bringBack_1 rfl (s_mit (fun _ hk => okX12_bringBack_2 hX n hk) n))
def FX12_bringBack (n : Nat) : List Value → mM → Option mR := mfn 2 (kX12_bringBack_0 n)
theorem CtX12_bringBack {E : mE} {X : State → Heap → Prop} {l : Launch} (hX : mXok E X) (n : Nat) : Ct E X l yX12_bringBack cX12_bringBack 2 none 1 0 0 (FX12_bringBack n) := Ct_of (by decide) hX (okX12_bringBack_0 hX n)
theorem dX12_carHere_0 : decode cX12_carHere 0 = .ok (.iconst 0, 1) := by decide +kernel
theorem dX12_carHere_1 : decode cX12_carHere 1 = .ok (.istore_n 1, 1) := by decide +kernel
theorem dX12_carHere_2 : decode cX12_carHere 2 = .ok (.iload_n 1, 1) := by decide +kernel
theorem dX12_carHere_3 : decode cX12_carHere 3 = .ok (.aload_n 0, 1) := by decide +kernel
theorem dX12_carHere_4 : decode cX12_carHere 4 = .ok (.getfield 30, 3) := by decide +kernel
theorem dX12_carHere_7 : decode cX12_carHere 7 = .ok (.aload_n 0, 1) := by decide +kernel
theorem dX12_carHere_8 : decode cX12_carHere 8 = .ok (.getfield 246, 3) := by decide +kernel
theorem dX12_carHere_11 : decode cX12_carHere 11 = .ok (.iaload, 1) := by decide +kernel
theorem dX12_carHere_12 : decode cX12_carHere 12 = .ok (.if_icmp .ge 41, 3) := by decide +kernel
theorem dX12_carHere_15 : decode cX12_carHere 15 = .ok (.aload_n 0, 1) := by decide +kernel
theorem dX12_carHere_16 : decode cX12_carHere 16 = .ok (.getfield 197, 3) := by decide +kernel
theorem dX12_carHere_19 : decode cX12_carHere 19 = .ok (.iconst 2, 1) := by decide +kernel
theorem dX12_carHere_20 : decode cX12_carHere 20 = .ok (.if_icmp .ne 27, 3) := by decide +kernel
theorem dX12_carHere_23 : decode cX12_carHere 23 = .ok (.aload_n 0, 1) := by decide +kernel
theorem dX12_carHere_24 : decode cX12_carHere 24 = .ok (.getfield 63, 3) := by decide +kernel
theorem dX12_carHere_27 : decode cX12_carHere 27 = .ok (.bipush 8, 2) := by decide +kernel
theorem dX12_carHere_29 : decode cX12_carHere 29 = .ok (.aload_n 0, 1) := by decide +kernel
theorem dX12_carHere_30 : decode cX12_carHere 30 = .ok (.getfield 246, 3) := by decide +kernel
theorem dX12_carHere_33 : decode cX12_carHere 33 = .ok (.imul, 1) := by decide +kernel
theorem dX12_carHere_34 : decode cX12_carHere 34 = .ok (.iload_n 1, 1) := by decide +kernel
theorem dX12_carHere_35 : decode cX12_carHere 35 = .ok (.iadd, 1) := by decide +kernel
theorem dX12_carHere_36 : decode cX12_carHere 36 = .ok (.laload, 1) := by decide +kernel
theorem dX12_carHere_37 : decode cX12_carHere 37 = .ok (.aload_n 0, 1) := by decide +kernel
theorem dX12_carHere_38 : decode cX12_carHere 38 = .ok (.getfield 204, 3) := by decide +kernel
theorem dX12_carHere_41 : decode cX12_carHere 41 = .ok (.lcmp, 1) := by decide +kernel
theorem dX12_carHere_42 : decode cX12_carHere 42 = .ok (.ifCond .ne 5, 3) := by decide +kernel
theorem dX12_carHere_45 : decode cX12_carHere 45 = .ok (.iload_n 1, 1) := by decide +kernel
theorem dX12_carHere_46 : decode cX12_carHere 46 = .ok (.ireturn, 1) := by decide +kernel
theorem dX12_carHere_47 : decode cX12_carHere 47 = .ok (.iinc 1 1, 3) := by decide +kernel
theorem dX12_carHere_50 : decode cX12_carHere 50 = .ok (.goto (-48), 3) := by decide +kernel
theorem dX12_carHere_53 : decode cX12_carHere 53 = .ok (.iconst (-1), 1) := by decide +kernel
theorem dX12_carHere_54 : decode cX12_carHere 54 = .ok (.ireturn, 1) := by decide +kernel
def kX12_carHere_47 (n : Nat) (r2 : mK) : mK := i_inc 1 (1) (r2)
set_option maxRecDepth 20000 in
theorem okX12_carHere_47 {E : mE} {X : State → Heap → Prop} {l : Launch} (hX : mXok E X) (n : Nat) {r2 : mK} (h2 : Sd E X l yX12_carHere cX12_carHere 2 (some .int) 1 0 0 0 0 2 r2) : Sd E X l yX12_carHere cX12_carHere 2 (some .int) 1 0 0 0 0 47 (kX12_carHere_47 n r2) := s_iinc dX12_carHere_47 (by decide) (s_goto dX12_carHere_50 (by decide) h2)
def kX12_carHere_45 (n : Nat) : mK := i_ldI 1 (i_rI)
set_option maxRecDepth 20000 in
theorem okX12_carHere_45 {E : mE} {X : State → Heap → Prop} {l : Launch} (hX : mXok E X) (n : Nat) : Sd E X l yX12_carHere cX12_carHere 2 (some .int) 1 0 0 0 0 45 (kX12_carHere_45 n) := s_iload_n dX12_carHere_45 rfl (s_rI dX12_carHere_46 (Nat.le_of_ble_eq_true rfl) (Nat.le_of_ble_eq_true rfl))
def kX12_carHere_2 (n : Nat) (r2 : mK) : mK := i_ldI 1 (i_ldA 0 (i_gA 12 14 (i_ldA 0 (i_gI 12 32 (i_al 0 (i_c2 (fun x y => decide (y ≤ x)) (i_cst (.int (-1)) (i_rI)) (i_ldA 0 (i_gI 12 8 (i_cst (.int (2)) (i_c2 (fun x y => decide (¬ x = y)) (kX12_carHere_47 n r2) (i_ldA 0 (i_gA 12 25 (i_cst (.int (8)) (i_ldA 0 (i_gI 12 32 (i_bin (fun x y => x * y) (i_ldI 1 (i_bin (fun x y => x + y) (i_alJ (i_ldA 0 (i_gJ 12 10 (i_lcmp (i_c0 (fun x => decide (¬ x = 0)) (kX12_carHere_47 n r2) (kX12_carHere_45 n))))))))))))))))))))))))
set_option maxRecDepth 20000 in
theorem okX12_carHere_2 {E : mE} {X : State → Heap → Prop} {l : Launch} (hX : mXok E X) (n : Nat) {r2 : mK} (h2 : Sd E X l yX12_carHere cX12_carHere 2 (some .int) 1 0 0 0 0 2 r2) : Sd E X l yX12_carHere cX12_carHere 2 (some .int) 1 0 0 0 0 2 (kX12_carHere_2 n r2) := s_iload_n dX12_carHere_2 rfl (s_aload_n dX12_carHere_3 rfl (s_gA dX12_carHere_4 lFX12_30 (s_aload_n dX12_carHere_7 rfl (s_gI dX12_carHere_8 lFX12_246 (by decide) (s_iald dX12_carHere_11 (s_icge dX12_carHere_12 (by decide) (s_iconst dX12_carHere_53 (by decide) (s_rI dX12_carHere_54 (Nat.le_of_ble_eq_true rfl) (Nat.le_of_ble_eq_true rfl))) (s_aload_n dX12_carHere_15 rfl (s_gI dX12_carHere_16 lFX12_197 (by decide) (s_iconst dX12_carHere_19 (by decide) (s_icne dX12_carHere_20 (by decide) (okX12_carHere_47 hX n h2) (s_aload_n dX12_carHere_23 rfl (s_gA dX12_carHere_24 lFX12_63 (s_bipush dX12_carHere_27 (by decide) (s_aload_n dX12_carHere_29 rfl (s_gI dX12_carHere_30 lFX12_246 (by decide) (s_imul dX12_carHere_33 (s_iload_n dX12_carHere_34 rfl (s_iadd dX12_carHere_35 (s_lald dX12_carHere_36 (s_aload_n dX12_carHere_37 rfl (s_gJ dX12_carHere_38 lFX12_204 (s_lcmp dX12_carHere_41 (s_ifne dX12_carHere_42 (by decide) (okX12_carHere_47 hX n h2) (okX12_carHere_45 hX n))))))))))))))))))))))))
def kX12_carHere_0 (n : Nat) : mK := i_cst (.int (0)) (i_stI 1 (mit (kX12_carHere_2 n ) n))
set_option maxRecDepth 20000 in
theorem okX12_carHere_0 {E : mE} {X : State → Heap → Prop} {l : Launch} (hX : mXok E X) (n : Nat) : Sd E X l yX12_carHere cX12_carHere 2 (some .int) 1 0 0 0 0 0 (kX12_carHere_0 n) := s_iconst dX12_carHere_0 (by decide) (s_istore_n dX12_carHere_1 rfl (s_mit (fun _ hk => okX12_carHere_2 hX n hk) n))
def FX12_carHere (n : Nat) : List Value → mM → Option mR := mfn 2 (kX12_carHere_0 n)
theorem CtX12_carHere {E : mE} {X : State → Heap → Prop} {l : Launch} (hX : mXok E X) (n : Nat) : Ct E X l yX12_carHere cX12_carHere 2 (some .int) 1 0 0 (FX12_carHere n) := Ct_of (by decide) hX (okX12_carHere_0 hX n)
theorem dX12_changeCells_0 : decode cX12_changeCells 0 = .ok (.aload_n 0, 1) := by decide +kernel
theorem dX12_changeCells_1 : decode cX12_changeCells 1 = .ok (.getfield 82, 3) := by decide +kernel
theorem dX12_changeCells_4 : decode cX12_changeCells 4 = .ok (.iconst 0, 1) := by decide +kernel
theorem dX12_changeCells_5 : decode cX12_changeCells 5 = .ok (.iload_n 1, 1) := by decide +kernel
theorem dX12_changeCells_6 : decode cX12_changeCells 6 = .ok (.iadd, 1) := by decide +kernel
theorem dX12_changeCells_7 : decode cX12_changeCells 7 = .ok (.iaload, 1) := by decide +kernel
theorem dX12_changeCells_8 : decode cX12_changeCells 8 = .ok (.istore_n 3, 1) := by decide +kernel
theorem dX12_changeCells_9 : decode cX12_changeCells 9 = .ok (.aload_n 0, 1) := by decide +kernel
theorem dX12_changeCells_10 : decode cX12_changeCells 10 = .ok (.getfield 82, 3) := by decide +kernel
theorem dX12_changeCells_13 : decode cX12_changeCells 13 = .ok (.iconst 0, 1) := by decide +kernel
theorem dX12_changeCells_14 : decode cX12_changeCells 14 = .ok (.iload_n 1, 1) := by decide +kernel
theorem dX12_changeCells_15 : decode cX12_changeCells 15 = .ok (.iadd, 1) := by decide +kernel
theorem dX12_changeCells_16 : decode cX12_changeCells 16 = .ok (.aload_n 0, 1) := by decide +kernel
theorem dX12_changeCells_17 : decode cX12_changeCells 17 = .ok (.getfield 82, 3) := by decide +kernel
theorem dX12_changeCells_20 : decode cX12_changeCells 20 = .ok (.iconst 0, 1) := by decide +kernel
theorem dX12_changeCells_21 : decode cX12_changeCells 21 = .ok (.iload_n 2, 1) := by decide +kernel
theorem dX12_changeCells_22 : decode cX12_changeCells 22 = .ok (.iadd, 1) := by decide +kernel
theorem dX12_changeCells_23 : decode cX12_changeCells 23 = .ok (.iaload, 1) := by decide +kernel
theorem dX12_changeCells_24 : decode cX12_changeCells 24 = .ok (.iastore, 1) := by decide +kernel
theorem dX12_changeCells_25 : decode cX12_changeCells 25 = .ok (.aload_n 0, 1) := by decide +kernel
theorem dX12_changeCells_26 : decode cX12_changeCells 26 = .ok (.getfield 82, 3) := by decide +kernel
theorem dX12_changeCells_29 : decode cX12_changeCells 29 = .ok (.iconst 0, 1) := by decide +kernel
theorem dX12_changeCells_30 : decode cX12_changeCells 30 = .ok (.iload_n 2, 1) := by decide +kernel
theorem dX12_changeCells_31 : decode cX12_changeCells 31 = .ok (.iadd, 1) := by decide +kernel
theorem dX12_changeCells_32 : decode cX12_changeCells 32 = .ok (.iload_n 3, 1) := by decide +kernel
theorem dX12_changeCells_33 : decode cX12_changeCells 33 = .ok (.iastore, 1) := by decide +kernel
theorem dX12_changeCells_34 : decode cX12_changeCells 34 = .ok (.return_, 1) := by decide +kernel
def kX12_changeCells_32 (n : Nat) : mK := i_ldI 3 (i_as 0 (i_rV))
set_option maxRecDepth 20000 in
theorem okX12_changeCells_32 {E : mE} {X : State → Heap → Prop} {l : Launch} (hX : mXok E X) (n : Nat) : Sd E X l yX12_changeCells cX12_changeCells 4 none 1 0 0 0 0 32 (kX12_changeCells_32 n) := s_iload_n dX12_changeCells_32 rfl (s_iast dX12_changeCells_33 (s_rV dX12_changeCells_34 (Nat.le_of_ble_eq_true rfl) (Nat.le_of_ble_eq_true rfl)))
def kX12_changeCells_0 (n : Nat) : mK := i_ldA 0 (i_gA 12 39 (i_cst (.int (0)) (i_ldI 1 (i_bin (fun x y => x + y) (i_al 0 (i_stI 3 (i_ldA 0 (i_gA 12 39 (i_cst (.int (0)) (i_ldI 1 (i_bin (fun x y => x + y) (i_ldA 0 (i_gA 12 39 (i_cst (.int (0)) (i_ldI 2 (i_bin (fun x y => x + y) (i_al 0 (i_as 0 (i_ldA 0 (i_gA 12 39 (i_cst (.int (0)) (i_ldI 2 (i_bin (fun x y => x + y) (kX12_changeCells_32 n))))))))))))))))))))))))
set_option maxRecDepth 20000 in
theorem okX12_changeCells_0 {E : mE} {X : State → Heap → Prop} {l : Launch} (hX : mXok E X) (n : Nat) : Sd E X l yX12_changeCells cX12_changeCells 4 none 1 0 0 0 0 0 (kX12_changeCells_0 n) := s_aload_n dX12_changeCells_0 rfl (s_gA dX12_changeCells_1 lFX12_82 (s_iconst dX12_changeCells_4 (by decide) (s_iload_n dX12_changeCells_5 rfl (s_iadd dX12_changeCells_6 (s_iald dX12_changeCells_7 (s_istore_n dX12_changeCells_8 rfl (s_aload_n dX12_changeCells_9 rfl (s_gA dX12_changeCells_10 lFX12_82 (s_iconst dX12_changeCells_13 (by decide) (s_iload_n dX12_changeCells_14 rfl (s_iadd dX12_changeCells_15 (s_aload_n dX12_changeCells_16 rfl (s_gA dX12_changeCells_17 lFX12_82 (s_iconst dX12_changeCells_20 (by decide) (s_iload_n dX12_changeCells_21 rfl (s_iadd dX12_changeCells_22 (s_iald dX12_changeCells_23 (s_iast dX12_changeCells_24 (s_aload_n dX12_changeCells_25 rfl (s_gA dX12_changeCells_26 lFX12_82 (s_iconst dX12_changeCells_29 (by decide) (s_iload_n dX12_changeCells_30 rfl (s_iadd dX12_changeCells_31 (okX12_changeCells_32 hX n))))))))))))))))))))))))
def FX12_changeCells (n : Nat) : List Value → mM → Option mR := mfn 4 (kX12_changeCells_0 n)
theorem CtX12_changeCells {E : mE} {X : State → Heap → Prop} {l : Launch} (hX : mXok E X) (n : Nat) : Ct E X l yX12_changeCells cX12_changeCells 4 none 1 0 0 (FX12_changeCells n) := Ct_of (by decide) hX (okX12_changeCells_0 hX n)
theorem dX12_clearBank_0 : decode cX12_clearBank 0 = .ok (.aload_n 0, 1) := by decide +kernel
theorem dX12_clearBank_1 : decode cX12_clearBank 1 = .ok (.getfield 20, 3) := by decide +kernel
theorem dX12_clearBank_4 : decode cX12_clearBank 4 = .ok (.aload_n 0, 1) := by decide +kernel
theorem dX12_clearBank_5 : decode cX12_clearBank 5 = .ok (.getfield 246, 3) := by decide +kernel
theorem dX12_clearBank_8 : decode cX12_clearBank 8 = .ok (.bipush 6, 2) := by decide +kernel
theorem dX12_clearBank_10 : decode cX12_clearBank 10 = .ok (.iastore, 1) := by decide +kernel
theorem dX12_clearBank_11 : decode cX12_clearBank 11 = .ok (.aload_n 0, 1) := by decide +kernel
theorem dX12_clearBank_12 : decode cX12_clearBank 12 = .ok (.getfield 24, 3) := by decide +kernel
theorem dX12_clearBank_15 : decode cX12_clearBank 15 = .ok (.aload_n 0, 1) := by decide +kernel
theorem dX12_clearBank_16 : decode cX12_clearBank 16 = .ok (.getfield 246, 3) := by decide +kernel
theorem dX12_clearBank_19 : decode cX12_clearBank 19 = .ok (.bipush 6, 2) := by decide +kernel
theorem dX12_clearBank_21 : decode cX12_clearBank 21 = .ok (.iastore, 1) := by decide +kernel
theorem dX12_clearBank_22 : decode cX12_clearBank 22 = .ok (.aload_n 0, 1) := by decide +kernel
theorem dX12_clearBank_23 : decode cX12_clearBank 23 = .ok (.getfield 27, 3) := by decide +kernel
theorem dX12_clearBank_26 : decode cX12_clearBank 26 = .ok (.aload_n 0, 1) := by decide +kernel
theorem dX12_clearBank_27 : decode cX12_clearBank 27 = .ok (.getfield 246, 3) := by decide +kernel
theorem dX12_clearBank_30 : decode cX12_clearBank 30 = .ok (.iconst 0, 1) := by decide +kernel
theorem dX12_clearBank_31 : decode cX12_clearBank 31 = .ok (.iastore, 1) := by decide +kernel
theorem dX12_clearBank_32 : decode cX12_clearBank 32 = .ok (.aload_n 0, 1) := by decide +kernel
theorem dX12_clearBank_33 : decode cX12_clearBank 33 = .ok (.getfield 30, 3) := by decide +kernel
theorem dX12_clearBank_36 : decode cX12_clearBank 36 = .ok (.aload_n 0, 1) := by decide +kernel
theorem dX12_clearBank_37 : decode cX12_clearBank 37 = .ok (.getfield 246, 3) := by decide +kernel
theorem dX12_clearBank_40 : decode cX12_clearBank 40 = .ok (.iconst 0, 1) := by decide +kernel
theorem dX12_clearBank_41 : decode cX12_clearBank 41 = .ok (.iastore, 1) := by decide +kernel
theorem dX12_clearBank_42 : decode cX12_clearBank 42 = .ok (.aload_n 0, 1) := by decide +kernel
theorem dX12_clearBank_43 : decode cX12_clearBank 43 = .ok (.getfield 33, 3) := by decide +kernel
theorem dX12_clearBank_46 : decode cX12_clearBank 46 = .ok (.aload_n 0, 1) := by decide +kernel
theorem dX12_clearBank_47 : decode cX12_clearBank 47 = .ok (.getfield 246, 3) := by decide +kernel
theorem dX12_clearBank_50 : decode cX12_clearBank 50 = .ok (.iconst 0, 1) := by decide +kernel
theorem dX12_clearBank_51 : decode cX12_clearBank 51 = .ok (.iastore, 1) := by decide +kernel
theorem dX12_clearBank_52 : decode cX12_clearBank 52 = .ok (.aload_n 0, 1) := by decide +kernel
theorem dX12_clearBank_53 : decode cX12_clearBank 53 = .ok (.getfield 36, 3) := by decide +kernel
theorem dX12_clearBank_56 : decode cX12_clearBank 56 = .ok (.aload_n 0, 1) := by decide +kernel
theorem dX12_clearBank_57 : decode cX12_clearBank 57 = .ok (.getfield 246, 3) := by decide +kernel
theorem dX12_clearBank_60 : decode cX12_clearBank 60 = .ok (.iconst 0, 1) := by decide +kernel
theorem dX12_clearBank_61 : decode cX12_clearBank 61 = .ok (.iastore, 1) := by decide +kernel
theorem dX12_clearBank_62 : decode cX12_clearBank 62 = .ok (.aload_n 0, 1) := by decide +kernel
theorem dX12_clearBank_63 : decode cX12_clearBank 63 = .ok (.getfield 39, 3) := by decide +kernel
theorem dX12_clearBank_66 : decode cX12_clearBank 66 = .ok (.aload_n 0, 1) := by decide +kernel
theorem dX12_clearBank_67 : decode cX12_clearBank 67 = .ok (.getfield 246, 3) := by decide +kernel
theorem dX12_clearBank_70 : decode cX12_clearBank 70 = .ok (.iconst 0, 1) := by decide +kernel
theorem dX12_clearBank_71 : decode cX12_clearBank 71 = .ok (.iastore, 1) := by decide +kernel
theorem dX12_clearBank_72 : decode cX12_clearBank 72 = .ok (.aload_n 0, 1) := by decide +kernel
theorem dX12_clearBank_73 : decode cX12_clearBank 73 = .ok (.getfield 42, 3) := by decide +kernel
theorem dX12_clearBank_76 : decode cX12_clearBank 76 = .ok (.aload_n 0, 1) := by decide +kernel
theorem dX12_clearBank_77 : decode cX12_clearBank 77 = .ok (.getfield 246, 3) := by decide +kernel
theorem dX12_clearBank_80 : decode cX12_clearBank 80 = .ok (.iconst 0, 1) := by decide +kernel
theorem dX12_clearBank_81 : decode cX12_clearBank 81 = .ok (.iastore, 1) := by decide +kernel
theorem dX12_clearBank_82 : decode cX12_clearBank 82 = .ok (.aload_n 0, 1) := by decide +kernel
theorem dX12_clearBank_83 : decode cX12_clearBank 83 = .ok (.sipush 560, 3) := by decide +kernel
theorem dX12_clearBank_86 : decode cX12_clearBank 86 = .ok (.aload_n 0, 1) := by decide +kernel
theorem dX12_clearBank_87 : decode cX12_clearBank 87 = .ok (.getfield 246, 3) := by decide +kernel
theorem dX12_clearBank_90 : decode cX12_clearBank 90 = .ok (.imul, 1) := by decide +kernel
theorem dX12_clearBank_91 : decode cX12_clearBank 91 = .ok (.putfield 249, 3) := by decide +kernel
theorem dX12_clearBank_94 : decode cX12_clearBank 94 = .ok (.return_, 1) := by decide +kernel
def kX12_clearBank_82 (n : Nat) : mK := i_ldA 0 (i_cst (.int (560)) (i_ldA 0 (i_gI 12 32 (i_bin (fun x y => x * y) (i_pI 12 33 (i_rV))))))
set_option maxRecDepth 20000 in
theorem okX12_clearBank_82 {E : mE} {X : State → Heap → Prop} {l : Launch} (hX : mXok E X) (n : Nat) : Sd E X l yX12_clearBank cX12_clearBank 1 none 1 0 0 0 0 82 (kX12_clearBank_82 n) := s_aload_n dX12_clearBank_82 rfl (s_sipush dX12_clearBank_83 (by decide) (s_aload_n dX12_clearBank_86 rfl (s_gI dX12_clearBank_87 lFX12_246 (by decide) (s_imul dX12_clearBank_90 (s_pI dX12_clearBank_91 lFX12_249 (s_rV dX12_clearBank_94 (Nat.le_of_ble_eq_true rfl) (Nat.le_of_ble_eq_true rfl)))))))
def kX12_clearBank_42 (n : Nat) : mK := i_ldA 0 (i_gA 12 15 (i_ldA 0 (i_gI 12 32 (i_cst (.int (0)) (i_as 0 (i_ldA 0 (i_gA 12 16 (i_ldA 0 (i_gI 12 32 (i_cst (.int (0)) (i_as 0 (i_ldA 0 (i_gA 12 17 (i_ldA 0 (i_gI 12 32 (i_cst (.int (0)) (i_as 0 (i_ldA 0 (i_gA 12 18 (i_ldA 0 (i_gI 12 32 (i_cst (.int (0)) (i_as 0 (kX12_clearBank_82 n))))))))))))))))))))))))
set_option maxRecDepth 20000 in
theorem okX12_clearBank_42 {E : mE} {X : State → Heap → Prop} {l : Launch} (hX : mXok E X) (n : Nat) : Sd E X l yX12_clearBank cX12_clearBank 1 none 1 0 0 0 0 42 (kX12_clearBank_42 n) := s_aload_n dX12_clearBank_42 rfl (s_gA dX12_clearBank_43 lFX12_33 (s_aload_n dX12_clearBank_46 rfl (s_gI dX12_clearBank_47 lFX12_246 (by decide) (s_iconst dX12_clearBank_50 (by decide) (s_iast dX12_clearBank_51 (s_aload_n dX12_clearBank_52 rfl (s_gA dX12_clearBank_53 lFX12_36 (s_aload_n dX12_clearBank_56 rfl (s_gI dX12_clearBank_57 lFX12_246 (by decide) (s_iconst dX12_clearBank_60 (by decide) (s_iast dX12_clearBank_61 (s_aload_n dX12_clearBank_62 rfl (s_gA dX12_clearBank_63 lFX12_39 (s_aload_n dX12_clearBank_66 rfl (s_gI dX12_clearBank_67 lFX12_246 (by decide) (s_iconst dX12_clearBank_70 (by decide) (s_iast dX12_clearBank_71 (s_aload_n dX12_clearBank_72 rfl (s_gA dX12_clearBank_73 lFX12_42 (s_aload_n dX12_clearBank_76 rfl (s_gI dX12_clearBank_77 lFX12_246 (by decide) (s_iconst dX12_clearBank_80 (by decide) (s_iast dX12_clearBank_81 (okX12_clearBank_82 hX n))))))))))))))))))))))))
def kX12_clearBank_0 (n : Nat) : mK := i_ldA 0 (i_gA 12 11 (i_ldA 0 (i_gI 12 32 (i_cst (.int (6)) (i_as 0 (i_ldA 0 (i_gA 12 12 (i_ldA 0 (i_gI 12 32 (i_cst (.int (6)) (i_as 0 (i_ldA 0 (i_gA 12 13 (i_ldA 0 (i_gI 12 32 (i_cst (.int (0)) (i_as 0 (i_ldA 0 (i_gA 12 14 (i_ldA 0 (i_gI 12 32 (i_cst (.int (0)) (i_as 0 (kX12_clearBank_42 n))))))))))))))))))))))))
set_option maxRecDepth 20000 in
theorem okX12_clearBank_0 {E : mE} {X : State → Heap → Prop} {l : Launch} (hX : mXok E X) (n : Nat) : Sd E X l yX12_clearBank cX12_clearBank 1 none 1 0 0 0 0 0 (kX12_clearBank_0 n) := s_aload_n dX12_clearBank_0 rfl (s_gA dX12_clearBank_1 lFX12_20 (s_aload_n dX12_clearBank_4 rfl (s_gI dX12_clearBank_5 lFX12_246 (by decide) (s_bipush dX12_clearBank_8 (by decide) (s_iast dX12_clearBank_10 (s_aload_n dX12_clearBank_11 rfl (s_gA dX12_clearBank_12 lFX12_24 (s_aload_n dX12_clearBank_15 rfl (s_gI dX12_clearBank_16 lFX12_246 (by decide) (s_bipush dX12_clearBank_19 (by decide) (s_iast dX12_clearBank_21 (s_aload_n dX12_clearBank_22 rfl (s_gA dX12_clearBank_23 lFX12_27 (s_aload_n dX12_clearBank_26 rfl (s_gI dX12_clearBank_27 lFX12_246 (by decide) (s_iconst dX12_clearBank_30 (by decide) (s_iast dX12_clearBank_31 (s_aload_n dX12_clearBank_32 rfl (s_gA dX12_clearBank_33 lFX12_30 (s_aload_n dX12_clearBank_36 rfl (s_gI dX12_clearBank_37 lFX12_246 (by decide) (s_iconst dX12_clearBank_40 (by decide) (s_iast dX12_clearBank_41 (okX12_clearBank_42 hX n))))))))))))))))))))))))
def FX12_clearBank (n : Nat) : List Value → mM → Option mR := mfn 1 (kX12_clearBank_0 n)
theorem CtX12_clearBank {E : mE} {X : State → Heap → Prop} {l : Launch} (hX : mXok E X) (n : Nat) : Ct E X l yX12_clearBank cX12_clearBank 1 none 1 0 0 (FX12_clearBank n) := Ct_of (by decide) hX (okX12_clearBank_0 hX n)
theorem dX12_divisor_0 : decode cX12_divisor 0 = .ok (.iload_n 0, 1) := by decide +kernel
theorem dX12_divisor_1 : decode cX12_divisor 1 = .ok (.istore_n 2, 1) := by decide +kernel
theorem dX12_divisor_2 : decode cX12_divisor 2 = .ok (.iload_n 1, 1) := by decide +kernel
theorem dX12_divisor_3 : decode cX12_divisor 3 = .ok (.istore_n 3, 1) := by decide +kernel
theorem dX12_divisor_4 : decode cX12_divisor 4 = .ok (.iload_n 3, 1) := by decide +kernel
theorem dX12_divisor_5 : decode cX12_divisor 5 = .ok (.ifCond .le 16, 3) := by decide +kernel
theorem dX12_divisor_8 : decode cX12_divisor 8 = .ok (.iload_n 2, 1) := by decide +kernel
theorem dX12_divisor_9 : decode cX12_divisor 9 = .ok (.iload_n 3, 1) := by decide +kernel
theorem dX12_divisor_10 : decode cX12_divisor 10 = .ok (.irem, 1) := by decide +kernel
theorem dX12_divisor_11 : decode cX12_divisor 11 = .ok (.istore 4, 2) := by decide +kernel
theorem dX12_divisor_13 : decode cX12_divisor 13 = .ok (.iload_n 3, 1) := by decide +kernel
theorem dX12_divisor_14 : decode cX12_divisor 14 = .ok (.istore_n 2, 1) := by decide +kernel
theorem dX12_divisor_15 : decode cX12_divisor 15 = .ok (.iload 4, 2) := by decide +kernel
theorem dX12_divisor_17 : decode cX12_divisor 17 = .ok (.istore_n 3, 1) := by decide +kernel
theorem dX12_divisor_18 : decode cX12_divisor 18 = .ok (.goto (-14), 3) := by decide +kernel
theorem dX12_divisor_21 : decode cX12_divisor 21 = .ok (.iload_n 2, 1) := by decide +kernel
theorem dX12_divisor_22 : decode cX12_divisor 22 = .ok (.ireturn, 1) := by decide +kernel
def kX12_divisor_4 (n : Nat) (r4 : mK) : mK := i_ldI 3 (i_c0 (fun x => decide (x ≤ 0)) (i_ldI 2 (i_rI)) (i_ldI 2 (i_ldI 3 (i_dv (fun x y => x - x / y * y) (i_stI 4 (i_ldI 3 (i_stI 2 (i_ldI 4 (i_stI 3 (r4))))))))))
set_option maxRecDepth 20000 in
theorem okX12_divisor_4 {E : mE} {X : State → Heap → Prop} {l : Launch} (hX : mXok E X) (n : Nat) {r4 : mK} (h4 : Sd E X l yX12_divisor cX12_divisor 5 (some .int) 1 0 0 0 0 4 r4) : Sd E X l yX12_divisor cX12_divisor 5 (some .int) 1 0 0 0 0 4 (kX12_divisor_4 n r4) := s_iload_n dX12_divisor_4 rfl (s_ifle dX12_divisor_5 (by decide) (s_iload_n dX12_divisor_21 rfl (s_rI dX12_divisor_22 (Nat.le_of_ble_eq_true rfl) (Nat.le_of_ble_eq_true rfl))) (s_iload_n dX12_divisor_8 rfl (s_iload_n dX12_divisor_9 rfl (s_irem dX12_divisor_10 (s_istore dX12_divisor_11 (s_iload_n dX12_divisor_13 rfl (s_istore_n dX12_divisor_14 rfl (s_iload dX12_divisor_15 (s_istore_n dX12_divisor_17 rfl (s_goto dX12_divisor_18 (by decide) h4))))))))))
def kX12_divisor_0 (n : Nat) : mK := i_ldI 0 (i_stI 2 (i_ldI 1 (i_stI 3 (mit (kX12_divisor_4 n ) n))))
set_option maxRecDepth 20000 in
theorem okX12_divisor_0 {E : mE} {X : State → Heap → Prop} {l : Launch} (hX : mXok E X) (n : Nat) : Sd E X l yX12_divisor cX12_divisor 5 (some .int) 1 0 0 0 0 0 (kX12_divisor_0 n) := s_iload_n dX12_divisor_0 rfl (s_istore_n dX12_divisor_1 rfl (s_iload_n dX12_divisor_2 rfl (s_istore_n dX12_divisor_3 rfl (s_mit (fun _ hk => okX12_divisor_4 hX n hk) n))))
def FX12_divisor (n : Nat) : List Value → mM → Option mR := mfn 5 (kX12_divisor_0 n)
theorem CtX12_divisor {E : mE} {X : State → Heap → Prop} {l : Launch} (hX : mXok E X) (n : Nat) : Ct E X l yX12_divisor cX12_divisor 5 (some .int) 1 0 0 (FX12_divisor n) := Ct_of (by decide) hX (okX12_divisor_0 hX n)
theorem dX12_doesFit_0 : decode cX12_doesFit 0 = .ok (.iconst 0, 1) := by decide +kernel
theorem dX12_doesFit_1 : decode cX12_doesFit 1 = .ok (.istore_n 3, 1) := by decide +kernel
theorem dX12_doesFit_2 : decode cX12_doesFit 2 = .ok (.iload_n 3, 1) := by decide +kernel
theorem dX12_doesFit_3 : decode cX12_doesFit 3 = .ok (.aload_n 0, 1) := by decide +kernel
theorem dX12_doesFit_4 : decode cX12_doesFit 4 = .ok (.getfield 363, 3) := by decide +kernel
theorem dX12_doesFit_7 : decode cX12_doesFit 7 = .ok (.if_icmp .ge 86, 3) := by decide +kernel
theorem dX12_doesFit_10 : decode cX12_doesFit 10 = .ok (.aload_n 0, 1) := by decide +kernel
theorem dX12_doesFit_11 : decode cX12_doesFit 11 = .ok (.getfield 121, 3) := by decide +kernel
theorem dX12_doesFit_14 : decode cX12_doesFit 14 = .ok (.iload_n 3, 1) := by decide +kernel
theorem dX12_doesFit_15 : decode cX12_doesFit 15 = .ok (.iaload, 1) := by decide +kernel
theorem dX12_doesFit_16 : decode cX12_doesFit 16 = .ok (.iload_n 2, 1) := by decide +kernel
theorem dX12_doesFit_17 : decode cX12_doesFit 17 = .ok (.if_icmp .gt 70, 3) := by decide +kernel
theorem dX12_doesFit_20 : decode cX12_doesFit 20 = .ok (.aload_n 0, 1) := by decide +kernel
theorem dX12_doesFit_21 : decode cX12_doesFit 21 = .ok (.getfield 124, 3) := by decide +kernel
theorem dX12_doesFit_24 : decode cX12_doesFit 24 = .ok (.iload_n 3, 1) := by decide +kernel
theorem dX12_doesFit_25 : decode cX12_doesFit 25 = .ok (.iaload, 1) := by decide +kernel
theorem dX12_doesFit_26 : decode cX12_doesFit 26 = .ok (.ifCond .lt 16, 3) := by decide +kernel
theorem dX12_doesFit_29 : decode cX12_doesFit 29 = .ok (.aload_n 0, 1) := by decide +kernel
theorem dX12_doesFit_30 : decode cX12_doesFit 30 = .ok (.getfield 124, 3) := by decide +kernel
theorem dX12_doesFit_33 : decode cX12_doesFit 33 = .ok (.iload_n 3, 1) := by decide +kernel
theorem dX12_doesFit_34 : decode cX12_doesFit 34 = .ok (.iaload, 1) := by decide +kernel
theorem dX12_doesFit_35 : decode cX12_doesFit 35 = .ok (.iload_n 2, 1) := by decide +kernel
theorem dX12_doesFit_36 : decode cX12_doesFit 36 = .ok (.if_icmp .gt 6, 3) := by decide +kernel
theorem dX12_doesFit_39 : decode cX12_doesFit 39 = .ok (.goto 48, 3) := by decide +kernel
theorem dX12_doesFit_42 : decode cX12_doesFit 42 = .ok (.aload_n 0, 1) := by decide +kernel
theorem dX12_doesFit_43 : decode cX12_doesFit 43 = .ok (.getfield 109, 3) := by decide +kernel
theorem dX12_doesFit_46 : decode cX12_doesFit 46 = .ok (.bipush 21, 2) := by decide +kernel
theorem dX12_doesFit_48 : decode cX12_doesFit 48 = .ok (.iload_n 1, 1) := by decide +kernel
theorem dX12_doesFit_49 : decode cX12_doesFit 49 = .ok (.imul, 1) := by decide +kernel
theorem dX12_doesFit_50 : decode cX12_doesFit 50 = .ok (.aload_n 0, 1) := by decide +kernel
theorem dX12_doesFit_51 : decode cX12_doesFit 51 = .ok (.getfield 112, 3) := by decide +kernel
theorem dX12_doesFit_54 : decode cX12_doesFit 54 = .ok (.iload_n 3, 1) := by decide +kernel
theorem dX12_doesFit_55 : decode cX12_doesFit 55 = .ok (.iaload, 1) := by decide +kernel
theorem dX12_doesFit_56 : decode cX12_doesFit 56 = .ok (.iadd, 1) := by decide +kernel
theorem dX12_doesFit_57 : decode cX12_doesFit 57 = .ok (.iaload, 1) := by decide +kernel
theorem dX12_doesFit_58 : decode cX12_doesFit 58 = .ok (.aload_n 0, 1) := by decide +kernel
theorem dX12_doesFit_59 : decode cX12_doesFit 59 = .ok (.getfield 115, 3) := by decide +kernel
theorem dX12_doesFit_62 : decode cX12_doesFit 62 = .ok (.iload_n 3, 1) := by decide +kernel
theorem dX12_doesFit_63 : decode cX12_doesFit 63 = .ok (.iaload, 1) := by decide +kernel
theorem dX12_doesFit_64 : decode cX12_doesFit 64 = .ok (.if_icmp .lt 7, 3) := by decide +kernel
theorem dX12_doesFit_67 : decode cX12_doesFit 67 = .ok (.iconst 1, 1) := by decide +kernel
theorem dX12_doesFit_68 : decode cX12_doesFit 68 = .ok (.goto 4, 3) := by decide +kernel
theorem dX12_doesFit_71 : decode cX12_doesFit 71 = .ok (.iconst 0, 1) := by decide +kernel
theorem dX12_doesFit_72 : decode cX12_doesFit 72 = .ok (.istore 4, 2) := by decide +kernel
theorem dX12_doesFit_74 : decode cX12_doesFit 74 = .ok (.iload 4, 2) := by decide +kernel
theorem dX12_doesFit_76 : decode cX12_doesFit 76 = .ok (.aload_n 0, 1) := by decide +kernel
theorem dX12_doesFit_77 : decode cX12_doesFit 77 = .ok (.getfield 118, 3) := by decide +kernel
theorem dX12_doesFit_80 : decode cX12_doesFit 80 = .ok (.iload_n 3, 1) := by decide +kernel
theorem dX12_doesFit_81 : decode cX12_doesFit 81 = .ok (.iaload, 1) := by decide +kernel
theorem dX12_doesFit_82 : decode cX12_doesFit 82 = .ok (.if_icmp .eq 5, 3) := by decide +kernel
theorem dX12_doesFit_85 : decode cX12_doesFit 85 = .ok (.iconst 0, 1) := by decide +kernel
theorem dX12_doesFit_86 : decode cX12_doesFit 86 = .ok (.ireturn, 1) := by decide +kernel
theorem dX12_doesFit_87 : decode cX12_doesFit 87 = .ok (.iinc 3 1, 3) := by decide +kernel
theorem dX12_doesFit_90 : decode cX12_doesFit 90 = .ok (.goto (-88), 3) := by decide +kernel
theorem dX12_doesFit_93 : decode cX12_doesFit 93 = .ok (.iconst 1, 1) := by decide +kernel
theorem dX12_doesFit_94 : decode cX12_doesFit 94 = .ok (.ireturn, 1) := by decide +kernel
def kX12_doesFit_87 (n : Nat) (r2 : mK) : mK := i_inc 3 (1) (r2)
set_option maxRecDepth 20000 in
theorem okX12_doesFit_87 {E : mE} {X : State → Heap → Prop} {l : Launch} (hX : mXok E X) (n : Nat) {r2 : mK} (h2 : Sd E X l yX12_doesFit cX12_doesFit 5 (some .boolean) 1 0 0 0 0 2 r2) : Sd E X l yX12_doesFit cX12_doesFit 5 (some .boolean) 1 0 0 0 0 87 (kX12_doesFit_87 n r2) := s_iinc dX12_doesFit_87 (by decide) (s_goto dX12_doesFit_90 (by decide) h2)
def kX12_doesFit_72 (n : Nat) (r2 : mK) : mK := i_stI 4 (i_ldI 4 (i_ldA 0 (i_gA 12 54 (i_ldI 3 (i_al 0 (i_c2 (fun x y => decide (x = y)) (kX12_doesFit_87 n r2) (i_cst (.int (0)) (i_rZ))))))))
set_option maxRecDepth 20000 in
theorem okX12_doesFit_72 {E : mE} {X : State → Heap → Prop} {l : Launch} (hX : mXok E X) (n : Nat) {r2 : mK} (h2 : Sd E X l yX12_doesFit cX12_doesFit 5 (some .boolean) 1 0 0 0 0 2 r2) : Sd E X l yX12_doesFit cX12_doesFit 5 (some .boolean) 1 0 0 0 0 72 (kX12_doesFit_72 n r2) := s_istore dX12_doesFit_72 (s_iload dX12_doesFit_74 (s_aload_n dX12_doesFit_76 rfl (s_gA dX12_doesFit_77 lFX12_118 (s_iload_n dX12_doesFit_80 rfl (s_iald dX12_doesFit_81 (s_iceq dX12_doesFit_82 (by decide) (okX12_doesFit_87 hX n h2) (s_iconst dX12_doesFit_85 (by decide) (s_rZ dX12_doesFit_86 (Nat.le_of_ble_eq_true rfl) (Nat.le_of_ble_eq_true rfl)))))))))
def kX12_doesFit_42 (n : Nat) (r2 : mK) : mK := i_ldA 0 (i_gA 12 51 (i_cst (.int (21)) (i_ldI 1 (i_bin (fun x y => x * y) (i_ldA 0 (i_gA 12 52 (i_ldI 3 (i_al 0 (i_bin (fun x y => x + y) (i_al 0 (i_ldA 0 (i_gA 12 53 (i_ldI 3 (i_al 0 (i_c2 (fun x y => decide (x < y)) (i_cst (.int (0)) (kX12_doesFit_72 n r2)) (i_cst (.int (1)) ((kX12_doesFit_72 n r2))))))))))))))))))
set_option maxRecDepth 20000 in
theorem okX12_doesFit_42 {E : mE} {X : State → Heap → Prop} {l : Launch} (hX : mXok E X) (n : Nat) {r2 : mK} (h2 : Sd E X l yX12_doesFit cX12_doesFit 5 (some .boolean) 1 0 0 0 0 2 r2) : Sd E X l yX12_doesFit cX12_doesFit 5 (some .boolean) 1 0 0 0 0 42 (kX12_doesFit_42 n r2) := s_aload_n dX12_doesFit_42 rfl (s_gA dX12_doesFit_43 lFX12_109 (s_bipush dX12_doesFit_46 (by decide) (s_iload_n dX12_doesFit_48 rfl (s_imul dX12_doesFit_49 (s_aload_n dX12_doesFit_50 rfl (s_gA dX12_doesFit_51 lFX12_112 (s_iload_n dX12_doesFit_54 rfl (s_iald dX12_doesFit_55 (s_iadd dX12_doesFit_56 (s_iald dX12_doesFit_57 (s_aload_n dX12_doesFit_58 rfl (s_gA dX12_doesFit_59 lFX12_115 (s_iload_n dX12_doesFit_62 rfl (s_iald dX12_doesFit_63 (s_iclt dX12_doesFit_64 (by decide) (s_iconst dX12_doesFit_71 (by decide) (okX12_doesFit_72 hX n h2)) (s_iconst dX12_doesFit_67 (by decide) (s_goto dX12_doesFit_68 (by decide) (okX12_doesFit_72 hX n h2))))))))))))))))))
def kX12_doesFit_2 (n : Nat) (r2 : mK) : mK := i_ldI 3 (i_ldA 0 (i_gI 12 57 (i_c2 (fun x y => decide (y ≤ x)) (i_cst (.int (1)) (i_rZ)) (i_ldA 0 (i_gA 12 55 (i_ldI 3 (i_al 0 (i_ldI 2 (i_c2 (fun x y => decide (y < x)) (kX12_doesFit_87 n r2) (i_ldA 0 (i_gA 12 56 (i_ldI 3 (i_al 0 (i_c0 (fun x => decide (x < 0)) (kX12_doesFit_42 n r2) (i_ldA 0 (i_gA 12 56 (i_ldI 3 (i_al 0 (i_ldI 2 (i_c2 (fun x y => decide (y < x)) (kX12_doesFit_42 n r2) ((kX12_doesFit_87 n r2))))))))))))))))))))))
set_option maxRecDepth 20000 in
theorem okX12_doesFit_2 {E : mE} {X : State → Heap → Prop} {l : Launch} (hX : mXok E X) (n : Nat) {r2 : mK} (h2 : Sd E X l yX12_doesFit cX12_doesFit 5 (some .boolean) 1 0 0 0 0 2 r2) : Sd E X l yX12_doesFit cX12_doesFit 5 (some .boolean) 1 0 0 0 0 2 (kX12_doesFit_2 n r2) := s_iload_n dX12_doesFit_2 rfl (s_aload_n dX12_doesFit_3 rfl (s_gI dX12_doesFit_4 lFX12_363 (by decide) (s_icge dX12_doesFit_7 (by decide) (s_iconst dX12_doesFit_93 (by decide) (s_rZ dX12_doesFit_94 (Nat.le_of_ble_eq_true rfl) (Nat.le_of_ble_eq_true rfl))) (s_aload_n dX12_doesFit_10 rfl (s_gA dX12_doesFit_11 lFX12_121 (s_iload_n dX12_doesFit_14 rfl (s_iald dX12_doesFit_15 (s_iload_n dX12_doesFit_16 rfl (s_icgt dX12_doesFit_17 (by decide) (okX12_doesFit_87 hX n h2) (s_aload_n dX12_doesFit_20 rfl (s_gA dX12_doesFit_21 lFX12_124 (s_iload_n dX12_doesFit_24 rfl (s_iald dX12_doesFit_25 (s_iflt dX12_doesFit_26 (by decide) (okX12_doesFit_42 hX n h2) (s_aload_n dX12_doesFit_29 rfl (s_gA dX12_doesFit_30 lFX12_124 (s_iload_n dX12_doesFit_33 rfl (s_iald dX12_doesFit_34 (s_iload_n dX12_doesFit_35 rfl (s_icgt dX12_doesFit_36 (by decide) (okX12_doesFit_42 hX n h2) (s_goto dX12_doesFit_39 (by decide) (okX12_doesFit_87 hX n h2))))))))))))))))))))))
def kX12_doesFit_0 (n : Nat) : mK := i_cst (.int (0)) (i_stI 3 (mit (kX12_doesFit_2 n ) n))
set_option maxRecDepth 20000 in
theorem okX12_doesFit_0 {E : mE} {X : State → Heap → Prop} {l : Launch} (hX : mXok E X) (n : Nat) : Sd E X l yX12_doesFit cX12_doesFit 5 (some .boolean) 1 0 0 0 0 0 (kX12_doesFit_0 n) := s_iconst dX12_doesFit_0 (by decide) (s_istore_n dX12_doesFit_1 rfl (s_mit (fun _ hk => okX12_doesFit_2 hX n hk) n))
def FX12_doesFit (n : Nat) : List Value → mM → Option mR := mfn 5 (kX12_doesFit_0 n)
theorem CtX12_doesFit {E : mE} {X : State → Heap → Prop} {l : Launch} (hX : mXok E X) (n : Nat) : Ct E X l yX12_doesFit cX12_doesFit 5 (some .boolean) 1 0 0 (FX12_doesFit n) := Ct_of (by decide) hX (okX12_doesFit_0 hX n)
theorem dX12_emit_0 : decode cX12_emit 0 = .ok (.aload_n 0, 1) := by decide +kernel
theorem dX12_emit_1 : decode cX12_emit 1 = .ok (.getfield 67, 3) := by decide +kernel
theorem dX12_emit_4 : decode cX12_emit 4 = .ok (.aload_n 0, 1) := by decide +kernel
theorem dX12_emit_5 : decode cX12_emit 5 = .ok (.getfield 249, 3) := by decide +kernel
theorem dX12_emit_8 : decode cX12_emit 8 = .ok (.iload_n 1, 1) := by decide +kernel
theorem dX12_emit_9 : decode cX12_emit 9 = .ok (.iastore, 1) := by decide +kernel
theorem dX12_emit_10 : decode cX12_emit 10 = .ok (.aload_n 0, 1) := by decide +kernel
theorem dX12_emit_11 : decode cX12_emit 11 = .ok (.getfield 70, 3) := by decide +kernel
theorem dX12_emit_14 : decode cX12_emit 14 = .ok (.aload_n 0, 1) := by decide +kernel
theorem dX12_emit_15 : decode cX12_emit 15 = .ok (.getfield 249, 3) := by decide +kernel
theorem dX12_emit_18 : decode cX12_emit 18 = .ok (.iload_n 2, 1) := by decide +kernel
theorem dX12_emit_19 : decode cX12_emit 19 = .ok (.iastore, 1) := by decide +kernel
theorem dX12_emit_20 : decode cX12_emit 20 = .ok (.aload_n 0, 1) := by decide +kernel
theorem dX12_emit_21 : decode cX12_emit 21 = .ok (.dup, 1) := by decide +kernel
theorem dX12_emit_22 : decode cX12_emit 22 = .ok (.getfield 249, 3) := by decide +kernel
theorem dX12_emit_25 : decode cX12_emit 25 = .ok (.iconst 1, 1) := by decide +kernel
theorem dX12_emit_26 : decode cX12_emit 26 = .ok (.iadd, 1) := by decide +kernel
theorem dX12_emit_27 : decode cX12_emit 27 = .ok (.putfield 249, 3) := by decide +kernel
theorem dX12_emit_30 : decode cX12_emit 30 = .ok (.return_, 1) := by decide +kernel
def kX12_emit_0 (n : Nat) : mK := i_ldA 0 (i_gA 12 26 (i_ldA 0 (i_gI 12 33 (i_ldI 1 (i_as 0 (i_ldA 0 (i_gA 12 27 (i_ldA 0 (i_gI 12 33 (i_ldI 2 (i_as 0 (i_ldA 0 (i_dup (i_gI 12 33 (i_cst (.int (1)) (i_bin (fun x y => x + y) (i_pI 12 33 (i_rV))))))))))))))))))
set_option maxRecDepth 20000 in
theorem okX12_emit_0 {E : mE} {X : State → Heap → Prop} {l : Launch} (hX : mXok E X) (n : Nat) : Sd E X l yX12_emit cX12_emit 3 none 1 0 0 0 0 0 (kX12_emit_0 n) := s_aload_n dX12_emit_0 rfl (s_gA dX12_emit_1 lFX12_67 (s_aload_n dX12_emit_4 rfl (s_gI dX12_emit_5 lFX12_249 (by decide) (s_iload_n dX12_emit_8 rfl (s_iast dX12_emit_9 (s_aload_n dX12_emit_10 rfl (s_gA dX12_emit_11 lFX12_70 (s_aload_n dX12_emit_14 rfl (s_gI dX12_emit_15 lFX12_249 (by decide) (s_iload_n dX12_emit_18 rfl (s_iast dX12_emit_19 (s_aload_n dX12_emit_20 rfl (s_dup dX12_emit_21 (s_gI dX12_emit_22 lFX12_249 (by decide) (s_iconst dX12_emit_25 (by decide) (s_iadd dX12_emit_26 (s_pI dX12_emit_27 lFX12_249 (s_rV dX12_emit_30 (Nat.le_of_ble_eq_true rfl) (Nat.le_of_ble_eq_true rfl)))))))))))))))))))
def FX12_emit (n : Nat) : List Value → mM → Option mR := mfn 3 (kX12_emit_0 n)
theorem CtX12_emit {E : mE} {X : State → Heap → Prop} {l : Launch} (hX : mXok E X) (n : Nat) : Ct E X l yX12_emit cX12_emit 3 none 1 0 0 (FX12_emit n) := Ct_of (by decide) hX (okX12_emit_0 hX n)
theorem dX12_end_0 : decode cX12_end 0 = .ok (.iload_n 1, 1) := by decide +kernel
theorem dX12_end_1 : decode cX12_end 1 = .ok (.ifCond .lt 11, 3) := by decide +kernel
theorem dX12_end_4 : decode cX12_end 4 = .ok (.iload_n 1, 1) := by decide +kernel
theorem dX12_end_5 : decode cX12_end 5 = .ok (.aload_n 0, 1) := by decide +kernel
theorem dX12_end_6 : decode cX12_end 6 = .ok (.getfield 252, 3) := by decide +kernel
theorem dX12_end_9 : decode cX12_end 9 = .ok (.if_icmp .le 5, 3) := by decide +kernel
theorem dX12_end_12 : decode cX12_end 12 = .ok (.iconst (-1), 1) := by decide +kernel
theorem dX12_end_13 : decode cX12_end 13 = .ok (.ireturn, 1) := by decide +kernel
theorem dX12_end_14 : decode cX12_end 14 = .ok (.aload_n 0, 1) := by decide +kernel
theorem dX12_end_15 : decode cX12_end 15 = .ok (.iload_n 1, 1) := by decide +kernel
theorem dX12_end_16 : decode cX12_end 16 = .ok (.putfield 252, 3) := by decide +kernel
theorem dX12_end_19 : decode cX12_end 19 = .ok (.iload_n 1, 1) := by decide +kernel
theorem dX12_end_20 : decode cX12_end 20 = .ok (.ireturn, 1) := by decide +kernel
def kX12_end_12 (n : Nat) : mK := i_cst (.int (-1)) (i_rI)
set_option maxRecDepth 20000 in
theorem okX12_end_12 {E : mE} {X : State → Heap → Prop} {l : Launch} (hX : mXok E X) (n : Nat) : Sd E X l yX12_end cX12_end 2 (some .int) 1 0 0 0 0 12 (kX12_end_12 n) := s_iconst dX12_end_12 (by decide) (s_rI dX12_end_13 (Nat.le_of_ble_eq_true rfl) (Nat.le_of_ble_eq_true rfl))
def kX12_end_0 (n : Nat) : mK := i_ldI 1 (i_c0 (fun x => decide (x < 0)) (kX12_end_12 n) (i_ldI 1 (i_ldA 0 (i_gI 12 2 (i_c2 (fun x y => decide (x ≤ y)) (i_ldA 0 (i_ldI 1 (i_pI 12 2 (i_ldI 1 (i_rI))))) (kX12_end_12 n))))))
set_option maxRecDepth 20000 in
theorem okX12_end_0 {E : mE} {X : State → Heap → Prop} {l : Launch} (hX : mXok E X) (n : Nat) : Sd E X l yX12_end cX12_end 2 (some .int) 1 0 0 0 0 0 (kX12_end_0 n) := s_iload_n dX12_end_0 rfl (s_iflt dX12_end_1 (by decide) (okX12_end_12 hX n) (s_iload_n dX12_end_4 rfl (s_aload_n dX12_end_5 rfl (s_gI dX12_end_6 lFX12_252 (by decide) (s_icle dX12_end_9 (by decide) (s_aload_n dX12_end_14 rfl (s_iload_n dX12_end_15 rfl (s_pI dX12_end_16 lFX12_252 (s_iload_n dX12_end_19 rfl (s_rI dX12_end_20 (Nat.le_of_ble_eq_true rfl) (Nat.le_of_ble_eq_true rfl)))))) (okX12_end_12 hX n))))))
def FX12_end (n : Nat) : List Value → mM → Option mR := mfn 2 (kX12_end_0 n)
theorem CtX12_end {E : mE} {X : State → Heap → Prop} {l : Launch} (hX : mXok E X) (n : Nat) : Ct E X l yX12_end cX12_end 2 (some .int) 1 0 0 (FX12_end n) := Ct_of (by decide) hX (okX12_end_0 hX n)
theorem dX12_fails_0 : decode cX12_fails 0 = .ok (.aload_n 0, 1) := by decide +kernel
theorem dX12_fails_1 : decode cX12_fails 1 = .ok (.getfield 146, 3) := by decide +kernel
theorem dX12_fails_4 : decode cX12_fails 4 = .ok (.ifCond .le 4, 3) := by decide +kernel
theorem dX12_fails_7 : decode cX12_fails 7 = .ok (.return_, 1) := by decide +kernel
theorem dX12_fails_8 : decode cX12_fails 8 = .ok (.aload_n 0, 1) := by decide +kernel
theorem dX12_fails_9 : decode cX12_fails 9 = .ok (.iload_n 1, 1) := by decide +kernel
theorem dX12_fails_10 : decode cX12_fails 10 = .ok (.putfield 146, 3) := by decide +kernel
theorem dX12_fails_13 : decode cX12_fails 13 = .ok (.aload_n 0, 1) := by decide +kernel
theorem dX12_fails_14 : decode cX12_fails 14 = .ok (.iload_n 2, 1) := by decide +kernel
theorem dX12_fails_15 : decode cX12_fails 15 = .ok (.putfield 16, 3) := by decide +kernel
theorem dX12_fails_18 : decode cX12_fails 18 = .ok (.return_, 1) := by decide +kernel
def kX12_fails_0 (n : Nat) : mK := i_ldA 0 (i_gI 12 4 (i_c0 (fun x => decide (x ≤ 0)) (i_ldA 0 (i_ldI 1 (i_pI 12 4 (i_ldA 0 (i_ldI 2 (i_pI 12 5 (i_rV))))))) (i_rV)))
set_option maxRecDepth 20000 in
theorem okX12_fails_0 {E : mE} {X : State → Heap → Prop} {l : Launch} (hX : mXok E X) (n : Nat) : Sd E X l yX12_fails cX12_fails 3 none 1 0 0 0 0 0 (kX12_fails_0 n) := s_aload_n dX12_fails_0 rfl (s_gI dX12_fails_1 lFX12_146 (by decide) (s_ifle dX12_fails_4 (by decide) (s_aload_n dX12_fails_8 rfl (s_iload_n dX12_fails_9 rfl (s_pI dX12_fails_10 lFX12_146 (s_aload_n dX12_fails_13 rfl (s_iload_n dX12_fails_14 rfl (s_pI dX12_fails_15 lFX12_16 (s_rV dX12_fails_18 (Nat.le_of_ble_eq_true rfl) (Nat.le_of_ble_eq_true rfl)))))))) (s_rV dX12_fails_7 (Nat.le_of_ble_eq_true rfl) (Nat.le_of_ble_eq_true rfl))))
def FX12_fails (n : Nat) : List Value → mM → Option mR := mfn 3 (kX12_fails_0 n)
theorem CtX12_fails {E : mE} {X : State → Heap → Prop} {l : Launch} (hX : mXok E X) (n : Nat) : Ct E X l yX12_fails cX12_fails 3 none 1 0 0 (FX12_fails n) := Ct_of (by decide) hX (okX12_fails_0 hX n)
theorem dX12_fault_0 : decode cX12_fault 0 = .ok (.iload_n 1, 1) := by decide +kernel
theorem dX12_fault_1 : decode cX12_fault 1 = .ok (.ifCond .ne 10, 3) := by decide +kernel
theorem dX12_fault_4 : decode cX12_fault 4 = .ok (.aload_n 0, 1) := by decide +kernel
theorem dX12_fault_5 : decode cX12_fault 5 = .ok (.getfield 146, 3) := by decide +kernel
theorem dX12_fault_8 : decode cX12_fault 8 = .ok (.goto 16, 3) := by decide +kernel
theorem dX12_fault_11 : decode cX12_fault 11 = .ok (.iload_n 1, 1) := by decide +kernel
theorem dX12_fault_12 : decode cX12_fault 12 = .ok (.iconst 1, 1) := by decide +kernel
theorem dX12_fault_13 : decode cX12_fault 13 = .ok (.if_icmp .ne 10, 3) := by decide +kernel
theorem dX12_fault_16 : decode cX12_fault 16 = .ok (.aload_n 0, 1) := by decide +kernel
theorem dX12_fault_17 : decode cX12_fault 17 = .ok (.getfield 16, 3) := by decide +kernel
theorem dX12_fault_20 : decode cX12_fault 20 = .ok (.goto 4, 3) := by decide +kernel
theorem dX12_fault_23 : decode cX12_fault 23 = .ok (.iconst (-1), 1) := by decide +kernel
theorem dX12_fault_24 : decode cX12_fault 24 = .ok (.ireturn, 1) := by decide +kernel
def kX12_fault_24 (n : Nat) : mK := i_rI
set_option maxRecDepth 20000 in
theorem okX12_fault_24 {E : mE} {X : State → Heap → Prop} {l : Launch} (hX : mXok E X) (n : Nat) : Sd E X l yX12_fault cX12_fault 2 (some .int) 1 0 0 0 0 24 (kX12_fault_24 n) := s_rI dX12_fault_24 (Nat.le_of_ble_eq_true rfl) (Nat.le_of_ble_eq_true rfl)
def kX12_fault_0 (n : Nat) : mK := i_ldI 1 (i_c0 (fun x => decide (¬ x = 0)) (i_ldI 1 (i_cst (.int (1)) (i_c2 (fun x y => decide (¬ x = y)) (i_cst (.int (-1)) (kX12_fault_24 n)) (i_ldA 0 (i_gI 12 5 ((kX12_fault_24 n))))))) (i_ldA 0 (i_gI 12 4 ((kX12_fault_24 n)))))
set_option maxRecDepth 20000 in
theorem okX12_fault_0 {E : mE} {X : State → Heap → Prop} {l : Launch} (hX : mXok E X) (n : Nat) : Sd E X l yX12_fault cX12_fault 2 (some .int) 1 0 0 0 0 0 (kX12_fault_0 n) := s_iload_n dX12_fault_0 rfl (s_ifne dX12_fault_1 (by decide) (s_iload_n dX12_fault_11 rfl (s_iconst dX12_fault_12 (by decide) (s_icne dX12_fault_13 (by decide) (s_iconst dX12_fault_23 (by decide) (okX12_fault_24 hX n)) (s_aload_n dX12_fault_16 rfl (s_gI dX12_fault_17 lFX12_16 (by decide) (s_goto dX12_fault_20 (by decide) (okX12_fault_24 hX n))))))) (s_aload_n dX12_fault_4 rfl (s_gI dX12_fault_5 lFX12_146 (by decide) (s_goto dX12_fault_8 (by decide) (okX12_fault_24 hX n)))))
def FX12_fault (n : Nat) : List Value → mM → Option mR := mfn 2 (kX12_fault_0 n)
theorem CtX12_fault {E : mE} {X : State → Heap → Prop} {l : Launch} (hX : mXok E X) (n : Nat) : Ct E X l yX12_fault cX12_fault 2 (some .int) 1 0 0 (FX12_fault n) := Ct_of (by decide) hX (okX12_fault_0 hX n)
theorem dX12_feed_0 : decode cX12_feed 0 = .ok (.aload_n 0, 1) := by decide +kernel
theorem dX12_feed_1 : decode cX12_feed 1 = .ok (.getfield 252, 3) := by decide +kernel
theorem dX12_feed_4 : decode cX12_feed 4 = .ok (.bipush 20, 2) := by decide +kernel
theorem dX12_feed_6 : decode cX12_feed 6 = .ok (.iadd, 1) := by decide +kernel
theorem dX12_feed_7 : decode cX12_feed 7 = .ok (.sipush 1600, 3) := by decide +kernel
theorem dX12_feed_10 : decode cX12_feed 10 = .ok (.if_icmp .le 5, 3) := by decide +kernel
theorem dX12_feed_13 : decode cX12_feed 13 = .ok (.iconst (-1), 1) := by decide +kernel
theorem dX12_feed_14 : decode cX12_feed 14 = .ok (.ireturn, 1) := by decide +kernel
theorem dX12_feed_15 : decode cX12_feed 15 = .ok (.iconst 0, 1) := by decide +kernel
theorem dX12_feed_16 : decode cX12_feed 16 = .ok (.istore 6, 2) := by decide +kernel
theorem dX12_feed_18 : decode cX12_feed 18 = .ok (.iload 6, 2) := by decide +kernel
theorem dX12_feed_20 : decode cX12_feed 20 = .ok (.bipush 20, 2) := by decide +kernel
theorem dX12_feed_22 : decode cX12_feed 22 = .ok (.if_icmp .ge 83, 3) := by decide +kernel
theorem dX12_feed_25 : decode cX12_feed 25 = .ok (.iload 6, 2) := by decide +kernel
theorem dX12_feed_27 : decode cX12_feed 27 = .ok (.iconst 4, 1) := by decide +kernel
theorem dX12_feed_28 : decode cX12_feed 28 = .ok (.if_icmp .ge 7, 3) := by decide +kernel
theorem dX12_feed_31 : decode cX12_feed 31 = .ok (.iload_n 1, 1) := by decide +kernel
theorem dX12_feed_32 : decode cX12_feed 32 = .ok (.goto 39, 3) := by decide +kernel
theorem dX12_feed_35 : decode cX12_feed 35 = .ok (.iload 6, 2) := by decide +kernel
theorem dX12_feed_37 : decode cX12_feed 37 = .ok (.bipush 8, 2) := by decide +kernel
theorem dX12_feed_39 : decode cX12_feed 39 = .ok (.if_icmp .ge 7, 3) := by decide +kernel
theorem dX12_feed_42 : decode cX12_feed 42 = .ok (.iload_n 2, 1) := by decide +kernel
theorem dX12_feed_43 : decode cX12_feed 43 = .ok (.goto 28, 3) := by decide +kernel
theorem dX12_feed_46 : decode cX12_feed 46 = .ok (.iload 6, 2) := by decide +kernel
theorem dX12_feed_48 : decode cX12_feed 48 = .ok (.bipush 12, 2) := by decide +kernel
theorem dX12_feed_50 : decode cX12_feed 50 = .ok (.if_icmp .ge 7, 3) := by decide +kernel
theorem dX12_feed_53 : decode cX12_feed 53 = .ok (.iload_n 3, 1) := by decide +kernel
theorem dX12_feed_54 : decode cX12_feed 54 = .ok (.goto 17, 3) := by decide +kernel
theorem dX12_feed_57 : decode cX12_feed 57 = .ok (.iload 6, 2) := by decide +kernel
theorem dX12_feed_59 : decode cX12_feed 59 = .ok (.bipush 16, 2) := by decide +kernel
theorem dX12_feed_61 : decode cX12_feed 61 = .ok (.if_icmp .ge 8, 3) := by decide +kernel
theorem dX12_feed_64 : decode cX12_feed 64 = .ok (.iload 4, 2) := by decide +kernel
theorem dX12_feed_66 : decode cX12_feed 66 = .ok (.goto 5, 3) := by decide +kernel
theorem dX12_feed_69 : decode cX12_feed 69 = .ok (.iload 5, 2) := by decide +kernel
theorem dX12_feed_71 : decode cX12_feed 71 = .ok (.istore 7, 2) := by decide +kernel
theorem dX12_feed_73 : decode cX12_feed 73 = .ok (.aload_n 0, 1) := by decide +kernel
theorem dX12_feed_74 : decode cX12_feed 74 = .ok (.getfield 7, 3) := by decide +kernel
theorem dX12_feed_77 : decode cX12_feed 77 = .ok (.aload_n 0, 1) := by decide +kernel
theorem dX12_feed_78 : decode cX12_feed 78 = .ok (.getfield 252, 3) := by decide +kernel
theorem dX12_feed_81 : decode cX12_feed 81 = .ok (.iload 6, 2) := by decide +kernel
theorem dX12_feed_83 : decode cX12_feed 83 = .ok (.iadd, 1) := by decide +kernel
theorem dX12_feed_84 : decode cX12_feed 84 = .ok (.iload 7, 2) := by decide +kernel
theorem dX12_feed_86 : decode cX12_feed 86 = .ok (.bipush 24, 2) := by decide +kernel
theorem dX12_feed_88 : decode cX12_feed 88 = .ok (.bipush 8, 2) := by decide +kernel
theorem dX12_feed_90 : decode cX12_feed 90 = .ok (.iload 6, 2) := by decide +kernel
theorem dX12_feed_92 : decode cX12_feed 92 = .ok (.iconst 3, 1) := by decide +kernel
theorem dX12_feed_93 : decode cX12_feed 93 = .ok (.iand, 1) := by decide +kernel
theorem dX12_feed_94 : decode cX12_feed 94 = .ok (.imul, 1) := by decide +kernel
theorem dX12_feed_95 : decode cX12_feed 95 = .ok (.isub, 1) := by decide +kernel
theorem dX12_feed_96 : decode cX12_feed 96 = .ok (.ishr, 1) := by decide +kernel
theorem dX12_feed_97 : decode cX12_feed 97 = .ok (.i2b, 1) := by decide +kernel
theorem dX12_feed_98 : decode cX12_feed 98 = .ok (.bastore, 1) := by decide +kernel
theorem dX12_feed_99 : decode cX12_feed 99 = .ok (.iinc 6 1, 3) := by decide +kernel
theorem dX12_feed_102 : decode cX12_feed 102 = .ok (.goto (-84), 3) := by decide +kernel
theorem dX12_feed_105 : decode cX12_feed 105 = .ok (.aload_n 0, 1) := by decide +kernel
theorem dX12_feed_106 : decode cX12_feed 106 = .ok (.dup, 1) := by decide +kernel
theorem dX12_feed_107 : decode cX12_feed 107 = .ok (.getfield 252, 3) := by decide +kernel
theorem dX12_feed_110 : decode cX12_feed 110 = .ok (.bipush 20, 2) := by decide +kernel
theorem dX12_feed_112 : decode cX12_feed 112 = .ok (.iadd, 1) := by decide +kernel
theorem dX12_feed_113 : decode cX12_feed 113 = .ok (.putfield 252, 3) := by decide +kernel
theorem dX12_feed_116 : decode cX12_feed 116 = .ok (.aload_n 0, 1) := by decide +kernel
theorem dX12_feed_117 : decode cX12_feed 117 = .ok (.getfield 252, 3) := by decide +kernel
theorem dX12_feed_120 : decode cX12_feed 120 = .ok (.ireturn, 1) := by decide +kernel
def kX12_feed_71 (n : Nat) (r18 : mK) : mK := i_stI 7 (i_ldA 0 (i_gA 12 0 (i_ldA 0 (i_gI 12 2 (i_ldI 6 (i_bin (fun x y => x + y) (i_ldI 7 (i_cst (.int (24)) (i_cst (.int (8)) (i_ldI 6 (i_cst (.int (3)) (i_bin (fun x y => x &&& y) (i_bin (fun x y => x * y) (i_bin (fun x y => x - y) (i_bin (fun x y => x >>> (y &&& 31)) (i_un (fun x => x.toInt8.toInt32) (i_as 1 (i_inc 6 (1) (r18)))))))))))))))))))
set_option maxRecDepth 20000 in
theorem okX12_feed_71 {E : mE} {X : State → Heap → Prop} {l : Launch} (hX : mXok E X) (n : Nat) {r18 : mK} (h18 : Sd E X l yX12_feed cX12_feed 8 (some .int) 1 0 0 0 0 18 r18) : Sd E X l yX12_feed cX12_feed 8 (some .int) 1 0 0 0 0 71 (kX12_feed_71 n r18) := s_istore dX12_feed_71 (s_aload_n dX12_feed_73 rfl (s_gA dX12_feed_74 lFX12_7 (s_aload_n dX12_feed_77 rfl (s_gI dX12_feed_78 lFX12_252 (by decide) (s_iload dX12_feed_81 (s_iadd dX12_feed_83 (s_iload dX12_feed_84 (s_bipush dX12_feed_86 (by decide) (s_bipush dX12_feed_88 (by decide) (s_iload dX12_feed_90 (s_iconst dX12_feed_92 (by decide) (s_iand dX12_feed_93 (s_imul dX12_feed_94 (s_isub dX12_feed_95 (s_ishr dX12_feed_96 (s_i2b dX12_feed_97 (s_bast dX12_feed_98 (s_iinc dX12_feed_99 (by decide) (s_goto dX12_feed_102 (by decide) h18)))))))))))))))))))
def kX12_feed_18 (n : Nat) (r18 : mK) : mK := i_ldI 6 (i_cst (.int (20)) (i_c2 (fun x y => decide (y ≤ x)) (i_ldA 0 (i_dup (i_gI 12 2 (i_cst (.int (20)) (i_bin (fun x y => x + y) (i_pI 12 2 (i_ldA 0 (i_gI 12 2 (i_rI))))))))) (i_ldI 6 (i_cst (.int (4)) (i_c2 (fun x y => decide (y ≤ x)) (i_ldI 6 (i_cst (.int (8)) (i_c2 (fun x y => decide (y ≤ x)) (i_ldI 6 (i_cst (.int (12)) (i_c2 (fun x y => decide (y ≤ x)) (i_ldI 6 (i_cst (.int (16)) (i_c2 (fun x y => decide (y ≤ x)) (i_ldI 5 (kX12_feed_71 n r18)) (i_ldI 4 ((kX12_feed_71 n r18)))))) (i_ldI 3 ((kX12_feed_71 n r18)))))) (i_ldI 2 ((kX12_feed_71 n r18)))))) (i_ldI 1 ((kX12_feed_71 n r18))))))))
set_option maxRecDepth 20000 in
theorem okX12_feed_18 {E : mE} {X : State → Heap → Prop} {l : Launch} (hX : mXok E X) (n : Nat) {r18 : mK} (h18 : Sd E X l yX12_feed cX12_feed 8 (some .int) 1 0 0 0 0 18 r18) : Sd E X l yX12_feed cX12_feed 8 (some .int) 1 0 0 0 0 18 (kX12_feed_18 n r18) := s_iload dX12_feed_18 (s_bipush dX12_feed_20 (by decide) (s_icge dX12_feed_22 (by decide) (s_aload_n dX12_feed_105 rfl (s_dup dX12_feed_106 (s_gI dX12_feed_107 lFX12_252 (by decide) (s_bipush dX12_feed_110 (by decide) (s_iadd dX12_feed_112 (s_pI dX12_feed_113 lFX12_252 (s_aload_n dX12_feed_116 rfl (s_gI dX12_feed_117 lFX12_252 (by decide) (s_rI dX12_feed_120 (Nat.le_of_ble_eq_true rfl) (Nat.le_of_ble_eq_true rfl)))))))))) (s_iload dX12_feed_25 (s_iconst dX12_feed_27 (by decide) (s_icge dX12_feed_28 (by decide) (s_iload dX12_feed_35 (s_bipush dX12_feed_37 (by decide) (s_icge dX12_feed_39 (by decide) (s_iload dX12_feed_46 (s_bipush dX12_feed_48 (by decide) (s_icge dX12_feed_50 (by decide) (s_iload dX12_feed_57 (s_bipush dX12_feed_59 (by decide) (s_icge dX12_feed_61 (by decide) (s_iload dX12_feed_69 (okX12_feed_71 hX n h18)) (s_iload dX12_feed_64 (s_goto dX12_feed_66 (by decide) (okX12_feed_71 hX n h18)))))) (s_iload_n dX12_feed_53 rfl (s_goto dX12_feed_54 (by decide) (okX12_feed_71 hX n h18)))))) (s_iload_n dX12_feed_42 rfl (s_goto dX12_feed_43 (by decide) (okX12_feed_71 hX n h18)))))) (s_iload_n dX12_feed_31 rfl (s_goto dX12_feed_32 (by decide) (okX12_feed_71 hX n h18))))))))
def kX12_feed_0 (n : Nat) : mK := i_ldA 0 (i_gI 12 2 (i_cst (.int (20)) (i_bin (fun x y => x + y) (i_cst (.int (1600)) (i_c2 (fun x y => decide (x ≤ y)) (i_cst (.int (0)) (i_stI 6 (mit (kX12_feed_18 n ) n))) (i_cst (.int (-1)) (i_rI)))))))
set_option maxRecDepth 20000 in
theorem okX12_feed_0 {E : mE} {X : State → Heap → Prop} {l : Launch} (hX : mXok E X) (n : Nat) : Sd E X l yX12_feed cX12_feed 8 (some .int) 1 0 0 0 0 0 (kX12_feed_0 n) := s_aload_n dX12_feed_0 rfl (s_gI dX12_feed_1 lFX12_252 (by decide) (s_bipush dX12_feed_4 (by decide) (s_iadd dX12_feed_6 (s_sipush dX12_feed_7 (by decide) (s_icle dX12_feed_10 (by decide) (s_iconst dX12_feed_15 (by decide) (s_istore dX12_feed_16 (s_mit (fun _ hk => okX12_feed_18 hX n hk) n))) (s_iconst dX12_feed_13 (by decide) (s_rI dX12_feed_14 (Nat.le_of_ble_eq_true rfl) (Nat.le_of_ble_eq_true rfl))))))))
def FX12_feed (n : Nat) : List Value → mM → Option mR := mfn 8 (kX12_feed_0 n)
theorem CtX12_feed {E : mE} {X : State → Heap → Prop} {l : Launch} (hX : mXok E X) (n : Nat) : Ct E X l yX12_feed cX12_feed 8 (some .int) 1 0 0 (FX12_feed n) := Ct_of (by decide) hX (okX12_feed_0 hX n)
