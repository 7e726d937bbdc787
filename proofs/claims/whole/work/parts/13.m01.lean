theorem dX12_held_0 : decode cX12_held 0 = .ok (.iload_n 0, 1) := by decide +kernel
theorem dX12_held_1 : decode cX12_held 1 = .ok (.iload_n 1, 1) := by decide +kernel
theorem dX12_held_2 : decode cX12_held 2 = .ok (.if_icmp .ge 7, 3) := by decide +kernel
theorem dX12_held_5 : decode cX12_held 5 = .ok (.iload_n 1, 1) := by decide +kernel
theorem dX12_held_6 : decode cX12_held 6 = .ok (.goto 13, 3) := by decide +kernel
theorem dX12_held_9 : decode cX12_held 9 = .ok (.iload_n 0, 1) := by decide +kernel
theorem dX12_held_10 : decode cX12_held 10 = .ok (.iload_n 2, 1) := by decide +kernel
theorem dX12_held_11 : decode cX12_held 11 = .ok (.if_icmp .le 7, 3) := by decide +kernel
theorem dX12_held_14 : decode cX12_held 14 = .ok (.iload_n 2, 1) := by decide +kernel
theorem dX12_held_15 : decode cX12_held 15 = .ok (.goto 4, 3) := by decide +kernel
theorem dX12_held_18 : decode cX12_held 18 = .ok (.iload_n 0, 1) := by decide +kernel
theorem dX12_held_19 : decode cX12_held 19 = .ok (.ireturn, 1) := by decide +kernel
def kX12_held_19 (n : Nat) : mK := i_rI
set_option maxRecDepth 20000 in
theorem okX12_held_19 {E : mE} {X : State → Heap → Prop} {l : Launch} (hX : mXok E X) (n : Nat) : Sd E X l yX12_held cX12_held 3 (some .int) 1 0 0 0 0 19 (kX12_held_19 n) := s_rI dX12_held_19 (Nat.le_of_ble_eq_true rfl) (Nat.le_of_ble_eq_true rfl)
def kX12_held_0 (n : Nat) : mK := i_ldI 0 (i_ldI 1 (i_c2 (fun x y => decide (y ≤ x)) (i_ldI 0 (i_ldI 2 (i_c2 (fun x y => decide (x ≤ y)) (i_ldI 0 (kX12_held_19 n)) (i_ldI 2 ((kX12_held_19 n)))))) (i_ldI 1 ((kX12_held_19 n)))))
set_option maxRecDepth 20000 in
theorem okX12_held_0 {E : mE} {X : State → Heap → Prop} {l : Launch} (hX : mXok E X) (n : Nat) : Sd E X l yX12_held cX12_held 3 (some .int) 1 0 0 0 0 0 (kX12_held_0 n) := s_iload_n dX12_held_0 rfl (s_iload_n dX12_held_1 rfl (s_icge dX12_held_2 (by decide) (s_iload_n dX12_held_9 rfl (s_iload_n dX12_held_10 rfl (s_icle dX12_held_11 (by decide) (s_iload_n dX12_held_18 rfl (okX12_held_19 hX n)) (s_iload_n dX12_held_14 rfl (s_goto dX12_held_15 (by decide) (okX12_held_19 hX n)))))) (s_iload_n dX12_held_5 rfl (s_goto dX12_held_6 (by decide) (okX12_held_19 hX n)))))
def FX12_held (n : Nat) : List Value → mM → Option mR := mfn 3 (kX12_held_0 n)
theorem CtX12_held {E : mE} {X : State → Heap → Prop} {l : Launch} (hX : mXok E X) (n : Nat) : Ct E X l yX12_held cX12_held 3 (some .int) 1 0 0 (FX12_held n) := Ct_of (by decide) hX (okX12_held_0 hX n)
theorem dX12_isAhead_0 : decode cX12_isAhead 0 = .ok (.iload_n 0, 1) := by decide +kernel
theorem dX12_isAhead_1 : decode cX12_isAhead 1 = .ok (.ifCond .lt 13, 3) := by decide +kernel
theorem dX12_isAhead_4 : decode cX12_isAhead 4 = .ok (.iload_n 0, 1) := by decide +kernel
theorem dX12_isAhead_5 : decode cX12_isAhead 5 = .ok (.bipush 60, 2) := by decide +kernel
theorem dX12_isAhead_7 : decode cX12_isAhead 7 = .ok (.if_icmp .gt 7, 3) := by decide +kernel
theorem dX12_isAhead_10 : decode cX12_isAhead 10 = .ok (.iconst 1, 1) := by decide +kernel
theorem dX12_isAhead_11 : decode cX12_isAhead 11 = .ok (.goto 4, 3) := by decide +kernel
theorem dX12_isAhead_14 : decode cX12_isAhead 14 = .ok (.iconst 0, 1) := by decide +kernel
theorem dX12_isAhead_15 : decode cX12_isAhead 15 = .ok (.ireturn, 1) := by decide +kernel
def kX12_isAhead_15 (n : Nat) : mK := i_rZ
set_option maxRecDepth 20000 in
theorem okX12_isAhead_15 {E : mE} {X : State → Heap → Prop} {l : Launch} (hX : mXok E X) (n : Nat) : Sd E X l yX12_isAhead cX12_isAhead 1 (some .boolean) 1 0 0 0 0 15 (kX12_isAhead_15 n) := s_rZ dX12_isAhead_15 (Nat.le_of_ble_eq_true rfl) (Nat.le_of_ble_eq_true rfl)
def kX12_isAhead_14 (n : Nat) : mK := i_cst (.int (0)) (kX12_isAhead_15 n)
set_option maxRecDepth 20000 in
theorem okX12_isAhead_14 {E : mE} {X : State → Heap → Prop} {l : Launch} (hX : mXok E X) (n : Nat) : Sd E X l yX12_isAhead cX12_isAhead 1 (some .boolean) 1 0 0 0 0 14 (kX12_isAhead_14 n) := s_iconst dX12_isAhead_14 (by decide) (okX12_isAhead_15 hX n)
def kX12_isAhead_0 (n : Nat) : mK := i_ldI 0 (i_c0 (fun x => decide (x < 0)) (kX12_isAhead_14 n) (i_ldI 0 (i_cst (.int (60)) (i_c2 (fun x y => decide (y < x)) (kX12_isAhead_14 n) (i_cst (.int (1)) ((kX12_isAhead_15 n)))))))
set_option maxRecDepth 20000 in
theorem okX12_isAhead_0 {E : mE} {X : State → Heap → Prop} {l : Launch} (hX : mXok E X) (n : Nat) : Sd E X l yX12_isAhead cX12_isAhead 1 (some .boolean) 1 0 0 0 0 0 (kX12_isAhead_0 n) := s_iload_n dX12_isAhead_0 rfl (s_iflt dX12_isAhead_1 (by decide) (okX12_isAhead_14 hX n) (s_iload_n dX12_isAhead_4 rfl (s_bipush dX12_isAhead_5 (by decide) (s_icgt dX12_isAhead_7 (by decide) (okX12_isAhead_14 hX n) (s_iconst dX12_isAhead_10 (by decide) (s_goto dX12_isAhead_11 (by decide) (okX12_isAhead_15 hX n)))))))
def FX12_isAhead (n : Nat) : List Value → mM → Option mR := mfn 1 (kX12_isAhead_0 n)
theorem CtX12_isAhead {E : mE} {X : State → Heap → Prop} {l : Launch} (hX : mXok E X) (n : Nat) : Ct E X l yX12_isAhead cX12_isAhead 1 (some .boolean) 1 0 0 (FX12_isAhead n) := Ct_of (by decide) hX (okX12_isAhead_0 hX n)
theorem dX12_isCompared_0 : decode cX12_isCompared 0 = .ok (.aload_n 0, 1) := by decide +kernel
theorem dX12_isCompared_1 : decode cX12_isCompared 1 = .ok (.getfield 295, 3) := by decide +kernel
theorem dX12_isCompared_4 : decode cX12_isCompared 4 = .ok (.iconst 1, 1) := by decide +kernel
theorem dX12_isCompared_5 : decode cX12_isCompared 5 = .ok (.isub, 1) := by decide +kernel
theorem dX12_isCompared_6 : decode cX12_isCompared 6 = .ok (.istore_n 1, 1) := by decide +kernel
theorem dX12_isCompared_7 : decode cX12_isCompared 7 = .ok (.aload_n 0, 1) := by decide +kernel
theorem dX12_isCompared_8 : decode cX12_isCompared 8 = .ok (.getfield 73, 3) := by decide +kernel
theorem dX12_isCompared_11 : decode cX12_isCompared 11 = .ok (.iload_n 1, 1) := by decide +kernel
theorem dX12_isCompared_12 : decode cX12_isCompared 12 = .ok (.iaload, 1) := by decide +kernel
theorem dX12_isCompared_13 : decode cX12_isCompared 13 = .ok (.iconst 5, 1) := by decide +kernel
theorem dX12_isCompared_14 : decode cX12_isCompared 14 = .ok (.if_icmp .eq 14, 3) := by decide +kernel
theorem dX12_isCompared_17 : decode cX12_isCompared 17 = .ok (.aload_n 0, 1) := by decide +kernel
theorem dX12_isCompared_18 : decode cX12_isCompared 18 = .ok (.getfield 73, 3) := by decide +kernel
theorem dX12_isCompared_21 : decode cX12_isCompared 21 = .ok (.iload_n 1, 1) := by decide +kernel
theorem dX12_isCompared_22 : decode cX12_isCompared 22 = .ok (.iaload, 1) := by decide +kernel
theorem dX12_isCompared_23 : decode cX12_isCompared 23 = .ok (.bipush 6, 2) := by decide +kernel
theorem dX12_isCompared_25 : decode cX12_isCompared 25 = .ok (.if_icmp .ne 9, 3) := by decide +kernel
theorem dX12_isCompared_28 : decode cX12_isCompared 28 = .ok (.iinc 1 (-1), 3) := by decide +kernel
theorem dX12_isCompared_31 : decode cX12_isCompared 31 = .ok (.goto (-24), 3) := by decide +kernel
theorem dX12_isCompared_34 : decode cX12_isCompared 34 = .ok (.aload_n 0, 1) := by decide +kernel
theorem dX12_isCompared_35 : decode cX12_isCompared 35 = .ok (.getfield 73, 3) := by decide +kernel
theorem dX12_isCompared_38 : decode cX12_isCompared 38 = .ok (.iload_n 1, 1) := by decide +kernel
theorem dX12_isCompared_39 : decode cX12_isCompared 39 = .ok (.iaload, 1) := by decide +kernel
theorem dX12_isCompared_40 : decode cX12_isCompared 40 = .ok (.iconst 4, 1) := by decide +kernel
theorem dX12_isCompared_41 : decode cX12_isCompared 41 = .ok (.if_icmp .ne 7, 3) := by decide +kernel
theorem dX12_isCompared_44 : decode cX12_isCompared 44 = .ok (.iconst 1, 1) := by decide +kernel
theorem dX12_isCompared_45 : decode cX12_isCompared 45 = .ok (.goto 4, 3) := by decide +kernel
theorem dX12_isCompared_48 : decode cX12_isCompared 48 = .ok (.iconst 0, 1) := by decide +kernel
theorem dX12_isCompared_49 : decode cX12_isCompared 49 = .ok (.ireturn, 1) := by decide +kernel
def kX12_isCompared_28 (n : Nat) (r7 : mK) : mK := i_inc 1 (-1) (r7)
set_option maxRecDepth 20000 in
theorem okX12_isCompared_28 {E : mE} {X : State → Heap → Prop} {l : Launch} (hX : mXok E X) (n : Nat) {r7 : mK} (h7 : Sd E X l yX12_isCompared cX12_isCompared 2 (some .boolean) 1 0 0 0 0 7 r7) : Sd E X l yX12_isCompared cX12_isCompared 2 (some .boolean) 1 0 0 0 0 28 (kX12_isCompared_28 n r7) := s_iinc dX12_isCompared_28 (by decide) (s_goto dX12_isCompared_31 (by decide) h7)
def kX12_isCompared_49 (n : Nat) : mK := i_rZ
set_option maxRecDepth 20000 in
theorem okX12_isCompared_49 {E : mE} {X : State → Heap → Prop} {l : Launch} (hX : mXok E X) (n : Nat) : Sd E X l yX12_isCompared cX12_isCompared 2 (some .boolean) 1 0 0 0 0 49 (kX12_isCompared_49 n) := s_rZ dX12_isCompared_49 (Nat.le_of_ble_eq_true rfl) (Nat.le_of_ble_eq_true rfl)
def kX12_isCompared_7 (n : Nat) (r7 : mK) : mK := i_ldA 0 (i_gA 12 28 (i_ldI 1 (i_al 0 (i_cst (.int (5)) (i_c2 (fun x y => decide (x = y)) (kX12_isCompared_28 n r7) (i_ldA 0 (i_gA 12 28 (i_ldI 1 (i_al 0 (i_cst (.int (6)) (i_c2 (fun x y => decide (¬ x = y)) (i_ldA 0 (i_gA 12 28 (i_ldI 1 (i_al 0 (i_cst (.int (4)) (i_c2 (fun x y => decide (¬ x = y)) (i_cst (.int (0)) (kX12_isCompared_49 n)) (i_cst (.int (1)) ((kX12_isCompared_49 n))))))))) (kX12_isCompared_28 n r7))))))))))))
set_option maxRecDepth 20000 in
theorem okX12_isCompared_7 {E : mE} {X : State → Heap → Prop} {l : Launch} (hX : mXok E X) (n : Nat) {r7 : mK} (h7 : Sd E X l yX12_isCompared cX12_isCompared 2 (some .boolean) 1 0 0 0 0 7 r7) : Sd E X l yX12_isCompared cX12_isCompared 2 (some .boolean) 1 0 0 0 0 7 (kX12_isCompared_7 n r7) := s_aload_n dX12_isCompared_7 rfl (s_gA dX12_isCompared_8 lFX12_73 (s_iload_n dX12_isCompared_11 rfl (s_iald dX12_isCompared_12 (s_iconst dX12_isCompared_13 (by decide) (s_iceq dX12_isCompared_14 (by decide) (okX12_isCompared_28 hX n h7) (s_aload_n dX12_isCompared_17 rfl (s_gA dX12_isCompared_18 lFX12_73 (s_iload_n dX12_isCompared_21 rfl (s_iald dX12_isCompared_22 (s_bipush dX12_isCompared_23 (by decide) (s_icne dX12_isCompared_25 (by decide) (s_aload_n dX12_isCompared_34 rfl (s_gA dX12_isCompared_35 lFX12_73 (s_iload_n dX12_isCompared_38 rfl (s_iald dX12_isCompared_39 (s_iconst dX12_isCompared_40 (by decide) (s_icne dX12_isCompared_41 (by decide) (s_iconst dX12_isCompared_48 (by decide) (okX12_isCompared_49 hX n)) (s_iconst dX12_isCompared_44 (by decide) (s_goto dX12_isCompared_45 (by decide) (okX12_isCompared_49 hX n))))))))) (okX12_isCompared_28 hX n h7))))))))))))
def kX12_isCompared_0 (n : Nat) : mK := i_ldA 0 (i_gI 12 35 (i_cst (.int (1)) (i_bin (fun x y => x - y) (i_stI 1 (mit (kX12_isCompared_7 n ) n)))))
set_option maxRecDepth 20000 in
theorem okX12_isCompared_0 {E : mE} {X : State → Heap → Prop} {l : Launch} (hX : mXok E X) (n : Nat) : Sd E X l yX12_isCompared cX12_isCompared 2 (some .boolean) 1 0 0 0 0 0 (kX12_isCompared_0 n) := s_aload_n dX12_isCompared_0 rfl (s_gI dX12_isCompared_1 lFX12_295 (by decide) (s_iconst dX12_isCompared_4 (by decide) (s_isub dX12_isCompared_5 (s_istore_n dX12_isCompared_6 rfl (s_mit (fun _ hk => okX12_isCompared_7 hX n hk) n)))))
def FX12_isCompared (n : Nat) : List Value → mM → Option mR := mfn 2 (kX12_isCompared_0 n)
theorem CtX12_isCompared {E : mE} {X : State → Heap → Prop} {l : Launch} (hX : mXok E X) (n : Nat) : Ct E X l yX12_isCompared cX12_isCompared 2 (some .boolean) 1 0 0 (FX12_isCompared n) := Ct_of (by decide) hX (okX12_isCompared_0 hX n)
theorem dX12_isDigit_0 : decode cX12_isDigit 0 = .ok (.iload_n 0, 1) := by decide +kernel
theorem dX12_isDigit_1 : decode cX12_isDigit 1 = .ok (.bipush 48, 2) := by decide +kernel
theorem dX12_isDigit_3 : decode cX12_isDigit 3 = .ok (.if_icmp .lt 13, 3) := by decide +kernel
theorem dX12_isDigit_6 : decode cX12_isDigit 6 = .ok (.iload_n 0, 1) := by decide +kernel
theorem dX12_isDigit_7 : decode cX12_isDigit 7 = .ok (.bipush 57, 2) := by decide +kernel
theorem dX12_isDigit_9 : decode cX12_isDigit 9 = .ok (.if_icmp .gt 7, 3) := by decide +kernel
theorem dX12_isDigit_12 : decode cX12_isDigit 12 = .ok (.iconst 1, 1) := by decide +kernel
theorem dX12_isDigit_13 : decode cX12_isDigit 13 = .ok (.goto 4, 3) := by decide +kernel
theorem dX12_isDigit_16 : decode cX12_isDigit 16 = .ok (.iconst 0, 1) := by decide +kernel
theorem dX12_isDigit_17 : decode cX12_isDigit 17 = .ok (.ireturn, 1) := by decide +kernel
def kX12_isDigit_17 (n : Nat) : mK := i_rZ
set_option maxRecDepth 20000 in
theorem okX12_isDigit_17 {E : mE} {X : State → Heap → Prop} {l : Launch} (hX : mXok E X) (n : Nat) : Sd E X l yX12_isDigit cX12_isDigit 1 (some .boolean) 1 0 0 0 0 17 (kX12_isDigit_17 n) := s_rZ dX12_isDigit_17 (Nat.le_of_ble_eq_true rfl) (Nat.le_of_ble_eq_true rfl)
def kX12_isDigit_16 (n : Nat) : mK := i_cst (.int (0)) (kX12_isDigit_17 n)
set_option maxRecDepth 20000 in
theorem okX12_isDigit_16 {E : mE} {X : State → Heap → Prop} {l : Launch} (hX : mXok E X) (n : Nat) : Sd E X l yX12_isDigit cX12_isDigit 1 (some .boolean) 1 0 0 0 0 16 (kX12_isDigit_16 n) := s_iconst dX12_isDigit_16 (by decide) (okX12_isDigit_17 hX n)
def kX12_isDigit_0 (n : Nat) : mK := i_ldI 0 (i_cst (.int (48)) (i_c2 (fun x y => decide (x < y)) (kX12_isDigit_16 n) (i_ldI 0 (i_cst (.int (57)) (i_c2 (fun x y => decide (y < x)) (kX12_isDigit_16 n) (i_cst (.int (1)) ((kX12_isDigit_17 n))))))))
set_option maxRecDepth 20000 in
theorem okX12_isDigit_0 {E : mE} {X : State → Heap → Prop} {l : Launch} (hX : mXok E X) (n : Nat) : Sd E X l yX12_isDigit cX12_isDigit 1 (some .boolean) 1 0 0 0 0 0 (kX12_isDigit_0 n) := s_iload_n dX12_isDigit_0 rfl (s_bipush dX12_isDigit_1 (by decide) (s_iclt dX12_isDigit_3 (by decide) (okX12_isDigit_16 hX n) (s_iload_n dX12_isDigit_6 rfl (s_bipush dX12_isDigit_7 (by decide) (s_icgt dX12_isDigit_9 (by decide) (okX12_isDigit_16 hX n) (s_iconst dX12_isDigit_12 (by decide) (s_goto dX12_isDigit_13 (by decide) (okX12_isDigit_17 hX n))))))))
def FX12_isDigit (n : Nat) : List Value → mM → Option mR := mfn 1 (kX12_isDigit_0 n)
theorem CtX12_isDigit {E : mE} {X : State → Heap → Prop} {l : Launch} (hX : mXok E X) (n : Nat) : Ct E X l yX12_isDigit cX12_isDigit 1 (some .boolean) 1 0 0 (FX12_isDigit n) := Ct_of (by decide) hX (okX12_isDigit_0 hX n)
theorem dX12_isGood_0 : decode cX12_isGood 0 = .ok (.aload_n 0, 1) := by decide +kernel
theorem dX12_isGood_1 : decode cX12_isGood 1 = .ok (.getfield 146, 3) := by decide +kernel
theorem dX12_isGood_4 : decode cX12_isGood 4 = .ok (.ifCond .ne 7, 3) := by decide +kernel
theorem dX12_isGood_7 : decode cX12_isGood 7 = .ok (.iconst 1, 1) := by decide +kernel
theorem dX12_isGood_8 : decode cX12_isGood 8 = .ok (.goto 4, 3) := by decide +kernel
theorem dX12_isGood_11 : decode cX12_isGood 11 = .ok (.iconst 0, 1) := by decide +kernel
theorem dX12_isGood_12 : decode cX12_isGood 12 = .ok (.ireturn, 1) := by decide +kernel
def kX12_isGood_12 (n : Nat) : mK := i_rZ
set_option maxRecDepth 20000 in
theorem okX12_isGood_12 {E : mE} {X : State → Heap → Prop} {l : Launch} (hX : mXok E X) (n : Nat) : Sd E X l yX12_isGood cX12_isGood 1 (some .boolean) 1 0 0 0 0 12 (kX12_isGood_12 n) := s_rZ dX12_isGood_12 (Nat.le_of_ble_eq_true rfl) (Nat.le_of_ble_eq_true rfl)
def kX12_isGood_0 (n : Nat) : mK := i_ldA 0 (i_gI 12 4 (i_c0 (fun x => decide (¬ x = 0)) (i_cst (.int (0)) (kX12_isGood_12 n)) (i_cst (.int (1)) ((kX12_isGood_12 n)))))
set_option maxRecDepth 20000 in
theorem okX12_isGood_0 {E : mE} {X : State → Heap → Prop} {l : Launch} (hX : mXok E X) (n : Nat) : Sd E X l yX12_isGood cX12_isGood 1 (some .boolean) 1 0 0 0 0 0 (kX12_isGood_0 n) := s_aload_n dX12_isGood_0 rfl (s_gI dX12_isGood_1 lFX12_146 (by decide) (s_ifne dX12_isGood_4 (by decide) (s_iconst dX12_isGood_11 (by decide) (okX12_isGood_12 hX n)) (s_iconst dX12_isGood_7 (by decide) (s_goto dX12_isGood_8 (by decide) (okX12_isGood_12 hX n)))))
def FX12_isGood (n : Nat) : List Value → mM → Option mR := mfn 1 (kX12_isGood_0 n)
theorem CtX12_isGood {E : mE} {X : State → Heap → Prop} {l : Launch} (hX : mXok E X) (n : Nat) : Ct E X l yX12_isGood cX12_isGood 1 (some .boolean) 1 0 0 (FX12_isGood n) := Ct_of (by decide) hX (okX12_isGood_0 hX n)
theorem dX12_isIn_0 : decode cX12_isIn 0 = .ok (.iload_n 0, 1) := by decide +kernel
theorem dX12_isIn_1 : decode cX12_isIn 1 = .ok (.iload_n 1, 1) := by decide +kernel
theorem dX12_isIn_2 : decode cX12_isIn 2 = .ok (.if_icmp .lt 12, 3) := by decide +kernel
theorem dX12_isIn_5 : decode cX12_isIn 5 = .ok (.iload_n 0, 1) := by decide +kernel
theorem dX12_isIn_6 : decode cX12_isIn 6 = .ok (.iload_n 2, 1) := by decide +kernel
theorem dX12_isIn_7 : decode cX12_isIn 7 = .ok (.if_icmp .gt 7, 3) := by decide +kernel
theorem dX12_isIn_10 : decode cX12_isIn 10 = .ok (.iconst 1, 1) := by decide +kernel
theorem dX12_isIn_11 : decode cX12_isIn 11 = .ok (.goto 4, 3) := by decide +kernel
theorem dX12_isIn_14 : decode cX12_isIn 14 = .ok (.iconst 0, 1) := by decide +kernel
theorem dX12_isIn_15 : decode cX12_isIn 15 = .ok (.ireturn, 1) := by decide +kernel
def kX12_isIn_15 (n : Nat) : mK := i_rZ
set_option maxRecDepth 20000 in
theorem okX12_isIn_15 {E : mE} {X : State → Heap → Prop} {l : Launch} (hX : mXok E X) (n : Nat) : Sd E X l yX12_isIn cX12_isIn 3 (some .boolean) 1 0 0 0 0 15 (kX12_isIn_15 n) := s_rZ dX12_isIn_15 (Nat.le_of_ble_eq_true rfl) (Nat.le_of_ble_eq_true rfl)
def kX12_isIn_14 (n : Nat) : mK := i_cst (.int (0)) (kX12_isIn_15 n)
set_option maxRecDepth 20000 in
theorem okX12_isIn_14 {E : mE} {X : State → Heap → Prop} {l : Launch} (hX : mXok E X) (n : Nat) : Sd E X l yX12_isIn cX12_isIn 3 (some .boolean) 1 0 0 0 0 14 (kX12_isIn_14 n) := s_iconst dX12_isIn_14 (by decide) (okX12_isIn_15 hX n)
def kX12_isIn_0 (n : Nat) : mK := i_ldI 0 (i_ldI 1 (i_c2 (fun x y => decide (x < y)) (kX12_isIn_14 n) (i_ldI 0 (i_ldI 2 (i_c2 (fun x y => decide (y < x)) (kX12_isIn_14 n) (i_cst (.int (1)) ((kX12_isIn_15 n))))))))
set_option maxRecDepth 20000 in
theorem okX12_isIn_0 {E : mE} {X : State → Heap → Prop} {l : Launch} (hX : mXok E X) (n : Nat) : Sd E X l yX12_isIn cX12_isIn 3 (some .boolean) 1 0 0 0 0 0 (kX12_isIn_0 n) := s_iload_n dX12_isIn_0 rfl (s_iload_n dX12_isIn_1 rfl (s_iclt dX12_isIn_2 (by decide) (okX12_isIn_14 hX n) (s_iload_n dX12_isIn_5 rfl (s_iload_n dX12_isIn_6 rfl (s_icgt dX12_isIn_7 (by decide) (okX12_isIn_14 hX n) (s_iconst dX12_isIn_10 (by decide) (s_goto dX12_isIn_11 (by decide) (okX12_isIn_15 hX n))))))))
def FX12_isIn (n : Nat) : List Value → mM → Option mR := mfn 3 (kX12_isIn_0 n)
theorem CtX12_isIn {E : mE} {X : State → Heap → Prop} {l : Launch} (hX : mXok E X) (n : Nat) : Ct E X l yX12_isIn cX12_isIn 3 (some .boolean) 1 0 0 (FX12_isIn n) := Ct_of (by decide) hX (okX12_isIn_0 hX n)
theorem dX12_isKept_0 : decode cX12_isKept 0 = .ok (.lload_n 0, 1) := by decide +kernel
theorem dX12_isKept_1 : decode cX12_isKept 1 = .ok (.ldc2_w 149, 3) := by decide +kernel
theorem dX12_isKept_4 : decode cX12_isKept 4 = .ok (.lcmp, 1) := by decide +kernel
theorem dX12_isKept_5 : decode cX12_isKept 5 = .ok (.ifCond .eq 75, 3) := by decide +kernel
theorem dX12_isKept_8 : decode cX12_isKept 8 = .ok (.lload_n 0, 1) := by decide +kernel
theorem dX12_isKept_9 : decode cX12_isKept 9 = .ok (.ldc2_w 151, 3) := by decide +kernel
theorem dX12_isKept_12 : decode cX12_isKept 12 = .ok (.lcmp, 1) := by decide +kernel
theorem dX12_isKept_13 : decode cX12_isKept 13 = .ok (.ifCond .eq 67, 3) := by decide +kernel
theorem dX12_isKept_16 : decode cX12_isKept 16 = .ok (.lload_n 0, 1) := by decide +kernel
theorem dX12_isKept_17 : decode cX12_isKept 17 = .ok (.ldc2_w 153, 3) := by decide +kernel
theorem dX12_isKept_20 : decode cX12_isKept 20 = .ok (.lcmp, 1) := by decide +kernel
theorem dX12_isKept_21 : decode cX12_isKept 21 = .ok (.ifCond .eq 59, 3) := by decide +kernel
theorem dX12_isKept_24 : decode cX12_isKept 24 = .ok (.lload_n 0, 1) := by decide +kernel
theorem dX12_isKept_25 : decode cX12_isKept 25 = .ok (.ldc2_w 155, 3) := by decide +kernel
theorem dX12_isKept_28 : decode cX12_isKept 28 = .ok (.lcmp, 1) := by decide +kernel
theorem dX12_isKept_29 : decode cX12_isKept 29 = .ok (.ifCond .eq 51, 3) := by decide +kernel
theorem dX12_isKept_32 : decode cX12_isKept 32 = .ok (.lload_n 0, 1) := by decide +kernel
theorem dX12_isKept_33 : decode cX12_isKept 33 = .ok (.ldc2_w 157, 3) := by decide +kernel
theorem dX12_isKept_36 : decode cX12_isKept 36 = .ok (.lcmp, 1) := by decide +kernel
theorem dX12_isKept_37 : decode cX12_isKept 37 = .ok (.ifCond .eq 43, 3) := by decide +kernel
theorem dX12_isKept_40 : decode cX12_isKept 40 = .ok (.lload_n 0, 1) := by decide +kernel
theorem dX12_isKept_41 : decode cX12_isKept 41 = .ok (.ldc2_w 159, 3) := by decide +kernel
theorem dX12_isKept_44 : decode cX12_isKept 44 = .ok (.lcmp, 1) := by decide +kernel
theorem dX12_isKept_45 : decode cX12_isKept 45 = .ok (.ifCond .eq 35, 3) := by decide +kernel
theorem dX12_isKept_48 : decode cX12_isKept 48 = .ok (.lload_n 0, 1) := by decide +kernel
theorem dX12_isKept_49 : decode cX12_isKept 49 = .ok (.ldc2_w 161, 3) := by decide +kernel
theorem dX12_isKept_52 : decode cX12_isKept 52 = .ok (.lcmp, 1) := by decide +kernel
theorem dX12_isKept_53 : decode cX12_isKept 53 = .ok (.ifCond .eq 27, 3) := by decide +kernel
theorem dX12_isKept_56 : decode cX12_isKept 56 = .ok (.lload_n 0, 1) := by decide +kernel
theorem dX12_isKept_57 : decode cX12_isKept 57 = .ok (.ldc2_w 163, 3) := by decide +kernel
theorem dX12_isKept_60 : decode cX12_isKept 60 = .ok (.lcmp, 1) := by decide +kernel
theorem dX12_isKept_61 : decode cX12_isKept 61 = .ok (.ifCond .eq 19, 3) := by decide +kernel
theorem dX12_isKept_64 : decode cX12_isKept 64 = .ok (.lload_n 0, 1) := by decide +kernel
theorem dX12_isKept_65 : decode cX12_isKept 65 = .ok (.ldc2_w 165, 3) := by decide +kernel
theorem dX12_isKept_68 : decode cX12_isKept 68 = .ok (.lcmp, 1) := by decide +kernel
theorem dX12_isKept_69 : decode cX12_isKept 69 = .ok (.ifCond .eq 11, 3) := by decide +kernel
theorem dX12_isKept_72 : decode cX12_isKept 72 = .ok (.lload_n 0, 1) := by decide +kernel
theorem dX12_isKept_73 : decode cX12_isKept 73 = .ok (.ldc2_w 167, 3) := by decide +kernel
theorem dX12_isKept_76 : decode cX12_isKept 76 = .ok (.lcmp, 1) := by decide +kernel
theorem dX12_isKept_77 : decode cX12_isKept 77 = .ok (.ifCond .ne 7, 3) := by decide +kernel
theorem dX12_isKept_80 : decode cX12_isKept 80 = .ok (.iconst 1, 1) := by decide +kernel
theorem dX12_isKept_81 : decode cX12_isKept 81 = .ok (.goto 4, 3) := by decide +kernel
theorem dX12_isKept_84 : decode cX12_isKept 84 = .ok (.iconst 0, 1) := by decide +kernel
theorem dX12_isKept_85 : decode cX12_isKept 85 = .ok (.istore_n 2, 1) := by decide +kernel
theorem dX12_isKept_86 : decode cX12_isKept 86 = .ok (.iload_n 2, 1) := by decide +kernel
theorem dX12_isKept_87 : decode cX12_isKept 87 = .ok (.ifCond .ne 75, 3) := by decide +kernel
theorem dX12_isKept_90 : decode cX12_isKept 90 = .ok (.lload_n 0, 1) := by decide +kernel
theorem dX12_isKept_91 : decode cX12_isKept 91 = .ok (.ldc2_w 169, 3) := by decide +kernel
theorem dX12_isKept_94 : decode cX12_isKept 94 = .ok (.lcmp, 1) := by decide +kernel
theorem dX12_isKept_95 : decode cX12_isKept 95 = .ok (.ifCond .eq 67, 3) := by decide +kernel
theorem dX12_isKept_98 : decode cX12_isKept 98 = .ok (.lload_n 0, 1) := by decide +kernel
theorem dX12_isKept_99 : decode cX12_isKept 99 = .ok (.ldc2_w 171, 3) := by decide +kernel
theorem dX12_isKept_102 : decode cX12_isKept 102 = .ok (.lcmp, 1) := by decide +kernel
theorem dX12_isKept_103 : decode cX12_isKept 103 = .ok (.ifCond .eq 59, 3) := by decide +kernel
theorem dX12_isKept_106 : decode cX12_isKept 106 = .ok (.lload_n 0, 1) := by decide +kernel
theorem dX12_isKept_107 : decode cX12_isKept 107 = .ok (.ldc2_w 173, 3) := by decide +kernel
theorem dX12_isKept_110 : decode cX12_isKept 110 = .ok (.lcmp, 1) := by decide +kernel
theorem dX12_isKept_111 : decode cX12_isKept 111 = .ok (.ifCond .eq 51, 3) := by decide +kernel
theorem dX12_isKept_114 : decode cX12_isKept 114 = .ok (.lload_n 0, 1) := by decide +kernel
theorem dX12_isKept_115 : decode cX12_isKept 115 = .ok (.ldc2_w 175, 3) := by decide +kernel
theorem dX12_isKept_118 : decode cX12_isKept 118 = .ok (.lcmp, 1) := by decide +kernel
theorem dX12_isKept_119 : decode cX12_isKept 119 = .ok (.ifCond .eq 43, 3) := by decide +kernel
theorem dX12_isKept_122 : decode cX12_isKept 122 = .ok (.lload_n 0, 1) := by decide +kernel
theorem dX12_isKept_123 : decode cX12_isKept 123 = .ok (.ldc2_w 177, 3) := by decide +kernel
theorem dX12_isKept_126 : decode cX12_isKept 126 = .ok (.lcmp, 1) := by decide +kernel
theorem dX12_isKept_127 : decode cX12_isKept 127 = .ok (.ifCond .eq 35, 3) := by decide +kernel
theorem dX12_isKept_130 : decode cX12_isKept 130 = .ok (.lload_n 0, 1) := by decide +kernel
theorem dX12_isKept_131 : decode cX12_isKept 131 = .ok (.ldc2_w 179, 3) := by decide +kernel
theorem dX12_isKept_134 : decode cX12_isKept 134 = .ok (.lcmp, 1) := by decide +kernel
theorem dX12_isKept_135 : decode cX12_isKept 135 = .ok (.ifCond .eq 27, 3) := by decide +kernel
theorem dX12_isKept_138 : decode cX12_isKept 138 = .ok (.lload_n 0, 1) := by decide +kernel
theorem dX12_isKept_139 : decode cX12_isKept 139 = .ok (.ldc2_w 181, 3) := by decide +kernel
theorem dX12_isKept_142 : decode cX12_isKept 142 = .ok (.lcmp, 1) := by decide +kernel
theorem dX12_isKept_143 : decode cX12_isKept 143 = .ok (.ifCond .eq 19, 3) := by decide +kernel
theorem dX12_isKept_146 : decode cX12_isKept 146 = .ok (.lload_n 0, 1) := by decide +kernel
theorem dX12_isKept_147 : decode cX12_isKept 147 = .ok (.ldc2_w 183, 3) := by decide +kernel
theorem dX12_isKept_150 : decode cX12_isKept 150 = .ok (.lcmp, 1) := by decide +kernel
theorem dX12_isKept_151 : decode cX12_isKept 151 = .ok (.ifCond .eq 11, 3) := by decide +kernel
theorem dX12_isKept_154 : decode cX12_isKept 154 = .ok (.lload_n 0, 1) := by decide +kernel
theorem dX12_isKept_155 : decode cX12_isKept 155 = .ok (.ldc2_w 185, 3) := by decide +kernel
theorem dX12_isKept_158 : decode cX12_isKept 158 = .ok (.lcmp, 1) := by decide +kernel
theorem dX12_isKept_159 : decode cX12_isKept 159 = .ok (.ifCond .ne 7, 3) := by decide +kernel
theorem dX12_isKept_162 : decode cX12_isKept 162 = .ok (.iconst 1, 1) := by decide +kernel
theorem dX12_isKept_163 : decode cX12_isKept 163 = .ok (.goto 4, 3) := by decide +kernel
theorem dX12_isKept_166 : decode cX12_isKept 166 = .ok (.iconst 0, 1) := by decide +kernel
theorem dX12_isKept_167 : decode cX12_isKept 167 = .ok (.ireturn, 1) := by decide +kernel
def kX12_isKept_167 (n : Nat) : mK := i_rZ
set_option maxRecDepth 20000 in
theorem okX12_isKept_167 {E : mE} {X : State → Heap → Prop} {l : Launch} (hX : mXok E X) (n : Nat) : Sd E X l yX12_isKept cX12_isKept 3 (some .boolean) 1 0 0 0 0 167 (kX12_isKept_167 n) := s_rZ dX12_isKept_167 (Nat.le_of_ble_eq_true rfl) (Nat.le_of_ble_eq_true rfl)
def kX12_isKept_162 (n : Nat) : mK := i_cst (.int (1)) ((kX12_isKept_167 n))
set_option maxRecDepth 20000 in
theorem okX12_isKept_162 {E : mE} {X : State → Heap → Prop} {l : Launch} (hX : mXok E X) (n : Nat) : Sd E X l yX12_isKept cX12_isKept 3 (some .boolean) 1 0 0 0 0 162 (kX12_isKept_162 n) := s_iconst dX12_isKept_162 (by decide) (s_goto dX12_isKept_163 (by decide) (okX12_isKept_167 hX n))
def kX12_isKept_131 (n : Nat) : mK := i_cst (.long (2036687218)) (i_lcmp (i_c0 (fun x => decide (x = 0)) (kX12_isKept_162 n) (i_ldJ 0 (i_cst (.long (28530)) (i_lcmp (i_c0 (fun x => decide (x = 0)) (kX12_isKept_162 n) (i_ldJ 0 (i_cst (.long (6385252)) (i_lcmp (i_c0 (fun x => decide (x = 0)) (kX12_isKept_162 n) (i_ldJ 0 (i_cst (.long (7237492)) (i_lcmp (i_c0 (fun x => decide (¬ x = 0)) (i_cst (.int (0)) (kX12_isKept_167 n)) (kX12_isKept_162 n)))))))))))))))
set_option maxRecDepth 20000 in
theorem okX12_isKept_131 {E : mE} {X : State → Heap → Prop} {l : Launch} (hX : mXok E X) (n : Nat) : Sd E X l yX12_isKept cX12_isKept 3 (some .boolean) 1 0 0 0 0 131 (kX12_isKept_131 n) := s_ldc2 dX12_isKept_131 lCX12_179 (s_lcmp dX12_isKept_134 (s_ifeq dX12_isKept_135 (by decide) (okX12_isKept_162 hX n) (s_lload_n dX12_isKept_138 rfl (s_ldc2 dX12_isKept_139 lCX12_181 (s_lcmp dX12_isKept_142 (s_ifeq dX12_isKept_143 (by decide) (okX12_isKept_162 hX n) (s_lload_n dX12_isKept_146 rfl (s_ldc2 dX12_isKept_147 lCX12_183 (s_lcmp dX12_isKept_150 (s_ifeq dX12_isKept_151 (by decide) (okX12_isKept_162 hX n) (s_lload_n dX12_isKept_154 rfl (s_ldc2 dX12_isKept_155 lCX12_185 (s_lcmp dX12_isKept_158 (s_ifne dX12_isKept_159 (by decide) (s_iconst dX12_isKept_166 (by decide) (okX12_isKept_167 hX n)) (okX12_isKept_162 hX n)))))))))))))))
def kX12_isKept_85 (n : Nat) : mK := i_stI 2 (i_ldI 2 (i_c0 (fun x => decide (¬ x = 0)) (kX12_isKept_162 n) (i_ldJ 0 (i_cst (.long (1685217655)) (i_lcmp (i_c0 (fun x => decide (x = 0)) (kX12_isKept_162 n) (i_ldJ 0 (i_cst (.long (1752133492)) (i_lcmp (i_c0 (fun x => decide (x = 0)) (kX12_isKept_162 n) (i_ldJ 0 (i_cst (.long (108230565520740)) (i_lcmp (i_c0 (fun x => decide (x = 0)) (kX12_isKept_162 n) (i_ldJ 0 (i_cst (.long (1835101817)) (i_lcmp (i_c0 (fun x => decide (x = 0)) (kX12_isKept_162 n) (i_ldJ 0 (i_cst (.long (1818324581)) (i_lcmp (i_c0 (fun x => decide (x = 0)) (kX12_isKept_162 n) (i_ldJ 0 (kX12_isKept_131 n))))))))))))))))))))))))
set_option maxRecDepth 20000 in
theorem okX12_isKept_85 {E : mE} {X : State → Heap → Prop} {l : Launch} (hX : mXok E X) (n : Nat) : Sd E X l yX12_isKept cX12_isKept 3 (some .boolean) 1 0 0 0 0 85 (kX12_isKept_85 n) := s_istore_n dX12_isKept_85 rfl (s_iload_n dX12_isKept_86 rfl (s_ifne dX12_isKept_87 (by decide) (okX12_isKept_162 hX n) (s_lload_n dX12_isKept_90 rfl (s_ldc2 dX12_isKept_91 lCX12_169 (s_lcmp dX12_isKept_94 (s_ifeq dX12_isKept_95 (by decide) (okX12_isKept_162 hX n) (s_lload_n dX12_isKept_98 rfl (s_ldc2 dX12_isKept_99 lCX12_171 (s_lcmp dX12_isKept_102 (s_ifeq dX12_isKept_103 (by decide) (okX12_isKept_162 hX n) (s_lload_n dX12_isKept_106 rfl (s_ldc2 dX12_isKept_107 lCX12_173 (s_lcmp dX12_isKept_110 (s_ifeq dX12_isKept_111 (by decide) (okX12_isKept_162 hX n) (s_lload_n dX12_isKept_114 rfl (s_ldc2 dX12_isKept_115 lCX12_175 (s_lcmp dX12_isKept_118 (s_ifeq dX12_isKept_119 (by decide) (okX12_isKept_162 hX n) (s_lload_n dX12_isKept_122 rfl (s_ldc2 dX12_isKept_123 lCX12_177 (s_lcmp dX12_isKept_126 (s_ifeq dX12_isKept_127 (by decide) (okX12_isKept_162 hX n) (s_lload_n dX12_isKept_130 rfl (okX12_isKept_131 hX n))))))))))))))))))))))))
def kX12_isKept_80 (n : Nat) : mK := i_cst (.int (1)) ((kX12_isKept_85 n))
set_option maxRecDepth 20000 in
theorem okX12_isKept_80 {E : mE} {X : State → Heap → Prop} {l : Launch} (hX : mXok E X) (n : Nat) : Sd E X l yX12_isKept cX12_isKept 3 (some .boolean) 1 0 0 0 0 80 (kX12_isKept_80 n) := s_iconst dX12_isKept_80 (by decide) (s_goto dX12_isKept_81 (by decide) (okX12_isKept_85 hX n))
def kX12_isKept_48 (n : Nat) : mK := i_ldJ 0 (i_cst (.long (1651467385)) (i_lcmp (i_c0 (fun x => decide (x = 0)) (kX12_isKept_80 n) (i_ldJ 0 (i_cst (.long (32492108151877235)) (i_lcmp (i_c0 (fun x => decide (x = 0)) (kX12_isKept_80 n) (i_ldJ 0 (i_cst (.long (512970880104)) (i_lcmp (i_c0 (fun x => decide (x = 0)) (kX12_isKept_80 n) (i_ldJ 0 (i_cst (.long (108243466677107)) (i_lcmp (i_c0 (fun x => decide (¬ x = 0)) (i_cst (.int (0)) (kX12_isKept_85 n)) (kX12_isKept_80 n))))))))))))))))
set_option maxRecDepth 20000 in
theorem okX12_isKept_48 {E : mE} {X : State → Heap → Prop} {l : Launch} (hX : mXok E X) (n : Nat) : Sd E X l yX12_isKept cX12_isKept 3 (some .boolean) 1 0 0 0 0 48 (kX12_isKept_48 n) := s_lload_n dX12_isKept_48 rfl (s_ldc2 dX12_isKept_49 lCX12_161 (s_lcmp dX12_isKept_52 (s_ifeq dX12_isKept_53 (by decide) (okX12_isKept_80 hX n) (s_lload_n dX12_isKept_56 rfl (s_ldc2 dX12_isKept_57 lCX12_163 (s_lcmp dX12_isKept_60 (s_ifeq dX12_isKept_61 (by decide) (okX12_isKept_80 hX n) (s_lload_n dX12_isKept_64 rfl (s_ldc2 dX12_isKept_65 lCX12_165 (s_lcmp dX12_isKept_68 (s_ifeq dX12_isKept_69 (by decide) (okX12_isKept_80 hX n) (s_lload_n dX12_isKept_72 rfl (s_ldc2 dX12_isKept_73 lCX12_167 (s_lcmp dX12_isKept_76 (s_ifne dX12_isKept_77 (by decide) (s_iconst dX12_isKept_84 (by decide) (okX12_isKept_85 hX n)) (okX12_isKept_80 hX n))))))))))))))))
def kX12_isKept_0 (n : Nat) : mK := i_ldJ 0 (i_cst (.long (126943972648308)) (i_lcmp (i_c0 (fun x => decide (x = 0)) (kX12_isKept_80 n) (i_ldJ 0 (i_cst (.long (25209)) (i_lcmp (i_c0 (fun x => decide (x = 0)) (kX12_isKept_80 n) (i_ldJ 0 (i_cst (.long (6513010)) (i_lcmp (i_c0 (fun x => decide (x = 0)) (kX12_isKept_80 n) (i_ldJ 0 (i_cst (.long (24948)) (i_lcmp (i_c0 (fun x => decide (x = 0)) (kX12_isKept_80 n) (i_ldJ 0 (i_cst (.long (448377480307)) (i_lcmp (i_c0 (fun x => decide (x = 0)) (kX12_isKept_80 n) (i_ldJ 0 (i_cst (.long (448546174067)) (i_lcmp (i_c0 (fun x => decide (x = 0)) (kX12_isKept_80 n) (kX12_isKept_48 n))))))))))))))))))))))))
set_option maxRecDepth 20000 in
theorem okX12_isKept_0 {E : mE} {X : State → Heap → Prop} {l : Launch} (hX : mXok E X) (n : Nat) : Sd E X l yX12_isKept cX12_isKept 3 (some .boolean) 1 0 0 0 0 0 (kX12_isKept_0 n) := s_lload_n dX12_isKept_0 rfl (s_ldc2 dX12_isKept_1 lCX12_149 (s_lcmp dX12_isKept_4 (s_ifeq dX12_isKept_5 (by decide) (okX12_isKept_80 hX n) (s_lload_n dX12_isKept_8 rfl (s_ldc2 dX12_isKept_9 lCX12_151 (s_lcmp dX12_isKept_12 (s_ifeq dX12_isKept_13 (by decide) (okX12_isKept_80 hX n) (s_lload_n dX12_isKept_16 rfl (s_ldc2 dX12_isKept_17 lCX12_153 (s_lcmp dX12_isKept_20 (s_ifeq dX12_isKept_21 (by decide) (okX12_isKept_80 hX n) (s_lload_n dX12_isKept_24 rfl (s_ldc2 dX12_isKept_25 lCX12_155 (s_lcmp dX12_isKept_28 (s_ifeq dX12_isKept_29 (by decide) (okX12_isKept_80 hX n) (s_lload_n dX12_isKept_32 rfl (s_ldc2 dX12_isKept_33 lCX12_157 (s_lcmp dX12_isKept_36 (s_ifeq dX12_isKept_37 (by decide) (okX12_isKept_80 hX n) (s_lload_n dX12_isKept_40 rfl (s_ldc2 dX12_isKept_41 lCX12_159 (s_lcmp dX12_isKept_44 (s_ifeq dX12_isKept_45 (by decide) (okX12_isKept_80 hX n) (okX12_isKept_48 hX n))))))))))))))))))))))))
def FX12_isKept (n : Nat) : List Value → mM → Option mR := mfn 3 (kX12_isKept_0 n)
theorem CtX12_isKept {E : mE} {X : State → Heap → Prop} {l : Launch} (hX : mXok E X) (n : Nat) : Ct E X l yX12_isKept cX12_isKept 3 (some .boolean) 1 0 0 (FX12_isKept n) := Ct_of (by decide) hX (okX12_isKept_0 hX n)
theorem dX12_isLetter_0 : decode cX12_isLetter 0 = .ok (.iload_n 0, 1) := by decide +kernel
theorem dX12_isLetter_1 : decode cX12_isLetter 1 = .ok (.bipush 97, 2) := by decide +kernel
theorem dX12_isLetter_3 : decode cX12_isLetter 3 = .ok (.if_icmp .lt 13, 3) := by decide +kernel
theorem dX12_isLetter_6 : decode cX12_isLetter 6 = .ok (.iload_n 0, 1) := by decide +kernel
theorem dX12_isLetter_7 : decode cX12_isLetter 7 = .ok (.bipush 122, 2) := by decide +kernel
theorem dX12_isLetter_9 : decode cX12_isLetter 9 = .ok (.if_icmp .gt 7, 3) := by decide +kernel
theorem dX12_isLetter_12 : decode cX12_isLetter 12 = .ok (.iconst 1, 1) := by decide +kernel
theorem dX12_isLetter_13 : decode cX12_isLetter 13 = .ok (.goto 4, 3) := by decide +kernel
theorem dX12_isLetter_16 : decode cX12_isLetter 16 = .ok (.iconst 0, 1) := by decide +kernel
theorem dX12_isLetter_17 : decode cX12_isLetter 17 = .ok (.ireturn, 1) := by decide +kernel
def kX12_isLetter_17 (n : Nat) : mK := i_rZ
set_option maxRecDepth 20000 in
theorem okX12_isLetter_17 {E : mE} {X : State → Heap → Prop} {l : Launch} (hX : mXok E X) (n : Nat) : Sd E X l yX12_isLetter cX12_isLetter 1 (some .boolean) 1 0 0 0 0 17 (kX12_isLetter_17 n) := s_rZ dX12_isLetter_17 (Nat.le_of_ble_eq_true rfl) (Nat.le_of_ble_eq_true rfl)
def kX12_isLetter_16 (n : Nat) : mK := i_cst (.int (0)) (kX12_isLetter_17 n)
set_option maxRecDepth 20000 in
theorem okX12_isLetter_16 {E : mE} {X : State → Heap → Prop} {l : Launch} (hX : mXok E X) (n : Nat) : Sd E X l yX12_isLetter cX12_isLetter 1 (some .boolean) 1 0 0 0 0 16 (kX12_isLetter_16 n) := s_iconst dX12_isLetter_16 (by decide) (okX12_isLetter_17 hX n)
def kX12_isLetter_0 (n : Nat) : mK := i_ldI 0 (i_cst (.int (97)) (i_c2 (fun x y => decide (x < y)) (kX12_isLetter_16 n) (i_ldI 0 (i_cst (.int (122)) (i_c2 (fun x y => decide (y < x)) (kX12_isLetter_16 n) (i_cst (.int (1)) ((kX12_isLetter_17 n))))))))
set_option maxRecDepth 20000 in
theorem okX12_isLetter_0 {E : mE} {X : State → Heap → Prop} {l : Launch} (hX : mXok E X) (n : Nat) : Sd E X l yX12_isLetter cX12_isLetter 1 (some .boolean) 1 0 0 0 0 0 (kX12_isLetter_0 n) := s_iload_n dX12_isLetter_0 rfl (s_bipush dX12_isLetter_1 (by decide) (s_iclt dX12_isLetter_3 (by decide) (okX12_isLetter_16 hX n) (s_iload_n dX12_isLetter_6 rfl (s_bipush dX12_isLetter_7 (by decide) (s_icgt dX12_isLetter_9 (by decide) (okX12_isLetter_16 hX n) (s_iconst dX12_isLetter_12 (by decide) (s_goto dX12_isLetter_13 (by decide) (okX12_isLetter_17 hX n))))))))
def FX12_isLetter (n : Nat) : List Value → mM → Option mR := mfn 1 (kX12_isLetter_0 n)
theorem CtX12_isLetter {E : mE} {X : State → Heap → Prop} {l : Launch} (hX : mXok E X) (n : Nat) : Ct E X l yX12_isLetter cX12_isLetter 1 (some .boolean) 1 0 0 (FX12_isLetter n) := Ct_of (by decide) hX (okX12_isLetter_0 hX n)
theorem dX12_isOnLine_0 : decode cX12_isOnLine 0 = .ok (.iload_n 2, 1) := by decide +kernel
theorem dX12_isOnLine_1 : decode cX12_isOnLine 1 = .ok (.aload_n 0, 1) := by decide +kernel
theorem dX12_isOnLine_2 : decode cX12_isOnLine 2 = .ok (.getfield 20, 3) := by decide +kernel
theorem dX12_isOnLine_5 : decode cX12_isOnLine 5 = .ok (.aload_n 0, 1) := by decide +kernel
theorem dX12_isOnLine_6 : decode cX12_isOnLine 6 = .ok (.getfield 255, 3) := by decide +kernel
theorem dX12_isOnLine_9 : decode cX12_isOnLine 9 = .ok (.iaload, 1) := by decide +kernel
theorem dX12_isOnLine_10 : decode cX12_isOnLine 10 = .ok (.irem, 1) := by decide +kernel
theorem dX12_isOnLine_11 : decode cX12_isOnLine 11 = .ok (.aload_n 0, 1) := by decide +kernel
theorem dX12_isOnLine_12 : decode cX12_isOnLine 12 = .ok (.getfield 82, 3) := by decide +kernel
theorem dX12_isOnLine_15 : decode cX12_isOnLine 15 = .ok (.iconst 0, 1) := by decide +kernel
theorem dX12_isOnLine_16 : decode cX12_isOnLine 16 = .ok (.iload_n 1, 1) := by decide +kernel
theorem dX12_isOnLine_17 : decode cX12_isOnLine 17 = .ok (.iadd, 1) := by decide +kernel
theorem dX12_isOnLine_18 : decode cX12_isOnLine 18 = .ok (.iaload, 1) := by decide +kernel
theorem dX12_isOnLine_19 : decode cX12_isOnLine 19 = .ok (.aload_n 0, 1) := by decide +kernel
theorem dX12_isOnLine_20 : decode cX12_isOnLine 20 = .ok (.getfield 20, 3) := by decide +kernel
theorem dX12_isOnLine_23 : decode cX12_isOnLine 23 = .ok (.aload_n 0, 1) := by decide +kernel
theorem dX12_isOnLine_24 : decode cX12_isOnLine 24 = .ok (.getfield 255, 3) := by decide +kernel
theorem dX12_isOnLine_27 : decode cX12_isOnLine 27 = .ok (.iaload, 1) := by decide +kernel
theorem dX12_isOnLine_28 : decode cX12_isOnLine 28 = .ok (.irem, 1) := by decide +kernel
theorem dX12_isOnLine_29 : decode cX12_isOnLine 29 = .ok (.isub, 1) := by decide +kernel
theorem dX12_isOnLine_30 : decode cX12_isOnLine 30 = .ok (.istore_n 3, 1) := by decide +kernel
theorem dX12_isOnLine_31 : decode cX12_isOnLine 31 = .ok (.iload_n 2, 1) := by decide +kernel
theorem dX12_isOnLine_32 : decode cX12_isOnLine 32 = .ok (.aload_n 0, 1) := by decide +kernel
theorem dX12_isOnLine_33 : decode cX12_isOnLine 33 = .ok (.getfield 20, 3) := by decide +kernel
theorem dX12_isOnLine_36 : decode cX12_isOnLine 36 = .ok (.aload_n 0, 1) := by decide +kernel
theorem dX12_isOnLine_37 : decode cX12_isOnLine 37 = .ok (.getfield 255, 3) := by decide +kernel
theorem dX12_isOnLine_40 : decode cX12_isOnLine 40 = .ok (.iaload, 1) := by decide +kernel
theorem dX12_isOnLine_41 : decode cX12_isOnLine 41 = .ok (.idiv, 1) := by decide +kernel
theorem dX12_isOnLine_42 : decode cX12_isOnLine 42 = .ok (.aload_n 0, 1) := by decide +kernel
theorem dX12_isOnLine_43 : decode cX12_isOnLine 43 = .ok (.getfield 82, 3) := by decide +kernel
theorem dX12_isOnLine_46 : decode cX12_isOnLine 46 = .ok (.iconst 0, 1) := by decide +kernel
theorem dX12_isOnLine_47 : decode cX12_isOnLine 47 = .ok (.iload_n 1, 1) := by decide +kernel
theorem dX12_isOnLine_48 : decode cX12_isOnLine 48 = .ok (.iadd, 1) := by decide +kernel
theorem dX12_isOnLine_49 : decode cX12_isOnLine 49 = .ok (.iaload, 1) := by decide +kernel
theorem dX12_isOnLine_50 : decode cX12_isOnLine 50 = .ok (.aload_n 0, 1) := by decide +kernel
theorem dX12_isOnLine_51 : decode cX12_isOnLine 51 = .ok (.getfield 20, 3) := by decide +kernel
theorem dX12_isOnLine_54 : decode cX12_isOnLine 54 = .ok (.aload_n 0, 1) := by decide +kernel
theorem dX12_isOnLine_55 : decode cX12_isOnLine 55 = .ok (.getfield 255, 3) := by decide +kernel
theorem dX12_isOnLine_58 : decode cX12_isOnLine 58 = .ok (.iaload, 1) := by decide +kernel
theorem dX12_isOnLine_59 : decode cX12_isOnLine 59 = .ok (.idiv, 1) := by decide +kernel
theorem dX12_isOnLine_60 : decode cX12_isOnLine 60 = .ok (.isub, 1) := by decide +kernel
theorem dX12_isOnLine_61 : decode cX12_isOnLine 61 = .ok (.istore 4, 2) := by decide +kernel
theorem dX12_isOnLine_63 : decode cX12_isOnLine 63 = .ok (.aload_n 0, 1) := by decide +kernel
theorem dX12_isOnLine_64 : decode cX12_isOnLine 64 = .ok (.getfield 82, 3) := by decide +kernel
theorem dX12_isOnLine_67 : decode cX12_isOnLine 67 = .ok (.bipush 8, 2) := by decide +kernel
theorem dX12_isOnLine_69 : decode cX12_isOnLine 69 = .ok (.iload_n 1, 1) := by decide +kernel
theorem dX12_isOnLine_70 : decode cX12_isOnLine 70 = .ok (.iadd, 1) := by decide +kernel
theorem dX12_isOnLine_71 : decode cX12_isOnLine 71 = .ok (.iaload, 1) := by decide +kernel
theorem dX12_isOnLine_72 : decode cX12_isOnLine 72 = .ok (.tableswitch 73 0 2 #[28, 43, 58], 28) := by decide +kernel
theorem dX12_isOnLine_100 : decode cX12_isOnLine 100 = .ok (.iload_n 3, 1) := by decide +kernel
theorem dX12_isOnLine_101 : decode cX12_isOnLine 101 = .ok (.ifCond .ne 12, 3) := by decide +kernel
theorem dX12_isOnLine_104 : decode cX12_isOnLine 104 = .ok (.iload 4, 2) := by decide +kernel
theorem dX12_isOnLine_106 : decode cX12_isOnLine 106 = .ok (.ifCond .ge 7, 3) := by decide +kernel
theorem dX12_isOnLine_109 : decode cX12_isOnLine 109 = .ok (.iconst 1, 1) := by decide +kernel
theorem dX12_isOnLine_110 : decode cX12_isOnLine 110 = .ok (.goto 4, 3) := by decide +kernel
theorem dX12_isOnLine_113 : decode cX12_isOnLine 113 = .ok (.iconst 0, 1) := by decide +kernel
theorem dX12_isOnLine_114 : decode cX12_isOnLine 114 = .ok (.ireturn, 1) := by decide +kernel
theorem dX12_isOnLine_115 : decode cX12_isOnLine 115 = .ok (.iload 4, 2) := by decide +kernel
theorem dX12_isOnLine_117 : decode cX12_isOnLine 117 = .ok (.ifCond .ne 11, 3) := by decide +kernel
theorem dX12_isOnLine_120 : decode cX12_isOnLine 120 = .ok (.iload_n 3, 1) := by decide +kernel
theorem dX12_isOnLine_121 : decode cX12_isOnLine 121 = .ok (.ifCond .le 7, 3) := by decide +kernel
theorem dX12_isOnLine_124 : decode cX12_isOnLine 124 = .ok (.iconst 1, 1) := by decide +kernel
theorem dX12_isOnLine_125 : decode cX12_isOnLine 125 = .ok (.goto 4, 3) := by decide +kernel
theorem dX12_isOnLine_128 : decode cX12_isOnLine 128 = .ok (.iconst 0, 1) := by decide +kernel
theorem dX12_isOnLine_129 : decode cX12_isOnLine 129 = .ok (.ireturn, 1) := by decide +kernel
theorem dX12_isOnLine_130 : decode cX12_isOnLine 130 = .ok (.iload_n 3, 1) := by decide +kernel
theorem dX12_isOnLine_131 : decode cX12_isOnLine 131 = .ok (.ifCond .ne 12, 3) := by decide +kernel
theorem dX12_isOnLine_134 : decode cX12_isOnLine 134 = .ok (.iload 4, 2) := by decide +kernel
theorem dX12_isOnLine_136 : decode cX12_isOnLine 136 = .ok (.ifCond .le 7, 3) := by decide +kernel
theorem dX12_isOnLine_139 : decode cX12_isOnLine 139 = .ok (.iconst 1, 1) := by decide +kernel
theorem dX12_isOnLine_140 : decode cX12_isOnLine 140 = .ok (.goto 4, 3) := by decide +kernel
theorem dX12_isOnLine_143 : decode cX12_isOnLine 143 = .ok (.iconst 0, 1) := by decide +kernel
theorem dX12_isOnLine_144 : decode cX12_isOnLine 144 = .ok (.ireturn, 1) := by decide +kernel
theorem dX12_isOnLine_145 : decode cX12_isOnLine 145 = .ok (.iload 4, 2) := by decide +kernel
theorem dX12_isOnLine_147 : decode cX12_isOnLine 147 = .ok (.ifCond .ne 11, 3) := by decide +kernel
theorem dX12_isOnLine_150 : decode cX12_isOnLine 150 = .ok (.iload_n 3, 1) := by decide +kernel
theorem dX12_isOnLine_151 : decode cX12_isOnLine 151 = .ok (.ifCond .ge 7, 3) := by decide +kernel
theorem dX12_isOnLine_154 : decode cX12_isOnLine 154 = .ok (.iconst 1, 1) := by decide +kernel
theorem dX12_isOnLine_155 : decode cX12_isOnLine 155 = .ok (.goto 4, 3) := by decide +kernel
theorem dX12_isOnLine_158 : decode cX12_isOnLine 158 = .ok (.iconst 0, 1) := by decide +kernel
theorem dX12_isOnLine_159 : decode cX12_isOnLine 159 = .ok (.ireturn, 1) := by decide +kernel
def kX12_isOnLine_159 (n : Nat) : mK := i_rZ
set_option maxRecDepth 20000 in
theorem okX12_isOnLine_159 {E : mE} {X : State → Heap → Prop} {l : Launch} (hX : mXok E X) (n : Nat) : Sd E X l yX12_isOnLine cX12_isOnLine 5 (some .boolean) 1 0 0 0 0 159 (kX12_isOnLine_159 n) := s_rZ dX12_isOnLine_159 (Nat.le_of_ble_eq_true rfl) (Nat.le_of_ble_eq_true rfl)
def kX12_isOnLine_158 (n : Nat) : mK := i_cst (.int (0)) (kX12_isOnLine_159 n)
set_option maxRecDepth 20000 in
theorem okX12_isOnLine_158 {E : mE} {X : State → Heap → Prop} {l : Launch} (hX : mXok E X) (n : Nat) : Sd E X l yX12_isOnLine cX12_isOnLine 5 (some .boolean) 1 0 0 0 0 158 (kX12_isOnLine_158 n) := s_iconst dX12_isOnLine_158 (by decide) (okX12_isOnLine_159 hX n)
def kX12_isOnLine_144 (n : Nat) : mK := i_rZ
set_option maxRecDepth 20000 in
theorem okX12_isOnLine_144 {E : mE} {X : State → Heap → Prop} {l : Launch} (hX : mXok E X) (n : Nat) : Sd E X l yX12_isOnLine cX12_isOnLine 5 (some .boolean) 1 0 0 0 0 144 (kX12_isOnLine_144 n) := s_rZ dX12_isOnLine_144 (Nat.le_of_ble_eq_true rfl) (Nat.le_of_ble_eq_true rfl)
def kX12_isOnLine_143 (n : Nat) : mK := i_cst (.int (0)) (kX12_isOnLine_144 n)
set_option maxRecDepth 20000 in
theorem okX12_isOnLine_143 {E : mE} {X : State → Heap → Prop} {l : Launch} (hX : mXok E X) (n : Nat) : Sd E X l yX12_isOnLine cX12_isOnLine 5 (some .boolean) 1 0 0 0 0 143 (kX12_isOnLine_143 n) := s_iconst dX12_isOnLine_143 (by decide) (okX12_isOnLine_144 hX n)
def kX12_isOnLine_129 (n : Nat) : mK := i_rZ
set_option maxRecDepth 20000 in
theorem okX12_isOnLine_129 {E : mE} {X : State → Heap → Prop} {l : Launch} (hX : mXok E X) (n : Nat) : Sd E X l yX12_isOnLine cX12_isOnLine 5 (some .boolean) 1 0 0 0 0 129 (kX12_isOnLine_129 n) := s_rZ dX12_isOnLine_129 (Nat.le_of_ble_eq_true rfl) (Nat.le_of_ble_eq_true rfl)
def kX12_isOnLine_128 (n : Nat) : mK := i_cst (.int (0)) (kX12_isOnLine_129 n)
set_option maxRecDepth 20000 in
theorem okX12_isOnLine_128 {E : mE} {X : State → Heap → Prop} {l : Launch} (hX : mXok E X) (n : Nat) : Sd E X l yX12_isOnLine cX12_isOnLine 5 (some .boolean) 1 0 0 0 0 128 (kX12_isOnLine_128 n) := s_iconst dX12_isOnLine_128 (by decide) (okX12_isOnLine_129 hX n)
def kX12_isOnLine_114 (n : Nat) : mK := i_rZ
set_option maxRecDepth 20000 in
theorem okX12_isOnLine_114 {E : mE} {X : State → Heap → Prop} {l : Launch} (hX : mXok E X) (n : Nat) : Sd E X l yX12_isOnLine cX12_isOnLine 5 (some .boolean) 1 0 0 0 0 114 (kX12_isOnLine_114 n) := s_rZ dX12_isOnLine_114 (Nat.le_of_ble_eq_true rfl) (Nat.le_of_ble_eq_true rfl)
def kX12_isOnLine_113 (n : Nat) : mK := i_cst (.int (0)) (kX12_isOnLine_114 n)
set_option maxRecDepth 20000 in
theorem okX12_isOnLine_113 {E : mE} {X : State → Heap → Prop} {l : Launch} (hX : mXok E X) (n : Nat) : Sd E X l yX12_isOnLine cX12_isOnLine 5 (some .boolean) 1 0 0 0 0 113 (kX12_isOnLine_113 n) := s_iconst dX12_isOnLine_113 (by decide) (okX12_isOnLine_114 hX n)
def kX12_isOnLine_72 (n : Nat) : mK := i_sw [(0, (i_ldI 3 (i_c0 (fun x => decide (¬ x = 0)) (kX12_isOnLine_113 n) (i_ldI 4 (i_c0 (fun x => decide (0 ≤ x)) (kX12_isOnLine_113 n) (i_cst (.int (1)) ((kX12_isOnLine_114 n)))))))), (1, (i_ldI 4 (i_c0 (fun x => decide (¬ x = 0)) (kX12_isOnLine_128 n) (i_ldI 3 (i_c0 (fun x => decide (x ≤ 0)) (kX12_isOnLine_128 n) (i_cst (.int (1)) ((kX12_isOnLine_129 n)))))))), (2, (i_ldI 3 (i_c0 (fun x => decide (¬ x = 0)) (kX12_isOnLine_143 n) (i_ldI 4 (i_c0 (fun x => decide (x ≤ 0)) (kX12_isOnLine_143 n) (i_cst (.int (1)) ((kX12_isOnLine_144 n))))))))] (i_ldI 4 (i_c0 (fun x => decide (¬ x = 0)) (kX12_isOnLine_158 n) (i_ldI 3 (i_c0 (fun x => decide (0 ≤ x)) (kX12_isOnLine_158 n) (i_cst (.int (1)) ((kX12_isOnLine_159 n)))))))
set_option maxRecDepth 20000 in
theorem okX12_isOnLine_72 {E : mE} {X : State → Heap → Prop} {l : Launch} (hX : mXok E X) (n : Nat) : Sd E X l yX12_isOnLine cX12_isOnLine 5 (some .boolean) 1 0 0 0 0 72 (kX12_isOnLine_72 n) := s_tsw dX12_isOnLine_72 (by decide) (s_iload dX12_isOnLine_145 (s_ifne dX12_isOnLine_147 (by decide) (okX12_isOnLine_158 hX n) (s_iload_n dX12_isOnLine_150 rfl (s_ifge dX12_isOnLine_151 (by decide) (okX12_isOnLine_158 hX n) (s_iconst dX12_isOnLine_154 (by decide) (s_goto dX12_isOnLine_155 (by decide) (okX12_isOnLine_159 hX n))))))) (by decide) (tsw_c (by decide) (by decide) (s_iload_n dX12_isOnLine_100 rfl (s_ifne dX12_isOnLine_101 (by decide) (okX12_isOnLine_113 hX n) (s_iload dX12_isOnLine_104 (s_ifge dX12_isOnLine_106 (by decide) (okX12_isOnLine_113 hX n) (s_iconst dX12_isOnLine_109 (by decide) (s_goto dX12_isOnLine_110 (by decide) (okX12_isOnLine_114 hX n))))))) (tsw_c (by decide) (by decide) (s_iload dX12_isOnLine_115 (s_ifne dX12_isOnLine_117 (by decide) (okX12_isOnLine_128 hX n) (s_iload_n dX12_isOnLine_120 rfl (s_ifle dX12_isOnLine_121 (by decide) (okX12_isOnLine_128 hX n) (s_iconst dX12_isOnLine_124 (by decide) (s_goto dX12_isOnLine_125 (by decide) (okX12_isOnLine_129 hX n))))))) (tsw_c (by decide) (by decide) (s_iload_n dX12_isOnLine_130 rfl (s_ifne dX12_isOnLine_131 (by decide) (okX12_isOnLine_143 hX n) (s_iload dX12_isOnLine_134 (s_ifle dX12_isOnLine_136 (by decide) (okX12_isOnLine_143 hX n) (s_iconst dX12_isOnLine_139 (by decide) (s_goto dX12_isOnLine_140 (by decide) (okX12_isOnLine_144 hX n))))))) tsw_n)))
def kX12_isOnLine_36 (n : Nat) : mK := i_ldA 0 (i_gI 12 31 (i_al 0 (i_dv (fun x y => x / y) (i_ldA 0 (i_gA 12 39 (i_cst (.int (0)) (i_ldI 1 (i_bin (fun x y => x + y) (i_al 0 (i_ldA 0 (i_gA 12 11 (i_ldA 0 (i_gI 12 31 (i_al 0 (i_dv (fun x y => x / y) (i_bin (fun x y => x - y) (i_stI 4 (i_ldA 0 (i_gA 12 39 (i_cst (.int (8)) (i_ldI 1 (i_bin (fun x y => x + y) (i_al 0 (kX12_isOnLine_72 n))))))))))))))))))))))))
set_option maxRecDepth 20000 in
theorem okX12_isOnLine_36 {E : mE} {X : State → Heap → Prop} {l : Launch} (hX : mXok E X) (n : Nat) : Sd E X l yX12_isOnLine cX12_isOnLine 5 (some .boolean) 1 0 0 0 0 36 (kX12_isOnLine_36 n) := s_aload_n dX12_isOnLine_36 rfl (s_gI dX12_isOnLine_37 lFX12_255 (by decide) (s_iald dX12_isOnLine_40 (s_idiv dX12_isOnLine_41 (s_aload_n dX12_isOnLine_42 rfl (s_gA dX12_isOnLine_43 lFX12_82 (s_iconst dX12_isOnLine_46 (by decide) (s_iload_n dX12_isOnLine_47 rfl (s_iadd dX12_isOnLine_48 (s_iald dX12_isOnLine_49 (s_aload_n dX12_isOnLine_50 rfl (s_gA dX12_isOnLine_51 lFX12_20 (s_aload_n dX12_isOnLine_54 rfl (s_gI dX12_isOnLine_55 lFX12_255 (by decide) (s_iald dX12_isOnLine_58 (s_idiv dX12_isOnLine_59 (s_isub dX12_isOnLine_60 (s_istore dX12_isOnLine_61 (s_aload_n dX12_isOnLine_63 rfl (s_gA dX12_isOnLine_64 lFX12_82 (s_bipush dX12_isOnLine_67 (by decide) (s_iload_n dX12_isOnLine_69 rfl (s_iadd dX12_isOnLine_70 (s_iald dX12_isOnLine_71 (okX12_isOnLine_72 hX n))))))))))))))))))))))))
def kX12_isOnLine_0 (n : Nat) : mK := i_ldI 2 (i_ldA 0 (i_gA 12 11 (i_ldA 0 (i_gI 12 31 (i_al 0 (i_dv (fun x y => x - x / y * y) (i_ldA 0 (i_gA 12 39 (i_cst (.int (0)) (i_ldI 1 (i_bin (fun x y => x + y) (i_al 0 (i_ldA 0 (i_gA 12 11 (i_ldA 0 (i_gI 12 31 (i_al 0 (i_dv (fun x y => x - x / y * y) (i_bin (fun x y => x - y) (i_stI 3 (i_ldI 2 (i_ldA 0 (i_gA 12 11 (kX12_isOnLine_36 n))))))))))))))))))))))))
set_option maxRecDepth 20000 in
theorem okX12_isOnLine_0 {E : mE} {X : State → Heap → Prop} {l : Launch} (hX : mXok E X) (n : Nat) : Sd E X l yX12_isOnLine cX12_isOnLine 5 (some .boolean) 1 0 0 0 0 0 (kX12_isOnLine_0 n) := s_iload_n dX12_isOnLine_0 rfl (s_aload_n dX12_isOnLine_1 rfl (s_gA dX12_isOnLine_2 lFX12_20 (s_aload_n dX12_isOnLine_5 rfl (s_gI dX12_isOnLine_6 lFX12_255 (by decide) (s_iald dX12_isOnLine_9 (s_irem dX12_isOnLine_10 (s_aload_n dX12_isOnLine_11 rfl (s_gA dX12_isOnLine_12 lFX12_82 (s_iconst dX12_isOnLine_15 (by decide) (s_iload_n dX12_isOnLine_16 rfl (s_iadd dX12_isOnLine_17 (s_iald dX12_isOnLine_18 (s_aload_n dX12_isOnLine_19 rfl (s_gA dX12_isOnLine_20 lFX12_20 (s_aload_n dX12_isOnLine_23 rfl (s_gI dX12_isOnLine_24 lFX12_255 (by decide) (s_iald dX12_isOnLine_27 (s_irem dX12_isOnLine_28 (s_isub dX12_isOnLine_29 (s_istore_n dX12_isOnLine_30 rfl (s_iload_n dX12_isOnLine_31 rfl (s_aload_n dX12_isOnLine_32 rfl (s_gA dX12_isOnLine_33 lFX12_20 (okX12_isOnLine_36 hX n))))))))))))))))))))))))
def FX12_isOnLine (n : Nat) : List Value → mM → Option mR := mfn 5 (kX12_isOnLine_0 n)
theorem CtX12_isOnLine {E : mE} {X : State → Heap → Prop} {l : Launch} (hX : mXok E X) (n : Nat) : Ct E X l yX12_isOnLine cX12_isOnLine 5 (some .boolean) 1 0 0 (FX12_isOnLine n) := Ct_of (by decide) hX (okX12_isOnLine_0 hX n)
theorem dX12_isSign_0 : decode cX12_isSign 0 = .ok (.iload_n 0, 1) := by decide +kernel
theorem dX12_isSign_1 : decode cX12_isSign 1 = .ok (.bipush 59, 2) := by decide +kernel
theorem dX12_isSign_3 : decode cX12_isSign 3 = .ok (.if_icmp .eq 63, 3) := by decide +kernel
theorem dX12_isSign_6 : decode cX12_isSign 6 = .ok (.iload_n 0, 1) := by decide +kernel
theorem dX12_isSign_7 : decode cX12_isSign 7 = .ok (.bipush 40, 2) := by decide +kernel
theorem dX12_isSign_9 : decode cX12_isSign 9 = .ok (.if_icmp .eq 57, 3) := by decide +kernel
theorem dX12_isSign_12 : decode cX12_isSign 12 = .ok (.iload_n 0, 1) := by decide +kernel
theorem dX12_isSign_13 : decode cX12_isSign 13 = .ok (.bipush 41, 2) := by decide +kernel
theorem dX12_isSign_15 : decode cX12_isSign 15 = .ok (.if_icmp .eq 51, 3) := by decide +kernel
theorem dX12_isSign_18 : decode cX12_isSign 18 = .ok (.iload_n 0, 1) := by decide +kernel
theorem dX12_isSign_19 : decode cX12_isSign 19 = .ok (.bipush 60, 2) := by decide +kernel
theorem dX12_isSign_21 : decode cX12_isSign 21 = .ok (.if_icmp .eq 45, 3) := by decide +kernel
theorem dX12_isSign_24 : decode cX12_isSign 24 = .ok (.iload_n 0, 1) := by decide +kernel
theorem dX12_isSign_25 : decode cX12_isSign 25 = .ok (.bipush 62, 2) := by decide +kernel
theorem dX12_isSign_27 : decode cX12_isSign 27 = .ok (.if_icmp .eq 39, 3) := by decide +kernel
theorem dX12_isSign_30 : decode cX12_isSign 30 = .ok (.iload_n 0, 1) := by decide +kernel
theorem dX12_isSign_31 : decode cX12_isSign 31 = .ok (.bipush 61, 2) := by decide +kernel
theorem dX12_isSign_33 : decode cX12_isSign 33 = .ok (.if_icmp .eq 33, 3) := by decide +kernel
theorem dX12_isSign_36 : decode cX12_isSign 36 = .ok (.iload_n 0, 1) := by decide +kernel
theorem dX12_isSign_37 : decode cX12_isSign 37 = .ok (.bipush 43, 2) := by decide +kernel
theorem dX12_isSign_39 : decode cX12_isSign 39 = .ok (.if_icmp .eq 27, 3) := by decide +kernel
theorem dX12_isSign_42 : decode cX12_isSign 42 = .ok (.iload_n 0, 1) := by decide +kernel
theorem dX12_isSign_43 : decode cX12_isSign 43 = .ok (.bipush 45, 2) := by decide +kernel
theorem dX12_isSign_45 : decode cX12_isSign 45 = .ok (.if_icmp .eq 21, 3) := by decide +kernel
theorem dX12_isSign_48 : decode cX12_isSign 48 = .ok (.iload_n 0, 1) := by decide +kernel
theorem dX12_isSign_49 : decode cX12_isSign 49 = .ok (.bipush 42, 2) := by decide +kernel
theorem dX12_isSign_51 : decode cX12_isSign 51 = .ok (.if_icmp .eq 15, 3) := by decide +kernel
theorem dX12_isSign_54 : decode cX12_isSign 54 = .ok (.iload_n 0, 1) := by decide +kernel
theorem dX12_isSign_55 : decode cX12_isSign 55 = .ok (.bipush 47, 2) := by decide +kernel
theorem dX12_isSign_57 : decode cX12_isSign 57 = .ok (.if_icmp .eq 9, 3) := by decide +kernel
theorem dX12_isSign_60 : decode cX12_isSign 60 = .ok (.iload_n 0, 1) := by decide +kernel
theorem dX12_isSign_61 : decode cX12_isSign 61 = .ok (.bipush 37, 2) := by decide +kernel
theorem dX12_isSign_63 : decode cX12_isSign 63 = .ok (.if_icmp .ne 7, 3) := by decide +kernel
theorem dX12_isSign_66 : decode cX12_isSign 66 = .ok (.iconst 1, 1) := by decide +kernel
theorem dX12_isSign_67 : decode cX12_isSign 67 = .ok (.goto 4, 3) := by decide +kernel
theorem dX12_isSign_70 : decode cX12_isSign 70 = .ok (.iconst 0, 1) := by decide +kernel
theorem dX12_isSign_71 : decode cX12_isSign 71 = .ok (.ireturn, 1) := by decide +kernel
def kX12_isSign_71 (n : Nat) : mK := i_rZ
set_option maxRecDepth 20000 in
theorem okX12_isSign_71 {E : mE} {X : State → Heap → Prop} {l : Launch} (hX : mXok E X) (n : Nat) : Sd E X l yX12_isSign cX12_isSign 1 (some .boolean) 1 0 0 0 0 71 (kX12_isSign_71 n) := s_rZ dX12_isSign_71 (Nat.le_of_ble_eq_true rfl) (Nat.le_of_ble_eq_true rfl)
def kX12_isSign_66 (n : Nat) : mK := i_cst (.int (1)) ((kX12_isSign_71 n))
set_option maxRecDepth 20000 in
theorem okX12_isSign_66 {E : mE} {X : State → Heap → Prop} {l : Launch} (hX : mXok E X) (n : Nat) : Sd E X l yX12_isSign cX12_isSign 1 (some .boolean) 1 0 0 0 0 66 (kX12_isSign_66 n) := s_iconst dX12_isSign_66 (by decide) (s_goto dX12_isSign_67 (by decide) (okX12_isSign_71 hX n))
def kX12_isSign_48 (n : Nat) : mK := i_ldI 0 (i_cst (.int (42)) (i_c2 (fun x y => decide (x = y)) (kX12_isSign_66 n) (i_ldI 0 (i_cst (.int (47)) (i_c2 (fun x y => decide (x = y)) (kX12_isSign_66 n) (i_ldI 0 (i_cst (.int (37)) (i_c2 (fun x y => decide (¬ x = y)) (i_cst (.int (0)) (kX12_isSign_71 n)) (kX12_isSign_66 n)))))))))
set_option maxRecDepth 20000 in
theorem okX12_isSign_48 {E : mE} {X : State → Heap → Prop} {l : Launch} (hX : mXok E X) (n : Nat) : Sd E X l yX12_isSign cX12_isSign 1 (some .boolean) 1 0 0 0 0 48 (kX12_isSign_48 n) := s_iload_n dX12_isSign_48 rfl (s_bipush dX12_isSign_49 (by decide) (s_iceq dX12_isSign_51 (by decide) (okX12_isSign_66 hX n) (s_iload_n dX12_isSign_54 rfl (s_bipush dX12_isSign_55 (by decide) (s_iceq dX12_isSign_57 (by decide) (okX12_isSign_66 hX n) (s_iload_n dX12_isSign_60 rfl (s_bipush dX12_isSign_61 (by decide) (s_icne dX12_isSign_63 (by decide) (s_iconst dX12_isSign_70 (by decide) (okX12_isSign_71 hX n)) (okX12_isSign_66 hX n)))))))))
def kX12_isSign_0 (n : Nat) : mK := i_ldI 0 (i_cst (.int (59)) (i_c2 (fun x y => decide (x = y)) (kX12_isSign_66 n) (i_ldI 0 (i_cst (.int (40)) (i_c2 (fun x y => decide (x = y)) (kX12_isSign_66 n) (i_ldI 0 (i_cst (.int (41)) (i_c2 (fun x y => decide (x = y)) (kX12_isSign_66 n) (i_ldI 0 (i_cst (.int (60)) (i_c2 (fun x y => decide (x = y)) (kX12_isSign_66 n) (i_ldI 0 (i_cst (.int (62)) (i_c2 (fun x y => decide (x = y)) (kX12_isSign_66 n) (i_ldI 0 (i_cst (.int (61)) (i_c2 (fun x y => decide (x = y)) (kX12_isSign_66 n) (i_ldI 0 (i_cst (.int (43)) (i_c2 (fun x y => decide (x = y)) (kX12_isSign_66 n) (i_ldI 0 (i_cst (.int (45)) (i_c2 (fun x y => decide (x = y)) (kX12_isSign_66 n) (kX12_isSign_48 n))))))))))))))))))))))))
set_option maxRecDepth 20000 in
theorem okX12_isSign_0 {E : mE} {X : State → Heap → Prop} {l : Launch} (hX : mXok E X) (n : Nat) : Sd E X l yX12_isSign cX12_isSign 1 (some .boolean) 1 0 0 0 0 0 (kX12_isSign_0 n) := s_iload_n dX12_isSign_0 rfl (s_bipush dX12_isSign_1 (by decide) (s_iceq dX12_isSign_3 (by decide) (okX12_isSign_66 hX n) (s_iload_n dX12_isSign_6 rfl (s_bipush dX12_isSign_7 (by decide) (s_iceq dX12_isSign_9 (by decide) (okX12_isSign_66 hX n) (s_iload_n dX12_isSign_12 rfl (s_bipush dX12_isSign_13 (by decide) (s_iceq dX12_isSign_15 (by decide) (okX12_isSign_66 hX n) (s_iload_n dX12_isSign_18 rfl (s_bipush dX12_isSign_19 (by decide) (s_iceq dX12_isSign_21 (by decide) (okX12_isSign_66 hX n) (s_iload_n dX12_isSign_24 rfl (s_bipush dX12_isSign_25 (by decide) (s_iceq dX12_isSign_27 (by decide) (okX12_isSign_66 hX n) (s_iload_n dX12_isSign_30 rfl (s_bipush dX12_isSign_31 (by decide) (s_iceq dX12_isSign_33 (by decide) (okX12_isSign_66 hX n) (s_iload_n dX12_isSign_36 rfl (s_bipush dX12_isSign_37 (by decide) (s_iceq dX12_isSign_39 (by decide) (okX12_isSign_66 hX n) (s_iload_n dX12_isSign_42 rfl (s_bipush dX12_isSign_43 (by decide) (s_iceq dX12_isSign_45 (by decide) (okX12_isSign_66 hX n) (okX12_isSign_48 hX n))))))))))))))))))))))))
def FX12_isSign (n : Nat) : List Value → mM → Option mR := mfn 1 (kX12_isSign_0 n)
theorem CtX12_isSign {E : mE} {X : State → Heap → Prop} {l : Launch} (hX : mXok E X) (n : Nat) : Ct E X l yX12_isSign cX12_isSign 1 (some .boolean) 1 0 0 (FX12_isSign n) := Ct_of (by decide) hX (okX12_isSign_0 hX n)
theorem dX12_isWord_0 : decode cX12_isWord 0 = .ok (.aload_n 0, 1) := by decide +kernel
theorem dX12_isWord_1 : decode cX12_isWord 1 = .ok (.getfield 197, 3) := by decide +kernel
theorem dX12_isWord_4 : decode cX12_isWord 4 = .ok (.iconst 3, 1) := by decide +kernel
theorem dX12_isWord_5 : decode cX12_isWord 5 = .ok (.if_icmp .ne 16, 3) := by decide +kernel
theorem dX12_isWord_8 : decode cX12_isWord 8 = .ok (.aload_n 0, 1) := by decide +kernel
theorem dX12_isWord_9 : decode cX12_isWord 9 = .ok (.getfield 204, 3) := by decide +kernel
theorem dX12_isWord_12 : decode cX12_isWord 12 = .ok (.lload_n 1, 1) := by decide +kernel
theorem dX12_isWord_13 : decode cX12_isWord 13 = .ok (.lcmp, 1) := by decide +kernel
theorem dX12_isWord_14 : decode cX12_isWord 14 = .ok (.ifCond .ne 7, 3) := by decide +kernel
theorem dX12_isWord_17 : decode cX12_isWord 17 = .ok (.iconst 1, 1) := by decide +kernel
theorem dX12_isWord_18 : decode cX12_isWord 18 = .ok (.goto 4, 3) := by decide +kernel
theorem dX12_isWord_21 : decode cX12_isWord 21 = .ok (.iconst 0, 1) := by decide +kernel
theorem dX12_isWord_22 : decode cX12_isWord 22 = .ok (.ireturn, 1) := by decide +kernel
def kX12_isWord_22 (n : Nat) : mK := i_rZ
set_option maxRecDepth 20000 in
theorem okX12_isWord_22 {E : mE} {X : State → Heap → Prop} {l : Launch} (hX : mXok E X) (n : Nat) : Sd E X l yX12_isWord cX12_isWord 3 (some .boolean) 1 0 0 0 0 22 (kX12_isWord_22 n) := s_rZ dX12_isWord_22 (Nat.le_of_ble_eq_true rfl) (Nat.le_of_ble_eq_true rfl)
def kX12_isWord_21 (n : Nat) : mK := i_cst (.int (0)) (kX12_isWord_22 n)
set_option maxRecDepth 20000 in
theorem okX12_isWord_21 {E : mE} {X : State → Heap → Prop} {l : Launch} (hX : mXok E X) (n : Nat) : Sd E X l yX12_isWord cX12_isWord 3 (some .boolean) 1 0 0 0 0 21 (kX12_isWord_21 n) := s_iconst dX12_isWord_21 (by decide) (okX12_isWord_22 hX n)
def kX12_isWord_0 (n : Nat) : mK := i_ldA 0 (i_gI 12 8 (i_cst (.int (3)) (i_c2 (fun x y => decide (¬ x = y)) (kX12_isWord_21 n) (i_ldA 0 (i_gJ 12 10 (i_ldJ 1 (i_lcmp (i_c0 (fun x => decide (¬ x = 0)) (kX12_isWord_21 n) (i_cst (.int (1)) ((kX12_isWord_22 n)))))))))))
set_option maxRecDepth 20000 in
theorem okX12_isWord_0 {E : mE} {X : State → Heap → Prop} {l : Launch} (hX : mXok E X) (n : Nat) : Sd E X l yX12_isWord cX12_isWord 3 (some .boolean) 1 0 0 0 0 0 (kX12_isWord_0 n) := s_aload_n dX12_isWord_0 rfl (s_gI dX12_isWord_1 lFX12_197 (by decide) (s_iconst dX12_isWord_4 (by decide) (s_icne dX12_isWord_5 (by decide) (okX12_isWord_21 hX n) (s_aload_n dX12_isWord_8 rfl (s_gJ dX12_isWord_9 lFX12_204 (s_lload_n dX12_isWord_12 rfl (s_lcmp dX12_isWord_13 (s_ifne dX12_isWord_14 (by decide) (okX12_isWord_21 hX n) (s_iconst dX12_isWord_17 (by decide) (s_goto dX12_isWord_18 (by decide) (okX12_isWord_22 hX n)))))))))))
def FX12_isWord (n : Nat) : List Value → mM → Option mR := mfn 3 (kX12_isWord_0 n)
theorem CtX12_isWord {E : mE} {X : State → Heap → Prop} {l : Launch} (hX : mXok E X) (n : Nat) : Ct E X l yX12_isWord cX12_isWord 3 (some .boolean) 1 0 0 (FX12_isWord n) := Ct_of (by decide) hX (okX12_isWord_0 hX n)
theorem dX12_keepAct_0 : decode cX12_keepAct 0 = .ok (.aload_n 0, 1) := by decide +kernel
theorem dX12_keepAct_1 : decode cX12_keepAct 1 = .ok (.getfield 357, 3) := by decide +kernel
theorem dX12_keepAct_4 : decode cX12_keepAct 4 = .ok (.bipush 40, 2) := by decide +kernel
theorem dX12_keepAct_6 : decode cX12_keepAct 6 = .ok (.if_icmp .ne 43, 3) := by decide +kernel
theorem dX12_keepAct_9 : decode cX12_keepAct 9 = .ok (.iconst 0, 1) := by decide +kernel
theorem dX12_keepAct_10 : decode cX12_keepAct 10 = .ok (.istore_n 1, 1) := by decide +kernel
theorem dX12_keepAct_11 : decode cX12_keepAct 11 = .ok (.iload_n 1, 1) := by decide +kernel
theorem dX12_keepAct_12 : decode cX12_keepAct 12 = .ok (.sipush 1360, 3) := by decide +kernel
theorem dX12_keepAct_15 : decode cX12_keepAct 15 = .ok (.if_icmp .ge 24, 3) := by decide +kernel
theorem dX12_keepAct_18 : decode cX12_keepAct 18 = .ok (.aload_n 0, 1) := by decide +kernel
theorem dX12_keepAct_19 : decode cX12_keepAct 19 = .ok (.getfield 91, 3) := by decide +kernel
theorem dX12_keepAct_22 : decode cX12_keepAct 22 = .ok (.iload_n 1, 1) := by decide +kernel
theorem dX12_keepAct_23 : decode cX12_keepAct 23 = .ok (.aload_n 0, 1) := by decide +kernel
theorem dX12_keepAct_24 : decode cX12_keepAct 24 = .ok (.getfield 91, 3) := by decide +kernel
theorem dX12_keepAct_27 : decode cX12_keepAct 27 = .ok (.iload_n 1, 1) := by decide +kernel
theorem dX12_keepAct_28 : decode cX12_keepAct 28 = .ok (.bipush 34, 2) := by decide +kernel
theorem dX12_keepAct_30 : decode cX12_keepAct 30 = .ok (.iadd, 1) := by decide +kernel
theorem dX12_keepAct_31 : decode cX12_keepAct 31 = .ok (.iaload, 1) := by decide +kernel
theorem dX12_keepAct_32 : decode cX12_keepAct 32 = .ok (.iastore, 1) := by decide +kernel
theorem dX12_keepAct_33 : decode cX12_keepAct 33 = .ok (.iinc 1 1, 3) := by decide +kernel
theorem dX12_keepAct_36 : decode cX12_keepAct 36 = .ok (.goto (-25), 3) := by decide +kernel
theorem dX12_keepAct_39 : decode cX12_keepAct 39 = .ok (.aload_n 0, 1) := by decide +kernel
theorem dX12_keepAct_40 : decode cX12_keepAct 40 = .ok (.dup, 1) := by decide +kernel
theorem dX12_keepAct_41 : decode cX12_keepAct 41 = .ok (.getfield 357, 3) := by decide +kernel
theorem dX12_keepAct_44 : decode cX12_keepAct 44 = .ok (.iconst 1, 1) := by decide +kernel
theorem dX12_keepAct_45 : decode cX12_keepAct 45 = .ok (.isub, 1) := by decide +kernel
theorem dX12_keepAct_46 : decode cX12_keepAct 46 = .ok (.putfield 357, 3) := by decide +kernel
theorem dX12_keepAct_49 : decode cX12_keepAct 49 = .ok (.iconst 0, 1) := by decide +kernel
theorem dX12_keepAct_50 : decode cX12_keepAct 50 = .ok (.istore_n 1, 1) := by decide +kernel
theorem dX12_keepAct_51 : decode cX12_keepAct 51 = .ok (.iload_n 1, 1) := by decide +kernel
theorem dX12_keepAct_52 : decode cX12_keepAct 52 = .ok (.bipush 34, 2) := by decide +kernel
theorem dX12_keepAct_54 : decode cX12_keepAct 54 = .ok (.if_icmp .ge 29, 3) := by decide +kernel
theorem dX12_keepAct_57 : decode cX12_keepAct 57 = .ok (.aload_n 0, 1) := by decide +kernel
theorem dX12_keepAct_58 : decode cX12_keepAct 58 = .ok (.getfield 91, 3) := by decide +kernel
theorem dX12_keepAct_61 : decode cX12_keepAct 61 = .ok (.bipush 34, 2) := by decide +kernel
theorem dX12_keepAct_63 : decode cX12_keepAct 63 = .ok (.aload_n 0, 1) := by decide +kernel
theorem dX12_keepAct_64 : decode cX12_keepAct 64 = .ok (.getfield 357, 3) := by decide +kernel
theorem dX12_keepAct_67 : decode cX12_keepAct 67 = .ok (.imul, 1) := by decide +kernel
theorem dX12_keepAct_68 : decode cX12_keepAct 68 = .ok (.iload_n 1, 1) := by decide +kernel
theorem dX12_keepAct_69 : decode cX12_keepAct 69 = .ok (.iadd, 1) := by decide +kernel
theorem dX12_keepAct_70 : decode cX12_keepAct 70 = .ok (.aload_n 0, 1) := by decide +kernel
theorem dX12_keepAct_71 : decode cX12_keepAct 71 = .ok (.getfield 82, 3) := by decide +kernel
theorem dX12_keepAct_74 : decode cX12_keepAct 74 = .ok (.iload_n 1, 1) := by decide +kernel
theorem dX12_keepAct_75 : decode cX12_keepAct 75 = .ok (.iaload, 1) := by decide +kernel
theorem dX12_keepAct_76 : decode cX12_keepAct 76 = .ok (.iastore, 1) := by decide +kernel
theorem dX12_keepAct_77 : decode cX12_keepAct 77 = .ok (.iinc 1 1, 3) := by decide +kernel
theorem dX12_keepAct_80 : decode cX12_keepAct 80 = .ok (.goto (-29), 3) := by decide +kernel
theorem dX12_keepAct_83 : decode cX12_keepAct 83 = .ok (.aload_n 0, 1) := by decide +kernel
theorem dX12_keepAct_84 : decode cX12_keepAct 84 = .ok (.dup, 1) := by decide +kernel
theorem dX12_keepAct_85 : decode cX12_keepAct 85 = .ok (.getfield 357, 3) := by decide +kernel
theorem dX12_keepAct_88 : decode cX12_keepAct 88 = .ok (.iconst 1, 1) := by decide +kernel
theorem dX12_keepAct_89 : decode cX12_keepAct 89 = .ok (.iadd, 1) := by decide +kernel
theorem dX12_keepAct_90 : decode cX12_keepAct 90 = .ok (.putfield 357, 3) := by decide +kernel
theorem dX12_keepAct_93 : decode cX12_keepAct 93 = .ok (.aload_n 0, 1) := by decide +kernel
theorem dX12_keepAct_94 : decode cX12_keepAct 94 = .ok (.iconst 0, 1) := by decide +kernel
theorem dX12_keepAct_95 : decode cX12_keepAct 95 = .ok (.putfield 360, 3) := by decide +kernel
theorem dX12_keepAct_98 : decode cX12_keepAct 98 = .ok (.return_, 1) := by decide +kernel
def kX12_keepAct_51 (n : Nat) (r51 : mK) : mK := i_ldI 1 (i_cst (.int (34)) (i_c2 (fun x y => decide (y ≤ x)) (i_ldA 0 (i_dup (i_gI 12 43 (i_cst (.int (1)) (i_bin (fun x y => x + y) (i_pI 12 43 (i_ldA 0 (i_cst (.int (0)) (i_pI 12 44 (i_rV)))))))))) (i_ldA 0 (i_gA 12 42 (i_cst (.int (34)) (i_ldA 0 (i_gI 12 43 (i_bin (fun x y => x * y) (i_ldI 1 (i_bin (fun x y => x + y) (i_ldA 0 (i_gA 12 39 (i_ldI 1 (i_al 0 (i_as 0 (i_inc 1 (1) (r51)))))))))))))))))
set_option maxRecDepth 20000 in
theorem okX12_keepAct_51 {E : mE} {X : State → Heap → Prop} {l : Launch} (hX : mXok E X) (n : Nat) {r51 : mK} (h51 : Sd E X l yX12_keepAct cX12_keepAct 2 none 1 0 0 0 0 51 r51) : Sd E X l yX12_keepAct cX12_keepAct 2 none 1 0 0 0 0 51 (kX12_keepAct_51 n r51) := s_iload_n dX12_keepAct_51 rfl (s_bipush dX12_keepAct_52 (by decide) (s_icge dX12_keepAct_54 (by decide) (s_aload_n dX12_keepAct_83 rfl (s_dup dX12_keepAct_84 (s_gI dX12_keepAct_85 lFX12_357 (by decide) (s_iconst dX12_keepAct_88 (by decide) (s_iadd dX12_keepAct_89 (s_pI dX12_keepAct_90 lFX12_357 (s_aload_n dX12_keepAct_93 rfl (s_iconst dX12_keepAct_94 (by decide) (s_pI dX12_keepAct_95 lFX12_360 (s_rV dX12_keepAct_98 (Nat.le_of_ble_eq_true rfl) (Nat.le_of_ble_eq_true rfl))))))))))) (s_aload_n dX12_keepAct_57 rfl (s_gA dX12_keepAct_58 lFX12_91 (s_bipush dX12_keepAct_61 (by decide) (s_aload_n dX12_keepAct_63 rfl (s_gI dX12_keepAct_64 lFX12_357 (by decide) (s_imul dX12_keepAct_67 (s_iload_n dX12_keepAct_68 rfl (s_iadd dX12_keepAct_69 (s_aload_n dX12_keepAct_70 rfl (s_gA dX12_keepAct_71 lFX12_82 (s_iload_n dX12_keepAct_74 rfl (s_iald dX12_keepAct_75 (s_iast dX12_keepAct_76 (s_iinc dX12_keepAct_77 (by decide) (s_goto dX12_keepAct_80 (by decide) h51)))))))))))))))))
def kX12_keepAct_49 (n : Nat) : mK := i_cst (.int (0)) (i_stI 1 (mit (kX12_keepAct_51 n ) n))
set_option maxRecDepth 20000 in
theorem okX12_keepAct_49 {E : mE} {X : State → Heap → Prop} {l : Launch} (hX : mXok E X) (n : Nat) : Sd E X l yX12_keepAct cX12_keepAct 2 none 1 0 0 0 0 49 (kX12_keepAct_49 n) := s_iconst dX12_keepAct_49 (by decide) (s_istore_n dX12_keepAct_50 rfl (s_mit (fun _ hk => okX12_keepAct_51 hX n hk) n))
def kX12_keepAct_11 (n : Nat) (r11 : mK) : mK := i_ldI 1 (i_cst (.int (1360)) (i_c2 (fun x y => decide (y ≤ x)) (i_ldA 0 (i_dup (i_gI 12 43 (i_cst (.int (1)) (i_bin (fun x y => x - y) (i_pI 12 43 (kX12_keepAct_49 n))))))) (i_ldA 0 (i_gA 12 42 (i_ldI 1 (i_ldA 0 (i_gA 12 42 (i_ldI 1 (i_cst (.int (34)) (i_bin (fun x y => x + y) (i_al 0 (i_as 0 (i_inc 1 (1) (r11))))))))))))))
set_option maxRecDepth 20000 in
theorem okX12_keepAct_11 {E : mE} {X : State → Heap → Prop} {l : Launch} (hX : mXok E X) (n : Nat) {r11 : mK} (h11 : Sd E X l yX12_keepAct cX12_keepAct 2 none 1 0 0 0 0 11 r11) : Sd E X l yX12_keepAct cX12_keepAct 2 none 1 0 0 0 0 11 (kX12_keepAct_11 n r11) := s_iload_n dX12_keepAct_11 rfl (s_sipush dX12_keepAct_12 (by decide) (s_icge dX12_keepAct_15 (by decide) (s_aload_n dX12_keepAct_39 rfl (s_dup dX12_keepAct_40 (s_gI dX12_keepAct_41 lFX12_357 (by decide) (s_iconst dX12_keepAct_44 (by decide) (s_isub dX12_keepAct_45 (s_pI dX12_keepAct_46 lFX12_357 (okX12_keepAct_49 hX n))))))) (s_aload_n dX12_keepAct_18 rfl (s_gA dX12_keepAct_19 lFX12_91 (s_iload_n dX12_keepAct_22 rfl (s_aload_n dX12_keepAct_23 rfl (s_gA dX12_keepAct_24 lFX12_91 (s_iload_n dX12_keepAct_27 rfl (s_bipush dX12_keepAct_28 (by decide) (s_iadd dX12_keepAct_30 (s_iald dX12_keepAct_31 (s_iast dX12_keepAct_32 (s_iinc dX12_keepAct_33 (by decide) (s_goto dX12_keepAct_36 (by decide) h11))))))))))))))
def kX12_keepAct_0 (n : Nat) : mK := i_ldA 0 (i_gI 12 43 (i_cst (.int (40)) (i_c2 (fun x y => decide (¬ x = y)) (kX12_keepAct_49 n) (i_cst (.int (0)) (i_stI 1 (mit (kX12_keepAct_11 n ) n))))))
set_option maxRecDepth 20000 in
theorem okX12_keepAct_0 {E : mE} {X : State → Heap → Prop} {l : Launch} (hX : mXok E X) (n : Nat) : Sd E X l yX12_keepAct cX12_keepAct 2 none 1 0 0 0 0 0 (kX12_keepAct_0 n) := s_aload_n dX12_keepAct_0 rfl (s_gI dX12_keepAct_1 lFX12_357 (by decide) (s_bipush dX12_keepAct_4 (by decide) (s_icne dX12_keepAct_6 (by decide) (okX12_keepAct_49 hX n) (s_iconst dX12_keepAct_9 (by decide) (s_istore_n dX12_keepAct_10 rfl (s_mit (fun _ hk => okX12_keepAct_11 hX n hk) n))))))
def FX12_keepAct (n : Nat) : List Value → mM → Option mR := mfn 2 (kX12_keepAct_0 n)
theorem CtX12_keepAct {E : mE} {X : State → Heap → Prop} {l : Launch} (hX : mXok E X) (n : Nat) : Ct E X l yX12_keepAct cX12_keepAct 2 none 1 0 0 (FX12_keepAct n) := Ct_of (by decide) hX (okX12_keepAct_0 hX n)
theorem dX12_keepNow_0 : decode cX12_keepNow 0 = .ok (.iconst 0, 1) := by decide +kernel
theorem dX12_keepNow_1 : decode cX12_keepNow 1 = .ok (.istore_n 1, 1) := by decide +kernel
theorem dX12_keepNow_2 : decode cX12_keepNow 2 = .ok (.iload_n 1, 1) := by decide +kernel
theorem dX12_keepNow_3 : decode cX12_keepNow 3 = .ok (.bipush 34, 2) := by decide +kernel
theorem dX12_keepNow_5 : decode cX12_keepNow 5 = .ok (.if_icmp .ge 21, 3) := by decide +kernel
theorem dX12_keepNow_8 : decode cX12_keepNow 8 = .ok (.aload_n 0, 1) := by decide +kernel
theorem dX12_keepNow_9 : decode cX12_keepNow 9 = .ok (.getfield 94, 3) := by decide +kernel
theorem dX12_keepNow_12 : decode cX12_keepNow 12 = .ok (.iload_n 1, 1) := by decide +kernel
theorem dX12_keepNow_13 : decode cX12_keepNow 13 = .ok (.aload_n 0, 1) := by decide +kernel
theorem dX12_keepNow_14 : decode cX12_keepNow 14 = .ok (.getfield 82, 3) := by decide +kernel
theorem dX12_keepNow_17 : decode cX12_keepNow 17 = .ok (.iload_n 1, 1) := by decide +kernel
theorem dX12_keepNow_18 : decode cX12_keepNow 18 = .ok (.iaload, 1) := by decide +kernel
theorem dX12_keepNow_19 : decode cX12_keepNow 19 = .ok (.iastore, 1) := by decide +kernel
theorem dX12_keepNow_20 : decode cX12_keepNow 20 = .ok (.iinc 1 1, 3) := by decide +kernel
theorem dX12_keepNow_23 : decode cX12_keepNow 23 = .ok (.goto (-21), 3) := by decide +kernel
theorem dX12_keepNow_26 : decode cX12_keepNow 26 = .ok (.return_, 1) := by decide +kernel
def kX12_keepNow_2 (n : Nat) (r2 : mK) : mK := i_ldI 1 (i_cst (.int (34)) (i_c2 (fun x y => decide (y ≤ x)) (i_rV) (i_ldA 0 (i_gA 12 45 (i_ldI 1 (i_ldA 0 (i_gA 12 39 (i_ldI 1 (i_al 0 (i_as 0 (i_inc 1 (1) (r2))))))))))))
set_option maxRecDepth 20000 in
theorem okX12_keepNow_2 {E : mE} {X : State → Heap → Prop} {l : Launch} (hX : mXok E X) (n : Nat) {r2 : mK} (h2 : Sd E X l yX12_keepNow cX12_keepNow 2 none 1 0 0 0 0 2 r2) : Sd E X l yX12_keepNow cX12_keepNow 2 none 1 0 0 0 0 2 (kX12_keepNow_2 n r2) := s_iload_n dX12_keepNow_2 rfl (s_bipush dX12_keepNow_3 (by decide) (s_icge dX12_keepNow_5 (by decide) (s_rV dX12_keepNow_26 (Nat.le_of_ble_eq_true rfl) (Nat.le_of_ble_eq_true rfl)) (s_aload_n dX12_keepNow_8 rfl (s_gA dX12_keepNow_9 lFX12_94 (s_iload_n dX12_keepNow_12 rfl (s_aload_n dX12_keepNow_13 rfl (s_gA dX12_keepNow_14 lFX12_82 (s_iload_n dX12_keepNow_17 rfl (s_iald dX12_keepNow_18 (s_iast dX12_keepNow_19 (s_iinc dX12_keepNow_20 (by decide) (s_goto dX12_keepNow_23 (by decide) h2))))))))))))
def kX12_keepNow_0 (n : Nat) : mK := i_cst (.int (0)) (i_stI 1 (mit (kX12_keepNow_2 n ) n))
set_option maxRecDepth 20000 in
theorem okX12_keepNow_0 {E : mE} {X : State → Heap → Prop} {l : Launch} (hX : mXok E X) (n : Nat) : Sd E X l yX12_keepNow cX12_keepNow 2 none 1 0 0 0 0 0 (kX12_keepNow_0 n) := s_iconst dX12_keepNow_0 (by decide) (s_istore_n dX12_keepNow_1 rfl (s_mit (fun _ hk => okX12_keepNow_2 hX n hk) n))
def FX12_keepNow (n : Nat) : List Value → mM → Option mR := mfn 2 (kX12_keepNow_0 n)
theorem CtX12_keepNow {E : mE} {X : State → Heap → Prop} {l : Launch} (hX : mXok E X) (n : Nat) : Ct E X l yX12_keepNow cX12_keepNow 2 none 1 0 0 (FX12_keepNow n) := Ct_of (by decide) hX (okX12_keepNow_0 hX n)
theorem dX12_many_0 : decode cX12_many 0 = .ok (.aload_n 0, 1) := by decide +kernel
theorem dX12_many_1 : decode cX12_many 1 = .ok (.getfield 30, 3) := by decide +kernel
theorem dX12_many_4 : decode cX12_many 4 = .ok (.aload_n 0, 1) := by decide +kernel
theorem dX12_many_5 : decode cX12_many 5 = .ok (.getfield 255, 3) := by decide +kernel
theorem dX12_many_8 : decode cX12_many 8 = .ok (.iaload, 1) := by decide +kernel
theorem dX12_many_9 : decode cX12_many 9 = .ok (.ireturn, 1) := by decide +kernel
def kX12_many_0 (n : Nat) : mK := i_ldA 0 (i_gA 12 14 (i_ldA 0 (i_gI 12 31 (i_al 0 (i_rI)))))
set_option maxRecDepth 20000 in
theorem okX12_many_0 {E : mE} {X : State → Heap → Prop} {l : Launch} (hX : mXok E X) (n : Nat) : Sd E X l yX12_many cX12_many 1 (some .int) 1 0 0 0 0 0 (kX12_many_0 n) := s_aload_n dX12_many_0 rfl (s_gA dX12_many_1 lFX12_30 (s_aload_n dX12_many_4 rfl (s_gI dX12_many_5 lFX12_255 (by decide) (s_iald dX12_many_8 (s_rI dX12_many_9 (Nat.le_of_ble_eq_true rfl) (Nat.le_of_ble_eq_true rfl))))))
def FX12_many (n : Nat) : List Value → mM → Option mR := mfn 1 (kX12_many_0 n)
theorem CtX12_many {E : mE} {X : State → Heap → Prop} {l : Launch} (hX : mXok E X) (n : Nat) : Ct E X l yX12_many cX12_many 1 (some .int) 1 0 0 (FX12_many n) := Ct_of (by decide) hX (okX12_many_0 hX n)
theorem dX12_mostAlike_0 : decode cX12_mostAlike 0 = .ok (.iconst 0, 1) := by decide +kernel
theorem dX12_mostAlike_1 : decode cX12_mostAlike 1 = .ok (.istore_n 2, 1) := by decide +kernel
theorem dX12_mostAlike_2 : decode cX12_mostAlike 2 = .ok (.iconst 0, 1) := by decide +kernel
theorem dX12_mostAlike_3 : decode cX12_mostAlike 3 = .ok (.istore_n 3, 1) := by decide +kernel
theorem dX12_mostAlike_4 : decode cX12_mostAlike 4 = .ok (.iload_n 3, 1) := by decide +kernel
theorem dX12_mostAlike_5 : decode cX12_mostAlike 5 = .ok (.aload_n 0, 1) := by decide +kernel
theorem dX12_mostAlike_6 : decode cX12_mostAlike 6 = .ok (.getfield 490, 3) := by decide +kernel
theorem dX12_mostAlike_9 : decode cX12_mostAlike 9 = .ok (.if_icmp .ge 85, 3) := by decide +kernel
theorem dX12_mostAlike_12 : decode cX12_mostAlike 12 = .ok (.iconst 0, 1) := by decide +kernel
theorem dX12_mostAlike_13 : decode cX12_mostAlike 13 = .ok (.istore 4, 2) := by decide +kernel
theorem dX12_mostAlike_15 : decode cX12_mostAlike 15 = .ok (.iconst 0, 1) := by decide +kernel
theorem dX12_mostAlike_16 : decode cX12_mostAlike 16 = .ok (.istore 5, 2) := by decide +kernel
theorem dX12_mostAlike_18 : decode cX12_mostAlike 18 = .ok (.iload 5, 2) := by decide +kernel
theorem dX12_mostAlike_20 : decode cX12_mostAlike 20 = .ok (.aload_n 0, 1) := by decide +kernel
theorem dX12_mostAlike_21 : decode cX12_mostAlike 21 = .ok (.getfield 490, 3) := by decide +kernel
theorem dX12_mostAlike_24 : decode cX12_mostAlike 24 = .ok (.if_icmp .ge 55, 3) := by decide +kernel
theorem dX12_mostAlike_27 : decode cX12_mostAlike 27 = .ok (.iload 4, 2) := by decide +kernel
theorem dX12_mostAlike_29 : decode cX12_mostAlike 29 = .ok (.aload_n 0, 1) := by decide +kernel
theorem dX12_mostAlike_30 : decode cX12_mostAlike 30 = .ok (.getfield 109, 3) := by decide +kernel
theorem dX12_mostAlike_33 : decode cX12_mostAlike 33 = .ok (.bipush 21, 2) := by decide +kernel
theorem dX12_mostAlike_35 : decode cX12_mostAlike 35 = .ok (.aload_n 0, 1) := by decide +kernel
theorem dX12_mostAlike_36 : decode cX12_mostAlike 36 = .ok (.getfield 127, 3) := by decide +kernel
theorem dX12_mostAlike_39 : decode cX12_mostAlike 39 = .ok (.iload 5, 2) := by decide +kernel
theorem dX12_mostAlike_41 : decode cX12_mostAlike 41 = .ok (.iaload, 1) := by decide +kernel
theorem dX12_mostAlike_42 : decode cX12_mostAlike 42 = .ok (.imul, 1) := by decide +kernel
theorem dX12_mostAlike_43 : decode cX12_mostAlike 43 = .ok (.iload_n 1, 1) := by decide +kernel
theorem dX12_mostAlike_44 : decode cX12_mostAlike 44 = .ok (.iadd, 1) := by decide +kernel
theorem dX12_mostAlike_45 : decode cX12_mostAlike 45 = .ok (.iaload, 1) := by decide +kernel
theorem dX12_mostAlike_46 : decode cX12_mostAlike 46 = .ok (.aload_n 0, 1) := by decide +kernel
theorem dX12_mostAlike_47 : decode cX12_mostAlike 47 = .ok (.getfield 109, 3) := by decide +kernel
theorem dX12_mostAlike_50 : decode cX12_mostAlike 50 = .ok (.bipush 21, 2) := by decide +kernel
theorem dX12_mostAlike_52 : decode cX12_mostAlike 52 = .ok (.aload_n 0, 1) := by decide +kernel
theorem dX12_mostAlike_53 : decode cX12_mostAlike 53 = .ok (.getfield 127, 3) := by decide +kernel
theorem dX12_mostAlike_56 : decode cX12_mostAlike 56 = .ok (.iload_n 3, 1) := by decide +kernel
theorem dX12_mostAlike_57 : decode cX12_mostAlike 57 = .ok (.iaload, 1) := by decide +kernel
theorem dX12_mostAlike_58 : decode cX12_mostAlike 58 = .ok (.imul, 1) := by decide +kernel
theorem dX12_mostAlike_59 : decode cX12_mostAlike 59 = .ok (.iload_n 1, 1) := by decide +kernel
theorem dX12_mostAlike_60 : decode cX12_mostAlike 60 = .ok (.iadd, 1) := by decide +kernel
theorem dX12_mostAlike_61 : decode cX12_mostAlike 61 = .ok (.iaload, 1) := by decide +kernel
theorem dX12_mostAlike_62 : decode cX12_mostAlike 62 = .ok (.if_icmp .ne 7, 3) := by decide +kernel
theorem dX12_mostAlike_65 : decode cX12_mostAlike 65 = .ok (.iconst 1, 1) := by decide +kernel
theorem dX12_mostAlike_66 : decode cX12_mostAlike 66 = .ok (.goto 4, 3) := by decide +kernel
theorem dX12_mostAlike_69 : decode cX12_mostAlike 69 = .ok (.iconst 0, 1) := by decide +kernel
theorem dX12_mostAlike_70 : decode cX12_mostAlike 70 = .ok (.iadd, 1) := by decide +kernel
theorem dX12_mostAlike_71 : decode cX12_mostAlike 71 = .ok (.istore 4, 2) := by decide +kernel
theorem dX12_mostAlike_73 : decode cX12_mostAlike 73 = .ok (.iinc 5 1, 3) := by decide +kernel
theorem dX12_mostAlike_76 : decode cX12_mostAlike 76 = .ok (.goto (-58), 3) := by decide +kernel
theorem dX12_mostAlike_79 : decode cX12_mostAlike 79 = .ok (.iload 4, 2) := by decide +kernel
theorem dX12_mostAlike_81 : decode cX12_mostAlike 81 = .ok (.iload_n 2, 1) := by decide +kernel
theorem dX12_mostAlike_82 : decode cX12_mostAlike 82 = .ok (.if_icmp .le 6, 3) := by decide +kernel
theorem dX12_mostAlike_85 : decode cX12_mostAlike 85 = .ok (.iload 4, 2) := by decide +kernel
theorem dX12_mostAlike_87 : decode cX12_mostAlike 87 = .ok (.istore_n 2, 1) := by decide +kernel
theorem dX12_mostAlike_88 : decode cX12_mostAlike 88 = .ok (.iinc 3 1, 3) := by decide +kernel
theorem dX12_mostAlike_91 : decode cX12_mostAlike 91 = .ok (.goto (-87), 3) := by decide +kernel
theorem dX12_mostAlike_94 : decode cX12_mostAlike 94 = .ok (.iload_n 2, 1) := by decide +kernel
theorem dX12_mostAlike_95 : decode cX12_mostAlike 95 = .ok (.ireturn, 1) := by decide +kernel
def kX12_mostAlike_70 (n : Nat) (r4 : mK) (r18 : mK) : mK := i_bin (fun x y => x + y) (i_stI 4 (i_inc 5 (1) (r18)))
set_option maxRecDepth 20000 in
theorem okX12_mostAlike_70 {E : mE} {X : State → Heap → Prop} {l : Launch} (hX : mXok E X) (n : Nat) {r4 : mK} (h4 : Sd E X l yX12_mostAlike cX12_mostAlike 6 (some .int) 1 0 0 0 0 4 r4) {r18 : mK} (h18 : Sd E X l yX12_mostAlike cX12_mostAlike 6 (some .int) 1 0 0 0 0 18 r18) : Sd E X l yX12_mostAlike cX12_mostAlike 6 (some .int) 1 0 0 0 0 70 (kX12_mostAlike_70 n r4 r18) := s_iadd dX12_mostAlike_70 (s_istore dX12_mostAlike_71 (s_iinc dX12_mostAlike_73 (by decide) (s_goto dX12_mostAlike_76 (by decide) h18)))
def kX12_mostAlike_59 (n : Nat) (r4 : mK) (r18 : mK) : mK := i_ldI 1 (i_bin (fun x y => x + y) (i_al 0 (i_c2 (fun x y => decide (¬ x = y)) (i_cst (.int (0)) (kX12_mostAlike_70 n r4 r18)) (i_cst (.int (1)) ((kX12_mostAlike_70 n r4 r18))))))
set_option maxRecDepth 20000 in
theorem okX12_mostAlike_59 {E : mE} {X : State → Heap → Prop} {l : Launch} (hX : mXok E X) (n : Nat) {r4 : mK} (h4 : Sd E X l yX12_mostAlike cX12_mostAlike 6 (some .int) 1 0 0 0 0 4 r4) {r18 : mK} (h18 : Sd E X l yX12_mostAlike cX12_mostAlike 6 (some .int) 1 0 0 0 0 18 r18) : Sd E X l yX12_mostAlike cX12_mostAlike 6 (some .int) 1 0 0 0 0 59 (kX12_mostAlike_59 n r4 r18) := s_iload_n dX12_mostAlike_59 rfl (s_iadd dX12_mostAlike_60 (s_iald dX12_mostAlike_61 (s_icne dX12_mostAlike_62 (by decide) (s_iconst dX12_mostAlike_69 (by decide) (okX12_mostAlike_70 hX n h4 h18)) (s_iconst dX12_mostAlike_65 (by decide) (s_goto dX12_mostAlike_66 (by decide) (okX12_mostAlike_70 hX n h4 h18))))))
def kX12_mostAlike_88 (n : Nat) (r4 : mK) : mK := i_inc 3 (1) (r4)
set_option maxRecDepth 20000 in
theorem okX12_mostAlike_88 {E : mE} {X : State → Heap → Prop} {l : Launch} (hX : mXok E X) (n : Nat) {r4 : mK} (h4 : Sd E X l yX12_mostAlike cX12_mostAlike 6 (some .int) 1 0 0 0 0 4 r4) : Sd E X l yX12_mostAlike cX12_mostAlike 6 (some .int) 1 0 0 0 0 88 (kX12_mostAlike_88 n r4) := s_iinc dX12_mostAlike_88 (by decide) (s_goto dX12_mostAlike_91 (by decide) h4)
def kX12_mostAlike_18 (n : Nat) (r4 : mK) (r18 : mK) : mK := i_ldI 5 (i_ldA 0 (i_gI 12 60 (i_c2 (fun x y => decide (y ≤ x)) (i_ldI 4 (i_ldI 2 (i_c2 (fun x y => decide (x ≤ y)) (kX12_mostAlike_88 n r4) (i_ldI 4 (i_stI 2 (kX12_mostAlike_88 n r4)))))) (i_ldI 4 (i_ldA 0 (i_gA 12 51 (i_cst (.int (21)) (i_ldA 0 (i_gA 12 59 (i_ldI 5 (i_al 0 (i_bin (fun x y => x * y) (i_ldI 1 (i_bin (fun x y => x + y) (i_al 0 (i_ldA 0 (i_gA 12 51 (i_cst (.int (21)) (i_ldA 0 (i_gA 12 59 (i_ldI 3 (i_al 0 (i_bin (fun x y => x * y) (kX12_mostAlike_59 n r4 r18))))))))))))))))))))))))
set_option maxRecDepth 20000 in
theorem okX12_mostAlike_18 {E : mE} {X : State → Heap → Prop} {l : Launch} (hX : mXok E X) (n : Nat) {r4 : mK} (h4 : Sd E X l yX12_mostAlike cX12_mostAlike 6 (some .int) 1 0 0 0 0 4 r4) {r18 : mK} (h18 : Sd E X l yX12_mostAlike cX12_mostAlike 6 (some .int) 1 0 0 0 0 18 r18) : Sd E X l yX12_mostAlike cX12_mostAlike 6 (some .int) 1 0 0 0 0 18 (kX12_mostAlike_18 n r4 r18) := s_iload dX12_mostAlike_18 (s_aload_n dX12_mostAlike_20 rfl (s_gI dX12_mostAlike_21 lFX12_490 (by decide) (s_icge dX12_mostAlike_24 (by decide) (s_iload dX12_mostAlike_79 (s_iload_n dX12_mostAlike_81 rfl (s_icle dX12_mostAlike_82 (by decide) (okX12_mostAlike_88 hX n h4) (s_iload dX12_mostAlike_85 (s_istore_n dX12_mostAlike_87 rfl (okX12_mostAlike_88 hX n h4)))))) (s_iload dX12_mostAlike_27 (s_aload_n dX12_mostAlike_29 rfl (s_gA dX12_mostAlike_30 lFX12_109 (s_bipush dX12_mostAlike_33 (by decide) (s_aload_n dX12_mostAlike_35 rfl (s_gA dX12_mostAlike_36 lFX12_127 (s_iload dX12_mostAlike_39 (s_iald dX12_mostAlike_41 (s_imul dX12_mostAlike_42 (s_iload_n dX12_mostAlike_43 rfl (s_iadd dX12_mostAlike_44 (s_iald dX12_mostAlike_45 (s_aload_n dX12_mostAlike_46 rfl (s_gA dX12_mostAlike_47 lFX12_109 (s_bipush dX12_mostAlike_50 (by decide) (s_aload_n dX12_mostAlike_52 rfl (s_gA dX12_mostAlike_53 lFX12_127 (s_iload_n dX12_mostAlike_56 rfl (s_iald dX12_mostAlike_57 (s_imul dX12_mostAlike_58 (okX12_mostAlike_59 hX n h4 h18))))))))))))))))))))))))
def kX12_mostAlike_4 (n : Nat) (r4 : mK) : mK := i_ldI 3 (i_ldA 0 (i_gI 12 60 (i_c2 (fun x y => decide (y ≤ x)) (i_ldI 2 (i_rI)) (i_cst (.int (0)) (i_stI 4 (i_cst (.int (0)) (i_stI 5 (mit (kX12_mostAlike_18 n r4) n))))))))
set_option maxRecDepth 20000 in
theorem okX12_mostAlike_4 {E : mE} {X : State → Heap → Prop} {l : Launch} (hX : mXok E X) (n : Nat) {r4 : mK} (h4 : Sd E X l yX12_mostAlike cX12_mostAlike 6 (some .int) 1 0 0 0 0 4 r4) : Sd E X l yX12_mostAlike cX12_mostAlike 6 (some .int) 1 0 0 0 0 4 (kX12_mostAlike_4 n r4) := s_iload_n dX12_mostAlike_4 rfl (s_aload_n dX12_mostAlike_5 rfl (s_gI dX12_mostAlike_6 lFX12_490 (by decide) (s_icge dX12_mostAlike_9 (by decide) (s_iload_n dX12_mostAlike_94 rfl (s_rI dX12_mostAlike_95 (Nat.le_of_ble_eq_true rfl) (Nat.le_of_ble_eq_true rfl))) (s_iconst dX12_mostAlike_12 (by decide) (s_istore dX12_mostAlike_13 (s_iconst dX12_mostAlike_15 (by decide) (s_istore dX12_mostAlike_16 (s_mit (fun _ hk => okX12_mostAlike_18 hX n h4 hk) n))))))))
def kX12_mostAlike_0 (n : Nat) : mK := i_cst (.int (0)) (i_stI 2 (i_cst (.int (0)) (i_stI 3 (mit (kX12_mostAlike_4 n ) n))))
set_option maxRecDepth 20000 in
theorem okX12_mostAlike_0 {E : mE} {X : State → Heap → Prop} {l : Launch} (hX : mXok E X) (n : Nat) : Sd E X l yX12_mostAlike cX12_mostAlike 6 (some .int) 1 0 0 0 0 0 (kX12_mostAlike_0 n) := s_iconst dX12_mostAlike_0 (by decide) (s_istore_n dX12_mostAlike_1 rfl (s_iconst dX12_mostAlike_2 (by decide) (s_istore_n dX12_mostAlike_3 rfl (s_mit (fun _ hk => okX12_mostAlike_4 hX n hk) n))))
def FX12_mostAlike (n : Nat) : List Value → mM → Option mR := mfn 6 (kX12_mostAlike_0 n)
theorem CtX12_mostAlike {E : mE} {X : State → Heap → Prop} {l : Launch} (hX : mXok E X) (n : Nat) : Ct E X l yX12_mostAlike cX12_mostAlike 6 (some .int) 1 0 0 (FX12_mostAlike n) := Ct_of (by decide) hX (okX12_mostAlike_0 hX n)
theorem dX12_power_0 : decode cX12_power 0 = .ok (.iconst 1, 1) := by decide +kernel
theorem dX12_power_1 : decode cX12_power 1 = .ok (.istore_n 2, 1) := by decide +kernel
theorem dX12_power_2 : decode cX12_power 2 = .ok (.iconst 0, 1) := by decide +kernel
theorem dX12_power_3 : decode cX12_power 3 = .ok (.istore_n 3, 1) := by decide +kernel
theorem dX12_power_4 : decode cX12_power 4 = .ok (.iload_n 3, 1) := by decide +kernel
theorem dX12_power_5 : decode cX12_power 5 = .ok (.iload_n 1, 1) := by decide +kernel
theorem dX12_power_6 : decode cX12_power 6 = .ok (.if_icmp .ge 13, 3) := by decide +kernel
theorem dX12_power_9 : decode cX12_power 9 = .ok (.iload_n 2, 1) := by decide +kernel
theorem dX12_power_10 : decode cX12_power 10 = .ok (.iload_n 0, 1) := by decide +kernel
theorem dX12_power_11 : decode cX12_power 11 = .ok (.imul, 1) := by decide +kernel
theorem dX12_power_12 : decode cX12_power 12 = .ok (.istore_n 2, 1) := by decide +kernel
theorem dX12_power_13 : decode cX12_power 13 = .ok (.iinc 3 1, 3) := by decide +kernel
theorem dX12_power_16 : decode cX12_power 16 = .ok (.goto (-12), 3) := by decide +kernel
theorem dX12_power_19 : decode cX12_power 19 = .ok (.iload_n 2, 1) := by decide +kernel
theorem dX12_power_20 : decode cX12_power 20 = .ok (.ireturn, 1) := by decide +kernel
def kX12_power_4 (n : Nat) (r4 : mK) : mK := i_ldI 3 (i_ldI 1 (i_c2 (fun x y => decide (y ≤ x)) (i_ldI 2 (i_rI)) (i_ldI 2 (i_ldI 0 (i_bin (fun x y => x * y) (i_stI 2 (i_inc 3 (1) (r4))))))))
set_option maxRecDepth 20000 in
theorem okX12_power_4 {E : mE} {X : State → Heap → Prop} {l : Launch} (hX : mXok E X) (n : Nat) {r4 : mK} (h4 : Sd E X l yX12_power cX12_power 4 (some .int) 1 0 0 0 0 4 r4) : Sd E X l yX12_power cX12_power 4 (some .int) 1 0 0 0 0 4 (kX12_power_4 n r4) := s_iload_n dX12_power_4 rfl (s_iload_n dX12_power_5 rfl (s_icge dX12_power_6 (by decide) (s_iload_n dX12_power_19 rfl (s_rI dX12_power_20 (Nat.le_of_ble_eq_true rfl) (Nat.le_of_ble_eq_true rfl))) (s_iload_n dX12_power_9 rfl (s_iload_n dX12_power_10 rfl (s_imul dX12_power_11 (s_istore_n dX12_power_12 rfl (s_iinc dX12_power_13 (by decide) (s_goto dX12_power_16 (by decide) h4))))))))
def kX12_power_0 (n : Nat) : mK := i_cst (.int (1)) (i_stI 2 (i_cst (.int (0)) (i_stI 3 (mit (kX12_power_4 n ) n))))
set_option maxRecDepth 20000 in
theorem okX12_power_0 {E : mE} {X : State → Heap → Prop} {l : Launch} (hX : mXok E X) (n : Nat) : Sd E X l yX12_power cX12_power 4 (some .int) 1 0 0 0 0 0 (kX12_power_0 n) := s_iconst dX12_power_0 (by decide) (s_istore_n dX12_power_1 rfl (s_iconst dX12_power_2 (by decide) (s_istore_n dX12_power_3 rfl (s_mit (fun _ hk => okX12_power_4 hX n hk) n))))
def FX12_power (n : Nat) : List Value → mM → Option mR := mfn 4 (kX12_power_0 n)
theorem CtX12_power {E : mE} {X : State → Heap → Prop} {l : Launch} (hX : mXok E X) (n : Nat) : Ct E X l yX12_power cX12_power 4 (some .int) 1 0 0 (FX12_power n) := Ct_of (by decide) hX (okX12_power_0 hX n)
theorem dX12_pushE_0 : decode cX12_pushE 0 = .ok (.aload_n 0, 1) := by decide +kernel
theorem dX12_pushE_1 : decode cX12_pushE 1 = .ok (.getfield 73, 3) := by decide +kernel
theorem dX12_pushE_4 : decode cX12_pushE 4 = .ok (.aload_n 0, 1) := by decide +kernel
theorem dX12_pushE_5 : decode cX12_pushE 5 = .ok (.getfield 295, 3) := by decide +kernel
theorem dX12_pushE_8 : decode cX12_pushE 8 = .ok (.iload_n 1, 1) := by decide +kernel
theorem dX12_pushE_9 : decode cX12_pushE 9 = .ok (.iastore, 1) := by decide +kernel
theorem dX12_pushE_10 : decode cX12_pushE 10 = .ok (.aload_n 0, 1) := by decide +kernel
theorem dX12_pushE_11 : decode cX12_pushE 11 = .ok (.getfield 76, 3) := by decide +kernel
theorem dX12_pushE_14 : decode cX12_pushE 14 = .ok (.aload_n 0, 1) := by decide +kernel
theorem dX12_pushE_15 : decode cX12_pushE 15 = .ok (.getfield 295, 3) := by decide +kernel
theorem dX12_pushE_18 : decode cX12_pushE 18 = .ok (.iload_n 2, 1) := by decide +kernel
theorem dX12_pushE_19 : decode cX12_pushE 19 = .ok (.iastore, 1) := by decide +kernel
theorem dX12_pushE_20 : decode cX12_pushE 20 = .ok (.aload_n 0, 1) := by decide +kernel
theorem dX12_pushE_21 : decode cX12_pushE 21 = .ok (.dup, 1) := by decide +kernel
theorem dX12_pushE_22 : decode cX12_pushE 22 = .ok (.getfield 295, 3) := by decide +kernel
theorem dX12_pushE_25 : decode cX12_pushE 25 = .ok (.iconst 1, 1) := by decide +kernel
theorem dX12_pushE_26 : decode cX12_pushE 26 = .ok (.iadd, 1) := by decide +kernel
theorem dX12_pushE_27 : decode cX12_pushE 27 = .ok (.putfield 295, 3) := by decide +kernel
theorem dX12_pushE_30 : decode cX12_pushE 30 = .ok (.return_, 1) := by decide +kernel
def kX12_pushE_0 (n : Nat) : mK := i_ldA 0 (i_gA 12 28 (i_ldA 0 (i_gI 12 35 (i_ldI 1 (i_as 0 (i_ldA 0 (i_gA 12 29 (i_ldA 0 (i_gI 12 35 (i_ldI 2 (i_as 0 (i_ldA 0 (i_dup (i_gI 12 35 (i_cst (.int (1)) (i_bin (fun x y => x + y) (i_pI 12 35 (i_rV))))))))))))))))))
set_option maxRecDepth 20000 in
theorem okX12_pushE_0 {E : mE} {X : State → Heap → Prop} {l : Launch} (hX : mXok E X) (n : Nat) : Sd E X l yX12_pushE cX12_pushE 3 none 1 0 0 0 0 0 (kX12_pushE_0 n) := s_aload_n dX12_pushE_0 rfl (s_gA dX12_pushE_1 lFX12_73 (s_aload_n dX12_pushE_4 rfl (s_gI dX12_pushE_5 lFX12_295 (by decide) (s_iload_n dX12_pushE_8 rfl (s_iast dX12_pushE_9 (s_aload_n dX12_pushE_10 rfl (s_gA dX12_pushE_11 lFX12_76 (s_aload_n dX12_pushE_14 rfl (s_gI dX12_pushE_15 lFX12_295 (by decide) (s_iload_n dX12_pushE_18 rfl (s_iast dX12_pushE_19 (s_aload_n dX12_pushE_20 rfl (s_dup dX12_pushE_21 (s_gI dX12_pushE_22 lFX12_295 (by decide) (s_iconst dX12_pushE_25 (by decide) (s_iadd dX12_pushE_26 (s_pI dX12_pushE_27 lFX12_295 (s_rV dX12_pushE_30 (Nat.le_of_ble_eq_true rfl) (Nat.le_of_ble_eq_true rfl)))))))))))))))))))
def FX12_pushE (n : Nat) : List Value → mM → Option mR := mfn 3 (kX12_pushE_0 n)
theorem CtX12_pushE {E : mE} {X : State → Heap → Prop} {l : Launch} (hX : mXok E X) (n : Nat) : Ct E X l yX12_pushE cX12_pushE 3 none 1 0 0 (FX12_pushE n) := Ct_of (by decide) hX (okX12_pushE_0 hX n)
theorem dX12_sign_0 : decode cX12_sign 0 = .ok (.iload_n 1, 1) := by decide +kernel
theorem dX12_sign_1 : decode cX12_sign 1 = .ok (.aload_n 0, 1) := by decide +kernel
theorem dX12_sign_2 : decode cX12_sign 2 = .ok (.getfield 143, 3) := by decide +kernel
theorem dX12_sign_5 : decode cX12_sign 5 = .ok (.if_icmp .ge 16, 3) := by decide +kernel
theorem dX12_sign_8 : decode cX12_sign 8 = .ok (.aload_n 0, 1) := by decide +kernel
theorem dX12_sign_9 : decode cX12_sign 9 = .ok (.getfield 13, 3) := by decide +kernel
theorem dX12_sign_12 : decode cX12_sign 12 = .ok (.iload_n 1, 1) := by decide +kernel
theorem dX12_sign_13 : decode cX12_sign 13 = .ok (.baload, 1) := by decide +kernel
theorem dX12_sign_14 : decode cX12_sign 14 = .ok (.sipush 255, 3) := by decide +kernel
theorem dX12_sign_17 : decode cX12_sign 17 = .ok (.iand, 1) := by decide +kernel
theorem dX12_sign_18 : decode cX12_sign 18 = .ok (.goto 4, 3) := by decide +kernel
theorem dX12_sign_21 : decode cX12_sign 21 = .ok (.iconst 0, 1) := by decide +kernel
theorem dX12_sign_22 : decode cX12_sign 22 = .ok (.ireturn, 1) := by decide +kernel
def kX12_sign_22 (n : Nat) : mK := i_rI
set_option maxRecDepth 20000 in
theorem okX12_sign_22 {E : mE} {X : State → Heap → Prop} {l : Launch} (hX : mXok E X) (n : Nat) : Sd E X l yX12_sign cX12_sign 2 (some .int) 1 0 0 0 0 22 (kX12_sign_22 n) := s_rI dX12_sign_22 (Nat.le_of_ble_eq_true rfl) (Nat.le_of_ble_eq_true rfl)
def kX12_sign_0 (n : Nat) : mK := i_ldI 1 (i_ldA 0 (i_gI 12 3 (i_c2 (fun x y => decide (y ≤ x)) (i_cst (.int (0)) (kX12_sign_22 n)) (i_ldA 0 (i_gA 12 1 (i_ldI 1 (i_al 1 (i_cst (.int (255)) (i_bin (fun x y => x &&& y) ((kX12_sign_22 n)))))))))))
set_option maxRecDepth 20000 in
theorem okX12_sign_0 {E : mE} {X : State → Heap → Prop} {l : Launch} (hX : mXok E X) (n : Nat) : Sd E X l yX12_sign cX12_sign 2 (some .int) 1 0 0 0 0 0 (kX12_sign_0 n) := s_iload_n dX12_sign_0 rfl (s_aload_n dX12_sign_1 rfl (s_gI dX12_sign_2 lFX12_143 (by decide) (s_icge dX12_sign_5 (by decide) (s_iconst dX12_sign_21 (by decide) (okX12_sign_22 hX n)) (s_aload_n dX12_sign_8 rfl (s_gA dX12_sign_9 lFX12_13 (s_iload_n dX12_sign_12 rfl (s_bald dX12_sign_13 (s_sipush dX12_sign_14 (by decide) (s_iand dX12_sign_17 (s_goto dX12_sign_18 (by decide) (okX12_sign_22 hX n)))))))))))
def FX12_sign (n : Nat) : List Value → mM → Option mR := mfn 2 (kX12_sign_0 n)
theorem CtX12_sign {E : mE} {X : State → Heap → Prop} {l : Launch} (hX : mXok E X) (n : Nat) : Ct E X l yX12_sign cX12_sign 2 (some .int) 1 0 0 (FX12_sign n) := Ct_of (by decide) hX (okX12_sign_0 hX n)
theorem dX12_spots_0 : decode cX12_spots 0 = .ok (.aload_n 0, 1) := by decide +kernel
theorem dX12_spots_1 : decode cX12_spots 1 = .ok (.getfield 20, 3) := by decide +kernel
theorem dX12_spots_4 : decode cX12_spots 4 = .ok (.aload_n 0, 1) := by decide +kernel
theorem dX12_spots_5 : decode cX12_spots 5 = .ok (.getfield 255, 3) := by decide +kernel
theorem dX12_spots_8 : decode cX12_spots 8 = .ok (.iaload, 1) := by decide +kernel
theorem dX12_spots_9 : decode cX12_spots 9 = .ok (.aload_n 0, 1) := by decide +kernel
theorem dX12_spots_10 : decode cX12_spots 10 = .ok (.getfield 24, 3) := by decide +kernel
theorem dX12_spots_13 : decode cX12_spots 13 = .ok (.aload_n 0, 1) := by decide +kernel
theorem dX12_spots_14 : decode cX12_spots 14 = .ok (.getfield 255, 3) := by decide +kernel
theorem dX12_spots_17 : decode cX12_spots 17 = .ok (.iaload, 1) := by decide +kernel
theorem dX12_spots_18 : decode cX12_spots 18 = .ok (.imul, 1) := by decide +kernel
theorem dX12_spots_19 : decode cX12_spots 19 = .ok (.ireturn, 1) := by decide +kernel
def kX12_spots_0 (n : Nat) : mK := i_ldA 0 (i_gA 12 11 (i_ldA 0 (i_gI 12 31 (i_al 0 (i_ldA 0 (i_gA 12 12 (i_ldA 0 (i_gI 12 31 (i_al 0 (i_bin (fun x y => x * y) (i_rI)))))))))))
set_option maxRecDepth 20000 in
theorem okX12_spots_0 {E : mE} {X : State → Heap → Prop} {l : Launch} (hX : mXok E X) (n : Nat) : Sd E X l yX12_spots cX12_spots 1 (some .int) 1 0 0 0 0 0 (kX12_spots_0 n) := s_aload_n dX12_spots_0 rfl (s_gA dX12_spots_1 lFX12_20 (s_aload_n dX12_spots_4 rfl (s_gI dX12_spots_5 lFX12_255 (by decide) (s_iald dX12_spots_8 (s_aload_n dX12_spots_9 rfl (s_gA dX12_spots_10 lFX12_24 (s_aload_n dX12_spots_13 rfl (s_gI dX12_spots_14 lFX12_255 (by decide) (s_iald dX12_spots_17 (s_imul dX12_spots_18 (s_rI dX12_spots_19 (Nat.le_of_ble_eq_true rfl) (Nat.le_of_ble_eq_true rfl))))))))))))
def FX12_spots (n : Nat) : List Value → mM → Option mR := mfn 1 (kX12_spots_0 n)
theorem CtX12_spots {E : mE} {X : State → Heap → Prop} {l : Launch} (hX : mXok E X) (n : Nat) : Ct E X l yX12_spots cX12_spots 1 (some .int) 1 0 0 (FX12_spots n) := Ct_of (by decide) hX (okX12_spots_0 hX n)
theorem dX12_swapAll_0 : decode cX12_swapAll 0 = .ok (.iconst 0, 1) := by decide +kernel
theorem dX12_swapAll_1 : decode cX12_swapAll 1 = .ok (.istore_n 1, 1) := by decide +kernel
theorem dX12_swapAll_2 : decode cX12_swapAll 2 = .ok (.iload_n 1, 1) := by decide +kernel
theorem dX12_swapAll_3 : decode cX12_swapAll 3 = .ok (.bipush 34, 2) := by decide +kernel
theorem dX12_swapAll_5 : decode cX12_swapAll 5 = .ok (.if_icmp .ge 51, 3) := by decide +kernel
theorem dX12_swapAll_8 : decode cX12_swapAll 8 = .ok (.aload_n 0, 1) := by decide +kernel
theorem dX12_swapAll_9 : decode cX12_swapAll 9 = .ok (.getfield 91, 3) := by decide +kernel
theorem dX12_swapAll_12 : decode cX12_swapAll 12 = .ok (.bipush 34, 2) := by decide +kernel
theorem dX12_swapAll_14 : decode cX12_swapAll 14 = .ok (.aload_n 0, 1) := by decide +kernel
theorem dX12_swapAll_15 : decode cX12_swapAll 15 = .ok (.getfield 357, 3) := by decide +kernel
theorem dX12_swapAll_18 : decode cX12_swapAll 18 = .ok (.imul, 1) := by decide +kernel
theorem dX12_swapAll_19 : decode cX12_swapAll 19 = .ok (.iload_n 1, 1) := by decide +kernel
theorem dX12_swapAll_20 : decode cX12_swapAll 20 = .ok (.iadd, 1) := by decide +kernel
theorem dX12_swapAll_21 : decode cX12_swapAll 21 = .ok (.iaload, 1) := by decide +kernel
theorem dX12_swapAll_22 : decode cX12_swapAll 22 = .ok (.istore_n 2, 1) := by decide +kernel
theorem dX12_swapAll_23 : decode cX12_swapAll 23 = .ok (.aload_n 0, 1) := by decide +kernel
theorem dX12_swapAll_24 : decode cX12_swapAll 24 = .ok (.getfield 91, 3) := by decide +kernel
theorem dX12_swapAll_27 : decode cX12_swapAll 27 = .ok (.bipush 34, 2) := by decide +kernel
theorem dX12_swapAll_29 : decode cX12_swapAll 29 = .ok (.aload_n 0, 1) := by decide +kernel
theorem dX12_swapAll_30 : decode cX12_swapAll 30 = .ok (.getfield 357, 3) := by decide +kernel
theorem dX12_swapAll_33 : decode cX12_swapAll 33 = .ok (.imul, 1) := by decide +kernel
theorem dX12_swapAll_34 : decode cX12_swapAll 34 = .ok (.iload_n 1, 1) := by decide +kernel
theorem dX12_swapAll_35 : decode cX12_swapAll 35 = .ok (.iadd, 1) := by decide +kernel
theorem dX12_swapAll_36 : decode cX12_swapAll 36 = .ok (.aload_n 0, 1) := by decide +kernel
theorem dX12_swapAll_37 : decode cX12_swapAll 37 = .ok (.getfield 82, 3) := by decide +kernel
theorem dX12_swapAll_40 : decode cX12_swapAll 40 = .ok (.iload_n 1, 1) := by decide +kernel
theorem dX12_swapAll_41 : decode cX12_swapAll 41 = .ok (.iaload, 1) := by decide +kernel
theorem dX12_swapAll_42 : decode cX12_swapAll 42 = .ok (.iastore, 1) := by decide +kernel
theorem dX12_swapAll_43 : decode cX12_swapAll 43 = .ok (.aload_n 0, 1) := by decide +kernel
theorem dX12_swapAll_44 : decode cX12_swapAll 44 = .ok (.getfield 82, 3) := by decide +kernel
theorem dX12_swapAll_47 : decode cX12_swapAll 47 = .ok (.iload_n 1, 1) := by decide +kernel
theorem dX12_swapAll_48 : decode cX12_swapAll 48 = .ok (.iload_n 2, 1) := by decide +kernel
theorem dX12_swapAll_49 : decode cX12_swapAll 49 = .ok (.iastore, 1) := by decide +kernel
theorem dX12_swapAll_50 : decode cX12_swapAll 50 = .ok (.iinc 1 1, 3) := by decide +kernel
theorem dX12_swapAll_53 : decode cX12_swapAll 53 = .ok (.goto (-51), 3) := by decide +kernel
theorem dX12_swapAll_56 : decode cX12_swapAll 56 = .ok (.return_, 1) := by decide +kernel
def kX12_swapAll_41 (n : Nat) (r2 : mK) : mK := i_al 0 (i_as 0 (i_ldA 0 (i_gA 12 39 (i_ldI 1 (i_ldI 2 (i_as 0 (i_inc 1 (1) (r2))))))))
set_option maxRecDepth 20000 in
theorem okX12_swapAll_41 {E : mE} {X : State → Heap → Prop} {l : Launch} (hX : mXok E X) (n : Nat) {r2 : mK} (h2 : Sd E X l yX12_swapAll cX12_swapAll 3 none 1 0 0 0 0 2 r2) : Sd E X l yX12_swapAll cX12_swapAll 3 none 1 0 0 0 0 41 (kX12_swapAll_41 n r2) := s_iald dX12_swapAll_41 (s_iast dX12_swapAll_42 (s_aload_n dX12_swapAll_43 rfl (s_gA dX12_swapAll_44 lFX12_82 (s_iload_n dX12_swapAll_47 rfl (s_iload_n dX12_swapAll_48 rfl (s_iast dX12_swapAll_49 (s_iinc dX12_swapAll_50 (by decide) (s_goto dX12_swapAll_53 (by decide) h2))))))))
def kX12_swapAll_2 (n : Nat) (r2 : mK) : mK := i_ldI 1 (i_cst (.int (34)) (i_c2 (fun x y => decide (y ≤ x)) (i_rV) (i_ldA 0 (i_gA 12 42 (i_cst (.int (34)) (i_ldA 0 (i_gI 12 43 (i_bin (fun x y => x * y) (i_ldI 1 (i_bin (fun x y => x + y) (i_al 0 (i_stI 2 (i_ldA 0 (i_gA 12 42 (i_cst (.int (34)) (i_ldA 0 (i_gI 12 43 (i_bin (fun x y => x * y) (i_ldI 1 (i_bin (fun x y => x + y) (i_ldA 0 (i_gA 12 39 (i_ldI 1 (kX12_swapAll_41 n r2))))))))))))))))))))))))
set_option maxRecDepth 20000 in
theorem okX12_swapAll_2 {E : mE} {X : State → Heap → Prop} {l : Launch} (hX : mXok E X) (n : Nat) {r2 : mK} (h2 : Sd E X l yX12_swapAll cX12_swapAll 3 none 1 0 0 0 0 2 r2) : Sd E X l yX12_swapAll cX12_swapAll 3 none 1 0 0 0 0 2 (kX12_swapAll_2 n r2) := s_iload_n dX12_swapAll_2 rfl (s_bipush dX12_swapAll_3 (by decide) (s_icge dX12_swapAll_5 (by decide) (s_rV dX12_swapAll_56 (Nat.le_of_ble_eq_true rfl) (Nat.le_of_ble_eq_true rfl)) (s_aload_n dX12_swapAll_8 rfl (s_gA dX12_swapAll_9 lFX12_91 (s_bipush dX12_swapAll_12 (by decide) (s_aload_n dX12_swapAll_14 rfl (s_gI dX12_swapAll_15 lFX12_357 (by decide) (s_imul dX12_swapAll_18 (s_iload_n dX12_swapAll_19 rfl (s_iadd dX12_swapAll_20 (s_iald dX12_swapAll_21 (s_istore_n dX12_swapAll_22 rfl (s_aload_n dX12_swapAll_23 rfl (s_gA dX12_swapAll_24 lFX12_91 (s_bipush dX12_swapAll_27 (by decide) (s_aload_n dX12_swapAll_29 rfl (s_gI dX12_swapAll_30 lFX12_357 (by decide) (s_imul dX12_swapAll_33 (s_iload_n dX12_swapAll_34 rfl (s_iadd dX12_swapAll_35 (s_aload_n dX12_swapAll_36 rfl (s_gA dX12_swapAll_37 lFX12_82 (s_iload_n dX12_swapAll_40 rfl (okX12_swapAll_41 hX n h2))))))))))))))))))))))))
def kX12_swapAll_0 (n : Nat) : mK := i_cst (.int (0)) (i_stI 1 (mit (kX12_swapAll_2 n ) n))
set_option maxRecDepth 20000 in
theorem okX12_swapAll_0 {E : mE} {X : State → Heap → Prop} {l : Launch} (hX : mXok E X) (n : Nat) : Sd E X l yX12_swapAll cX12_swapAll 3 none 1 0 0 0 0 0 (kX12_swapAll_0 n) := s_iconst dX12_swapAll_0 (by decide) (s_istore_n dX12_swapAll_1 rfl (s_mit (fun _ hk => okX12_swapAll_2 hX n hk) n))
def FX12_swapAll (n : Nat) : List Value → mM → Option mR := mfn 3 (kX12_swapAll_0 n)
theorem CtX12_swapAll {E : mE} {X : State → Heap → Prop} {l : Launch} (hX : mXok E X) (n : Nat) : Ct E X l yX12_swapAll cX12_swapAll 3 none 1 0 0 (FX12_swapAll n) := Ct_of (by decide) hX (okX12_swapAll_0 hX n)
theorem dX12_two_0 : decode cX12_two 0 = .ok (.iload_n 0, 1) := by decide +kernel
theorem dX12_two_1 : decode cX12_two 1 = .ok (.tableswitch 202 37 62 #[143, 188, 202, 202, 202, 127, 119, 202, 123, 202, 131, 202, 202, 202, 202, 202, 202, 202, 202, 202, 202, 202, 202, 155, 177, 166], 119) := by decide +kernel
theorem dX12_two_120 : decode cX12_two 120 = .ok (.iload_n 1, 1) := by decide +kernel
theorem dX12_two_121 : decode cX12_two 121 = .ok (.iload_n 2, 1) := by decide +kernel
theorem dX12_two_122 : decode cX12_two 122 = .ok (.iadd, 1) := by decide +kernel
theorem dX12_two_123 : decode cX12_two 123 = .ok (.ireturn, 1) := by decide +kernel
theorem dX12_two_124 : decode cX12_two 124 = .ok (.iload_n 1, 1) := by decide +kernel
theorem dX12_two_125 : decode cX12_two 125 = .ok (.iload_n 2, 1) := by decide +kernel
theorem dX12_two_126 : decode cX12_two 126 = .ok (.isub, 1) := by decide +kernel
theorem dX12_two_127 : decode cX12_two 127 = .ok (.ireturn, 1) := by decide +kernel
theorem dX12_two_128 : decode cX12_two 128 = .ok (.iload_n 1, 1) := by decide +kernel
theorem dX12_two_129 : decode cX12_two 129 = .ok (.iload_n 2, 1) := by decide +kernel
theorem dX12_two_130 : decode cX12_two 130 = .ok (.imul, 1) := by decide +kernel
theorem dX12_two_131 : decode cX12_two 131 = .ok (.ireturn, 1) := by decide +kernel
theorem dX12_two_132 : decode cX12_two 132 = .ok (.iload_n 2, 1) := by decide +kernel
theorem dX12_two_133 : decode cX12_two 133 = .ok (.ifCond .ne 7, 3) := by decide +kernel
theorem dX12_two_136 : decode cX12_two 136 = .ok (.iconst 0, 1) := by decide +kernel
theorem dX12_two_137 : decode cX12_two 137 = .ok (.goto 6, 3) := by decide +kernel
theorem dX12_two_140 : decode cX12_two 140 = .ok (.iload_n 1, 1) := by decide +kernel
theorem dX12_two_141 : decode cX12_two 141 = .ok (.iload_n 2, 1) := by decide +kernel
theorem dX12_two_142 : decode cX12_two 142 = .ok (.idiv, 1) := by decide +kernel
theorem dX12_two_143 : decode cX12_two 143 = .ok (.ireturn, 1) := by decide +kernel
theorem dX12_two_144 : decode cX12_two 144 = .ok (.iload_n 2, 1) := by decide +kernel
theorem dX12_two_145 : decode cX12_two 145 = .ok (.ifCond .ne 7, 3) := by decide +kernel
theorem dX12_two_148 : decode cX12_two 148 = .ok (.iconst 0, 1) := by decide +kernel
theorem dX12_two_149 : decode cX12_two 149 = .ok (.goto 6, 3) := by decide +kernel
theorem dX12_two_152 : decode cX12_two 152 = .ok (.iload_n 1, 1) := by decide +kernel
theorem dX12_two_153 : decode cX12_two 153 = .ok (.iload_n 2, 1) := by decide +kernel
theorem dX12_two_154 : decode cX12_two 154 = .ok (.irem, 1) := by decide +kernel
theorem dX12_two_155 : decode cX12_two 155 = .ok (.ireturn, 1) := by decide +kernel
theorem dX12_two_156 : decode cX12_two 156 = .ok (.iload_n 1, 1) := by decide +kernel
theorem dX12_two_157 : decode cX12_two 157 = .ok (.iload_n 2, 1) := by decide +kernel
theorem dX12_two_158 : decode cX12_two 158 = .ok (.if_icmp .ge 7, 3) := by decide +kernel
theorem dX12_two_161 : decode cX12_two 161 = .ok (.iconst 1, 1) := by decide +kernel
theorem dX12_two_162 : decode cX12_two 162 = .ok (.goto 4, 3) := by decide +kernel
theorem dX12_two_165 : decode cX12_two 165 = .ok (.iconst 0, 1) := by decide +kernel
theorem dX12_two_166 : decode cX12_two 166 = .ok (.ireturn, 1) := by decide +kernel
theorem dX12_two_167 : decode cX12_two 167 = .ok (.iload_n 1, 1) := by decide +kernel
theorem dX12_two_168 : decode cX12_two 168 = .ok (.iload_n 2, 1) := by decide +kernel
theorem dX12_two_169 : decode cX12_two 169 = .ok (.if_icmp .le 7, 3) := by decide +kernel
theorem dX12_two_172 : decode cX12_two 172 = .ok (.iconst 1, 1) := by decide +kernel
theorem dX12_two_173 : decode cX12_two 173 = .ok (.goto 4, 3) := by decide +kernel
theorem dX12_two_176 : decode cX12_two 176 = .ok (.iconst 0, 1) := by decide +kernel
theorem dX12_two_177 : decode cX12_two 177 = .ok (.ireturn, 1) := by decide +kernel
theorem dX12_two_178 : decode cX12_two 178 = .ok (.iload_n 1, 1) := by decide +kernel
theorem dX12_two_179 : decode cX12_two 179 = .ok (.iload_n 2, 1) := by decide +kernel
theorem dX12_two_180 : decode cX12_two 180 = .ok (.if_icmp .ne 7, 3) := by decide +kernel
theorem dX12_two_183 : decode cX12_two 183 = .ok (.iconst 1, 1) := by decide +kernel
theorem dX12_two_184 : decode cX12_two 184 = .ok (.goto 4, 3) := by decide +kernel
theorem dX12_two_187 : decode cX12_two 187 = .ok (.iconst 0, 1) := by decide +kernel
theorem dX12_two_188 : decode cX12_two 188 = .ok (.ireturn, 1) := by decide +kernel
theorem dX12_two_189 : decode cX12_two 189 = .ok (.iload_n 1, 1) := by decide +kernel
theorem dX12_two_190 : decode cX12_two 190 = .ok (.ifCond .eq 11, 3) := by decide +kernel
theorem dX12_two_193 : decode cX12_two 193 = .ok (.iload_n 2, 1) := by decide +kernel
theorem dX12_two_194 : decode cX12_two 194 = .ok (.ifCond .eq 7, 3) := by decide +kernel
theorem dX12_two_197 : decode cX12_two 197 = .ok (.iconst 1, 1) := by decide +kernel
theorem dX12_two_198 : decode cX12_two 198 = .ok (.goto 4, 3) := by decide +kernel
theorem dX12_two_201 : decode cX12_two 201 = .ok (.iconst 0, 1) := by decide +kernel
theorem dX12_two_202 : decode cX12_two 202 = .ok (.ireturn, 1) := by decide +kernel
theorem dX12_two_203 : decode cX12_two 203 = .ok (.iload_n 1, 1) := by decide +kernel
theorem dX12_two_204 : decode cX12_two 204 = .ok (.ifCond .ne 7, 3) := by decide +kernel
theorem dX12_two_207 : decode cX12_two 207 = .ok (.iload_n 2, 1) := by decide +kernel
theorem dX12_two_208 : decode cX12_two 208 = .ok (.ifCond .eq 7, 3) := by decide +kernel
theorem dX12_two_211 : decode cX12_two 211 = .ok (.iconst 1, 1) := by decide +kernel
theorem dX12_two_212 : decode cX12_two 212 = .ok (.goto 4, 3) := by decide +kernel
theorem dX12_two_215 : decode cX12_two 215 = .ok (.iconst 0, 1) := by decide +kernel
theorem dX12_two_216 : decode cX12_two 216 = .ok (.ireturn, 1) := by decide +kernel
def kX12_two_216 (n : Nat) : mK := i_rI
set_option maxRecDepth 20000 in
theorem okX12_two_216 {E : mE} {X : State → Heap → Prop} {l : Launch} (hX : mXok E X) (n : Nat) : Sd E X l yX12_two cX12_two 3 (some .int) 1 0 0 0 0 216 (kX12_two_216 n) := s_rI dX12_two_216 (Nat.le_of_ble_eq_true rfl) (Nat.le_of_ble_eq_true rfl)
def kX12_two_211 (n : Nat) : mK := i_cst (.int (1)) ((kX12_two_216 n))
set_option maxRecDepth 20000 in
theorem okX12_two_211 {E : mE} {X : State → Heap → Prop} {l : Launch} (hX : mXok E X) (n : Nat) : Sd E X l yX12_two cX12_two 3 (some .int) 1 0 0 0 0 211 (kX12_two_211 n) := s_iconst dX12_two_211 (by decide) (s_goto dX12_two_212 (by decide) (okX12_two_216 hX n))
def kX12_two_203 (n : Nat) : mK := i_ldI 1 (i_c0 (fun x => decide (¬ x = 0)) (kX12_two_211 n) (i_ldI 2 (i_c0 (fun x => decide (x = 0)) (i_cst (.int (0)) (kX12_two_216 n)) (kX12_two_211 n))))
set_option maxRecDepth 20000 in
theorem okX12_two_203 {E : mE} {X : State → Heap → Prop} {l : Launch} (hX : mXok E X) (n : Nat) : Sd E X l yX12_two cX12_two 3 (some .int) 1 0 0 0 0 203 (kX12_two_203 n) := s_iload_n dX12_two_203 rfl (s_ifne dX12_two_204 (by decide) (okX12_two_211 hX n) (s_iload_n dX12_two_207 rfl (s_ifeq dX12_two_208 (by decide) (s_iconst dX12_two_215 (by decide) (okX12_two_216 hX n)) (okX12_two_211 hX n))))
def kX12_two_177 (n : Nat) : mK := i_rI
set_option maxRecDepth 20000 in
theorem okX12_two_177 {E : mE} {X : State → Heap → Prop} {l : Launch} (hX : mXok E X) (n : Nat) : Sd E X l yX12_two cX12_two 3 (some .int) 1 0 0 0 0 177 (kX12_two_177 n) := s_rI dX12_two_177 (Nat.le_of_ble_eq_true rfl) (Nat.le_of_ble_eq_true rfl)
def kX12_two_188 (n : Nat) : mK := i_rI
set_option maxRecDepth 20000 in
theorem okX12_two_188 {E : mE} {X : State → Heap → Prop} {l : Launch} (hX : mXok E X) (n : Nat) : Sd E X l yX12_two cX12_two 3 (some .int) 1 0 0 0 0 188 (kX12_two_188 n) := s_rI dX12_two_188 (Nat.le_of_ble_eq_true rfl) (Nat.le_of_ble_eq_true rfl)
def kX12_two_166 (n : Nat) : mK := i_rI
set_option maxRecDepth 20000 in
theorem okX12_two_166 {E : mE} {X : State → Heap → Prop} {l : Launch} (hX : mXok E X) (n : Nat) : Sd E X l yX12_two cX12_two 3 (some .int) 1 0 0 0 0 166 (kX12_two_166 n) := s_rI dX12_two_166 (Nat.le_of_ble_eq_true rfl) (Nat.le_of_ble_eq_true rfl)
def kX12_two_143 (n : Nat) : mK := i_rI
set_option maxRecDepth 20000 in
theorem okX12_two_143 {E : mE} {X : State → Heap → Prop} {l : Launch} (hX : mXok E X) (n : Nat) : Sd E X l yX12_two cX12_two 3 (some .int) 1 0 0 0 0 143 (kX12_two_143 n) := s_rI dX12_two_143 (Nat.le_of_ble_eq_true rfl) (Nat.le_of_ble_eq_true rfl)
def kX12_two_202 (n : Nat) : mK := i_rI
set_option maxRecDepth 20000 in
theorem okX12_two_202 {E : mE} {X : State → Heap → Prop} {l : Launch} (hX : mXok E X) (n : Nat) : Sd E X l yX12_two cX12_two 3 (some .int) 1 0 0 0 0 202 (kX12_two_202 n) := s_rI dX12_two_202 (Nat.le_of_ble_eq_true rfl) (Nat.le_of_ble_eq_true rfl)
def kX12_two_201 (n : Nat) : mK := i_cst (.int (0)) (kX12_two_202 n)
set_option maxRecDepth 20000 in
theorem okX12_two_201 {E : mE} {X : State → Heap → Prop} {l : Launch} (hX : mXok E X) (n : Nat) : Sd E X l yX12_two cX12_two 3 (some .int) 1 0 0 0 0 201 (kX12_two_201 n) := s_iconst dX12_two_201 (by decide) (okX12_two_202 hX n)
def kX12_two_155 (n : Nat) : mK := i_rI
set_option maxRecDepth 20000 in
theorem okX12_two_155 {E : mE} {X : State → Heap → Prop} {l : Launch} (hX : mXok E X) (n : Nat) : Sd E X l yX12_two cX12_two 3 (some .int) 1 0 0 0 0 155 (kX12_two_155 n) := s_rI dX12_two_155 (Nat.le_of_ble_eq_true rfl) (Nat.le_of_ble_eq_true rfl)
def kX12_two_0 (n : Nat) : mK := i_ldI 0 (i_sw [(37, (i_ldI 2 (i_c0 (fun x => decide (¬ x = 0)) (i_ldI 1 (i_ldI 2 (i_dv (fun x y => x - x / y * y) (kX12_two_155 n)))) (i_cst (.int (0)) ((kX12_two_155 n)))))), (38, (i_ldI 1 (i_c0 (fun x => decide (x = 0)) (kX12_two_201 n) (i_ldI 2 (i_c0 (fun x => decide (x = 0)) (kX12_two_201 n) (i_cst (.int (1)) ((kX12_two_202 n)))))))), (39, (kX12_two_203 n)), (40, (kX12_two_203 n)), (41, (kX12_two_203 n)), (42, (i_ldI 1 (i_ldI 2 (i_bin (fun x y => x * y) (i_rI))))), (43, (i_ldI 1 (i_ldI 2 (i_bin (fun x y => x + y) (i_rI))))), (44, (kX12_two_203 n)), (45, (i_ldI 1 (i_ldI 2 (i_bin (fun x y => x - y) (i_rI))))), (46, (kX12_two_203 n)), (47, (i_ldI 2 (i_c0 (fun x => decide (¬ x = 0)) (i_ldI 1 (i_ldI 2 (i_dv (fun x y => x / y) (kX12_two_143 n)))) (i_cst (.int (0)) ((kX12_two_143 n)))))), (48, (kX12_two_203 n)), (49, (kX12_two_203 n)), (50, (kX12_two_203 n)), (51, (kX12_two_203 n)), (52, (kX12_two_203 n)), (53, (kX12_two_203 n)), (54, (kX12_two_203 n)), (55, (kX12_two_203 n)), (56, (kX12_two_203 n)), (57, (kX12_two_203 n)), (58, (kX12_two_203 n)), (59, (kX12_two_203 n)), (60, (i_ldI 1 (i_ldI 2 (i_c2 (fun x y => decide (y ≤ x)) (i_cst (.int (0)) (kX12_two_166 n)) (i_cst (.int (1)) ((kX12_two_166 n))))))), (61, (i_ldI 1 (i_ldI 2 (i_c2 (fun x y => decide (¬ x = y)) (i_cst (.int (0)) (kX12_two_188 n)) (i_cst (.int (1)) ((kX12_two_188 n))))))), (62, (i_ldI 1 (i_ldI 2 (i_c2 (fun x y => decide (x ≤ y)) (i_cst (.int (0)) (kX12_two_177 n)) (i_cst (.int (1)) ((kX12_two_177 n)))))))] (kX12_two_203 n))
set_option maxRecDepth 20000 in
theorem okX12_two_0 {E : mE} {X : State → Heap → Prop} {l : Launch} (hX : mXok E X) (n : Nat) : Sd E X l yX12_two cX12_two 3 (some .int) 1 0 0 0 0 0 (kX12_two_0 n) := s_iload_n dX12_two_0 rfl (s_tsw dX12_two_1 (by decide) (okX12_two_203 hX n) (by decide) (tsw_c (by decide) (by decide) (s_iload_n dX12_two_144 rfl (s_ifne dX12_two_145 (by decide) (s_iload_n dX12_two_152 rfl (s_iload_n dX12_two_153 rfl (s_irem dX12_two_154 (okX12_two_155 hX n)))) (s_iconst dX12_two_148 (by decide) (s_goto dX12_two_149 (by decide) (okX12_two_155 hX n))))) (tsw_c (by decide) (by decide) (s_iload_n dX12_two_189 rfl (s_ifeq dX12_two_190 (by decide) (okX12_two_201 hX n) (s_iload_n dX12_two_193 rfl (s_ifeq dX12_two_194 (by decide) (okX12_two_201 hX n) (s_iconst dX12_two_197 (by decide) (s_goto dX12_two_198 (by decide) (okX12_two_202 hX n))))))) (tsw_c (by decide) (by decide) (okX12_two_203 hX n) (tsw_c (by decide) (by decide) (okX12_two_203 hX n) (tsw_c (by decide) (by decide) (okX12_two_203 hX n) (tsw_c (by decide) (by decide) (s_iload_n dX12_two_128 rfl (s_iload_n dX12_two_129 rfl (s_imul dX12_two_130 (s_rI dX12_two_131 (Nat.le_of_ble_eq_true rfl) (Nat.le_of_ble_eq_true rfl))))) (tsw_c (by decide) (by decide) (s_iload_n dX12_two_120 rfl (s_iload_n dX12_two_121 rfl (s_iadd dX12_two_122 (s_rI dX12_two_123 (Nat.le_of_ble_eq_true rfl) (Nat.le_of_ble_eq_true rfl))))) (tsw_c (by decide) (by decide) (okX12_two_203 hX n) (tsw_c (by decide) (by decide) (s_iload_n dX12_two_124 rfl (s_iload_n dX12_two_125 rfl (s_isub dX12_two_126 (s_rI dX12_two_127 (Nat.le_of_ble_eq_true rfl) (Nat.le_of_ble_eq_true rfl))))) (tsw_c (by decide) (by decide) (okX12_two_203 hX n) (tsw_c (by decide) (by decide) (s_iload_n dX12_two_132 rfl (s_ifne dX12_two_133 (by decide) (s_iload_n dX12_two_140 rfl (s_iload_n dX12_two_141 rfl (s_idiv dX12_two_142 (okX12_two_143 hX n)))) (s_iconst dX12_two_136 (by decide) (s_goto dX12_two_137 (by decide) (okX12_two_143 hX n))))) (tsw_c (by decide) (by decide) (okX12_two_203 hX n) (tsw_c (by decide) (by decide) (okX12_two_203 hX n) (tsw_c (by decide) (by decide) (okX12_two_203 hX n) (tsw_c (by decide) (by decide) (okX12_two_203 hX n) (tsw_c (by decide) (by decide) (okX12_two_203 hX n) (tsw_c (by decide) (by decide) (okX12_two_203 hX n) (tsw_c (by decide) (by decide) (okX12_two_203 hX n) (tsw_c (by decide) (by decide) (okX12_two_203 hX n) (tsw_c (by decide) (by decide) (okX12_two_203 hX n) (tsw_c (by decide) (by decide) (okX12_two_203 hX n) (tsw_c (by decide) (by decide) (okX12_two_203 hX n) (tsw_c (by decide) (by decide) (okX12_two_203 hX n) (tsw_c (by decide) (by decide) (s_iload_n dX12_two_156 rfl (s_iload_n dX12_two_157 rfl (s_icge dX12_two_158 (by decide) (s_iconst dX12_two_165 (by decide) (okX12_two_166 hX n)) (s_iconst dX12_two_161 (by decide) (s_goto dX12_two_162 (by decide) (okX12_two_166 hX n)))))) (tsw_c (by decide) (by decide) (s_iload_n dX12_two_178 rfl (s_iload_n dX12_two_179 rfl (s_icne dX12_two_180 (by decide) (s_iconst dX12_two_187 (by decide) (okX12_two_188 hX n)) (s_iconst dX12_two_183 (by decide) (s_goto dX12_two_184 (by decide) (okX12_two_188 hX n)))))) (tsw_c (by decide) (by decide) (s_iload_n dX12_two_167 rfl (s_iload_n dX12_two_168 rfl (s_icle dX12_two_169 (by decide) (s_iconst dX12_two_176 (by decide) (okX12_two_177 hX n)) (s_iconst dX12_two_172 (by decide) (s_goto dX12_two_173 (by decide) (okX12_two_177 hX n)))))) tsw_n)))))))))))))))))))))))))))
def FX12_two (n : Nat) : List Value → mM → Option mR := mfn 3 (kX12_two_0 n)
theorem CtX12_two {E : mE} {X : State → Heap → Prop} {l : Launch} (hX : mXok E X) (n : Nat) : Ct E X l yX12_two cX12_two 3 (some .int) 1 0 0 (FX12_two n) := Ct_of (by decide) hX (okX12_two_0 hX n)
theorem dX1_add_0 : decode cX1_add 0 = .ok (.aload_n 0, 1) := by decide +kernel
theorem dX1_add_1 : decode cX1_add 1 = .ok (.getfield 18, 3) := by decide +kernel
theorem dX1_add_4 : decode cX1_add 4 = .ok (.ifCond .lt 35, 3) := by decide +kernel
theorem dX1_add_7 : decode cX1_add 7 = .ok (.aload_n 0, 1) := by decide +kernel
theorem dX1_add_8 : decode cX1_add 8 = .ok (.getfield 18, 3) := by decide +kernel
theorem dX1_add_11 : decode cX1_add 11 = .ok (.aload_n 0, 1) := by decide +kernel
theorem dX1_add_12 : decode cX1_add 12 = .ok (.getfield 11, 3) := by decide +kernel
theorem dX1_add_15 : decode cX1_add 15 = .ok (.arraylength, 1) := by decide +kernel
theorem dX1_add_16 : decode cX1_add 16 = .ok (.if_icmp .ge 23, 3) := by decide +kernel
theorem dX1_add_19 : decode cX1_add 19 = .ok (.aload_n 0, 1) := by decide +kernel
theorem dX1_add_20 : decode cX1_add 20 = .ok (.getfield 11, 3) := by decide +kernel
theorem dX1_add_23 : decode cX1_add 23 = .ok (.aload_n 0, 1) := by decide +kernel
theorem dX1_add_24 : decode cX1_add 24 = .ok (.getfield 18, 3) := by decide +kernel
theorem dX1_add_27 : decode cX1_add 27 = .ok (.iload_n 1, 1) := by decide +kernel
theorem dX1_add_28 : decode cX1_add 28 = .ok (.iastore, 1) := by decide +kernel
theorem dX1_add_29 : decode cX1_add 29 = .ok (.aload_n 0, 1) := by decide +kernel
theorem dX1_add_30 : decode cX1_add 30 = .ok (.dup, 1) := by decide +kernel
theorem dX1_add_31 : decode cX1_add 31 = .ok (.getfield 18, 3) := by decide +kernel
theorem dX1_add_34 : decode cX1_add 34 = .ok (.iconst 1, 1) := by decide +kernel
theorem dX1_add_35 : decode cX1_add 35 = .ok (.iadd, 1) := by decide +kernel
theorem dX1_add_36 : decode cX1_add 36 = .ok (.putfield 18, 3) := by decide +kernel
theorem dX1_add_39 : decode cX1_add 39 = .ok (.return_, 1) := by decide +kernel
def kX1_add_39 (n : Nat) : mK := i_rV
set_option maxRecDepth 20000 in
theorem okX1_add_39 {E : mE} {X : State → Heap → Prop} {l : Launch} (hX : mXok E X) (n : Nat) : Sd E X l yX1_add cX1_add 2 none 1 0 0 0 0 39 (kX1_add_39 n) := s_rV dX1_add_39 (Nat.le_of_ble_eq_true rfl) (Nat.le_of_ble_eq_true rfl)
def kX1_add_0 (n : Nat) : mK := i_ldA 0 (i_gI 1 2 (i_c0 (fun x => decide (x < 0)) (kX1_add_39 n) (i_ldA 0 (i_gI 1 2 (i_ldA 0 (i_gA 1 0 (i_len (i_c2 (fun x y => decide (y ≤ x)) (kX1_add_39 n) (i_ldA 0 (i_gA 1 0 (i_ldA 0 (i_gI 1 2 (i_ldI 1 (i_as 0 (i_ldA 0 (i_dup (i_gI 1 2 (i_cst (.int (1)) (i_bin (fun x y => x + y) (i_pI 1 2 (kX1_add_39 n)))))))))))))))))))))
set_option maxRecDepth 20000 in
theorem okX1_add_0 {E : mE} {X : State → Heap → Prop} {l : Launch} (hX : mXok E X) (n : Nat) : Sd E X l yX1_add cX1_add 2 none 1 0 0 0 0 0 (kX1_add_0 n) := s_aload_n dX1_add_0 rfl (s_gI dX1_add_1 lFX1_18 (by decide) (s_iflt dX1_add_4 (by decide) (okX1_add_39 hX n) (s_aload_n dX1_add_7 rfl (s_gI dX1_add_8 lFX1_18 (by decide) (s_aload_n dX1_add_11 rfl (s_gA dX1_add_12 lFX1_11 (s_len dX1_add_15 (s_icge dX1_add_16 (by decide) (okX1_add_39 hX n) (s_aload_n dX1_add_19 rfl (s_gA dX1_add_20 lFX1_11 (s_aload_n dX1_add_23 rfl (s_gI dX1_add_24 lFX1_18 (by decide) (s_iload_n dX1_add_27 rfl (s_iast dX1_add_28 (s_aload_n dX1_add_29 rfl (s_dup dX1_add_30 (s_gI dX1_add_31 lFX1_18 (by decide) (s_iconst dX1_add_34 (by decide) (s_iadd dX1_add_35 (s_pI dX1_add_36 lFX1_18 (okX1_add_39 hX n)))))))))))))))))))))
def FX1_add (n : Nat) : List Value → mM → Option mR := mfn 2 (kX1_add_0 n)
theorem CtX1_add {E : mE} {X : State → Heap → Prop} {l : Launch} (hX : mXok E X) (n : Nat) : Ct E X l yX1_add cX1_add 2 none 1 0 0 (FX1_add n) := Ct_of (by decide) hX (okX1_add_0 hX n)
theorem dX1_clear_0 : decode cX1_clear 0 = .ok (.aload_n 0, 1) := by decide +kernel
theorem dX1_clear_1 : decode cX1_clear 1 = .ok (.iconst 0, 1) := by decide +kernel
theorem dX1_clear_2 : decode cX1_clear 2 = .ok (.putfield 18, 3) := by decide +kernel
theorem dX1_clear_5 : decode cX1_clear 5 = .ok (.return_, 1) := by decide +kernel
def kX1_clear_0 (n : Nat) : mK := i_ldA 0 (i_cst (.int (0)) (i_pI 1 2 (i_rV)))
set_option maxRecDepth 20000 in
theorem okX1_clear_0 {E : mE} {X : State → Heap → Prop} {l : Launch} (hX : mXok E X) (n : Nat) : Sd E X l yX1_clear cX1_clear 1 none 1 0 0 0 0 0 (kX1_clear_0 n) := s_aload_n dX1_clear_0 rfl (s_iconst dX1_clear_1 (by decide) (s_pI dX1_clear_2 lFX1_18 (s_rV dX1_clear_5 (Nat.le_of_ble_eq_true rfl) (Nat.le_of_ble_eq_true rfl))))
def FX1_clear (n : Nat) : List Value → mM → Option mR := mfn 1 (kX1_clear_0 n)
theorem CtX1_clear {E : mE} {X : State → Heap → Prop} {l : Launch} (hX : mXok E X) (n : Nat) : Ct E X l yX1_clear cX1_clear 1 none 1 0 0 (FX1_clear n) := Ct_of (by decide) hX (okX1_clear_0 hX n)
theorem dX1_init_0 : decode cX1_init 0 = .ok (.aload_n 0, 1) := by decide +kernel
theorem dX1_init_1 : decode cX1_init 1 = .ok (.invokespecial 3, 3) := by decide +kernel
theorem dX1_init_4 : decode cX1_init 4 = .ok (.aload_n 0, 1) := by decide +kernel
theorem dX1_init_5 : decode cX1_init 5 = .ok (.sipush 300, 3) := by decide +kernel
theorem dX1_init_8 : decode cX1_init 8 = .ok (.newarray .int, 2) := by decide +kernel
theorem dX1_init_10 : decode cX1_init 10 = .ok (.putfield 11, 3) := by decide +kernel
theorem dX1_init_13 : decode cX1_init 13 = .ok (.aload_n 0, 1) := by decide +kernel
theorem dX1_init_14 : decode cX1_init 14 = .ok (.bipush 32, 2) := by decide +kernel
theorem dX1_init_16 : decode cX1_init 16 = .ok (.newarray .int, 2) := by decide +kernel
theorem dX1_init_18 : decode cX1_init 18 = .ok (.putfield 15, 3) := by decide +kernel
theorem dX1_init_21 : decode cX1_init 21 = .ok (.return_, 1) := by decide +kernel
def kX1_init_0 (n : Nat) : mK := i_ldA 0 (i_obj (i_ldA 0 (i_cst (.int (300)) (i_na 0 300 (i_pA 1 0 (i_ldA 0 (i_cst (.int (32)) (i_na 0 32 (i_pA 1 1 (i_rV))))))))))
set_option maxRecDepth 20000 in
theorem okX1_init_0 {E : mE} {X : State → Heap → Prop} {l : Launch} (hX : mXok E X) (n : Nat) : Sd E X l yX1_init cX1_init 1 none 1 2 332 0 0 0 (kX1_init_0 n) := s_aload_n dX1_init_0 rfl (s_obj dX1_init_1 lMX1_3 lObj1 lObj2 (Nat.le_of_ble_eq_true rfl) (s_aload_n dX1_init_4 rfl (s_sipush dX1_init_5 (by decide) (s_na dX1_init_8 rfl (by decide) lA_0 (Nat.le_of_ble_eq_true rfl) (Nat.le_of_ble_eq_true rfl) (Nat.le_of_ble_eq_true rfl) (s_pF dX1_init_10 lFX1_11 rfl rfl (s_aload_n dX1_init_13 rfl (s_bipush dX1_init_14 (by decide) (s_na dX1_init_16 rfl (by decide) lA_0 (Nat.le_of_ble_eq_true rfl) (Nat.le_of_ble_eq_true rfl) (Nat.le_of_ble_eq_true rfl) (s_pF dX1_init_18 lFX1_15 rfl rfl (s_rV dX1_init_21 (Nat.le_of_ble_eq_true rfl) (Nat.le_of_ble_eq_true rfl)))))))))))
def FX1_init (n : Nat) : List Value → mM → Option mR := mfn 1 (kX1_init_0 n)
theorem CtX1_init {E : mE} {X : State → Heap → Prop} {l : Launch} (hX : mXok E X) (n : Nat) : Ct E X l yX1_init cX1_init 1 none 1 2 332 (FX1_init n) := Ct_of (by decide) hX (okX1_init_0 hX n)
theorem dX1_isTold_0 : decode cX1_isTold 0 = .ok (.aload_n 0, 1) := by decide +kernel
theorem dX1_isTold_1 : decode cX1_isTold 1 = .ok (.getfield 18, 3) := by decide +kernel
theorem dX1_isTold_4 : decode cX1_isTold 4 = .ok (.ifCond .le 7, 3) := by decide +kernel
theorem dX1_isTold_7 : decode cX1_isTold 7 = .ok (.iconst 1, 1) := by decide +kernel
theorem dX1_isTold_8 : decode cX1_isTold 8 = .ok (.goto 4, 3) := by decide +kernel
theorem dX1_isTold_11 : decode cX1_isTold 11 = .ok (.iconst 0, 1) := by decide +kernel
theorem dX1_isTold_12 : decode cX1_isTold 12 = .ok (.ireturn, 1) := by decide +kernel
def kX1_isTold_12 (n : Nat) : mK := i_rZ
set_option maxRecDepth 20000 in
theorem okX1_isTold_12 {E : mE} {X : State → Heap → Prop} {l : Launch} (hX : mXok E X) (n : Nat) : Sd E X l yX1_isTold cX1_isTold 1 (some .boolean) 1 0 0 0 0 12 (kX1_isTold_12 n) := s_rZ dX1_isTold_12 (Nat.le_of_ble_eq_true rfl) (Nat.le_of_ble_eq_true rfl)
def kX1_isTold_0 (n : Nat) : mK := i_ldA 0 (i_gI 1 2 (i_c0 (fun x => decide (x ≤ 0)) (i_cst (.int (0)) (kX1_isTold_12 n)) (i_cst (.int (1)) ((kX1_isTold_12 n)))))
set_option maxRecDepth 20000 in
theorem okX1_isTold_0 {E : mE} {X : State → Heap → Prop} {l : Launch} (hX : mXok E X) (n : Nat) : Sd E X l yX1_isTold cX1_isTold 1 (some .boolean) 1 0 0 0 0 0 (kX1_isTold_0 n) := s_aload_n dX1_isTold_0 rfl (s_gI dX1_isTold_1 lFX1_18 (by decide) (s_ifle dX1_isTold_4 (by decide) (s_iconst dX1_isTold_11 (by decide) (okX1_isTold_12 hX n)) (s_iconst dX1_isTold_7 (by decide) (s_goto dX1_isTold_8 (by decide) (okX1_isTold_12 hX n)))))
def FX1_isTold (n : Nat) : List Value → mM → Option mR := mfn 1 (kX1_isTold_0 n)
theorem CtX1_isTold {E : mE} {X : State → Heap → Prop} {l : Launch} (hX : mXok E X) (n : Nat) : Ct E X l yX1_isTold cX1_isTold 1 (some .boolean) 1 0 0 (FX1_isTold n) := Ct_of (by decide) hX (okX1_isTold_0 hX n)
theorem dX1_joined_0 : decode cX1_joined 0 = .ok (.iload_n 0, 1) := by decide +kernel
theorem dX1_joined_1 : decode cX1_joined 1 = .ok (.tableswitch 184 7 27 #[127, 138, 149, 160, 164, 168, 172, 184, 184, 184, 184, 184, 184, 184, 184, 184, 184, 184, 184, 99, 113], 99) := by decide +kernel
theorem dX1_joined_100 : decode cX1_joined 100 = .ok (.iload_n 1, 1) := by decide +kernel
theorem dX1_joined_101 : decode cX1_joined 101 = .ok (.ifCond .ne 7, 3) := by decide +kernel
theorem dX1_joined_104 : decode cX1_joined 104 = .ok (.iload_n 2, 1) := by decide +kernel
theorem dX1_joined_105 : decode cX1_joined 105 = .ok (.ifCond .eq 7, 3) := by decide +kernel
theorem dX1_joined_108 : decode cX1_joined 108 = .ok (.iconst 1, 1) := by decide +kernel
theorem dX1_joined_109 : decode cX1_joined 109 = .ok (.goto 4, 3) := by decide +kernel
theorem dX1_joined_112 : decode cX1_joined 112 = .ok (.iconst 0, 1) := by decide +kernel
theorem dX1_joined_113 : decode cX1_joined 113 = .ok (.ireturn, 1) := by decide +kernel
theorem dX1_joined_114 : decode cX1_joined 114 = .ok (.iload_n 1, 1) := by decide +kernel
theorem dX1_joined_115 : decode cX1_joined 115 = .ok (.ifCond .eq 11, 3) := by decide +kernel
theorem dX1_joined_118 : decode cX1_joined 118 = .ok (.iload_n 2, 1) := by decide +kernel
theorem dX1_joined_119 : decode cX1_joined 119 = .ok (.ifCond .eq 7, 3) := by decide +kernel
theorem dX1_joined_122 : decode cX1_joined 122 = .ok (.iconst 1, 1) := by decide +kernel
theorem dX1_joined_123 : decode cX1_joined 123 = .ok (.goto 4, 3) := by decide +kernel
theorem dX1_joined_126 : decode cX1_joined 126 = .ok (.iconst 0, 1) := by decide +kernel
theorem dX1_joined_127 : decode cX1_joined 127 = .ok (.ireturn, 1) := by decide +kernel
theorem dX1_joined_128 : decode cX1_joined 128 = .ok (.iload_n 1, 1) := by decide +kernel
theorem dX1_joined_129 : decode cX1_joined 129 = .ok (.iload_n 2, 1) := by decide +kernel
theorem dX1_joined_130 : decode cX1_joined 130 = .ok (.if_icmp .ge 7, 3) := by decide +kernel
theorem dX1_joined_133 : decode cX1_joined 133 = .ok (.iconst 1, 1) := by decide +kernel
theorem dX1_joined_134 : decode cX1_joined 134 = .ok (.goto 4, 3) := by decide +kernel
theorem dX1_joined_137 : decode cX1_joined 137 = .ok (.iconst 0, 1) := by decide +kernel
theorem dX1_joined_138 : decode cX1_joined 138 = .ok (.ireturn, 1) := by decide +kernel
theorem dX1_joined_139 : decode cX1_joined 139 = .ok (.iload_n 1, 1) := by decide +kernel
theorem dX1_joined_140 : decode cX1_joined 140 = .ok (.iload_n 2, 1) := by decide +kernel
theorem dX1_joined_141 : decode cX1_joined 141 = .ok (.if_icmp .le 7, 3) := by decide +kernel
theorem dX1_joined_144 : decode cX1_joined 144 = .ok (.iconst 1, 1) := by decide +kernel
theorem dX1_joined_145 : decode cX1_joined 145 = .ok (.goto 4, 3) := by decide +kernel
theorem dX1_joined_148 : decode cX1_joined 148 = .ok (.iconst 0, 1) := by decide +kernel
theorem dX1_joined_149 : decode cX1_joined 149 = .ok (.ireturn, 1) := by decide +kernel
theorem dX1_joined_150 : decode cX1_joined 150 = .ok (.iload_n 1, 1) := by decide +kernel
theorem dX1_joined_151 : decode cX1_joined 151 = .ok (.iload_n 2, 1) := by decide +kernel
theorem dX1_joined_152 : decode cX1_joined 152 = .ok (.if_icmp .ne 7, 3) := by decide +kernel
theorem dX1_joined_155 : decode cX1_joined 155 = .ok (.iconst 1, 1) := by decide +kernel
theorem dX1_joined_156 : decode cX1_joined 156 = .ok (.goto 4, 3) := by decide +kernel
theorem dX1_joined_159 : decode cX1_joined 159 = .ok (.iconst 0, 1) := by decide +kernel
theorem dX1_joined_160 : decode cX1_joined 160 = .ok (.ireturn, 1) := by decide +kernel
theorem dX1_joined_161 : decode cX1_joined 161 = .ok (.iload_n 1, 1) := by decide +kernel
theorem dX1_joined_162 : decode cX1_joined 162 = .ok (.iload_n 2, 1) := by decide +kernel
theorem dX1_joined_163 : decode cX1_joined 163 = .ok (.iadd, 1) := by decide +kernel
theorem dX1_joined_164 : decode cX1_joined 164 = .ok (.ireturn, 1) := by decide +kernel
theorem dX1_joined_165 : decode cX1_joined 165 = .ok (.iload_n 1, 1) := by decide +kernel
theorem dX1_joined_166 : decode cX1_joined 166 = .ok (.iload_n 2, 1) := by decide +kernel
theorem dX1_joined_167 : decode cX1_joined 167 = .ok (.isub, 1) := by decide +kernel
theorem dX1_joined_168 : decode cX1_joined 168 = .ok (.ireturn, 1) := by decide +kernel
theorem dX1_joined_169 : decode cX1_joined 169 = .ok (.iload_n 1, 1) := by decide +kernel
theorem dX1_joined_170 : decode cX1_joined 170 = .ok (.iload_n 2, 1) := by decide +kernel
theorem dX1_joined_171 : decode cX1_joined 171 = .ok (.imul, 1) := by decide +kernel
theorem dX1_joined_172 : decode cX1_joined 172 = .ok (.ireturn, 1) := by decide +kernel
theorem dX1_joined_173 : decode cX1_joined 173 = .ok (.iload_n 2, 1) := by decide +kernel
theorem dX1_joined_174 : decode cX1_joined 174 = .ok (.ifCond .ne 7, 3) := by decide +kernel
theorem dX1_joined_177 : decode cX1_joined 177 = .ok (.iconst 0, 1) := by decide +kernel
theorem dX1_joined_178 : decode cX1_joined 178 = .ok (.goto 6, 3) := by decide +kernel
theorem dX1_joined_181 : decode cX1_joined 181 = .ok (.iload_n 1, 1) := by decide +kernel
theorem dX1_joined_182 : decode cX1_joined 182 = .ok (.iload_n 2, 1) := by decide +kernel
theorem dX1_joined_183 : decode cX1_joined 183 = .ok (.idiv, 1) := by decide +kernel
theorem dX1_joined_184 : decode cX1_joined 184 = .ok (.ireturn, 1) := by decide +kernel
theorem dX1_joined_185 : decode cX1_joined 185 = .ok (.iload_n 2, 1) := by decide +kernel
theorem dX1_joined_186 : decode cX1_joined 186 = .ok (.ifCond .ne 7, 3) := by decide +kernel
theorem dX1_joined_189 : decode cX1_joined 189 = .ok (.iconst 0, 1) := by decide +kernel
theorem dX1_joined_190 : decode cX1_joined 190 = .ok (.goto 6, 3) := by decide +kernel
theorem dX1_joined_193 : decode cX1_joined 193 = .ok (.iload_n 1, 1) := by decide +kernel
theorem dX1_joined_194 : decode cX1_joined 194 = .ok (.iload_n 2, 1) := by decide +kernel
theorem dX1_joined_195 : decode cX1_joined 195 = .ok (.irem, 1) := by decide +kernel
theorem dX1_joined_196 : decode cX1_joined 196 = .ok (.ireturn, 1) := by decide +kernel
def kX1_joined_196 (n : Nat) : mK := i_rI
set_option maxRecDepth 20000 in
theorem okX1_joined_196 {E : mE} {X : State → Heap → Prop} {l : Launch} (hX : mXok E X) (n : Nat) : Sd E X l yX1_joined cX1_joined 3 (some .int) 1 0 0 0 0 196 (kX1_joined_196 n) := s_rI dX1_joined_196 (Nat.le_of_ble_eq_true rfl) (Nat.le_of_ble_eq_true rfl)
def kX1_joined_185 (n : Nat) : mK := i_ldI 2 (i_c0 (fun x => decide (¬ x = 0)) (i_ldI 1 (i_ldI 2 (i_dv (fun x y => x - x / y * y) (kX1_joined_196 n)))) (i_cst (.int (0)) ((kX1_joined_196 n))))
set_option maxRecDepth 20000 in
theorem okX1_joined_185 {E : mE} {X : State → Heap → Prop} {l : Launch} (hX : mXok E X) (n : Nat) : Sd E X l yX1_joined cX1_joined 3 (some .int) 1 0 0 0 0 185 (kX1_joined_185 n) := s_iload_n dX1_joined_185 rfl (s_ifne dX1_joined_186 (by decide) (s_iload_n dX1_joined_193 rfl (s_iload_n dX1_joined_194 rfl (s_irem dX1_joined_195 (okX1_joined_196 hX n)))) (s_iconst dX1_joined_189 (by decide) (s_goto dX1_joined_190 (by decide) (okX1_joined_196 hX n))))
def kX1_joined_127 (n : Nat) : mK := i_rI
set_option maxRecDepth 20000 in
theorem okX1_joined_127 {E : mE} {X : State → Heap → Prop} {l : Launch} (hX : mXok E X) (n : Nat) : Sd E X l yX1_joined cX1_joined 3 (some .int) 1 0 0 0 0 127 (kX1_joined_127 n) := s_rI dX1_joined_127 (Nat.le_of_ble_eq_true rfl) (Nat.le_of_ble_eq_true rfl)
def kX1_joined_126 (n : Nat) : mK := i_cst (.int (0)) (kX1_joined_127 n)
set_option maxRecDepth 20000 in
theorem okX1_joined_126 {E : mE} {X : State → Heap → Prop} {l : Launch} (hX : mXok E X) (n : Nat) : Sd E X l yX1_joined cX1_joined 3 (some .int) 1 0 0 0 0 126 (kX1_joined_126 n) := s_iconst dX1_joined_126 (by decide) (okX1_joined_127 hX n)
def kX1_joined_113 (n : Nat) : mK := i_rI
set_option maxRecDepth 20000 in
theorem okX1_joined_113 {E : mE} {X : State → Heap → Prop} {l : Launch} (hX : mXok E X) (n : Nat) : Sd E X l yX1_joined cX1_joined 3 (some .int) 1 0 0 0 0 113 (kX1_joined_113 n) := s_rI dX1_joined_113 (Nat.le_of_ble_eq_true rfl) (Nat.le_of_ble_eq_true rfl)
def kX1_joined_108 (n : Nat) : mK := i_cst (.int (1)) ((kX1_joined_113 n))
set_option maxRecDepth 20000 in
theorem okX1_joined_108 {E : mE} {X : State → Heap → Prop} {l : Launch} (hX : mXok E X) (n : Nat) : Sd E X l yX1_joined cX1_joined 3 (some .int) 1 0 0 0 0 108 (kX1_joined_108 n) := s_iconst dX1_joined_108 (by decide) (s_goto dX1_joined_109 (by decide) (okX1_joined_113 hX n))
def kX1_joined_184 (n : Nat) : mK := i_rI
set_option maxRecDepth 20000 in
theorem okX1_joined_184 {E : mE} {X : State → Heap → Prop} {l : Launch} (hX : mXok E X) (n : Nat) : Sd E X l yX1_joined cX1_joined 3 (some .int) 1 0 0 0 0 184 (kX1_joined_184 n) := s_rI dX1_joined_184 (Nat.le_of_ble_eq_true rfl) (Nat.le_of_ble_eq_true rfl)
def kX1_joined_160 (n : Nat) : mK := i_rI
set_option maxRecDepth 20000 in
theorem okX1_joined_160 {E : mE} {X : State → Heap → Prop} {l : Launch} (hX : mXok E X) (n : Nat) : Sd E X l yX1_joined cX1_joined 3 (some .int) 1 0 0 0 0 160 (kX1_joined_160 n) := s_rI dX1_joined_160 (Nat.le_of_ble_eq_true rfl) (Nat.le_of_ble_eq_true rfl)
def kX1_joined_149 (n : Nat) : mK := i_rI
set_option maxRecDepth 20000 in
theorem okX1_joined_149 {E : mE} {X : State → Heap → Prop} {l : Launch} (hX : mXok E X) (n : Nat) : Sd E X l yX1_joined cX1_joined 3 (some .int) 1 0 0 0 0 149 (kX1_joined_149 n) := s_rI dX1_joined_149 (Nat.le_of_ble_eq_true rfl) (Nat.le_of_ble_eq_true rfl)
def kX1_joined_138 (n : Nat) : mK := i_rI
set_option maxRecDepth 20000 in
theorem okX1_joined_138 {E : mE} {X : State → Heap → Prop} {l : Launch} (hX : mXok E X) (n : Nat) : Sd E X l yX1_joined cX1_joined 3 (some .int) 1 0 0 0 0 138 (kX1_joined_138 n) := s_rI dX1_joined_138 (Nat.le_of_ble_eq_true rfl) (Nat.le_of_ble_eq_true rfl)
def kX1_joined_0 (n : Nat) : mK := i_ldI 0 (i_sw [(7, (i_ldI 1 (i_ldI 2 (i_c2 (fun x y => decide (y ≤ x)) (i_cst (.int (0)) (kX1_joined_138 n)) (i_cst (.int (1)) ((kX1_joined_138 n))))))), (8, (i_ldI 1 (i_ldI 2 (i_c2 (fun x y => decide (x ≤ y)) (i_cst (.int (0)) (kX1_joined_149 n)) (i_cst (.int (1)) ((kX1_joined_149 n))))))), (9, (i_ldI 1 (i_ldI 2 (i_c2 (fun x y => decide (¬ x = y)) (i_cst (.int (0)) (kX1_joined_160 n)) (i_cst (.int (1)) ((kX1_joined_160 n))))))), (10, (i_ldI 1 (i_ldI 2 (i_bin (fun x y => x + y) (i_rI))))), (11, (i_ldI 1 (i_ldI 2 (i_bin (fun x y => x - y) (i_rI))))), (12, (i_ldI 1 (i_ldI 2 (i_bin (fun x y => x * y) (i_rI))))), (13, (i_ldI 2 (i_c0 (fun x => decide (¬ x = 0)) (i_ldI 1 (i_ldI 2 (i_dv (fun x y => x / y) (kX1_joined_184 n)))) (i_cst (.int (0)) ((kX1_joined_184 n)))))), (14, (kX1_joined_185 n)), (15, (kX1_joined_185 n)), (16, (kX1_joined_185 n)), (17, (kX1_joined_185 n)), (18, (kX1_joined_185 n)), (19, (kX1_joined_185 n)), (20, (kX1_joined_185 n)), (21, (kX1_joined_185 n)), (22, (kX1_joined_185 n)), (23, (kX1_joined_185 n)), (24, (kX1_joined_185 n)), (25, (kX1_joined_185 n)), (26, (i_ldI 1 (i_c0 (fun x => decide (¬ x = 0)) (kX1_joined_108 n) (i_ldI 2 (i_c0 (fun x => decide (x = 0)) (i_cst (.int (0)) (kX1_joined_113 n)) (kX1_joined_108 n)))))), (27, (i_ldI 1 (i_c0 (fun x => decide (x = 0)) (kX1_joined_126 n) (i_ldI 2 (i_c0 (fun x => decide (x = 0)) (kX1_joined_126 n) (i_cst (.int (1)) ((kX1_joined_127 n))))))))] (kX1_joined_185 n))
set_option maxRecDepth 20000 in
theorem okX1_joined_0 {E : mE} {X : State → Heap → Prop} {l : Launch} (hX : mXok E X) (n : Nat) : Sd E X l yX1_joined cX1_joined 3 (some .int) 1 0 0 0 0 0 (kX1_joined_0 n) := s_iload_n dX1_joined_0 rfl (s_tsw dX1_joined_1 (by decide) (okX1_joined_185 hX n) (by decide) (tsw_c (by decide) (by decide) (s_iload_n dX1_joined_128 rfl (s_iload_n dX1_joined_129 rfl (s_icge dX1_joined_130 (by decide) (s_iconst dX1_joined_137 (by decide) (okX1_joined_138 hX n)) (s_iconst dX1_joined_133 (by decide) (s_goto dX1_joined_134 (by decide) (okX1_joined_138 hX n)))))) (tsw_c (by decide) (by decide) (s_iload_n dX1_joined_139 rfl (s_iload_n dX1_joined_140 rfl (s_icle dX1_joined_141 (by decide) (s_iconst dX1_joined_148 (by decide) (okX1_joined_149 hX n)) (s_iconst dX1_joined_144 (by decide) (s_goto dX1_joined_145 (by decide) (okX1_joined_149 hX n)))))) (tsw_c (by decide) (by decide) (s_iload_n dX1_joined_150 rfl (s_iload_n dX1_joined_151 rfl (s_icne dX1_joined_152 (by decide) (s_iconst dX1_joined_159 (by decide) (okX1_joined_160 hX n)) (s_iconst dX1_joined_155 (by decide) (s_goto dX1_joined_156 (by decide) (okX1_joined_160 hX n)))))) (tsw_c (by decide) (by decide) (s_iload_n dX1_joined_161 rfl (s_iload_n dX1_joined_162 rfl (s_iadd dX1_joined_163 (s_rI dX1_joined_164 (Nat.le_of_ble_eq_true rfl) (Nat.le_of_ble_eq_true rfl))))) (tsw_c (by decide) (by decide) (s_iload_n dX1_joined_165 rfl (s_iload_n dX1_joined_166 rfl (s_isub dX1_joined_167 (s_rI dX1_joined_168 (Nat.le_of_ble_eq_true rfl) (Nat.le_of_ble_eq_true rfl))))) (tsw_c (by decide) (by decide) (s_iload_n dX1_joined_169 rfl (s_iload_n dX1_joined_170 rfl (s_imul dX1_joined_171 (s_rI dX1_joined_172 (Nat.le_of_ble_eq_true rfl) (Nat.le_of_ble_eq_true rfl))))) (tsw_c (by decide) (by decide) (s_iload_n dX1_joined_173 rfl (s_ifne dX1_joined_174 (by decide) (s_iload_n dX1_joined_181 rfl (s_iload_n dX1_joined_182 rfl (s_idiv dX1_joined_183 (okX1_joined_184 hX n)))) (s_iconst dX1_joined_177 (by decide) (s_goto dX1_joined_178 (by decide) (okX1_joined_184 hX n))))) (tsw_c (by decide) (by decide) (okX1_joined_185 hX n) (tsw_c (by decide) (by decide) (okX1_joined_185 hX n) (tsw_c (by decide) (by decide) (okX1_joined_185 hX n) (tsw_c (by decide) (by decide) (okX1_joined_185 hX n) (tsw_c (by decide) (by decide) (okX1_joined_185 hX n) (tsw_c (by decide) (by decide) (okX1_joined_185 hX n) (tsw_c (by decide) (by decide) (okX1_joined_185 hX n) (tsw_c (by decide) (by decide) (okX1_joined_185 hX n) (tsw_c (by decide) (by decide) (okX1_joined_185 hX n) (tsw_c (by decide) (by decide) (okX1_joined_185 hX n) (tsw_c (by decide) (by decide) (okX1_joined_185 hX n) (tsw_c (by decide) (by decide) (okX1_joined_185 hX n) (tsw_c (by decide) (by decide) (s_iload_n dX1_joined_100 rfl (s_ifne dX1_joined_101 (by decide) (okX1_joined_108 hX n) (s_iload_n dX1_joined_104 rfl (s_ifeq dX1_joined_105 (by decide) (s_iconst dX1_joined_112 (by decide) (okX1_joined_113 hX n)) (okX1_joined_108 hX n))))) (tsw_c (by decide) (by decide) (s_iload_n dX1_joined_114 rfl (s_ifeq dX1_joined_115 (by decide) (okX1_joined_126 hX n) (s_iload_n dX1_joined_118 rfl (s_ifeq dX1_joined_119 (by decide) (okX1_joined_126 hX n) (s_iconst dX1_joined_122 (by decide) (s_goto dX1_joined_123 (by decide) (okX1_joined_127 hX n))))))) tsw_n))))))))))))))))))))))
def FX1_joined (n : Nat) : List Value → mM → Option mR := mfn 3 (kX1_joined_0 n)
theorem CtX1_joined {E : mE} {X : State → Heap → Prop} {l : Launch} (hX : mXok E X) (n : Nat) : Ct E X l yX1_joined cX1_joined 3 (some .int) 1 0 0 (FX1_joined n) := Ct_of (by decide) hX (okX1_joined_0 hX n)
