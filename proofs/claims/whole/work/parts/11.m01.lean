theorem dX12_isGood_0 : decode cX12_isGood 0 = .ok (.aload_n 0, 1) := by decide +kernel
theorem dX12_isGood_1 : decode cX12_isGood 1 = .ok (.getfield 146, 3) := by decide +kernel
theorem dX12_isGood_4 : decode cX12_isGood 4 = .ok (.ifCond .ne 7, 3) := by decide +kernel
theorem dX12_isGood_7 : decode cX12_isGood 7 = .ok (.iconst 1, 1) := by decide +kernel
theorem dX12_isGood_8 : decode cX12_isGood 8 = .ok (.goto 4, 3) := by decide +kernel
theorem dX12_isGood_11 : decode cX12_isGood 11 = .ok (.iconst 0, 1) := by decide +kernel
theorem dX12_isGood_12 : decode cX12_isGood 12 = .ok (.ireturn, 1) := by decide +kernel
def kX12_isGood_12 (n : Nat) : mK := i_rZ
set_option maxRecDepth 20000 in
theorem okX12_isGood_12 {E : mE} {X : State → Heap → Prop} {l : Launch} (hX : mXok E X) (n : Nat) : Sd E X l yX12_isGood cX12_isGood 1 (some .boolean) 1 0 0 0 0 12 (kX12_isGood_12 n) := s_rZ dX12_isGood_12 (Nat.le_of_ble_eq_true rfl) (Nat.le_of_ble_eq_true rfl)
def kX12_isGood_0 (n : Nat) : mK := i_ldA 0 (i_gI 12 4 (i_c0 (fun x => decide (¬ x = 0)) (i_cst (.int (0)) (kX12_isGood_12 n)) (i_cst (.int (1)) ((kX12_isGood_12 n)))))
set_option maxRecDepth 20000 in
theorem okX12_isGood_0 {E : mE} {X : State → Heap → Prop} {l : Launch} (hX : mXok E X) (n : Nat) : Sd E X l yX12_isGood cX12_isGood 1 (some .boolean) 1 0 0 0 0 0 (kX12_isGood_0 n) := s_aload_n dX12_isGood_0 rfl (s_gI dX12_isGood_1 lFX12_146 (by decide) (s_ifne dX12_isGood_4 (by decide) (s_iconst dX12_isGood_11 (by decide) (okX12_isGood_12 hX n)) (s_iconst dX12_isGood_7 (by decide) (s_goto dX12_isGood_8 (by decide) (okX12_isGood_12 hX n)))))
def FX12_isGood (n : Nat) : List Value → mM → Option mR := mfn 1 (kX12_isGood_0 n)
theorem CtX12_isGood {E : mE} {X : State → Heap → Prop} {l : Launch} (hX : mXok E X) (n : Nat) : Ct E X l yX12_isGood cX12_isGood 1 (some .boolean) 1 0 0 (FX12_isGood n) := Ct_of (by decide) hX (okX12_isGood_0 hX n)
theorem dX12_isIn_0 : decode cX12_isIn 0 = .ok (.iload_n 0, 1) := by decide +kernel
theorem dX12_isIn_1 : decode cX12_isIn 1 = .ok (.iload_n 1, 1) := by decide +kernel
theorem dX12_isIn_2 : decode cX12_isIn 2 = .ok (.if_icmp .lt 12, 3) := by decide +kernel
theorem dX12_isIn_5 : decode cX12_isIn 5 = .ok (.iload_n 0, 1) := by decide +kernel
theorem dX12_isIn_6 : decode cX12_isIn 6 = .ok (.iload_n 2, 1) := by decide +kernel
theorem dX12_isIn_7 : decode cX12_isIn 7 = .ok (.if_icmp .gt 7, 3) := by decide +kernel
theorem dX12_isIn_10 : decode cX12_isIn 10 = .ok (.iconst 1, 1) := by decide +kernel
theorem dX12_isIn_11 : decode cX12_isIn 11 = .ok (.goto 4, 3) := by decide +kernel
theorem dX12_isIn_14 : decode cX12_isIn 14 = .ok (.iconst 0, 1) := by decide +kernel
theorem dX12_isIn_15 : decode cX12_isIn 15 = .ok (.ireturn, 1) := by decide +kernel
def kX12_isIn_15 (n : Nat) : mK := i_rZ
set_option maxRecDepth 20000 in
theorem okX12_isIn_15 {E : mE} {X : State → Heap → Prop} {l : Launch} (hX : mXok E X) (n : Nat) : Sd E X l yX12_isIn cX12_isIn 3 (some .boolean) 1 0 0 0 0 15 (kX12_isIn_15 n) := s_rZ dX12_isIn_15 (Nat.le_of_ble_eq_true rfl) (Nat.le_of_ble_eq_true rfl)
def kX12_isIn_14 (n : Nat) : mK := i_cst (.int (0)) (kX12_isIn_15 n)
set_option maxRecDepth 20000 in
theorem okX12_isIn_14 {E : mE} {X : State → Heap → Prop} {l : Launch} (hX : mXok E X) (n : Nat) : Sd E X l yX12_isIn cX12_isIn 3 (some .boolean) 1 0 0 0 0 14 (kX12_isIn_14 n) := s_iconst dX12_isIn_14 (by decide) (okX12_isIn_15 hX n)
def kX12_isIn_0 (n : Nat) : mK := i_ldI 0 (i_ldI 1 (i_c2 (fun x y => decide (x < y)) (kX12_isIn_14 n) (i_ldI 0 (i_ldI 2 (i_c2 (fun x y => decide (y < x)) (kX12_isIn_14 n) (i_cst (.int (1)) ((kX12_isIn_15 n))))))))
set_option maxRecDepth 20000 in
theorem okX12_isIn_0 {E : mE} {X : State → Heap → Prop} {l : Launch} (hX : mXok E X) (n : Nat) : Sd E X l yX12_isIn cX12_isIn 3 (some .boolean) 1 0 0 0 0 0 (kX12_isIn_0 n) := s_iload_n dX12_isIn_0 rfl (s_iload_n dX12_isIn_1 rfl (s_iclt dX12_isIn_2 (by decide) (okX12_isIn_14 hX n) (s_iload_n dX12_isIn_5 rfl (s_iload_n dX12_isIn_6 rfl (s_icgt dX12_isIn_7 (by decide) (okX12_isIn_14 hX n) (s_iconst dX12_isIn_10 (by decide) (s_goto dX12_isIn_11 (by decide) (okX12_isIn_15 hX n))))))))
def FX12_isIn (n : Nat) : List Value → mM → Option mR := mfn 3 (kX12_isIn_0 n)
theorem CtX12_isIn {E : mE} {X : State → Heap → Prop} {l : Launch} (hX : mXok E X) (n : Nat) : Ct E X l yX12_isIn cX12_isIn 3 (some .boolean) 1 0 0 (FX12_isIn n) := Ct_of (by decide) hX (okX12_isIn_0 hX n)
theorem dX12_isKept_0 : decode cX12_isKept 0 = .ok (.lload_n 0, 1) := by decide +kernel
theorem dX12_isKept_1 : decode cX12_isKept 1 = .ok (.ldc2_w 149, 3) := by decide +kernel
theorem dX12_isKept_4 : decode cX12_isKept 4 = .ok (.lcmp, 1) := by decide +kernel
theorem dX12_isKept_5 : decode cX12_isKept 5 = .ok (.ifCond .eq 75, 3) := by decide +kernel
theorem dX12_isKept_8 : decode cX12_isKept 8 = .ok (.lload_n 0, 1) := by decide +kernel
theorem dX12_isKept_9 : decode cX12_isKept 9 = .ok (.ldc2_w 151, 3) := by decide +kernel
theorem dX12_isKept_12 : decode cX12_isKept 12 = .ok (.lcmp, 1) := by decide +kernel
theorem dX12_isKept_13 : decode cX12_isKept 13 = .ok (.ifCond .eq 67, 3) := by decide +kernel
theorem dX12_isKept_16 : decode cX12_isKept 16 = .ok (.lload_n 0, 1) := by decide +kernel
theorem dX12_isKept_17 : decode cX12_isKept 17 = .ok (.ldc2_w 153, 3) := by decide +kernel
theorem dX12_isKept_20 : decode cX12_isKept 20 = .ok (.lcmp, 1) := by decide +kernel
theorem dX12_isKept_21 : decode cX12_isKept 21 = .ok (.ifCond .eq 59, 3) := by decide +kernel
theorem dX12_isKept_24 : decode cX12_isKept 24 = .ok (.lload_n 0, 1) := by decide +kernel
theorem dX12_isKept_25 : decode cX12_isKept 25 = .ok (.ldc2_w 155, 3) := by decide +kernel
theorem dX12_isKept_28 : decode cX12_isKept 28 = .ok (.lcmp, 1) := by decide +kernel
theorem dX12_isKept_29 : decode cX12_isKept 29 = .ok (.ifCond .eq 51, 3) := by decide +kernel
theorem dX12_isKept_32 : decode cX12_isKept 32 = .ok (.lload_n 0, 1) := by decide +kernel
theorem dX12_isKept_33 : decode cX12_isKept 33 = .ok (.ldc2_w 157, 3) := by decide +kernel
theorem dX12_isKept_36 : decode cX12_isKept 36 = .ok (.lcmp, 1) := by decide +kernel
theorem dX12_isKept_37 : decode cX12_isKept 37 = .ok (.ifCond .eq 43, 3) := by decide +kernel
theorem dX12_isKept_40 : decode cX12_isKept 40 = .ok (.lload_n 0, 1) := by decide +kernel
theorem dX12_isKept_41 : decode cX12_isKept 41 = .ok (.ldc2_w 159, 3) := by decide +kernel
theorem dX12_isKept_44 : decode cX12_isKept 44 = .ok (.lcmp, 1) := by decide +kernel
theorem dX12_isKept_45 : decode cX12_isKept 45 = .ok (.ifCond .eq 35, 3) := by decide +kernel
theorem dX12_isKept_48 : decode cX12_isKept 48 = .ok (.lload_n 0, 1) := by decide +kernel
theorem dX12_isKept_49 : decode cX12_isKept 49 = .ok (.ldc2_w 161, 3) := by decide +kernel
theorem dX12_isKept_52 : decode cX12_isKept 52 = .ok (.lcmp, 1) := by decide +kernel
theorem dX12_isKept_53 : decode cX12_isKept 53 = .ok (.ifCond .eq 27, 3) := by decide +kernel
theorem dX12_isKept_56 : decode cX12_isKept 56 = .ok (.lload_n 0, 1) := by decide +kernel
theorem dX12_isKept_57 : decode cX12_isKept 57 = .ok (.ldc2_w 163, 3) := by decide +kernel
theorem dX12_isKept_60 : decode cX12_isKept 60 = .ok (.lcmp, 1) := by decide +kernel
theorem dX12_isKept_61 : decode cX12_isKept 61 = .ok (.ifCond .eq 19, 3) := by decide +kernel
theorem dX12_isKept_64 : decode cX12_isKept 64 = .ok (.lload_n 0, 1) := by decide +kernel
theorem dX12_isKept_65 : decode cX12_isKept 65 = .ok (.ldc2_w 165, 3) := by decide +kernel
theorem dX12_isKept_68 : decode cX12_isKept 68 = .ok (.lcmp, 1) := by decide +kernel
theorem dX12_isKept_69 : decode cX12_isKept 69 = .ok (.ifCond .eq 11, 3) := by decide +kernel
theorem dX12_isKept_72 : decode cX12_isKept 72 = .ok (.lload_n 0, 1) := by decide +kernel
theorem dX12_isKept_73 : decode cX12_isKept 73 = .ok (.ldc2_w 167, 3) := by decide +kernel
theorem dX12_isKept_76 : decode cX12_isKept 76 = .ok (.lcmp, 1) := by decide +kernel
theorem dX12_isKept_77 : decode cX12_isKept 77 = .ok (.ifCond .ne 7, 3) := by decide +kernel
theorem dX12_isKept_80 : decode cX12_isKept 80 = .ok (.iconst 1, 1) := by decide +kernel
theorem dX12_isKept_81 : decode cX12_isKept 81 = .ok (.goto 4, 3) := by decide +kernel
theorem dX12_isKept_84 : decode cX12_isKept 84 = .ok (.iconst 0, 1) := by decide +kernel
theorem dX12_isKept_85 : decode cX12_isKept 85 = .ok (.istore_n 2, 1) := by decide +kernel
theorem dX12_isKept_86 : decode cX12_isKept 86 = .ok (.iload_n 2, 1) := by decide +kernel
theorem dX12_isKept_87 : decode cX12_isKept 87 = .ok (.ifCond .ne 75, 3) := by decide +kernel
theorem dX12_isKept_90 : decode cX12_isKept 90 = .ok (.lload_n 0, 1) := by decide +kernel
theorem dX12_isKept_91 : decode cX12_isKept 91 = .ok (.ldc2_w 169, 3) := by decide +kernel
theorem dX12_isKept_94 : decode cX12_isKept 94 = .ok (.lcmp, 1) := by decide +kernel
theorem dX12_isKept_95 : decode cX12_isKept 95 = .ok (.ifCond .eq 67, 3) := by decide +kernel
theorem dX12_isKept_98 : decode cX12_isKept 98 = .ok (.lload_n 0, 1) := by decide +kernel
theorem dX12_isKept_99 : decode cX12_isKept 99 = .ok (.ldc2_w 171, 3) := by decide +kernel
theorem dX12_isKept_102 : decode cX12_isKept 102 = .ok (.lcmp, 1) := by decide +kernel
theorem dX12_isKept_103 : decode cX12_isKept 103 = .ok (.ifCond .eq 59, 3) := by decide +kernel
theorem dX12_isKept_106 : decode cX12_isKept 106 = .ok (.lload_n 0, 1) := by decide +kernel
theorem dX12_isKept_107 : decode cX12_isKept 107 = .ok (.ldc2_w 173, 3) := by decide +kernel
theorem dX12_isKept_110 : decode cX12_isKept 110 = .ok (.lcmp, 1) := by decide +kernel
theorem dX12_isKept_111 : decode cX12_isKept 111 = .ok (.ifCond .eq 51, 3) := by decide +kernel
theorem dX12_isKept_114 : decode cX12_isKept 114 = .ok (.lload_n 0, 1) := by decide +kernel
theorem dX12_isKept_115 : decode cX12_isKept 115 = .ok (.ldc2_w 175, 3) := by decide +kernel
theorem dX12_isKept_118 : decode cX12_isKept 118 = .ok (.lcmp, 1) := by decide +kernel
theorem dX12_isKept_119 : decode cX12_isKept 119 = .ok (.ifCond .eq 43, 3) := by decide +kernel
theorem dX12_isKept_122 : decode cX12_isKept 122 = .ok (.lload_n 0, 1) := by decide +kernel
theorem dX12_isKept_123 : decode cX12_isKept 123 = .ok (.ldc2_w 177, 3) := by decide +kernel
theorem dX12_isKept_126 : decode cX12_isKept 126 = .ok (.lcmp, 1) := by decide +kernel
theorem dX12_isKept_127 : decode cX12_isKept 127 = .ok (.ifCond .eq 35, 3) := by decide +kernel
theorem dX12_isKept_130 : decode cX12_isKept 130 = .ok (.lload_n 0, 1) := by decide +kernel
theorem dX12_isKept_131 : decode cX12_isKept 131 = .ok (.ldc2_w 179, 3) := by decide +kernel
theorem dX12_isKept_134 : decode cX12_isKept 134 = .ok (.lcmp, 1) := by decide +kernel
theorem dX12_isKept_135 : decode cX12_isKept 135 = .ok (.ifCond .eq 27, 3) := by decide +kernel
theorem dX12_isKept_138 : decode cX12_isKept 138 = .ok (.lload_n 0, 1) := by decide +kernel
theorem dX12_isKept_139 : decode cX12_isKept 139 = .ok (.ldc2_w 181, 3) := by decide +kernel
theorem dX12_isKept_142 : decode cX12_isKept 142 = .ok (.lcmp, 1) := by decide +kernel
theorem dX12_isKept_143 : decode cX12_isKept 143 = .ok (.ifCond .eq 19, 3) := by decide +kernel
theorem dX12_isKept_146 : decode cX12_isKept 146 = .ok (.lload_n 0, 1) := by decide +kernel
theorem dX12_isKept_147 : decode cX12_isKept 147 = .ok (.ldc2_w 183, 3) := by decide +kernel
theorem dX12_isKept_150 : decode cX12_isKept 150 = .ok (.lcmp, 1) := by decide +kernel
theorem dX12_isKept_151 : decode cX12_isKept 151 = .ok (.ifCond .eq 11, 3) := by decide +kernel
theorem dX12_isKept_154 : decode cX12_isKept 154 = .ok (.lload_n 0, 1) := by decide +kernel
theorem dX12_isKept_155 : decode cX12_isKept 155 = .ok (.ldc2_w 185, 3) := by decide +kernel
theorem dX12_isKept_158 : decode cX12_isKept 158 = .ok (.lcmp, 1) := by decide +kernel
theorem dX12_isKept_159 : decode cX12_isKept 159 = .ok (.ifCond .ne 7, 3) := by decide +kernel
theorem dX12_isKept_162 : decode cX12_isKept 162 = .ok (.iconst 1, 1) := by decide +kernel
theorem dX12_isKept_163 : decode cX12_isKept 163 = .ok (.goto 4, 3) := by decide +kernel
theorem dX12_isKept_166 : decode cX12_isKept 166 = .ok (.iconst 0, 1) := by decide +kernel
theorem dX12_isKept_167 : decode cX12_isKept 167 = .ok (.ireturn, 1) := by decide +kernel
def kX12_isKept_167 (n : Nat) : mK := i_rZ
set_option maxRecDepth 20000 in
theorem okX12_isKept_167 {E : mE} {X : State → Heap → Prop} {l : Launch} (hX : mXok E X) (n : Nat) : Sd E X l yX12_isKept cX12_isKept 3 (some .boolean) 1 0 0 0 0 167 (kX12_isKept_167 n) := s_rZ dX12_isKept_167 (Nat.le_of_ble_eq_true rfl) (Nat.le_of_ble_eq_true rfl)
def kX12_isKept_162 (n : Nat) : mK := i_cst (.int (1)) ((kX12_isKept_167 n))
set_option maxRecDepth 20000 in
theorem okX12_isKept_162 {E : mE} {X : State → Heap → Prop} {l : Launch} (hX : mXok E X) (n : Nat) : Sd E X l yX12_isKept cX12_isKept 3 (some .boolean) 1 0 0 0 0 162 (kX12_isKept_162 n) := s_iconst dX12_isKept_162 (by decide) (s_goto dX12_isKept_163 (by decide) (okX12_isKept_167 hX n))
def kX12_isKept_131 (n : Nat) : mK := i_cst (.long (2036687218)) (i_lcmp (i_c0 (fun x => decide (x = 0)) (kX12_isKept_162 n) (i_ldJ 0 (i_cst (.long (28530)) (i_lcmp (i_c0 (fun x => decide (x = 0)) (kX12_isKept_162 n) (i_ldJ 0 (i_cst (.long (6385252)) (i_lcmp (i_c0 (fun x => decide (x = 0)) (kX12_isKept_162 n) (i_ldJ 0 (i_cst (.long (7237492)) (i_lcmp (i_c0 (fun x => decide (¬ x = 0)) (i_cst (.int (0)) (kX12_isKept_167 n)) (kX12_isKept_162 n)))))))))))))))
set_option maxRecDepth 20000 in
theorem okX12_isKept_131 {E : mE} {X : State → Heap → Prop} {l : Launch} (hX : mXok E X) (n : Nat) : Sd E X l yX12_isKept cX12_isKept 3 (some .boolean) 1 0 0 0 0 131 (kX12_isKept_131 n) := s_ldc2 dX12_isKept_131 lCX12_179 (s_lcmp dX12_isKept_134 (s_ifeq dX12_isKept_135 (by decide) (okX12_isKept_162 hX n) (s_lload_n dX12_isKept_138 rfl (s_ldc2 dX12_isKept_139 lCX12_181 (s_lcmp dX12_isKept_142 (s_ifeq dX12_isKept_143 (by decide) (okX12_isKept_162 hX n) (s_lload_n dX12_isKept_146 rfl (s_ldc2 dX12_isKept_147 lCX12_183 (s_lcmp dX12_isKept_150 (s_ifeq dX12_isKept_151 (by decide) (okX12_isKept_162 hX n) (s_lload_n dX12_isKept_154 rfl (s_ldc2 dX12_isKept_155 lCX12_185 (s_lcmp dX12_isKept_158 (s_ifne dX12_isKept_159 (by decide) (s_iconst dX12_isKept_166 (by decide) (okX12_isKept_167 hX n)) (okX12_isKept_162 hX n)))))))))))))))
def kX12_isKept_85 (n : Nat) : mK := i_stI 2 (i_ldI 2 (i_c0 (fun x => decide (¬ x = 0)) (kX12_isKept_162 n) (i_ldJ 0 (i_cst (.long (1685217655)) (i_lcmp (i_c0 (fun x => decide (x = 0)) (kX12_isKept_162 n) (i_ldJ 0 (i_cst (.long (1752133492)) (i_lcmp (i_c0 (fun x => decide (x = 0)) (kX12_isKept_162 n) (i_ldJ 0 (i_cst (.long (108230565520740)) (i_lcmp (i_c0 (fun x => decide (x = 0)) (kX12_isKept_162 n) (i_ldJ 0 (i_cst (.long (1835101817)) (i_lcmp (i_c0 (fun x => decide (x = 0)) (kX12_isKept_162 n) (i_ldJ 0 (i_cst (.long (1818324581)) (i_lcmp (i_c0 (fun x => decide (x = 0)) (kX12_isKept_162 n) (i_ldJ 0 (kX12_isKept_131 n))))))))))))))))))))))))
set_option maxRecDepth 20000 in
theorem okX12_isKept_85 {E : mE} {X : State → Heap → Prop} {l : Launch} (hX : mXok E X) (n : Nat) : Sd E X l yX12_isKept cX12_isKept 3 (some .boolean) 1 0 0 0 0 85 (kX12_isKept_85 n) := s_istore_n dX12_isKept_85 rfl (s_iload_n dX12_isKept_86 rfl (s_ifne dX12_isKept_87 (by decide) (okX12_isKept_162 hX n) (s_lload_n dX12_isKept_90 rfl (s_ldc2 dX12_isKept_91 lCX12_169 (s_lcmp dX12_isKept_94 (s_ifeq dX12_isKept_95 (by decide) (okX12_isKept_162 hX n) (s_lload_n dX12_isKept_98 rfl (s_ldc2 dX12_isKept_99 lCX12_171 (s_lcmp dX12_isKept_102 (s_ifeq dX12_isKept_103 (by decide) (okX12_isKept_162 hX n) (s_lload_n dX12_isKept_106 rfl (s_ldc2 dX12_isKept_107 lCX12_173 (s_lcmp dX12_isKept_110 (s_ifeq dX12_isKept_111 (by decide) (okX12_isKept_162 hX n) (s_lload_n dX12_isKept_114 rfl (s_ldc2 dX12_isKept_115 lCX12_175 (s_lcmp dX12_isKept_118 (s_ifeq dX12_isKept_119 (by decide) (okX12_isKept_162 hX n) (s_lload_n dX12_isKept_122 rfl (s_ldc2 dX12_isKept_123 lCX12_177 (s_lcmp dX12_isKept_126 (s_ifeq dX12_isKept_127 (by decide) (okX12_isKept_162 hX n) (s_lload_n dX12_isKept_130 rfl (okX12_isKept_131 hX n))))))))))))))))))))))))
def kX12_isKept_80 (n : Nat) : mK := i_cst (.int (1)) ((kX12_isKept_85 n))
set_option maxRecDepth 20000 in
theorem okX12_isKept_80 {E : mE} {X : State → Heap → Prop} {l : Launch} (hX : mXok E X) (n : Nat) : Sd E X l yX12_isKept cX12_isKept 3 (some .boolean) 1 0 0 0 0 80 (kX12_isKept_80 n) := s_iconst dX12_isKept_80 (by decide) (s_goto dX12_isKept_81 (by decide) (okX12_isKept_85 hX n))
def kX12_isKept_48 (n : Nat) : mK := i_ldJ 0 (i_cst (.long (1651467385)) (i_lcmp (i_c0 (fun x => decide (x = 0)) (kX12_isKept_80 n) (i_ldJ 0 (i_cst (.long (32492108151877235)) (i_lcmp (i_c0 (fun x => decide (x = 0)) (kX12_isKept_80 n) (i_ldJ 0 (i_cst (.long (512970880104)) (i_lcmp (i_c0 (fun x => decide (x = 0)) (kX12_isKept_80 n) (i_ldJ 0 (i_cst (.long (108243466677107)) (i_lcmp (i_c0 (fun x => decide (¬ x = 0)) (i_cst (.int (0)) (kX12_isKept_85 n)) (kX12_isKept_80 n))))))))))))))))
set_option maxRecDepth 20000 in
theorem okX12_isKept_48 {E : mE} {X : State → Heap → Prop} {l : Launch} (hX : mXok E X) (n : Nat) : Sd E X l yX12_isKept cX12_isKept 3 (some .boolean) 1 0 0 0 0 48 (kX12_isKept_48 n) := s_lload_n dX12_isKept_48 rfl (s_ldc2 dX12_isKept_49 lCX12_161 (s_lcmp dX12_isKept_52 (s_ifeq dX12_isKept_53 (by decide) (okX12_isKept_80 hX n) (s_lload_n dX12_isKept_56 rfl (s_ldc2 dX12_isKept_57 lCX12_163 (s_lcmp dX12_isKept_60 (s_ifeq dX12_isKept_61 (by decide) (okX12_isKept_80 hX n) (s_lload_n dX12_isKept_64 rfl (s_ldc2 dX12_isKept_65 lCX12_165 (s_lcmp dX12_isKept_68 (s_ifeq dX12_isKept_69 (by decide) (okX12_isKept_80 hX n) (s_lload_n dX12_isKept_72 rfl (s_ldc2 dX12_isKept_73 lCX12_167 (s_lcmp dX12_isKept_76 (s_ifne dX12_isKept_77 (by decide) (s_iconst dX12_isKept_84 (by decide) (okX12_isKept_85 hX n)) (okX12_isKept_80 hX n))))))))))))))))
def kX12_isKept_0 (n : Nat) : mK := i_ldJ 0 (i_cst (.long (126943972648308)) (i_lcmp (i_c0 (fun x => decide (x = 0)) (kX12_isKept_80 n) (i_ldJ 0 (i_cst (.long (25209)) (i_lcmp (i_c0 (fun x => decide (x = 0)) (kX12_isKept_80 n) (i_ldJ 0 (i_cst (.long (6513010)) (i_lcmp (i_c0 (fun x => decide (x = 0)) (kX12_isKept_80 n) (i_ldJ 0 (i_cst (.long (24948)) (i_lcmp (i_c0 (fun x => decide (x = 0)) (kX12_isKept_80 n) (i_ldJ 0 (i_cst (.long (448377480307)) (i_lcmp (i_c0 (fun x => decide (x = 0)) (kX12_isKept_80 n) (i_ldJ 0 (i_cst (.long (448546174067)) (i_lcmp (i_c0 (fun x => decide (x = 0)) (kX12_isKept_80 n) (kX12_isKept_48 n))))))))))))))))))))))))
set_option maxRecDepth 20000 in
theorem okX12_isKept_0 {E : mE} {X : State → Heap → Prop} {l : Launch} (hX : mXok E X) (n : Nat) : Sd E X l yX12_isKept cX12_isKept 3 (some .boolean) 1 0 0 0 0 0 (kX12_isKept_0 n) := s_lload_n dX12_isKept_0 rfl (s_ldc2 dX12_isKept_1 lCX12_149 (s_lcmp dX12_isKept_4 (s_ifeq dX12_isKept_5 (by decide) (okX12_isKept_80 hX n) (s_lload_n dX12_isKept_8 rfl (s_ldc2 dX12_isKept_9 lCX12_151 (s_lcmp dX12_isKept_12 (s_ifeq dX12_isKept_13 (by decide) (okX12_isKept_80 hX n) (s_lload_n dX12_isKept_16 rfl (s_ldc2 dX12_isKept_17 lCX12_153 (s_lcmp dX12_isKept_20 (s_ifeq dX12_isKept_21 (by decide) (okX12_isKept_80 hX n) (s_lload_n dX12_isKept_24 rfl (s_ldc2 dX12_isKept_25 lCX12_155 (s_lcmp dX12_isKept_28 (s_ifeq dX12_isKept_29 (by decide) (okX12_isKept_80 hX n) (s_lload_n dX12_isKept_32 rfl (s_ldc2 dX12_isKept_33 lCX12_157 (s_lcmp dX12_isKept_36 (s_ifeq dX12_isKept_37 (by decide) (okX12_isKept_80 hX n) (s_lload_n dX12_isKept_40 rfl (s_ldc2 dX12_isKept_41 lCX12_159 (s_lcmp dX12_isKept_44 (s_ifeq dX12_isKept_45 (by decide) (okX12_isKept_80 hX n) (okX12_isKept_48 hX n))))))))))))))))))))))))
def FX12_isKept (n : Nat) : List Value → mM → Option mR := mfn 3 (kX12_isKept_0 n)
theorem CtX12_isKept {E : mE} {X : State → Heap → Prop} {l : Launch} (hX : mXok E X) (n : Nat) : Ct E X l yX12_isKept cX12_isKept 3 (some .boolean) 1 0 0 (FX12_isKept n) := Ct_of (by decide) hX (okX12_isKept_0 hX n)
theorem dX12_isLetter_0 : decode cX12_isLetter 0 = .ok (.iload_n 0, 1) := by decide +kernel
theorem dX12_isLetter_1 : decode cX12_isLetter 1 = .ok (.bipush 97, 2) := by decide +kernel
theorem dX12_isLetter_3 : decode cX12_isLetter 3 = .ok (.if_icmp .lt 13, 3) := by decide +kernel
theorem dX12_isLetter_6 : decode cX12_isLetter 6 = .ok (.iload_n 0, 1) := by decide +kernel
theorem dX12_isLetter_7 : decode cX12_isLetter 7 = .ok (.bipush 122, 2) := by decide +kernel
theorem dX12_isLetter_9 : decode cX12_isLetter 9 = .ok (.if_icmp .gt 7, 3) := by decide +kernel
theorem dX12_isLetter_12 : decode cX12_isLetter 12 = .ok (.iconst 1, 1) := by decide +kernel
theorem dX12_isLetter_13 : decode cX12_isLetter 13 = .ok (.goto 4, 3) := by decide +kernel
theorem dX12_isLetter_16 : decode cX12_isLetter 16 = .ok (.iconst 0, 1) := by decide +kernel
theorem dX12_isLetter_17 : decode cX12_isLetter 17 = .ok (.ireturn, 1) := by decide +kernel
def kX12_isLetter_17 (n : Nat) : mK := i_rZ
set_option maxRecDepth 20000 in
theorem okX12_isLetter_17 {E : mE} {X : State → Heap → Prop} {l : Launch} (hX : mXok E X) (n : Nat) : Sd E X l yX12_isLetter cX12_isLetter 1 (some .boolean) 1 0 0 0 0 17 (kX12_isLetter_17 n) := s_rZ dX12_isLetter_17 (Nat.le_of_ble_eq_true rfl) (Nat.le_of_ble_eq_true rfl)
def kX12_isLetter_16 (n : Nat) : mK := i_cst (.int (0)) (kX12_isLetter_17 n)
set_option maxRecDepth 20000 in
theorem okX12_isLetter_16 {E : mE} {X : State → Heap → Prop} {l : Launch} (hX : mXok E X) (n : Nat) : Sd E X l yX12_isLetter cX12_isLetter 1 (some .boolean) 1 0 0 0 0 16 (kX12_isLetter_16 n) := s_iconst dX12_isLetter_16 (by decide) (okX12_isLetter_17 hX n)
def kX12_isLetter_0 (n : Nat) : mK := i_ldI 0 (i_cst (.int (97)) (i_c2 (fun x y => decide (x < y)) (kX12_isLetter_16 n) (i_ldI 0 (i_cst (.int (122)) (i_c2 (fun x y => decide (y < x)) (kX12_isLetter_16 n) (i_cst (.int (1)) ((kX12_isLetter_17 n))))))))
set_option maxRecDepth 20000 in
theorem okX12_isLetter_0 {E : mE} {X : State → Heap → Prop} {l : Launch} (hX : mXok E X) (n : Nat) : Sd E X l yX12_isLetter cX12_isLetter 1 (some .boolean) 1 0 0 0 0 0 (kX12_isLetter_0 n) := s_iload_n dX12_isLetter_0 rfl (s_bipush dX12_isLetter_1 (by decide) (s_iclt dX12_isLetter_3 (by decide) (okX12_isLetter_16 hX n) (s_iload_n dX12_isLetter_6 rfl (s_bipush dX12_isLetter_7 (by decide) (s_icgt dX12_isLetter_9 (by decide) (okX12_isLetter_16 hX n) (s_iconst dX12_isLetter_12 (by decide) (s_goto dX12_isLetter_13 (by decide) (okX12_isLetter_17 hX n))))))))
def FX12_isLetter (n : Nat) : List Value → mM → Option mR := mfn 1 (kX12_isLetter_0 n)
theorem CtX12_isLetter {E : mE} {X : State → Heap → Prop} {l : Launch} (hX : mXok E X) (n : Nat) : Ct E X l yX12_isLetter cX12_isLetter 1 (some .boolean) 1 0 0 (FX12_isLetter n) := Ct_of (by decide) hX (okX12_isLetter_0 hX n)
theorem dX12_isOnLine_0 : decode cX12_isOnLine 0 = .ok (.iload_n 2, 1) := by decide +kernel
theorem dX12_isOnLine_1 : decode cX12_isOnLine 1 = .ok (.aload_n 0, 1) := by decide +kernel
theorem dX12_isOnLine_2 : decode cX12_isOnLine 2 = .ok (.getfield 20, 3) := by decide +kernel
theorem dX12_isOnLine_5 : decode cX12_isOnLine 5 = .ok (.aload_n 0, 1) := by decide +kernel
theorem dX12_isOnLine_6 : decode cX12_isOnLine 6 = .ok (.getfield 255, 3) := by decide +kernel
theorem dX12_isOnLine_9 : decode cX12_isOnLine 9 = .ok (.iaload, 1) := by decide +kernel
theorem dX12_isOnLine_10 : decode cX12_isOnLine 10 = .ok (.irem, 1) := by decide +kernel
theorem dX12_isOnLine_11 : decode cX12_isOnLine 11 = .ok (.aload_n 0, 1) := by decide +kernel
theorem dX12_isOnLine_12 : decode cX12_isOnLine 12 = .ok (.getfield 82, 3) := by decide +kernel
theorem dX12_isOnLine_15 : decode cX12_isOnLine 15 = .ok (.iconst 0, 1) := by decide +kernel
theorem dX12_isOnLine_16 : decode cX12_isOnLine 16 = .ok (.iload_n 1, 1) := by decide +kernel
theorem dX12_isOnLine_17 : decode cX12_isOnLine 17 = .ok (.iadd, 1) := by decide +kernel
theorem dX12_isOnLine_18 : decode cX12_isOnLine 18 = .ok (.iaload, 1) := by decide +kernel
theorem dX12_isOnLine_19 : decode cX12_isOnLine 19 = .ok (.aload_n 0, 1) := by decide +kernel
theorem dX12_isOnLine_20 : decode cX12_isOnLine 20 = .ok (.getfield 20, 3) := by decide +kernel
theorem dX12_isOnLine_23 : decode cX12_isOnLine 23 = .ok (.aload_n 0, 1) := by decide +kernel
theorem dX12_isOnLine_24 : decode cX12_isOnLine 24 = .ok (.getfield 255, 3) := by decide +kernel
theorem dX12_isOnLine_27 : decode cX12_isOnLine 27 = .ok (.iaload, 1) := by decide +kernel
theorem dX12_isOnLine_28 : decode cX12_isOnLine 28 = .ok (.irem, 1) := by decide +kernel
theorem dX12_isOnLine_29 : decode cX12_isOnLine 29 = .ok (.isub, 1) := by decide +kernel
theorem dX12_isOnLine_30 : decode cX12_isOnLine 30 = .ok (.istore_n 3, 1) := by decide +kernel
theorem dX12_isOnLine_31 : decode cX12_isOnLine 31 = .ok (.iload_n 2, 1) := by decide +kernel
theorem dX12_isOnLine_32 : decode cX12_isOnLine 32 = .ok (.aload_n 0, 1) := by decide +kernel
theorem dX12_isOnLine_33 : decode cX12_isOnLine 33 = .ok (.getfield 20, 3) := by decide +kernel
theorem dX12_isOnLine_36 : decode cX12_isOnLine 36 = .ok (.aload_n 0, 1) := by decide +kernel
theorem dX12_isOnLine_37 : decode cX12_isOnLine 37 = .ok (.getfield 255, 3) := by decide +kernel
theorem dX12_isOnLine_40 : decode cX12_isOnLine 40 = .ok (.iaload, 1) := by decide +kernel
theorem dX12_isOnLine_41 : decode cX12_isOnLine 41 = .ok (.idiv, 1) := by decide +kernel
theorem dX12_isOnLine_42 : decode cX12_isOnLine 42 = .ok (.aload_n 0, 1) := by decide +kernel
theorem dX12_isOnLine_43 : decode cX12_isOnLine 43 = .ok (.getfield 82, 3) := by decide +kernel
theorem dX12_isOnLine_46 : decode cX12_isOnLine 46 = .ok (.iconst 0, 1) := by decide +kernel
theorem dX12_isOnLine_47 : decode cX12_isOnLine 47 = .ok (.iload_n 1, 1) := by decide +kernel
theorem dX12_isOnLine_48 : decode cX12_isOnLine 48 = .ok (.iadd, 1) := by decide +kernel
theorem dX12_isOnLine_49 : decode cX12_isOnLine 49 = .ok (.iaload, 1) := by decide +kernel
theorem dX12_isOnLine_50 : decode cX12_isOnLine 50 = .ok (.aload_n 0, 1) := by decide +kernel
theorem dX12_isOnLine_51 : decode cX12_isOnLine 51 = .ok (.getfield 20, 3) := by decide +kernel
theorem dX12_isOnLine_54 : decode cX12_isOnLine 54 = .ok (.aload_n 0, 1) := by decide +kernel
theorem dX12_isOnLine_55 : decode cX12_isOnLine 55 = .ok (.getfield 255, 3) := by decide +kernel
theorem dX12_isOnLine_58 : decode cX12_isOnLine 58 = .ok (.iaload, 1) := by decide +kernel
theorem dX12_isOnLine_59 : decode cX12_isOnLine 59 = .ok (.idiv, 1) := by decide +kernel
theorem dX12_isOnLine_60 : decode cX12_isOnLine 60 = .ok (.isub, 1) := by decide +kernel
theorem dX12_isOnLine_61 : decode cX12_isOnLine 61 = .ok (.istore 4, 2) := by decide +kernel
theorem dX12_isOnLine_63 : decode cX12_isOnLine 63 = .ok (.aload_n 0, 1) := by decide +kernel
theorem dX12_isOnLine_64 : decode cX12_isOnLine 64 = .ok (.getfield 82, 3) := by decide +kernel
theorem dX12_isOnLine_67 : decode cX12_isOnLine 67 = .ok (.bipush 8, 2) := by decide +kernel
theorem dX12_isOnLine_69 : decode cX12_isOnLine 69 = .ok (.iload_n 1, 1) := by decide +kernel
theorem dX12_isOnLine_70 : decode cX12_isOnLine 70 = .ok (.iadd, 1) := by decide +kernel
theorem dX12_isOnLine_71 : decode cX12_isOnLine 71 = .ok (.iaload, 1) := by decide +kernel
theorem dX12_isOnLine_72 : decode cX12_isOnLine 72 = .ok (.tableswitch 73 0 2 #[28, 43, 58], 28) := by decide +kernel
theorem dX12_isOnLine_100 : decode cX12_isOnLine 100 = .ok (.iload_n 3, 1) := by decide +kernel
theorem dX12_isOnLine_101 : decode cX12_isOnLine 101 = .ok (.ifCond .ne 12, 3) := by decide +kernel
theorem dX12_isOnLine_104 : decode cX12_isOnLine 104 = .ok (.iload 4, 2) := by decide +kernel
theorem dX12_isOnLine_106 : decode cX12_isOnLine 106 = .ok (.ifCond .ge 7, 3) := by decide +kernel
theorem dX12_isOnLine_109 : decode cX12_isOnLine 109 = .ok (.iconst 1, 1) := by decide +kernel
theorem dX12_isOnLine_110 : decode cX12_isOnLine 110 = .ok (.goto 4, 3) := by decide +kernel
theorem dX12_isOnLine_113 : decode cX12_isOnLine 113 = .ok (.iconst 0, 1) := by decide +kernel
theorem dX12_isOnLine_114 : decode cX12_isOnLine 114 = .ok (.ireturn, 1) := by decide +kernel
theorem dX12_isOnLine_115 : decode cX12_isOnLine 115 = .ok (.iload 4, 2) := by decide +kernel
theorem dX12_isOnLine_117 : decode cX12_isOnLine 117 = .ok (.ifCond .ne 11, 3) := by decide +kernel
theorem dX12_isOnLine_120 : decode cX12_isOnLine 120 = .ok (.iload_n 3, 1) := by decide +kernel
theorem dX12_isOnLine_121 : decode cX12_isOnLine 121 = .ok (.ifCond .le 7, 3) := by decide +kernel
theorem dX12_isOnLine_124 : decode cX12_isOnLine 124 = .ok (.iconst 1, 1) := by decide +kernel
theorem dX12_isOnLine_125 : decode cX12_isOnLine 125 = .ok (.goto 4, 3) := by decide +kernel
theorem dX12_isOnLine_128 : decode cX12_isOnLine 128 = .ok (.iconst 0, 1) := by decide +kernel
theorem dX12_isOnLine_129 : decode cX12_isOnLine 129 = .ok (.ireturn, 1) := by decide +kernel
theorem dX12_isOnLine_130 : decode cX12_isOnLine 130 = .ok (.iload_n 3, 1) := by decide +kernel
theorem dX12_isOnLine_131 : decode cX12_isOnLine 131 = .ok (.ifCond .ne 12, 3) := by decide +kernel
theorem dX12_isOnLine_134 : decode cX12_isOnLine 134 = .ok (.iload 4, 2) := by decide +kernel
theorem dX12_isOnLine_136 : decode cX12_isOnLine 136 = .ok (.ifCond .le 7, 3) := by decide +kernel
theorem dX12_isOnLine_139 : decode cX12_isOnLine 139 = .ok (.iconst 1, 1) := by decide +kernel
theorem dX12_isOnLine_140 : decode cX12_isOnLine 140 = .ok (.goto 4, 3) := by decide +kernel
theorem dX12_isOnLine_143 : decode cX12_isOnLine 143 = .ok (.iconst 0, 1) := by decide +kernel
theorem dX12_isOnLine_144 : decode cX12_isOnLine 144 = .ok (.ireturn, 1) := by decide +kernel
theorem dX12_isOnLine_145 : decode cX12_isOnLine 145 = .ok (.iload 4, 2) := by decide +kernel
theorem dX12_isOnLine_147 : decode cX12_isOnLine 147 = .ok (.ifCond .ne 11, 3) := by decide +kernel
theorem dX12_isOnLine_150 : decode cX12_isOnLine 150 = .ok (.iload_n 3, 1) := by decide +kernel
theorem dX12_isOnLine_151 : decode cX12_isOnLine 151 = .ok (.ifCond .ge 7, 3) := by decide +kernel
theorem dX12_isOnLine_154 : decode cX12_isOnLine 154 = .ok (.iconst 1, 1) := by decide +kernel
theorem dX12_isOnLine_155 : decode cX12_isOnLine 155 = .ok (.goto 4, 3) := by decide +kernel
theorem dX12_isOnLine_158 : decode cX12_isOnLine 158 = .ok (.iconst 0, 1) := by decide +kernel
theorem dX12_isOnLine_159 : decode cX12_isOnLine 159 = .ok (.ireturn, 1) := by decide +kernel
def kX12_isOnLine_159 (n : Nat) : mK := i_rZ
set_option maxRecDepth 20000 in
theorem okX12_isOnLine_159 {E : mE} {X : State → Heap → Prop} {l : Launch} (hX : mXok E X) (n : Nat) : Sd E X l yX12_isOnLine cX12_isOnLine 5 (some .boolean) 1 0 0 0 0 159 (kX12_isOnLine_159 n) := s_rZ dX12_isOnLine_159 (Nat.le_of_ble_eq_true rfl) (Nat.le_of_ble_eq_true rfl)
def kX12_isOnLine_158 (n : Nat) : mK := i_cst (.int (0)) (kX12_isOnLine_159 n)
set_option maxRecDepth 20000 in
theorem okX12_isOnLine_158 {E : mE} {X : State → Heap → Prop} {l : Launch} (hX : mXok E X) (n : Nat) : Sd E X l yX12_isOnLine cX12_isOnLine 5 (some .boolean) 1 0 0 0 0 158 (kX12_isOnLine_158 n) := s_iconst dX12_isOnLine_158 (by decide) (okX12_isOnLine_159 hX n)
def kX12_isOnLine_144 (n : Nat) : mK := i_rZ
set_option maxRecDepth 20000 in
theorem okX12_isOnLine_144 {E : mE} {X : State → Heap → Prop} {l : Launch} (hX : mXok E X) (n : Nat) : Sd E X l yX12_isOnLine cX12_isOnLine 5 (some .boolean) 1 0 0 0 0 144 (kX12_isOnLine_144 n) := s_rZ dX12_isOnLine_144 (Nat.le_of_ble_eq_true rfl) (Nat.le_of_ble_eq_true rfl)
def kX12_isOnLine_143 (n : Nat) : mK := i_cst (.int (0)) (kX12_isOnLine_144 n)
set_option maxRecDepth 20000 in
theorem okX12_isOnLine_143 {E : mE} {X : State → Heap → Prop} {l : Launch} (hX : mXok E X) (n : Nat) : Sd E X l yX12_isOnLine cX12_isOnLine 5 (some .boolean) 1 0 0 0 0 143 (kX12_isOnLine_143 n) := s_iconst dX12_isOnLine_143 (by decide) (okX12_isOnLine_144 hX n)
def kX12_isOnLine_129 (n : Nat) : mK := i_rZ
set_option maxRecDepth 20000 in
theorem okX12_isOnLine_129 {E : mE} {X : State → Heap → Prop} {l : Launch} (hX : mXok E X) (n : Nat) : Sd E X l yX12_isOnLine cX12_isOnLine 5 (some .boolean) 1 0 0 0 0 129 (kX12_isOnLine_129 n) := s_rZ dX12_isOnLine_129 (Nat.le_of_ble_eq_true rfl) (Nat.le_of_ble_eq_true rfl)
def kX12_isOnLine_128 (n : Nat) : mK := i_cst (.int (0)) (kX12_isOnLine_129 n)
set_option maxRecDepth 20000 in
theorem okX12_isOnLine_128 {E : mE} {X : State → Heap → Prop} {l : Launch} (hX : mXok E X) (n : Nat) : Sd E X l yX12_isOnLine cX12_isOnLine 5 (some .boolean) 1 0 0 0 0 128 (kX12_isOnLine_128 n) := s_iconst dX12_isOnLine_128 (by decide) (okX12_isOnLine_129 hX n)
def kX12_isOnLine_114 (n : Nat) : mK := i_rZ
set_option maxRecDepth 20000 in
theorem okX12_isOnLine_114 {E : mE} {X : State → Heap → Prop} {l : Launch} (hX : mXok E X) (n : Nat) : Sd E X l yX12_isOnLine cX12_isOnLine 5 (some .boolean) 1 0 0 0 0 114 (kX12_isOnLine_114 n) := s_rZ dX12_isOnLine_114 (Nat.le_of_ble_eq_true rfl) (Nat.le_of_ble_eq_true rfl)
def kX12_isOnLine_113 (n : Nat) : mK := i_cst (.int (0)) (kX12_isOnLine_114 n)
set_option maxRecDepth 20000 in
theorem okX12_isOnLine_113 {E : mE} {X : State → Heap → Prop} {l : Launch} (hX : mXok E X) (n : Nat) : Sd E X l yX12_isOnLine cX12_isOnLine 5 (some .boolean) 1 0 0 0 0 113 (kX12_isOnLine_113 n) := s_iconst dX12_isOnLine_113 (by decide) (okX12_isOnLine_114 hX n)
def kX12_isOnLine_72 (n : Nat) : mK := i_sw [(0, (i_ldI 3 (i_c0 (fun x => decide (¬ x = 0)) (kX12_isOnLine_113 n) (i_ldI 4 (i_c0 (fun x => decide (0 ≤ x)) (kX12_isOnLine_113 n) (i_cst (.int (1)) ((kX12_isOnLine_114 n)))))))), (1, (i_ldI 4 (i_c0 (fun x => decide (¬ x = 0)) (kX12_isOnLine_128 n) (i_ldI 3 (i_c0 (fun x => decide (x ≤ 0)) (kX12_isOnLine_128 n) (i_cst (.int (1)) ((kX12_isOnLine_129 n)))))))), (2, (i_ldI 3 (i_c0 (fun x => decide (¬ x = 0)) (kX12_isOnLine_143 n) (i_ldI 4 (i_c0 (fun x => decide (x ≤ 0)) (kX12_isOnLine_143 n) (i_cst (.int (1)) ((kX12_isOnLine_144 n))))))))] (i_ldI 4 (i_c0 (fun x => decide (¬ x = 0)) (kX12_isOnLine_158 n) (i_ldI 3 (i_c0 (fun x => decide (0 ≤ x)) (kX12_isOnLine_158 n) (i_cst (.int (1)) ((kX12_isOnLine_159 n)))))))
set_option maxRecDepth 20000 in
theorem okX12_isOnLine_72 {E : mE} {X : State → Heap → Prop} {l : Launch} (hX : mXok E X) (n : Nat) : Sd E X l yX12_isOnLine cX12_isOnLine 5 (some .boolean) 1 0 0 0 0 72 (kX12_isOnLine_72 n) := s_tsw dX12_isOnLine_72 (by decide) (s_iload dX12_isOnLine_145 (s_ifne dX12_isOnLine_147 (by decide) (okX12_isOnLine_158 hX n) (s_iload_n dX12_isOnLine_150 rfl (s_ifge dX12_isOnLine_151 (by decide) (okX12_isOnLine_158 hX n) (s_iconst dX12_isOnLine_154 (by decide) (s_goto dX12_isOnLine_155 (by decide) (okX12_isOnLine_159 hX n))))))) (by decide) (tsw_c (by decide) (by decide) (s_iload_n dX12_isOnLine_100 rfl (s_ifne dX12_isOnLine_101 (by decide) (okX12_isOnLine_113 hX n) (s_iload dX12_isOnLine_104 (s_ifge dX12_isOnLine_106 (by decide) (okX12_isOnLine_113 hX n) (s_iconst dX12_isOnLine_109 (by decide) (s_goto dX12_isOnLine_110 (by decide) (okX12_isOnLine_114 hX n))))))) (tsw_c (by decide) (by decide) (s_iload dX12_isOnLine_115 (s_ifne dX12_isOnLine_117 (by decide) (okX12_isOnLine_128 hX n) (s_iload_n dX12_isOnLine_120 rfl (s_ifle dX12_isOnLine_121 (by decide) (okX12_isOnLine_128 hX n) (s_iconst dX12_isOnLine_124 (by decide) (s_goto dX12_isOnLine_125 (by decide) (okX12_isOnLine_129 hX n))))))) (tsw_c (by decide) (by decide) (s_iload_n dX12_isOnLine_130 rfl (s_ifne dX12_isOnLine_131 (by decide) (okX12_isOnLine_143 hX n) (s_iload dX12_isOnLine_134 (s_ifle dX12_isOnLine_136 (by decide) (okX12_isOnLine_143 hX n) (s_iconst dX12_isOnLine_139 (by decide) (s_goto dX12_isOnLine_140 (by decide) (okX12_isOnLine_144 hX n))))))) tsw_n)))
def kX12_isOnLine_36 (n : Nat) : mK := i_ldA 0 (i_gI 12 31 (i_al 0 (i_dv (fun x y => x / y) (i_ldA 0 (i_gA 12 39 (i_cst (.int (0)) (i_ldI 1 (i_bin (fun x y => x + y) (i_al 0 (i_ldA 0 (i_gA 12 11 (i_ldA 0 (i_gI 12 31 (i_al 0 (i_dv (fun x y => x / y) (i_bin (fun x y => x - y) (i_stI 4 (i_ldA 0 (i_gA 12 39 (i_cst (.int (8)) (i_ldI 1 (i_bin (fun x y => x + y) (i_al 0 (kX12_isOnLine_72 n))))))))))))))))))))))))
set_option maxRecDepth 20000 in
theorem okX12_isOnLine_36 {E : mE} {X : State → Heap → Prop} {l : Launch} (hX : mXok E X) (n : Nat) : Sd E X l yX12_isOnLine cX12_isOnLine 5 (some .boolean) 1 0 0 0 0 36 (kX12_isOnLine_36 n) := s_aload_n dX12_isOnLine_36 rfl (s_gI dX12_isOnLine_37 lFX12_255 (by decide) (s_iald dX12_isOnLine_40 (s_idiv dX12_isOnLine_41 (s_aload_n dX12_isOnLine_42 rfl (s_gA dX12_isOnLine_43 lFX12_82 (s_iconst dX12_isOnLine_46 (by decide) (s_iload_n dX12_isOnLine_47 rfl (s_iadd dX12_isOnLine_48 (s_iald dX12_isOnLine_49 (s_aload_n dX12_isOnLine_50 rfl (s_gA dX12_isOnLine_51 lFX12_20 (s_aload_n dX12_isOnLine_54 rfl (s_gI dX12_isOnLine_55 lFX12_255 (by decide) (s_iald dX12_isOnLine_58 (s_idiv dX12_isOnLine_59 (s_isub dX12_isOnLine_60 (s_istore dX12_isOnLine_61 (s_aload_n dX12_isOnLine_63 rfl (s_gA dX12_isOnLine_64 lFX12_82 (s_bipush dX12_isOnLine_67 (by decide) (s_iload_n dX12_isOnLine_69 rfl (s_iadd dX12_isOnLine_70 (s_iald dX12_isOnLine_71 (okX12_isOnLine_72 hX n))))))))))))))))))))))))
def kX12_isOnLine_0 (n : Nat) : mK := i_ldI 2 (i_ldA 0 (i_gA 12 11 (i_ldA 0 (i_gI 12 31 (i_al 0 (i_dv (fun x y => x - x / y * y) (i_ldA 0 (i_gA 12 39 (i_cst (.int (0)) (i_ldI 1 (i_bin (fun x y => x + y) (i_al 0 (i_ldA 0 (i_gA 12 11 (i_ldA 0 (i_gI 12 31 (i_al 0 (i_dv (fun x y => x - x / y * y) (i_bin (fun x y => x - y) (i_stI 3 (i_ldI 2 (i_ldA 0 (i_gA 12 11 (kX12_isOnLine_36 n))))))))))))))))))))))))
set_option maxRecDepth 20000 in
theorem okX12_isOnLine_0 {E : mE} {X : State → Heap → Prop} {l : Launch} (hX : mXok E X) (n : Nat) : Sd E X l yX12_isOnLine cX12_isOnLine 5 (some .boolean) 1 0 0 0 0 0 (kX12_isOnLine_0 n) := s_iload_n dX12_isOnLine_0 rfl (s_aload_n dX12_isOnLine_1 rfl (s_gA dX12_isOnLine_2 lFX12_20 (s_aload_n dX12_isOnLine_5 rfl (s_gI dX12_isOnLine_6 lFX12_255 (by decide) (s_iald dX12_isOnLine_9 (s_irem dX12_isOnLine_10 (s_aload_n dX12_isOnLine_11 rfl (s_gA dX12_isOnLine_12 lFX12_82 (s_iconst dX12_isOnLine_15 (by decide) (s_iload_n dX12_isOnLine_16 rfl (s_iadd dX12_isOnLine_17 (s_iald dX12_isOnLine_18 (s_aload_n dX12_isOnLine_19 rfl (s_gA dX12_isOnLine_20 lFX12_20 (s_aload_n dX12_isOnLine_23 rfl (s_gI dX12_isOnLine_24 lFX12_255 (by decide) (s_iald dX12_isOnLine_27 (s_irem dX12_isOnLine_28 (s_isub dX12_isOnLine_29 (s_istore_n dX12_isOnLine_30 rfl (s_iload_n dX12_isOnLine_31 rfl (s_aload_n dX12_isOnLine_32 rfl (s_gA dX12_isOnLine_33 lFX12_20 (okX12_isOnLine_36 hX n))))))))))))))))))))))))
def FX12_isOnLine (n : Nat) : List Value → mM → Option mR := mfn 5 (kX12_isOnLine_0 n)
theorem CtX12_isOnLine {E : mE} {X : State → Heap → Prop} {l : Launch} (hX : mXok E X) (n : Nat) : Ct E X l yX12_isOnLine cX12_isOnLine 5 (some .boolean) 1 0 0 (FX12_isOnLine n) := Ct_of (by decide) hX (okX12_isOnLine_0 hX n)
theorem dX12_isSign_0 : decode cX12_isSign 0 = .ok (.iload_n 0, 1) := by decide +kernel
theorem dX12_isSign_1 : decode cX12_isSign 1 = .ok (.bipush 59, 2) := by decide +kernel
theorem dX12_isSign_3 : decode cX12_isSign 3 = .ok (.if_icmp .eq 63, 3) := by decide +kernel
theorem dX12_isSign_6 : decode cX12_isSign 6 = .ok (.iload_n 0, 1) := by decide +kernel
theorem dX12_isSign_7 : decode cX12_isSign 7 = .ok (.bipush 40, 2) := by decide +kernel
theorem dX12_isSign_9 : decode cX12_isSign 9 = .ok (.if_icmp .eq 57, 3) := by decide +kernel
theorem dX12_isSign_12 : decode cX12_isSign 12 = .ok (.iload_n 0, 1) := by decide +kernel
theorem dX12_isSign_13 : decode cX12_isSign 13 = .ok (.bipush 41, 2) := by decide +kernel
theorem dX12_isSign_15 : decode cX12_isSign 15 = .ok (.if_icmp .eq 51, 3) := by decide +kernel
theorem dX12_isSign_18 : decode cX12_isSign 18 = .ok (.iload_n 0, 1) := by decide +kernel
theorem dX12_isSign_19 : decode cX12_isSign 19 = .ok (.bipush 60, 2) := by decide +kernel
theorem dX12_isSign_21 : decode cX12_isSign 21 = .ok (.if_icmp .eq 45, 3) := by decide +kernel
theorem dX12_isSign_24 : decode cX12_isSign 24 = .ok (.iload_n 0, 1) := by decide +kernel
theorem dX12_isSign_25 : decode cX12_isSign 25 = .ok (.bipush 62, 2) := by decide +kernel
theorem dX12_isSign_27 : decode cX12_isSign 27 = .ok (.if_icmp .eq 39, 3) := by decide +kernel
theorem dX12_isSign_30 : decode cX12_isSign 30 = .ok (.iload_n 0, 1) := by decide +kernel
theorem dX12_isSign_31 : decode cX12_isSign 31 = .ok (.bipush 61, 2) := by decide +kernel
theorem dX12_isSign_33 : decode cX12_isSign 33 = .ok (.if_icmp .eq 33, 3) := by decide +kernel
theorem dX12_isSign_36 : decode cX12_isSign 36 = .ok (.iload_n 0, 1) := by decide +kernel
theorem dX12_isSign_37 : decode cX12_isSign 37 = .ok (.bipush 43, 2) := by decide +kernel
theorem dX12_isSign_39 : decode cX12_isSign 39 = .ok (.if_icmp .eq 27, 3) := by decide +kernel
theorem dX12_isSign_42 : decode cX12_isSign 42 = .ok (.iload_n 0, 1) := by decide +kernel
theorem dX12_isSign_43 : decode cX12_isSign 43 = .ok (.bipush 45, 2) := by decide +kernel
theorem dX12_isSign_45 : decode cX12_isSign 45 = .ok (.if_icmp .eq 21, 3) := by decide +kernel
theorem dX12_isSign_48 : decode cX12_isSign 48 = .ok (.iload_n 0, 1) := by decide +kernel
theorem dX12_isSign_49 : decode cX12_isSign 49 = .ok (.bipush 42, 2) := by decide +kernel
theorem dX12_isSign_51 : decode cX12_isSign 51 = .ok (.if_icmp .eq 15, 3) := by decide +kernel
theorem dX12_isSign_54 : decode cX12_isSign 54 = .ok (.iload_n 0, 1) := by decide +kernel
theorem dX12_isSign_55 : decode cX12_isSign 55 = .ok (.bipush 47, 2) := by decide +kernel
theorem dX12_isSign_57 : decode cX12_isSign 57 = .ok (.if_icmp .eq 9, 3) := by decide +kernel
theorem dX12_isSign_60 : decode cX12_isSign 60 = .ok (.iload_n 0, 1) := by decide +kernel
theorem dX12_isSign_61 : decode cX12_isSign 61 = .ok (.bipush 37, 2) := by decide +kernel
theorem dX12_isSign_63 : decode cX12_isSign 63 = .ok (.if_icmp .ne 7, 3) := by decide +kernel
theorem dX12_isSign_66 : decode cX12_isSign 66 = .ok (.iconst 1, 1) := by decide +kernel
theorem dX12_isSign_67 : decode cX12_isSign 67 = .ok (.goto 4, 3) := by decide +kernel
theorem dX12_isSign_70 : decode cX12_isSign 70 = .ok (.iconst 0, 1) := by decide +kernel
theorem dX12_isSign_71 : decode cX12_isSign 71 = .ok (.ireturn, 1) := by decide +kernel
def kX12_isSign_71 (n : Nat) : mK := i_rZ
set_option maxRecDepth 20000 in
theorem okX12_isSign_71 {E : mE} {X : State → Heap → Prop} {l : Launch} (hX : mXok E X) (n : Nat) : Sd E X l yX12_isSign cX12_isSign 1 (some .boolean) 1 0 0 0 0 71 (kX12_isSign_71 n) := s_rZ dX12_isSign_71 (Nat.le_of_ble_eq_true rfl) (Nat.le_of_ble_eq_true rfl)
def kX12_isSign_66 (n : Nat) : mK := i_cst (.int (1)) ((kX12_isSign_71 n))
set_option maxRecDepth 20000 in
theorem okX12_isSign_66 {E : mE} {X : State → Heap → Prop} {l : Launch} (hX : mXok E X) (n : Nat) : Sd E X l yX12_isSign cX12_isSign 1 (some .boolean) 1 0 0 0 0 66 (kX12_isSign_66 n) := s_iconst dX12_isSign_66 (by decide) (s_goto dX12_isSign_67 (by decide) (okX12_isSign_71 hX n))
def kX12_isSign_48 (n : Nat) : mK := i_ldI 0 (i_cst (.int (42)) (i_c2 (fun x y => decide (x = y)) (kX12_isSign_66 n) (i_ldI 0 (i_cst (.int (47)) (i_c2 (fun x y => decide (x = y)) (kX12_isSign_66 n) (i_ldI 0 (i_cst (.int (37)) (i_c2 (fun x y => decide (¬ x = y)) (i_cst (.int (0)) (kX12_isSign_71 n)) (kX12_isSign_66 n)))))))))
set_option maxRecDepth 20000 in
theorem okX12_isSign_48 {E : mE} {X : State → Heap → Prop} {l : Launch} (hX : mXok E X) (n : Nat) : Sd E X l yX12_isSign cX12_isSign 1 (some .boolean) 1 0 0 0 0 48 (kX12_isSign_48 n) := s_iload_n dX12_isSign_48 rfl (s_bipush dX12_isSign_49 (by decide) (s_iceq dX12_isSign_51 (by decide) (okX12_isSign_66 hX n) (s_iload_n dX12_isSign_54 rfl (s_bipush dX12_isSign_55 (by decide) (s_iceq dX12_isSign_57 (by decide) (okX12_isSign_66 hX n) (s_iload_n dX12_isSign_60 rfl (s_bipush dX12_isSign_61 (by decide) (s_icne dX12_isSign_63 (by decide) (s_iconst dX12_isSign_70 (by decide) (okX12_isSign_71 hX n)) (okX12_isSign_66 hX n)))))))))
def kX12_isSign_0 (n : Nat) : mK := i_ldI 0 (i_cst (.int (59)) (i_c2 (fun x y => decide (x = y)) (kX12_isSign_66 n) (i_ldI 0 (i_cst (.int (40)) (i_c2 (fun x y => decide (x = y)) (kX12_isSign_66 n) (i_ldI 0 (i_cst (.int (41)) (i_c2 (fun x y => decide (x = y)) (kX12_isSign_66 n) (i_ldI 0 (i_cst (.int (60)) (i_c2 (fun x y => decide (x = y)) (kX12_isSign_66 n) (i_ldI 0 (i_cst (.int (62)) (i_c2 (fun x y => decide (x = y)) (kX12_isSign_66 n) (i_ldI 0 (i_cst (.int (61)) (i_c2 (fun x y => decide (x = y)) (kX12_isSign_66 n) (i_ldI 0 (i_cst (.int (43)) (i_c2 (fun x y => decide (x = y)) (kX12_isSign_66 n) (i_ldI 0 (i_cst (.int (45)) (i_c2 (fun x y => decide (x = y)) (kX12_isSign_66 n) (kX12_isSign_48 n))))))))))))))))))))))))
set_option maxRecDepth 20000 in
theorem okX12_isSign_0 {E : mE} {X : State → Heap → Prop} {l : Launch} (hX : mXok E X) (n : Nat) : Sd E X l yX12_isSign cX12_isSign 1 (some .boolean) 1 0 0 0 0 0 (kX12_isSign_0 n) := s_iload_n dX12_isSign_0 rfl (s_bipush dX12_isSign_1 (by decide) (s_iceq dX12_isSign_3 (by decide) (okX12_isSign_66 hX n) (s_iload_n dX12_isSign_6 rfl (s_bipush dX12_isSign_7 (by decide) (s_iceq dX12_isSign_9 (by decide) (okX12_isSign_66 hX n) (s_iload_n dX12_isSign_12 rfl (s_bipush dX12_isSign_13 (by decide) (s_iceq dX12_isSign_15 (by decide) (okX12_isSign_66 hX n) (s_iload_n dX12_isSign_18 rfl (s_bipush dX12_isSign_19 (by decide) (s_iceq dX12_isSign_21 (by decide) (okX12_isSign_66 hX n) (s_iload_n dX12_isSign_24 rfl (s_bipush dX12_isSign_25 (by decide) (s_iceq dX12_isSign_27 (by decide) (okX12_isSign_66 hX n) (s_iload_n dX12_isSign_30 rfl (s_bipush dX12_isSign_31 (by decide) (s_iceq dX12_isSign_33 (by decide) (okX12_isSign_66 hX n) (s_iload_n dX12_isSign_36 rfl (s_bipush dX12_isSign_37 (by decide) (s_iceq dX12_isSign_39 (by decide) (okX12_isSign_66 hX n) (s_iload_n dX12_isSign_42 rfl (s_bipush dX12_isSign_43 (by decide) (s_iceq dX12_isSign_45 (by decide) (okX12_isSign_66 hX n) (okX12_isSign_48 hX n))))))))))))))))))))))))
def FX12_isSign (n : Nat) : List Value → mM → Option mR := mfn 1 (kX12_isSign_0 n)
theorem CtX12_isSign {E : mE} {X : State → Heap → Prop} {l : Launch} (hX : mXok E X) (n : Nat) : Ct E X l yX12_isSign cX12_isSign 1 (some .boolean) 1 0 0 (FX12_isSign n) := Ct_of (by decide) hX (okX12_isSign_0 hX n)
theorem dX12_isWord_0 : decode cX12_isWord 0 = .ok (.aload_n 0, 1) := by decide +kernel
theorem dX12_isWord_1 : decode cX12_isWord 1 = .ok (.getfield 197, 3) := by decide +kernel
theorem dX12_isWord_4 : decode cX12_isWord 4 = .ok (.iconst 3, 1) := by decide +kernel
theorem dX12_isWord_5 : decode cX12_isWord 5 = .ok (.if_icmp .ne 16, 3) := by decide +kernel
theorem dX12_isWord_8 : decode cX12_isWord 8 = .ok (.aload_n 0, 1) := by decide +kernel
theorem dX12_isWord_9 : decode cX12_isWord 9 = .ok (.getfield 204, 3) := by decide +kernel
theorem dX12_isWord_12 : decode cX12_isWord 12 = .ok (.lload_n 1, 1) := by decide +kernel
theorem dX12_isWord_13 : decode cX12_isWord 13 = .ok (.lcmp, 1) := by decide +kernel
theorem dX12_isWord_14 : decode cX12_isWord 14 = .ok (.ifCond .ne 7, 3) := by decide +kernel
theorem dX12_isWord_17 : decode cX12_isWord 17 = .ok (.iconst 1, 1) := by decide +kernel
theorem dX12_isWord_18 : decode cX12_isWord 18 = .ok (.goto 4, 3) := by decide +kernel
theorem dX12_isWord_21 : decode cX12_isWord 21 = .ok (.iconst 0, 1) := by decide +kernel
theorem dX12_isWord_22 : decode cX12_isWord 22 = .ok (.ireturn, 1) := by decide +kernel
def kX12_isWord_22 (n : Nat) : mK := i_rZ
set_option maxRecDepth 20000 in
theorem okX12_isWord_22 {E : mE} {X : State → Heap → Prop} {l : Launch} (hX : mXok E X) (n : Nat) : Sd E X l yX12_isWord cX12_isWord 3 (some .boolean) 1 0 0 0 0 22 (kX12_isWord_22 n) := s_rZ dX12_isWord_22 (Nat.le_of_ble_eq_true rfl) (Nat.le_of_ble_eq_true rfl)
def kX12_isWord_21 (n : Nat) : mK := i_cst (.int (0)) (kX12_isWord_22 n)
set_option maxRecDepth 20000 in
theorem okX12_isWord_21 {E : mE} {X : State → Heap → Prop} {l : Launch} (hX : mXok E X) (n : Nat) : Sd E X l yX12_isWord cX12_isWord 3 (some .boolean) 1 0 0 0 0 21 (kX12_isWord_21 n) := s_iconst dX12_isWord_21 (by decide) (okX12_isWord_22 hX n)
def kX12_isWord_0 (n : Nat) : mK := i_ldA 0 (i_gI 12 8 (i_cst (.int (3)) (i_c2 (fun x y => decide (¬ x = y)) (kX12_isWord_21 n) (i_ldA 0 (i_gJ 12 10 (i_ldJ 1 (i_lcmp (i_c0 (fun x => decide (¬ x = 0)) (kX12_isWord_21 n) (i_cst (.int (1)) ((kX12_isWord_22 n)))))))))))
set_option maxRecDepth 20000 in
theorem okX12_isWord_0 {E : mE} {X : State → Heap → Prop} {l : Launch} (hX : mXok E X) (n : Nat) : Sd E X l yX12_isWord cX12_isWord 3 (some .boolean) 1 0 0 0 0 0 (kX12_isWord_0 n) := s_aload_n dX12_isWord_0 rfl (s_gI dX12_isWord_1 lFX12_197 (by decide) (s_iconst dX12_isWord_4 (by decide) (s_icne dX12_isWord_5 (by decide) (okX12_isWord_21 hX n) (s_aload_n dX12_isWord_8 rfl (s_gJ dX12_isWord_9 lFX12_204 (s_lload_n dX12_isWord_12 rfl (s_lcmp dX12_isWord_13 (s_ifne dX12_isWord_14 (by decide) (okX12_isWord_21 hX n) (s_iconst dX12_isWord_17 (by decide) (s_goto dX12_isWord_18 (by decide) (okX12_isWord_22 hX n)))))))))))
def FX12_isWord (n : Nat) : List Value → mM → Option mR := mfn 3 (kX12_isWord_0 n)
theorem CtX12_isWord {E : mE} {X : State → Heap → Prop} {l : Launch} (hX : mXok E X) (n : Nat) : Ct E X l yX12_isWord cX12_isWord 3 (some .boolean) 1 0 0 (FX12_isWord n) := Ct_of (by decide) hX (okX12_isWord_0 hX n)
