theorem dX5_unit_0 : decode cX5_unit 0 = .ok (.aload_n 0, 1) := by decide +kernel
theorem dX5_unit_1 : decode cX5_unit 1 = .ok (.iload_n 1, 1) := by decide +kernel
theorem dX5_unit_2 : decode cX5_unit 2 = .ok (.invokevirtual 182, 3) := by decide +kernel
theorem dX5_unit_5 : decode cX5_unit 5 = .ok (.ifCond .ne 8, 3) := by decide +kernel
theorem dX5_unit_8 : decode cX5_unit 8 = .ok (.aload_n 0, 1) := by decide +kernel
theorem dX5_unit_9 : decode cX5_unit 9 = .ok (.invokevirtual 70, 3) := by decide +kernel
theorem dX5_unit_12 : decode cX5_unit 12 = .ok (.ireturn, 1) := by decide +kernel
theorem dX5_unit_13 : decode cX5_unit 13 = .ok (.aload_n 0, 1) := by decide +kernel
theorem dX5_unit_14 : decode cX5_unit 14 = .ok (.getfield 60, 3) := by decide +kernel
theorem dX5_unit_17 : decode cX5_unit 17 = .ok (.iconst 5, 1) := by decide +kernel
theorem dX5_unit_18 : decode cX5_unit 18 = .ok (.if_icmp .ne 7, 3) := by decide +kernel
theorem dX5_unit_21 : decode cX5_unit 21 = .ok (.iconst 1, 1) := by decide +kernel
theorem dX5_unit_22 : decode cX5_unit 22 = .ok (.goto 4, 3) := by decide +kernel
theorem dX5_unit_25 : decode cX5_unit 25 = .ok (.iconst 0, 1) := by decide +kernel
theorem dX5_unit_26 : decode cX5_unit 26 = .ok (.istore_n 2, 1) := by decide +kernel
theorem dX5_unit_27 : decode cX5_unit 27 = .ok (.aload_n 0, 1) := by decide +kernel
theorem dX5_unit_28 : decode cX5_unit 28 = .ok (.getfield 60, 3) := by decide +kernel
theorem dX5_unit_31 : decode cX5_unit 31 = .ok (.iconst 2, 1) := by decide +kernel
theorem dX5_unit_32 : decode cX5_unit 32 = .ok (.if_icmp .ne 24, 3) := by decide +kernel
theorem dX5_unit_35 : decode cX5_unit 35 = .ok (.aload_n 0, 1) := by decide +kernel
theorem dX5_unit_36 : decode cX5_unit 36 = .ok (.getfield 38, 3) := by decide +kernel
theorem dX5_unit_39 : decode cX5_unit 39 = .ok (.aload_n 0, 1) := by decide +kernel
theorem dX5_unit_40 : decode cX5_unit 40 = .ok (.getfield 24, 3) := by decide +kernel
theorem dX5_unit_43 : decode cX5_unit 43 = .ok (.aload_n 0, 1) := by decide +kernel
theorem dX5_unit_44 : decode cX5_unit 44 = .ok (.getfield 132, 3) := by decide +kernel
theorem dX5_unit_47 : decode cX5_unit 47 = .ok (.invokevirtual 185, 3) := by decide +kernel
theorem dX5_unit_50 : decode cX5_unit 50 = .ok (.invokevirtual 177, 3) := by decide +kernel
theorem dX5_unit_53 : decode cX5_unit 53 = .ok (.goto 19, 3) := by decide +kernel
theorem dX5_unit_56 : decode cX5_unit 56 = .ok (.iload_n 2, 1) := by decide +kernel
theorem dX5_unit_57 : decode cX5_unit 57 = .ok (.ifCond .ne 15, 3) := by decide +kernel
theorem dX5_unit_60 : decode cX5_unit 60 = .ok (.aload_n 0, 1) := by decide +kernel
theorem dX5_unit_61 : decode cX5_unit 61 = .ok (.getfield 38, 3) := by decide +kernel
theorem dX5_unit_64 : decode cX5_unit 64 = .ok (.aload_n 0, 1) := by decide +kernel
theorem dX5_unit_65 : decode cX5_unit 65 = .ok (.getfield 60, 3) := by decide +kernel
theorem dX5_unit_68 : decode cX5_unit 68 = .ok (.ineg, 1) := by decide +kernel
theorem dX5_unit_69 : decode cX5_unit 69 = .ok (.invokevirtual 177, 3) := by decide +kernel
theorem dX5_unit_72 : decode cX5_unit 72 = .ok (.aload_n 0, 1) := by decide +kernel
theorem dX5_unit_73 : decode cX5_unit 73 = .ok (.dup, 1) := by decide +kernel
theorem dX5_unit_74 : decode cX5_unit 74 = .ok (.getfield 161, 3) := by decide +kernel
theorem dX5_unit_77 : decode cX5_unit 77 = .ok (.iconst 1, 1) := by decide +kernel
theorem dX5_unit_78 : decode cX5_unit 78 = .ok (.iadd, 1) := by decide +kernel
theorem dX5_unit_79 : decode cX5_unit 79 = .ok (.putfield 161, 3) := by decide +kernel
theorem dX5_unit_82 : decode cX5_unit 82 = .ok (.aload_n 0, 1) := by decide +kernel
theorem dX5_unit_83 : decode cX5_unit 83 = .ok (.getfield 28, 3) := by decide +kernel
theorem dX5_unit_86 : decode cX5_unit 86 = .ok (.dup, 1) := by decide +kernel
theorem dX5_unit_87 : decode cX5_unit 87 = .ok (.getfield 188, 3) := by decide +kernel
theorem dX5_unit_90 : decode cX5_unit 90 = .ok (.iconst 1, 1) := by decide +kernel
theorem dX5_unit_91 : decode cX5_unit 91 = .ok (.iadd, 1) := by decide +kernel
theorem dX5_unit_92 : decode cX5_unit 92 = .ok (.putfield 188, 3) := by decide +kernel
theorem dX5_unit_95 : decode cX5_unit 95 = .ok (.aload_n 0, 1) := by decide +kernel
theorem dX5_unit_96 : decode cX5_unit 96 = .ok (.invokevirtual 57, 3) := by decide +kernel
theorem dX5_unit_99 : decode cX5_unit 99 = .ok (.iload_n 2, 1) := by decide +kernel
theorem dX5_unit_100 : decode cX5_unit 100 = .ok (.ifCond .eq 23, 3) := by decide +kernel
theorem dX5_unit_103 : decode cX5_unit 103 = .ok (.aload_n 0, 1) := by decide +kernel
theorem dX5_unit_104 : decode cX5_unit 104 = .ok (.iconst 0, 1) := by decide +kernel
theorem dX5_unit_105 : decode cX5_unit 105 = .ok (.iload_n 1, 1) := by decide +kernel
theorem dX5_unit_106 : decode cX5_unit 106 = .ok (.iconst 1, 1) := by decide +kernel
theorem dX5_unit_107 : decode cX5_unit 107 = .ok (.iadd, 1) := by decide +kernel
theorem dX5_unit_108 : decode cX5_unit 108 = .ok (.invokevirtual 164, 3) := by decide +kernel
theorem dX5_unit_111 : decode cX5_unit 111 = .ok (.ifCond .eq 16, 3) := by decide +kernel
theorem dX5_unit_114 : decode cX5_unit 114 = .ok (.aload_n 0, 1) := by decide +kernel
theorem dX5_unit_115 : decode cX5_unit 115 = .ok (.bipush 6, 2) := by decide +kernel
theorem dX5_unit_117 : decode cX5_unit 117 = .ok (.invokevirtual 105, 3) := by decide +kernel
theorem dX5_unit_120 : decode cX5_unit 120 = .ok (.ifCond .eq 7, 3) := by decide +kernel
theorem dX5_unit_123 : decode cX5_unit 123 = .ok (.iconst 1, 1) := by decide +kernel
theorem dX5_unit_124 : decode cX5_unit 124 = .ok (.goto 4, 3) := by decide +kernel
theorem dX5_unit_127 : decode cX5_unit 127 = .ok (.iconst 0, 1) := by decide +kernel
theorem dX5_unit_128 : decode cX5_unit 128 = .ok (.ireturn, 1) := by decide +kernel
def kX5_unit_128 (n : Nat) (P : List Value → mM → Option mR) : mK := i_rZ
set_option maxRecDepth 20000 in
theorem okX5_unit_128 {E : mE} {X : State → Heap → Prop} {l : Launch} (hX : mXok E X) (n : Nat) {hp : Nat} {P : List Value → mM → Option mR} (hP : Ct E X l yX5_part cX5_part 5 (some .boolean) hp 0 0 P) : Sd E X l yX5_unit cX5_unit 3 (some .boolean) (hp + 10) 0 0 0 0 128 (kX5_unit_128 n P) := s_rZ dX5_unit_128 (Nat.le_of_ble_eq_true rfl) (Nat.le_of_ble_eq_true rfl)
def kX5_unit_123 (n : Nat) (P : List Value → mM → Option mR) : mK := i_cst (.int (1)) ((kX5_unit_128 n P))
set_option maxRecDepth 20000 in
theorem okX5_unit_123 {E : mE} {X : State → Heap → Prop} {l : Launch} (hX : mXok E X) (n : Nat) {hp : Nat} {P : List Value → mM → Option mR} (hP : Ct E X l yX5_part cX5_part 5 (some .boolean) hp 0 0 P) : Sd E X l yX5_unit cX5_unit 3 (some .boolean) (hp + 10) 0 0 0 0 123 (kX5_unit_123 n P) := s_iconst dX5_unit_123 (by decide) (s_goto dX5_unit_124 (by decide) (okX5_unit_128 hX n hP))
def kX5_unit_127 (n : Nat) (P : List Value → mM → Option mR) : mK := i_cst (.int (0)) (kX5_unit_128 n P)
set_option maxRecDepth 20000 in
theorem okX5_unit_127 {E : mE} {X : State → Heap → Prop} {l : Launch} (hX : mXok E X) (n : Nat) {hp : Nat} {P : List Value → mM → Option mR} (hP : Ct E X l yX5_part cX5_part 5 (some .boolean) hp 0 0 P) : Sd E X l yX5_unit cX5_unit 3 (some .boolean) (hp + 10) 0 0 0 0 127 (kX5_unit_127 n P) := s_iconst dX5_unit_127 (by decide) (okX5_unit_128 hX n hP)
def kX5_unit_114 (n : Nat) (P : List Value → mM → Option mR) : mK := i_ldA 0 (i_cst (.int (6)) (i_cV 5 1 (FX5_take n) (i_c0 (fun x => decide (x = 0)) (kX5_unit_127 n P) (kX5_unit_123 n P))))
set_option maxRecDepth 20000 in
theorem okX5_unit_114 {E : mE} {X : State → Heap → Prop} {l : Launch} (hX : mXok E X) (n : Nat) {hp : Nat} {P : List Value → mM → Option mR} (hP : Ct E X l yX5_part cX5_part 5 (some .boolean) hp 0 0 P) : Sd E X l yX5_unit cX5_unit 3 (some .boolean) (hp + 10) 0 0 0 0 114 (kX5_unit_114 n P) := s_aload_n dX5_unit_114 rfl (s_bipush dX5_unit_115 (by decide) (s_cV dX5_unit_117 lMX5_105 bVX5_take rfl (CtX5_take hX n) (by omega) (s_ifeq dX5_unit_120 (by decide) (okX5_unit_127 hX n hP) (okX5_unit_123 hX n hP)) (Nat.le_of_ble_eq_true rfl) (Nat.le_of_ble_eq_true rfl)))
def kX5_unit_72 (n : Nat) (P : List Value → mM → Option mR) : mK := i_ldA 0 (i_dup (i_gI 5 10 (i_cst (.int (1)) (i_bin (fun x y => x + y) (i_pI 5 10 (i_ldA 0 (i_gA 5 1 (i_dup (i_gI 4 5 (i_cst (.int (1)) (i_bin (fun x y => x + y) (i_pI 4 5 (i_ldA 0 (i_cV 5 0 (FX5_advance n) (i_ldI 2 (i_c0 (fun x => decide (x = 0)) (kX5_unit_123 n P) (i_ldA 0 (i_cst (.int (0)) (i_ldI 1 (i_cst (.int (1)) (i_bin (fun x y => x + y) (i_cV 5 2 P (i_c0 (fun x => decide (x = 0)) (kX5_unit_127 n P) (kX5_unit_114 n P))))))))))))))))))))))))
set_option maxRecDepth 20000 in
theorem okX5_unit_72 {E : mE} {X : State → Heap → Prop} {l : Launch} (hX : mXok E X) (n : Nat) {hp : Nat} {P : List Value → mM → Option mR} (hP : Ct E X l yX5_part cX5_part 5 (some .boolean) hp 0 0 P) : Sd E X l yX5_unit cX5_unit 3 (some .boolean) (hp + 10) 0 0 0 0 72 (kX5_unit_72 n P) := s_aload_n dX5_unit_72 rfl (s_dup dX5_unit_73 (s_gI dX5_unit_74 lFX5_161 (by decide) (s_iconst dX5_unit_77 (by decide) (s_iadd dX5_unit_78 (s_pI dX5_unit_79 lFX5_161 (s_aload_n dX5_unit_82 rfl (s_gA dX5_unit_83 lFX5_28 (s_dup dX5_unit_86 (s_gI dX5_unit_87 lFX5_188 (by decide) (s_iconst dX5_unit_90 (by decide) (s_iadd dX5_unit_91 (s_pI dX5_unit_92 lFX5_188 (s_aload_n dX5_unit_95 rfl (s_cV dX5_unit_96 lMX5_57 bVX5_advance rfl (CtX5_advance hX n) (by omega) (s_iload_n dX5_unit_99 rfl (s_ifeq dX5_unit_100 (by decide) (okX5_unit_123 hX n hP) (s_aload_n dX5_unit_103 rfl (s_iconst dX5_unit_104 (by decide) (s_iload_n dX5_unit_105 rfl (s_iconst dX5_unit_106 (by decide) (s_iadd dX5_unit_107 (s_cV dX5_unit_108 lMX5_164 bVX5_part rfl hP (by omega) (s_ifeq dX5_unit_111 (by decide) (okX5_unit_127 hX n hP) (okX5_unit_114 hX n hP)) (Nat.le_of_ble_eq_true rfl) (Nat.le_of_ble_eq_true rfl))))))))) (Nat.le_of_ble_eq_true rfl) (Nat.le_of_ble_eq_true rfl)))))))))))))))
def kX5_unit_26 (n : Nat) (P : List Value → mM → Option mR) : mK := i_stI 2 (i_ldA 0 (i_gI 5 5 (i_cst (.int (2)) (i_c2 (fun x y => decide (¬ x = y)) (i_ldI 2 (i_c0 (fun x => decide (¬ x = 0)) (kX5_unit_72 n P) (i_ldA 0 (i_gA 5 3 (i_ldA 0 (i_gI 5 5 (i_un (fun x => -x) (i_cV 1 1 (FX1_add n) (kX5_unit_72 n P))))))))) (i_ldA 0 (i_gA 5 3 (i_ldA 0 (i_gA 5 0 (i_ldA 0 (i_gI 5 6 (i_cV 9 1 (FX9_numberFrom n) (i_cV 1 1 (FX1_add n) ((kX5_unit_72 n P))))))))))))))
set_option maxRecDepth 20000 in
theorem okX5_unit_26 {E : mE} {X : State → Heap → Prop} {l : Launch} (hX : mXok E X) (n : Nat) {hp : Nat} {P : List Value → mM → Option mR} (hP : Ct E X l yX5_part cX5_part 5 (some .boolean) hp 0 0 P) : Sd E X l yX5_unit cX5_unit 3 (some .boolean) (hp + 10) 0 0 0 0 26 (kX5_unit_26 n P) := s_istore_n dX5_unit_26 rfl (s_aload_n dX5_unit_27 rfl (s_gI dX5_unit_28 lFX5_60 (by decide) (s_iconst dX5_unit_31 (by decide) (s_icne dX5_unit_32 (by decide) (s_iload_n dX5_unit_56 rfl (s_ifne dX5_unit_57 (by decide) (okX5_unit_72 hX n hP) (s_aload_n dX5_unit_60 rfl (s_gA dX5_unit_61 lFX5_38 (s_aload_n dX5_unit_64 rfl (s_gI dX5_unit_65 lFX5_60 (by decide) (s_ineg dX5_unit_68 (s_cV dX5_unit_69 lMX5_177 bVX1_add rfl (CtX1_add hX n) (by omega) (okX5_unit_72 hX n hP) (Nat.le_of_ble_eq_true rfl) (Nat.le_of_ble_eq_true rfl))))))))) (s_aload_n dX5_unit_35 rfl (s_gA dX5_unit_36 lFX5_38 (s_aload_n dX5_unit_39 rfl (s_gA dX5_unit_40 lFX5_24 (s_aload_n dX5_unit_43 rfl (s_gI dX5_unit_44 lFX5_132 (by decide) (s_cV dX5_unit_47 lMX5_185 bVX9_numberFrom rfl (CtX9_numberFrom hX n) (by omega) (s_cV dX5_unit_50 lMX5_177 bVX1_add rfl (CtX1_add hX n) (by omega) (s_goto dX5_unit_53 (by decide) (okX5_unit_72 hX n hP)) (Nat.le_of_ble_eq_true rfl) (Nat.le_of_ble_eq_true rfl)) (Nat.le_of_ble_eq_true rfl) (Nat.le_of_ble_eq_true rfl))))))))))))
def kX5_unit_0 (n : Nat) (P : List Value → mM → Option mR) : mK := i_ldA 0 (i_ldI 1 (i_cV 5 1 (FX5_startsUnit n) (i_c0 (fun x => decide (¬ x = 0)) (i_ldA 0 (i_gI 5 5 (i_cst (.int (5)) (i_c2 (fun x y => decide (¬ x = y)) (i_cst (.int (0)) (kX5_unit_26 n P)) (i_cst (.int (1)) ((kX5_unit_26 n P))))))) (i_ldA 0 (i_cV 5 0 (FX5_refuse n) (i_rZ))))))
set_option maxRecDepth 20000 in
theorem okX5_unit_0 {E : mE} {X : State → Heap → Prop} {l : Launch} (hX : mXok E X) (n : Nat) {hp : Nat} {P : List Value → mM → Option mR} (hP : Ct E X l yX5_part cX5_part 5 (some .boolean) hp 0 0 P) : Sd E X l yX5_unit cX5_unit 3 (some .boolean) (hp + 10) 0 0 0 0 0 (kX5_unit_0 n P) := s_aload_n dX5_unit_0 rfl (s_iload_n dX5_unit_1 rfl (s_cV dX5_unit_2 lMX5_182 bVX5_startsUnit rfl (CtX5_startsUnit hX n) (by omega) (s_ifne dX5_unit_5 (by decide) (s_aload_n dX5_unit_13 rfl (s_gI dX5_unit_14 lFX5_60 (by decide) (s_iconst dX5_unit_17 (by decide) (s_icne dX5_unit_18 (by decide) (s_iconst dX5_unit_25 (by decide) (okX5_unit_26 hX n hP)) (s_iconst dX5_unit_21 (by decide) (s_goto dX5_unit_22 (by decide) (okX5_unit_26 hX n hP))))))) (s_aload_n dX5_unit_8 rfl (s_cV dX5_unit_9 lMX5_70 bVX5_refuse rfl (CtX5_refuse hX n) (by omega) (s_rZ dX5_unit_12 (Nat.le_of_ble_eq_true rfl) (Nat.le_of_ble_eq_true rfl)) (Nat.le_of_ble_eq_true rfl) (Nat.le_of_ble_eq_true rfl)))) (Nat.le_of_ble_eq_true rfl) (Nat.le_of_ble_eq_true rfl)))
def FX5_unit (n : Nat) (P : List Value → mM → Option mR) : List Value → mM → Option mR := mfn 3 (kX5_unit_0 n P)
theorem CtX5_unit {E : mE} {X : State → Heap → Prop} {l : Launch} (hX : mXok E X) (n : Nat) {hp : Nat} {P : List Value → mM → Option mR} (hP : Ct E X l yX5_part cX5_part 5 (some .boolean) hp 0 0 P) : Ct E X l yX5_unit cX5_unit 3 (some .boolean) (hp + 10) 0 0 (FX5_unit n P) := Ct_of (by decide) hX (okX5_unit_0 hX n hP)
theorem dX5_negation_0 : decode cX5_negation 0 = .ok (.iload_n 1, 1) := by decide +kernel
theorem dX5_negation_1 : decode cX5_negation 1 = .ok (.bipush 6, 2) := by decide +kernel
theorem dX5_negation_3 : decode cX5_negation 3 = .ok (.if_icmp .le 8, 3) := by decide +kernel
theorem dX5_negation_6 : decode cX5_negation 6 = .ok (.aload_n 0, 1) := by decide +kernel
theorem dX5_negation_7 : decode cX5_negation 7 = .ok (.invokevirtual 70, 3) := by decide +kernel
theorem dX5_negation_10 : decode cX5_negation 10 = .ok (.ireturn, 1) := by decide +kernel
theorem dX5_negation_11 : decode cX5_negation 11 = .ok (.aload_n 0, 1) := by decide +kernel
theorem dX5_negation_12 : decode cX5_negation 12 = .ok (.invokevirtual 57, 3) := by decide +kernel
theorem dX5_negation_15 : decode cX5_negation 15 = .ok (.aload_n 0, 1) := by decide +kernel
theorem dX5_negation_16 : decode cX5_negation 16 = .ok (.iconst 2, 1) := by decide +kernel
theorem dX5_negation_17 : decode cX5_negation 17 = .ok (.iload_n 1, 1) := by decide +kernel
theorem dX5_negation_18 : decode cX5_negation 18 = .ok (.iconst 1, 1) := by decide +kernel
theorem dX5_negation_19 : decode cX5_negation 19 = .ok (.iadd, 1) := by decide +kernel
theorem dX5_negation_20 : decode cX5_negation 20 = .ok (.invokevirtual 164, 3) := by decide +kernel
theorem dX5_negation_23 : decode cX5_negation 23 = .ok (.ifCond .ne 5, 3) := by decide +kernel
theorem dX5_negation_26 : decode cX5_negation 26 = .ok (.iconst 0, 1) := by decide +kernel
theorem dX5_negation_27 : decode cX5_negation 27 = .ok (.ireturn, 1) := by decide +kernel
theorem dX5_negation_28 : decode cX5_negation 28 = .ok (.aload_n 0, 1) := by decide +kernel
theorem dX5_negation_29 : decode cX5_negation 29 = .ok (.getfield 38, 3) := by decide +kernel
theorem dX5_negation_32 : decode cX5_negation 32 = .ok (.bipush (-28), 2) := by decide +kernel
theorem dX5_negation_34 : decode cX5_negation 34 = .ok (.invokevirtual 177, 3) := by decide +kernel
theorem dX5_negation_37 : decode cX5_negation 37 = .ok (.iconst 1, 1) := by decide +kernel
theorem dX5_negation_38 : decode cX5_negation 38 = .ok (.ireturn, 1) := by decide +kernel
def kX5_negation_0 (n : Nat) (P : List Value → mM → Option mR) : mK := i_ldI 1 (i_cst (.int (6)) (i_c2 (fun x y => decide (x ≤ y)) (i_ldA 0 (i_cV 5 0 (FX5_advance n) (i_ldA 0 (i_cst (.int (2)) (i_ldI 1 (i_cst (.int (1)) (i_bin (fun x y => x + y) (i_cV 5 2 P (i_c0 (fun x => decide (¬ x = 0)) (i_ldA 0 (i_gA 5 3 (i_cst (.int (-28)) (i_cV 1 1 (FX1_add n) (i_cst (.int (1)) (i_rZ)))))) (i_cst (.int (0)) (i_rZ))))))))))) (i_ldA 0 (i_cV 5 0 (FX5_refuse n) (i_rZ)))))
set_option maxRecDepth 20000 in
theorem okX5_negation_0 {E : mE} {X : State → Heap → Prop} {l : Launch} (hX : mXok E X) (n : Nat) {hp : Nat} {P : List Value → mM → Option mR} (hP : Ct E X l yX5_part cX5_part 5 (some .boolean) hp 0 0 P) : Sd E X l yX5_negation cX5_negation 2 (some .boolean) (hp + 10) 0 0 0 0 0 (kX5_negation_0 n P) := s_iload_n dX5_negation_0 rfl (s_bipush dX5_negation_1 (by decide) (s_icle dX5_negation_3 (by decide) (s_aload_n dX5_negation_11 rfl (s_cV dX5_negation_12 lMX5_57 bVX5_advance rfl (CtX5_advance hX n) (by omega) (s_aload_n dX5_negation_15 rfl (s_iconst dX5_negation_16 (by decide) (s_iload_n dX5_negation_17 rfl (s_iconst dX5_negation_18 (by decide) (s_iadd dX5_negation_19 (s_cV dX5_negation_20 lMX5_164 bVX5_part rfl hP (by omega) (s_ifne dX5_negation_23 (by decide) (s_aload_n dX5_negation_28 rfl (s_gA dX5_negation_29 lFX5_38 (s_bipush dX5_negation_32 (by decide) (s_cV dX5_negation_34 lMX5_177 bVX1_add rfl (CtX1_add hX n) (by omega) (s_iconst dX5_negation_37 (by decide) (s_rZ dX5_negation_38 (Nat.le_of_ble_eq_true rfl) (Nat.le_of_ble_eq_true rfl))) (Nat.le_of_ble_eq_true rfl) (Nat.le_of_ble_eq_true rfl))))) (s_iconst dX5_negation_26 (by decide) (s_rZ dX5_negation_27 (Nat.le_of_ble_eq_true rfl) (Nat.le_of_ble_eq_true rfl)))) (Nat.le_of_ble_eq_true rfl) (Nat.le_of_ble_eq_true rfl))))))) (Nat.le_of_ble_eq_true rfl) (Nat.le_of_ble_eq_true rfl))) (s_aload_n dX5_negation_6 rfl (s_cV dX5_negation_7 lMX5_70 bVX5_refuse rfl (CtX5_refuse hX n) (by omega) (s_rZ dX5_negation_10 (Nat.le_of_ble_eq_true rfl) (Nat.le_of_ble_eq_true rfl)) (Nat.le_of_ble_eq_true rfl) (Nat.le_of_ble_eq_true rfl)))))
def FX5_negation (n : Nat) (P : List Value → mM → Option mR) : List Value → mM → Option mR := mfn 2 (kX5_negation_0 n P)
theorem CtX5_negation {E : mE} {X : State → Heap → Prop} {l : Launch} (hX : mXok E X) (n : Nat) {hp : Nat} {P : List Value → mM → Option mR} (hP : Ct E X l yX5_part cX5_part 5 (some .boolean) hp 0 0 P) : Ct E X l yX5_negation cX5_negation 2 (some .boolean) (hp + 10) 0 0 (FX5_negation n P) := Ct_of (by decide) hX (okX5_negation_0 hX n hP)
theorem dX5_part_0 : decode cX5_part 0 = .ok (.iload_n 1, 1) := by decide +kernel
theorem dX5_part_1 : decode cX5_part 1 = .ok (.iconst 5, 1) := by decide +kernel
theorem dX5_part_2 : decode cX5_part 2 = .ok (.if_icmp .lt 9, 3) := by decide +kernel
theorem dX5_part_5 : decode cX5_part 5 = .ok (.aload_n 0, 1) := by decide +kernel
theorem dX5_part_6 : decode cX5_part 6 = .ok (.iload_n 2, 1) := by decide +kernel
theorem dX5_part_7 : decode cX5_part 7 = .ok (.invokevirtual 167, 3) := by decide +kernel
theorem dX5_part_10 : decode cX5_part 10 = .ok (.ireturn, 1) := by decide +kernel
theorem dX5_part_11 : decode cX5_part 11 = .ok (.iload_n 1, 1) := by decide +kernel
theorem dX5_part_12 : decode cX5_part 12 = .ok (.iconst 2, 1) := by decide +kernel
theorem dX5_part_13 : decode cX5_part 13 = .ok (.if_icmp .ne 18, 3) := by decide +kernel
theorem dX5_part_16 : decode cX5_part 16 = .ok (.aload_n 0, 1) := by decide +kernel
theorem dX5_part_17 : decode cX5_part 17 = .ok (.getfield 60, 3) := by decide +kernel
theorem dX5_part_20 : decode cX5_part 20 = .ok (.bipush 28, 2) := by decide +kernel
theorem dX5_part_22 : decode cX5_part 22 = .ok (.if_icmp .ne 9, 3) := by decide +kernel
theorem dX5_part_25 : decode cX5_part 25 = .ok (.aload_n 0, 1) := by decide +kernel
theorem dX5_part_26 : decode cX5_part 26 = .ok (.iload_n 2, 1) := by decide +kernel
theorem dX5_part_27 : decode cX5_part 27 = .ok (.invokevirtual 170, 3) := by decide +kernel
theorem dX5_part_30 : decode cX5_part 30 = .ok (.ireturn, 1) := by decide +kernel
theorem dX5_part_31 : decode cX5_part 31 = .ok (.aload_n 0, 1) := by decide +kernel
theorem dX5_part_32 : decode cX5_part 32 = .ok (.iload_n 1, 1) := by decide +kernel
theorem dX5_part_33 : decode cX5_part 33 = .ok (.iconst 1, 1) := by decide +kernel
theorem dX5_part_34 : decode cX5_part 34 = .ok (.iadd, 1) := by decide +kernel
theorem dX5_part_35 : decode cX5_part 35 = .ok (.iload_n 2, 1) := by decide +kernel
theorem dX5_part_36 : decode cX5_part 36 = .ok (.invokevirtual 164, 3) := by decide +kernel
theorem dX5_part_39 : decode cX5_part 39 = .ok (.ifCond .ne 5, 3) := by decide +kernel
theorem dX5_part_42 : decode cX5_part 42 = .ok (.iconst 0, 1) := by decide +kernel
theorem dX5_part_43 : decode cX5_part 43 = .ok (.ireturn, 1) := by decide +kernel
theorem dX5_part_44 : decode cX5_part 44 = .ok (.iconst 0, 1) := by decide +kernel
theorem dX5_part_45 : decode cX5_part 45 = .ok (.istore_n 3, 1) := by decide +kernel
theorem dX5_part_46 : decode cX5_part 46 = .ok (.iload_n 3, 1) := by decide +kernel
theorem dX5_part_47 : decode cX5_part 47 = .ok (.bipush 60, 2) := by decide +kernel
theorem dX5_part_49 : decode cX5_part 49 = .ok (.if_icmp .ge 60, 3) := by decide +kernel
theorem dX5_part_52 : decode cX5_part 52 = .ok (.aload_n 0, 1) := by decide +kernel
theorem dX5_part_53 : decode cX5_part 53 = .ok (.getfield 60, 3) := by decide +kernel
theorem dX5_part_56 : decode cX5_part 56 = .ok (.invokestatic 173, 3) := by decide +kernel
theorem dX5_part_59 : decode cX5_part 59 = .ok (.iload_n 1, 1) := by decide +kernel
theorem dX5_part_60 : decode cX5_part 60 = .ok (.if_icmp .ne 49, 3) := by decide +kernel
theorem dX5_part_63 : decode cX5_part 63 = .ok (.aload_n 0, 1) := by decide +kernel
theorem dX5_part_64 : decode cX5_part 64 = .ok (.getfield 60, 3) := by decide +kernel
theorem dX5_part_67 : decode cX5_part 67 = .ok (.istore 4, 2) := by decide +kernel
theorem dX5_part_69 : decode cX5_part 69 = .ok (.aload_n 0, 1) := by decide +kernel
theorem dX5_part_70 : decode cX5_part 70 = .ok (.invokevirtual 57, 3) := by decide +kernel
theorem dX5_part_73 : decode cX5_part 73 = .ok (.aload_n 0, 1) := by decide +kernel
theorem dX5_part_74 : decode cX5_part 74 = .ok (.iload_n 1, 1) := by decide +kernel
theorem dX5_part_75 : decode cX5_part 75 = .ok (.iconst 1, 1) := by decide +kernel
theorem dX5_part_76 : decode cX5_part 76 = .ok (.iadd, 1) := by decide +kernel
theorem dX5_part_77 : decode cX5_part 77 = .ok (.iload_n 2, 1) := by decide +kernel
theorem dX5_part_78 : decode cX5_part 78 = .ok (.invokevirtual 164, 3) := by decide +kernel
theorem dX5_part_81 : decode cX5_part 81 = .ok (.ifCond .ne 5, 3) := by decide +kernel
theorem dX5_part_84 : decode cX5_part 84 = .ok (.iconst 0, 1) := by decide +kernel
theorem dX5_part_85 : decode cX5_part 85 = .ok (.ireturn, 1) := by decide +kernel
theorem dX5_part_86 : decode cX5_part 86 = .ok (.aload_n 0, 1) := by decide +kernel
theorem dX5_part_87 : decode cX5_part 87 = .ok (.getfield 38, 3) := by decide +kernel
theorem dX5_part_90 : decode cX5_part 90 = .ok (.iload 4, 2) := by decide +kernel
theorem dX5_part_92 : decode cX5_part 92 = .ok (.ineg, 1) := by decide +kernel
theorem dX5_part_93 : decode cX5_part 93 = .ok (.invokevirtual 177, 3) := by decide +kernel
theorem dX5_part_96 : decode cX5_part 96 = .ok (.iload_n 1, 1) := by decide +kernel
theorem dX5_part_97 : decode cX5_part 97 = .ok (.iconst 2, 1) := by decide +kernel
theorem dX5_part_98 : decode cX5_part 98 = .ok (.if_icmp .ne 5, 3) := by decide +kernel
theorem dX5_part_101 : decode cX5_part 101 = .ok (.iconst 1, 1) := by decide +kernel
theorem dX5_part_102 : decode cX5_part 102 = .ok (.ireturn, 1) := by decide +kernel
theorem dX5_part_103 : decode cX5_part 103 = .ok (.iinc 3 1, 3) := by decide +kernel
theorem dX5_part_106 : decode cX5_part 106 = .ok (.goto (-60), 3) := by decide +kernel
theorem dX5_part_109 : decode cX5_part 109 = .ok (.iconst 1, 1) := by decide +kernel
theorem dX5_part_110 : decode cX5_part 110 = .ok (.ireturn, 1) := by decide +kernel
def kX5_part_109 (n : Nat) (P : List Value → mM → Option mR) : mK := i_cst (.int (1)) (i_rZ)
set_option maxRecDepth 20000 in
theorem okX5_part_109 {E : mE} {X : State → Heap → Prop} {l : Launch} (hX : mXok E X) (n : Nat) {hp : Nat} {P : List Value → mM → Option mR} (hP : Ct E X l yX5_part cX5_part 5 (some .boolean) hp 0 0 P) : Sd E X l yX5_part cX5_part 5 (some .boolean) (hp + 20) 0 0 0 0 109 (kX5_part_109 n P) := s_iconst dX5_part_109 (by decide) (s_rZ dX5_part_110 (Nat.le_of_ble_eq_true rfl) (Nat.le_of_ble_eq_true rfl))
def kX5_part_93 (n : Nat) (P : List Value → mM → Option mR) (r46 : mK) : mK := i_cV 1 1 (FX1_add n) (i_ldI 1 (i_cst (.int (2)) (i_c2 (fun x y => decide (¬ x = y)) (i_inc 3 (1) (r46)) (i_cst (.int (1)) (i_rZ)))))
set_option maxRecDepth 20000 in
theorem okX5_part_93 {E : mE} {X : State → Heap → Prop} {l : Launch} (hX : mXok E X) (n : Nat) {hp : Nat} {P : List Value → mM → Option mR} (hP : Ct E X l yX5_part cX5_part 5 (some .boolean) hp 0 0 P) {r46 : mK} (h46 : Sd E X l yX5_part cX5_part 5 (some .boolean) (hp + 20) 0 0 0 0 46 r46) : Sd E X l yX5_part cX5_part 5 (some .boolean) (hp + 20) 0 0 0 0 93 (kX5_part_93 n P r46) := s_cV dX5_part_93 lMX5_177 bVX1_add rfl (CtX1_add hX n) (by omega) (s_iload_n dX5_part_96 rfl (s_iconst dX5_part_97 (by decide) (s_icne dX5_part_98 (by decide) (s_iinc dX5_part_103 (by decide) (s_goto dX5_part_106 (by decide) h46)) (s_iconst dX5_part_101 (by decide) (s_rZ dX5_part_102 (Nat.le_of_ble_eq_true rfl) (Nat.le_of_ble_eq_true rfl)))))) (Nat.le_of_ble_eq_true rfl) (Nat.le_of_ble_eq_true rfl)
def kX5_part_46 (n : Nat) (P : List Value → mM → Option mR) (r46 : mK) : mK := i_ldI 3 (i_cst (.int (60)) (i_c2 (fun x y => decide (y ≤ x)) (kX5_part_109 n P) (i_ldA 0 (i_gI 5 5 (i_cS 1 (FX5_levelOf n) (i_ldI 1 (i_c2 (fun x y => decide (¬ x = y)) (kX5_part_109 n P) (i_ldA 0 (i_gI 5 5 (i_stI 4 (i_ldA 0 (i_cV 5 0 (FX5_advance n) (i_ldA 0 (i_ldI 1 (i_cst (.int (1)) (i_bin (fun x y => x + y) (i_ldI 2 (i_cV 5 2 P (i_c0 (fun x => decide (¬ x = 0)) (i_ldA 0 (i_gA 5 3 (i_ldI 4 (i_un (fun x => -x) (kX5_part_93 n P r46))))) (i_cst (.int (0)) (i_rZ)))))))))))))))))))))
set_option maxRecDepth 20000 in
theorem okX5_part_46 {E : mE} {X : State → Heap → Prop} {l : Launch} (hX : mXok E X) (n : Nat) {hp : Nat} {P : List Value → mM → Option mR} (hP : Ct E X l yX5_part cX5_part 5 (some .boolean) hp 0 0 P) {r46 : mK} (h46 : Sd E X l yX5_part cX5_part 5 (some .boolean) (hp + 20) 0 0 0 0 46 r46) : Sd E X l yX5_part cX5_part 5 (some .boolean) (hp + 20) 0 0 0 0 46 (kX5_part_46 n P r46) := s_iload_n dX5_part_46 rfl (s_bipush dX5_part_47 (by decide) (s_icge dX5_part_49 (by decide) (okX5_part_109 hX n hP) (s_aload_n dX5_part_52 rfl (s_gI dX5_part_53 lFX5_60 (by decide) (s_cS dX5_part_56 lMX5_173 bSX5_levelOf (CtX5_levelOf hX n) (by omega) (s_iload_n dX5_part_59 rfl (s_icne dX5_part_60 (by decide) (okX5_part_109 hX n hP) (s_aload_n dX5_part_63 rfl (s_gI dX5_part_64 lFX5_60 (by decide) (s_istore dX5_part_67 (s_aload_n dX5_part_69 rfl (s_cV dX5_part_70 lMX5_57 bVX5_advance rfl (CtX5_advance hX n) (by omega) (s_aload_n dX5_part_73 rfl (s_iload_n dX5_part_74 rfl (s_iconst dX5_part_75 (by decide) (s_iadd dX5_part_76 (s_iload_n dX5_part_77 rfl (s_cV dX5_part_78 lMX5_164 bVX5_part rfl hP (by omega) (s_ifne dX5_part_81 (by decide) (s_aload_n dX5_part_86 rfl (s_gA dX5_part_87 lFX5_38 (s_iload dX5_part_90 (s_ineg dX5_part_92 (okX5_part_93 hX n hP h46))))) (s_iconst dX5_part_84 (by decide) (s_rZ dX5_part_85 (Nat.le_of_ble_eq_true rfl) (Nat.le_of_ble_eq_true rfl)))) (Nat.le_of_ble_eq_true rfl) (Nat.le_of_ble_eq_true rfl))))))) (Nat.le_of_ble_eq_true rfl) (Nat.le_of_ble_eq_true rfl)))))))) (Nat.le_of_ble_eq_true rfl) (Nat.le_of_ble_eq_true rfl))))))
def kX5_part_31 (n : Nat) (P : List Value → mM → Option mR) : mK := i_ldA 0 (i_ldI 1 (i_cst (.int (1)) (i_bin (fun x y => x + y) (i_ldI 2 (i_cV 5 2 P (i_c0 (fun x => decide (¬ x = 0)) (i_cst (.int (0)) (i_stI 3 (mit (kX5_part_46 n P ) n))) (i_cst (.int (0)) (i_rZ))))))))
set_option maxRecDepth 20000 in
theorem okX5_part_31 {E : mE} {X : State → Heap → Prop} {l : Launch} (hX : mXok E X) (n : Nat) {hp : Nat} {P : List Value → mM → Option mR} (hP : Ct E X l yX5_part cX5_part 5 (some .boolean) hp 0 0 P) : Sd E X l yX5_part cX5_part 5 (some .boolean) (hp + 20) 0 0 0 0 31 (kX5_part_31 n P) := s_aload_n dX5_part_31 rfl (s_iload_n dX5_part_32 rfl (s_iconst dX5_part_33 (by decide) (s_iadd dX5_part_34 (s_iload_n dX5_part_35 rfl (s_cV dX5_part_36 lMX5_164 bVX5_part rfl hP (by omega) (s_ifne dX5_part_39 (by decide) (s_iconst dX5_part_44 (by decide) (s_istore_n dX5_part_45 rfl (s_mit (fun _ hk => okX5_part_46 hX n hP hk) n))) (s_iconst dX5_part_42 (by decide) (s_rZ dX5_part_43 (Nat.le_of_ble_eq_true rfl) (Nat.le_of_ble_eq_true rfl)))) (Nat.le_of_ble_eq_true rfl) (Nat.le_of_ble_eq_true rfl))))))
def kX5_part_0 (n : Nat) (P : List Value → mM → Option mR) : mK := i_ldI 1 (i_cst (.int (5)) (i_c2 (fun x y => decide (x < y)) (i_ldI 1 (i_cst (.int (2)) (i_c2 (fun x y => decide (¬ x = y)) (kX5_part_31 n P) (i_ldA 0 (i_gI 5 5 (i_cst (.int (28)) (i_c2 (fun x y => decide (¬ x = y)) (kX5_part_31 n P) (i_ldA 0 (i_ldI 2 (i_cV 5 1 (FX5_negation n P) (i_rZ))))))))))) (i_ldA 0 (i_ldI 2 (i_cV 5 1 (FX5_unit n P) (i_rZ))))))
set_option maxRecDepth 20000 in
theorem okX5_part_0 {E : mE} {X : State → Heap → Prop} {l : Launch} (hX : mXok E X) (n : Nat) {hp : Nat} {P : List Value → mM → Option mR} (hP : Ct E X l yX5_part cX5_part 5 (some .boolean) hp 0 0 P) : Sd E X l yX5_part cX5_part 5 (some .boolean) (hp + 20) 0 0 0 0 0 (kX5_part_0 n P) := s_iload_n dX5_part_0 rfl (s_iconst dX5_part_1 (by decide) (s_iclt dX5_part_2 (by decide) (s_iload_n dX5_part_11 rfl (s_iconst dX5_part_12 (by decide) (s_icne dX5_part_13 (by decide) (okX5_part_31 hX n hP) (s_aload_n dX5_part_16 rfl (s_gI dX5_part_17 lFX5_60 (by decide) (s_bipush dX5_part_20 (by decide) (s_icne dX5_part_22 (by decide) (okX5_part_31 hX n hP) (s_aload_n dX5_part_25 rfl (s_iload_n dX5_part_26 rfl (s_cV dX5_part_27 lMX5_170 bVX5_negation rfl (CtX5_negation hX n hP) (by omega) (s_rZ dX5_part_30 (Nat.le_of_ble_eq_true rfl) (Nat.le_of_ble_eq_true rfl)) (Nat.le_of_ble_eq_true rfl) (Nat.le_of_ble_eq_true rfl))))))))))) (s_aload_n dX5_part_5 rfl (s_iload_n dX5_part_6 rfl (s_cV dX5_part_7 lMX5_167 bVX5_unit rfl (CtX5_unit hX n hP) (by omega) (s_rZ dX5_part_10 (Nat.le_of_ble_eq_true rfl) (Nat.le_of_ble_eq_true rfl)) (Nat.le_of_ble_eq_true rfl) (Nat.le_of_ble_eq_true rfl))))))
def FX5_partD (n : Nat) : Nat → List Value → mM → Option mR
  | 0 => fun _ _ => none
  | d + 1 => mfn 5 (kX5_part_0 n (FX5_partD n d))
theorem CtX5_partD {E : mE} {X : State → Heap → Prop} {l : Launch} (hX : mXok E X) (n : Nat) : ∀ d : Nat, Ct E X l yX5_part cX5_part 5 (some .boolean) (20 * d) 0 0 (FX5_partD n d) := by
  intro d
  induction d with
  | zero => intro vs μ r hr; cases hr
  | succ d ih => exact Ct_of (by decide) hX (okX5_part_0 hX n ih)
def FX5_part (n : Nat) : List Value → mM → Option mR := FX5_partD n 80
theorem CtX5_part {E : mE} {X : State → Heap → Prop} {l : Launch} (hX : mXok E X) (n : Nat) : Ct E X l yX5_part cX5_part 5 (some .boolean) 1600 0 0 (FX5_part n) := CtX5_partD hX n 80
theorem dX5_formulaLine_0 : decode cX5_formulaLine 0 = .ok (.aload_n 0, 1) := by decide +kernel
theorem dX5_formulaLine_1 : decode cX5_formulaLine 1 = .ok (.invokevirtual 152, 3) := by decide +kernel
theorem dX5_formulaLine_4 : decode cX5_formulaLine 4 = .ok (.ifCond .ne 5, 3) := by decide +kernel
theorem dX5_formulaLine_7 : decode cX5_formulaLine 7 = .ok (.iconst 0, 1) := by decide +kernel
theorem dX5_formulaLine_8 : decode cX5_formulaLine 8 = .ok (.ireturn, 1) := by decide +kernel
theorem dX5_formulaLine_9 : decode cX5_formulaLine 9 = .ok (.aload_n 0, 1) := by decide +kernel
theorem dX5_formulaLine_10 : decode cX5_formulaLine 10 = .ok (.aload_n 1, 1) := by decide +kernel
theorem dX5_formulaLine_11 : decode cX5_formulaLine 11 = .ok (.putfield 38, 3) := by decide +kernel
theorem dX5_formulaLine_14 : decode cX5_formulaLine 14 = .ok (.aload_n 0, 1) := by decide +kernel
theorem dX5_formulaLine_15 : decode cX5_formulaLine 15 = .ok (.iconst 0, 1) := by decide +kernel
theorem dX5_formulaLine_16 : decode cX5_formulaLine 16 = .ok (.putfield 161, 3) := by decide +kernel
theorem dX5_formulaLine_19 : decode cX5_formulaLine 19 = .ok (.aload_n 0, 1) := by decide +kernel
theorem dX5_formulaLine_20 : decode cX5_formulaLine 20 = .ok (.iconst 0, 1) := by decide +kernel
theorem dX5_formulaLine_21 : decode cX5_formulaLine 21 = .ok (.iconst 0, 1) := by decide +kernel
theorem dX5_formulaLine_22 : decode cX5_formulaLine 22 = .ok (.invokevirtual 164, 3) := by decide +kernel
theorem dX5_formulaLine_25 : decode cX5_formulaLine 25 = .ok (.ifCond .eq 15, 3) := by decide +kernel
theorem dX5_formulaLine_28 : decode cX5_formulaLine 28 = .ok (.aload_n 0, 1) := by decide +kernel
theorem dX5_formulaLine_29 : decode cX5_formulaLine 29 = .ok (.iconst 4, 1) := by decide +kernel
theorem dX5_formulaLine_30 : decode cX5_formulaLine 30 = .ok (.invokevirtual 105, 3) := by decide +kernel
theorem dX5_formulaLine_33 : decode cX5_formulaLine 33 = .ok (.ifCond .eq 7, 3) := by decide +kernel
theorem dX5_formulaLine_36 : decode cX5_formulaLine 36 = .ok (.iconst 1, 1) := by decide +kernel
theorem dX5_formulaLine_37 : decode cX5_formulaLine 37 = .ok (.goto 4, 3) := by decide +kernel
theorem dX5_formulaLine_40 : decode cX5_formulaLine 40 = .ok (.iconst 0, 1) := by decide +kernel
theorem dX5_formulaLine_41 : decode cX5_formulaLine 41 = .ok (.ireturn, 1) := by decide +kernel
def kX5_formulaLine_41 (n : Nat) : mK := i_rZ
set_option maxRecDepth 20000 in
theorem okX5_formulaLine_41 {E : mE} {X : State → Heap → Prop} {l : Launch} (hX : mXok E X) (n : Nat) : Sd E X l yX5_formulaLine cX5_formulaLine 2 (some .boolean) 1601 0 0 0 0 41 (kX5_formulaLine_41 n) := s_rZ dX5_formulaLine_41 (Nat.le_of_ble_eq_true rfl) (Nat.le_of_ble_eq_true rfl)
def kX5_formulaLine_40 (n : Nat) : mK := i_cst (.int (0)) (kX5_formulaLine_41 n)
set_option maxRecDepth 20000 in
theorem okX5_formulaLine_40 {E : mE} {X : State → Heap → Prop} {l : Launch} (hX : mXok E X) (n : Nat) : Sd E X l yX5_formulaLine cX5_formulaLine 2 (some .boolean) 1601 0 0 0 0 40 (kX5_formulaLine_40 n) := s_iconst dX5_formulaLine_40 (by decide) (okX5_formulaLine_41 hX n)
def kX5_formulaLine_0 (n : Nat) : mK := i_ldA 0 (i_cV 5 0 (FX5_takeOnce n) (i_c0 (fun x => decide (¬ x = 0)) (i_ldA 0 (i_ldA 1 (i_pA 5 3 (i_ldA 0 (i_cst (.int (0)) (i_pI 5 10 (i_ldA 0 (i_cst (.int (0)) (i_cst (.int (0)) (i_cV 5 2 (FX5_part n) (i_c0 (fun x => decide (x = 0)) (kX5_formulaLine_40 n) (i_ldA 0 (i_cst (.int (4)) (i_cV 5 1 (FX5_take n) (i_c0 (fun x => decide (x = 0)) (kX5_formulaLine_40 n) (i_cst (.int (1)) ((kX5_formulaLine_41 n)))))))))))))))))) (i_cst (.int (0)) (i_rZ))))
set_option maxRecDepth 20000 in
theorem okX5_formulaLine_0 {E : mE} {X : State → Heap → Prop} {l : Launch} (hX : mXok E X) (n : Nat) : Sd E X l yX5_formulaLine cX5_formulaLine 2 (some .boolean) 1601 0 0 0 0 0 (kX5_formulaLine_0 n) := s_aload_n dX5_formulaLine_0 rfl (s_cV dX5_formulaLine_1 lMX5_152 bVX5_takeOnce rfl (CtX5_takeOnce hX n) (Nat.le_of_ble_eq_true rfl) (s_ifne dX5_formulaLine_4 (by decide) (s_aload_n dX5_formulaLine_9 rfl (s_aload_n dX5_formulaLine_10 rfl (s_pA dX5_formulaLine_11 lFX5_38 (s_aload_n dX5_formulaLine_14 rfl (s_iconst dX5_formulaLine_15 (by decide) (s_pI dX5_formulaLine_16 lFX5_161 (s_aload_n dX5_formulaLine_19 rfl (s_iconst dX5_formulaLine_20 (by decide) (s_iconst dX5_formulaLine_21 (by decide) (s_cV dX5_formulaLine_22 lMX5_164 bVX5_part rfl (CtX5_part hX n) (Nat.le_of_ble_eq_true rfl) (s_ifeq dX5_formulaLine_25 (by decide) (okX5_formulaLine_40 hX n) (s_aload_n dX5_formulaLine_28 rfl (s_iconst dX5_formulaLine_29 (by decide) (s_cV dX5_formulaLine_30 lMX5_105 bVX5_take rfl (CtX5_take hX n) (Nat.le_of_ble_eq_true rfl) (s_ifeq dX5_formulaLine_33 (by decide) (okX5_formulaLine_40 hX n) (s_iconst dX5_formulaLine_36 (by decide) (s_goto dX5_formulaLine_37 (by decide) (okX5_formulaLine_41 hX n)))) (Nat.le_of_ble_eq_true rfl) (Nat.le_of_ble_eq_true rfl))))) (Nat.le_of_ble_eq_true rfl) (Nat.le_of_ble_eq_true rfl))))))))))) (s_iconst dX5_formulaLine_7 (by decide) (s_rZ dX5_formulaLine_8 (Nat.le_of_ble_eq_true rfl) (Nat.le_of_ble_eq_true rfl)))) (Nat.le_of_ble_eq_true rfl) (Nat.le_of_ble_eq_true rfl))
def FX5_formulaLine (n : Nat) : List Value → mM → Option mR := mfn 2 (kX5_formulaLine_0 n)
theorem CtX5_formulaLine {E : mE} {X : State → Heap → Prop} {l : Launch} (hX : mXok E X) (n : Nat) : Ct E X l yX5_formulaLine cX5_formulaLine 2 (some .boolean) 1601 0 0 (FX5_formulaLine n) := Ct_of (by decide) hX (okX5_formulaLine_0 hX n)
theorem dX5_line_0 : decode cX5_line 0 = .ok (.aload_n 0, 1) := by decide +kernel
theorem dX5_line_1 : decode cX5_line 1 = .ok (.getfield 60, 3) := by decide +kernel
theorem dX5_line_4 : decode cX5_line 4 = .ok (.tableswitch 137 15 25 #[60, 137, 79, 137, 137, 137, 137, 103, 115, 127, 132], 60) := by decide +kernel
theorem dX5_line_64 : decode cX5_line 64 = .ok (.aload_n 0, 1) := by decide +kernel
theorem dX5_line_65 : decode cX5_line 65 = .ok (.getfield 48, 3) := by decide +kernel
theorem dX5_line_68 : decode cX5_line 68 = .ok (.ifCond .ne 10, 3) := by decide +kernel
theorem dX5_line_71 : decode cX5_line 71 = .ok (.aload_n 0, 1) := by decide +kernel
theorem dX5_line_72 : decode cX5_line 72 = .ok (.invokevirtual 67, 3) := by decide +kernel
theorem dX5_line_75 : decode cX5_line 75 = .ok (.goto 7, 3) := by decide +kernel
theorem dX5_line_78 : decode cX5_line 78 = .ok (.aload_n 0, 1) := by decide +kernel
theorem dX5_line_79 : decode cX5_line 79 = .ok (.invokevirtual 70, 3) := by decide +kernel
theorem dX5_line_82 : decode cX5_line 82 = .ok (.ireturn, 1) := by decide +kernel
theorem dX5_line_83 : decode cX5_line 83 = .ok (.aload_n 0, 1) := by decide +kernel
theorem dX5_line_84 : decode cX5_line 84 = .ok (.getfield 28, 3) := by decide +kernel
theorem dX5_line_87 : decode cX5_line 87 = .ok (.getfield 73, 3) := by decide +kernel
theorem dX5_line_90 : decode cX5_line 90 = .ok (.bipush 8, 2) := by decide +kernel
theorem dX5_line_92 : decode cX5_line 92 = .ok (.if_icmp .ge 10, 3) := by decide +kernel
theorem dX5_line_95 : decode cX5_line 95 = .ok (.aload_n 0, 1) := by decide +kernel
theorem dX5_line_96 : decode cX5_line 96 = .ok (.invokevirtual 76, 3) := by decide +kernel
theorem dX5_line_99 : decode cX5_line 99 = .ok (.goto 7, 3) := by decide +kernel
theorem dX5_line_102 : decode cX5_line 102 = .ok (.aload_n 0, 1) := by decide +kernel
theorem dX5_line_103 : decode cX5_line 103 = .ok (.invokevirtual 70, 3) := by decide +kernel
theorem dX5_line_106 : decode cX5_line 106 = .ok (.ireturn, 1) := by decide +kernel
theorem dX5_line_107 : decode cX5_line 107 = .ok (.aload_n 0, 1) := by decide +kernel
theorem dX5_line_108 : decode cX5_line 108 = .ok (.aload_n 0, 1) := by decide +kernel
theorem dX5_line_109 : decode cX5_line 109 = .ok (.getfield 28, 3) := by decide +kernel
theorem dX5_line_112 : decode cX5_line 112 = .ok (.getfield 79, 3) := by decide +kernel
theorem dX5_line_115 : decode cX5_line 115 = .ok (.invokevirtual 82, 3) := by decide +kernel
theorem dX5_line_118 : decode cX5_line 118 = .ok (.ireturn, 1) := by decide +kernel
theorem dX5_line_119 : decode cX5_line 119 = .ok (.aload_n 0, 1) := by decide +kernel
theorem dX5_line_120 : decode cX5_line 120 = .ok (.aload_n 0, 1) := by decide +kernel
theorem dX5_line_121 : decode cX5_line 121 = .ok (.getfield 28, 3) := by decide +kernel
theorem dX5_line_124 : decode cX5_line 124 = .ok (.getfield 32, 3) := by decide +kernel
theorem dX5_line_127 : decode cX5_line 127 = .ok (.invokevirtual 82, 3) := by decide +kernel
theorem dX5_line_130 : decode cX5_line 130 = .ok (.ireturn, 1) := by decide +kernel
theorem dX5_line_131 : decode cX5_line 131 = .ok (.aload_n 0, 1) := by decide +kernel
theorem dX5_line_132 : decode cX5_line 132 = .ok (.invokevirtual 86, 3) := by decide +kernel
theorem dX5_line_135 : decode cX5_line 135 = .ok (.ireturn, 1) := by decide +kernel
theorem dX5_line_136 : decode cX5_line 136 = .ok (.aload_n 0, 1) := by decide +kernel
theorem dX5_line_137 : decode cX5_line 137 = .ok (.invokevirtual 89, 3) := by decide +kernel
theorem dX5_line_140 : decode cX5_line 140 = .ok (.ireturn, 1) := by decide +kernel
theorem dX5_line_141 : decode cX5_line 141 = .ok (.aload_n 0, 1) := by decide +kernel
theorem dX5_line_142 : decode cX5_line 142 = .ok (.invokevirtual 70, 3) := by decide +kernel
theorem dX5_line_145 : decode cX5_line 145 = .ok (.ireturn, 1) := by decide +kernel
def kX5_line_141 (n : Nat) : mK := i_ldA 0 (i_cV 5 0 (FX5_refuse n) (i_rZ))
set_option maxRecDepth 20000 in
theorem okX5_line_141 {E : mE} {X : State → Heap → Prop} {l : Launch} (hX : mXok E X) (n : Nat) : Sd E X l yX5_line cX5_line 1 (some .boolean) 1602 0 0 0 0 141 (kX5_line_141 n) := s_aload_n dX5_line_141 rfl (s_cV dX5_line_142 lMX5_70 bVX5_refuse rfl (CtX5_refuse hX n) (Nat.le_of_ble_eq_true rfl) (s_rZ dX5_line_145 (Nat.le_of_ble_eq_true rfl) (Nat.le_of_ble_eq_true rfl)) (Nat.le_of_ble_eq_true rfl) (Nat.le_of_ble_eq_true rfl))
def kX5_line_106 (n : Nat) : mK := i_rZ
set_option maxRecDepth 20000 in
theorem okX5_line_106 {E : mE} {X : State → Heap → Prop} {l : Launch} (hX : mXok E X) (n : Nat) : Sd E X l yX5_line cX5_line 1 (some .boolean) 1602 0 0 0 0 106 (kX5_line_106 n) := s_rZ dX5_line_106 (Nat.le_of_ble_eq_true rfl) (Nat.le_of_ble_eq_true rfl)
def kX5_line_82 (n : Nat) : mK := i_rZ
set_option maxRecDepth 20000 in
theorem okX5_line_82 {E : mE} {X : State → Heap → Prop} {l : Launch} (hX : mXok E X) (n : Nat) : Sd E X l yX5_line cX5_line 1 (some .boolean) 1602 0 0 0 0 82 (kX5_line_82 n) := s_rZ dX5_line_82 (Nat.le_of_ble_eq_true rfl) (Nat.le_of_ble_eq_true rfl)
def kX5_line_0 (n : Nat) : mK := i_ldA 0 (i_gI 5 5 (i_sw [(15, (i_ldA 0 (i_gI 5 9 (i_c0 (fun x => decide (¬ x = 0)) (i_ldA 0 (i_cV 5 0 (FX5_refuse n) (kX5_line_82 n))) (i_ldA 0 (i_cV 5 0 (FX5_streetLine n) ((kX5_line_82 n)))))))), (16, (kX5_line_141 n)), (17, (i_ldA 0 (i_gA 5 1 (i_gI 4 2 (i_cst (.int (8)) (i_c2 (fun x y => decide (y ≤ x)) (i_ldA 0 (i_cV 5 0 (FX5_refuse n) (kX5_line_106 n))) (i_ldA 0 (i_cV 5 0 (FX5_carLine n) ((kX5_line_106 n)))))))))), (18, (kX5_line_141 n)), (19, (kX5_line_141 n)), (20, (kX5_line_141 n)), (21, (kX5_line_141 n)), (22, (i_ldA 0 (i_ldA 0 (i_gA 5 1 (i_gA 4 10 (i_cV 5 1 (FX5_formulaLine n) (i_rZ))))))), (23, (i_ldA 0 (i_ldA 0 (i_gA 5 1 (i_gA 4 11 (i_cV 5 1 (FX5_formulaLine n) (i_rZ))))))), (24, (i_ldA 0 (i_cV 5 0 (FX5_breaksLine n) (i_rZ)))), (25, (i_ldA 0 (i_cV 5 0 (FX5_drawLine n) (i_rZ))))] (kX5_line_141 n)))
set_option maxRecDepth 20000 in
theorem okX5_line_0 {E : mE} {X : State → Heap → Prop} {l : Launch} (hX : mXok E X) (n : Nat) : Sd E X l yX5_line cX5_line 1 (some .boolean) 1602 0 0 0 0 0 (kX5_line_0 n) := s_aload_n dX5_line_0 rfl (s_gI dX5_line_1 lFX5_60 (by decide) (s_tsw dX5_line_4 (by decide) (okX5_line_141 hX n) (by decide) (tsw_c (by decide) (by decide) (s_aload_n dX5_line_64 rfl (s_gI dX5_line_65 lFX5_48 (by decide) (s_ifne dX5_line_68 (by decide) (s_aload_n dX5_line_78 rfl (s_cV dX5_line_79 lMX5_70 bVX5_refuse rfl (CtX5_refuse hX n) (Nat.le_of_ble_eq_true rfl) (okX5_line_82 hX n) (Nat.le_of_ble_eq_true rfl) (Nat.le_of_ble_eq_true rfl))) (s_aload_n dX5_line_71 rfl (s_cV dX5_line_72 lMX5_67 bVX5_streetLine rfl (CtX5_streetLine hX n) (Nat.le_of_ble_eq_true rfl) (s_goto dX5_line_75 (by decide) (okX5_line_82 hX n)) (Nat.le_of_ble_eq_true rfl) (Nat.le_of_ble_eq_true rfl)))))) (tsw_c (by decide) (by decide) (okX5_line_141 hX n) (tsw_c (by decide) (by decide) (s_aload_n dX5_line_83 rfl (s_gA dX5_line_84 lFX5_28 (s_gI dX5_line_87 lFX5_73 (by decide) (s_bipush dX5_line_90 (by decide) (s_icge dX5_line_92 (by decide) (s_aload_n dX5_line_102 rfl (s_cV dX5_line_103 lMX5_70 bVX5_refuse rfl (CtX5_refuse hX n) (Nat.le_of_ble_eq_true rfl) (okX5_line_106 hX n) (Nat.le_of_ble_eq_true rfl) (Nat.le_of_ble_eq_true rfl))) (s_aload_n dX5_line_95 rfl (s_cV dX5_line_96 lMX5_76 bVX5_carLine rfl (CtX5_carLine hX n) (Nat.le_of_ble_eq_true rfl) (s_goto dX5_line_99 (by decide) (okX5_line_106 hX n)) (Nat.le_of_ble_eq_true rfl) (Nat.le_of_ble_eq_true rfl)))))))) (tsw_c (by decide) (by decide) (okX5_line_141 hX n) (tsw_c (by decide) (by decide) (okX5_line_141 hX n) (tsw_c (by decide) (by decide) (okX5_line_141 hX n) (tsw_c (by decide) (by decide) (okX5_line_141 hX n) (tsw_c (by decide) (by decide) (s_aload_n dX5_line_107 rfl (s_aload_n dX5_line_108 rfl (s_gA dX5_line_109 lFX5_28 (s_gA dX5_line_112 lFX5_79 (s_cV dX5_line_115 lMX5_82 bVX5_formulaLine rfl (CtX5_formulaLine hX n) (Nat.le_of_ble_eq_true rfl) (s_rZ dX5_line_118 (Nat.le_of_ble_eq_true rfl) (Nat.le_of_ble_eq_true rfl)) (Nat.le_of_ble_eq_true rfl) (Nat.le_of_ble_eq_true rfl)))))) (tsw_c (by decide) (by decide) (s_aload_n dX5_line_119 rfl (s_aload_n dX5_line_120 rfl (s_gA dX5_line_121 lFX5_28 (s_gA dX5_line_124 lFX5_32 (s_cV dX5_line_127 lMX5_82 bVX5_formulaLine rfl (CtX5_formulaLine hX n) (Nat.le_of_ble_eq_true rfl) (s_rZ dX5_line_130 (Nat.le_of_ble_eq_true rfl) (Nat.le_of_ble_eq_true rfl)) (Nat.le_of_ble_eq_true rfl) (Nat.le_of_ble_eq_true rfl)))))) (tsw_c (by decide) (by decide) (s_aload_n dX5_line_131 rfl (s_cV dX5_line_132 lMX5_86 bVX5_breaksLine rfl (CtX5_breaksLine hX n) (Nat.le_of_ble_eq_true rfl) (s_rZ dX5_line_135 (Nat.le_of_ble_eq_true rfl) (Nat.le_of_ble_eq_true rfl)) (Nat.le_of_ble_eq_true rfl) (Nat.le_of_ble_eq_true rfl))) (tsw_c (by decide) (by decide) (s_aload_n dX5_line_136 rfl (s_cV dX5_line_137 lMX5_89 bVX5_drawLine rfl (CtX5_drawLine hX n) (Nat.le_of_ble_eq_true rfl) (s_rZ dX5_line_140 (Nat.le_of_ble_eq_true rfl) (Nat.le_of_ble_eq_true rfl)) (Nat.le_of_ble_eq_true rfl) (Nat.le_of_ble_eq_true rfl))) tsw_n)))))))))))))
def FX5_line (n : Nat) : List Value → mM → Option mR := mfn 1 (kX5_line_0 n)
theorem CtX5_line {E : mE} {X : State → Heap → Prop} {l : Launch} (hX : mXok E X) (n : Nat) : Ct E X l yX5_line cX5_line 1 (some .boolean) 1602 0 0 (FX5_line n) := Ct_of (by decide) hX (okX5_line_0 hX n)
theorem dX5_reads_0 : decode cX5_reads 0 = .ok (.aload_n 0, 1) := by decide +kernel
theorem dX5_reads_1 : decode cX5_reads 1 = .ok (.getfield 24, 3) := by decide +kernel
theorem dX5_reads_4 : decode cX5_reads 4 = .ok (.iload_n 1, 1) := by decide +kernel
theorem dX5_reads_5 : decode cX5_reads 5 = .ok (.invokevirtual 41, 3) := by decide +kernel
theorem dX5_reads_8 : decode cX5_reads 8 = .ok (.aload_n 0, 1) := by decide +kernel
theorem dX5_reads_9 : decode cX5_reads 9 = .ok (.getfield 28, 3) := by decide +kernel
theorem dX5_reads_12 : decode cX5_reads 12 = .ok (.invokevirtual 45, 3) := by decide +kernel
theorem dX5_reads_15 : decode cX5_reads 15 = .ok (.aload_n 0, 1) := by decide +kernel
theorem dX5_reads_16 : decode cX5_reads 16 = .ok (.iconst 0, 1) := by decide +kernel
theorem dX5_reads_17 : decode cX5_reads 17 = .ok (.putfield 48, 3) := by decide +kernel
theorem dX5_reads_20 : decode cX5_reads 20 = .ok (.aload_n 0, 1) := by decide +kernel
theorem dX5_reads_21 : decode cX5_reads 21 = .ok (.iconst 0, 1) := by decide +kernel
theorem dX5_reads_22 : decode cX5_reads 22 = .ok (.putfield 51, 3) := by decide +kernel
theorem dX5_reads_25 : decode cX5_reads 25 = .ok (.aload_n 0, 1) := by decide +kernel
theorem dX5_reads_26 : decode cX5_reads 26 = .ok (.iconst (-1), 1) := by decide +kernel
theorem dX5_reads_27 : decode cX5_reads 27 = .ok (.putfield 15, 3) := by decide +kernel
theorem dX5_reads_30 : decode cX5_reads 30 = .ok (.aload_n 0, 1) := by decide +kernel
theorem dX5_reads_31 : decode cX5_reads 31 = .ok (.iconst (-1), 1) := by decide +kernel
theorem dX5_reads_32 : decode cX5_reads 32 = .ok (.putfield 54, 3) := by decide +kernel
theorem dX5_reads_35 : decode cX5_reads 35 = .ok (.aload_n 0, 1) := by decide +kernel
theorem dX5_reads_36 : decode cX5_reads 36 = .ok (.invokevirtual 57, 3) := by decide +kernel
theorem dX5_reads_39 : decode cX5_reads 39 = .ok (.iconst 0, 1) := by decide +kernel
theorem dX5_reads_40 : decode cX5_reads 40 = .ok (.istore_n 2, 1) := by decide +kernel
theorem dX5_reads_41 : decode cX5_reads 41 = .ok (.iload_n 2, 1) := by decide +kernel
theorem dX5_reads_42 : decode cX5_reads 42 = .ok (.sipush 1600, 3) := by decide +kernel
theorem dX5_reads_45 : decode cX5_reads 45 = .ok (.if_icmp .ge 25, 3) := by decide +kernel
theorem dX5_reads_48 : decode cX5_reads 48 = .ok (.aload_n 0, 1) := by decide +kernel
theorem dX5_reads_49 : decode cX5_reads 49 = .ok (.getfield 60, 3) := by decide +kernel
theorem dX5_reads_52 : decode cX5_reads 52 = .ok (.ifCond .eq 18, 3) := by decide +kernel
theorem dX5_reads_55 : decode cX5_reads 55 = .ok (.aload_n 0, 1) := by decide +kernel
theorem dX5_reads_56 : decode cX5_reads 56 = .ok (.invokevirtual 63, 3) := by decide +kernel
theorem dX5_reads_59 : decode cX5_reads 59 = .ok (.ifCond .ne 5, 3) := by decide +kernel
theorem dX5_reads_62 : decode cX5_reads 62 = .ok (.iconst 0, 1) := by decide +kernel
theorem dX5_reads_63 : decode cX5_reads 63 = .ok (.ireturn, 1) := by decide +kernel
theorem dX5_reads_64 : decode cX5_reads 64 = .ok (.iinc 2 1, 3) := by decide +kernel
theorem dX5_reads_67 : decode cX5_reads 67 = .ok (.goto (-26), 3) := by decide +kernel
theorem dX5_reads_70 : decode cX5_reads 70 = .ok (.iconst 1, 1) := by decide +kernel
theorem dX5_reads_71 : decode cX5_reads 71 = .ok (.ireturn, 1) := by decide +kernel
def kX5_reads_70 (n : Nat) : mK := i_cst (.int (1)) (i_rZ)
set_option maxRecDepth 20000 in
theorem okX5_reads_70 {E : mE} {X : State → Heap → Prop} {l : Launch} (hX : mXok E X) (n : Nat) : Sd E X l yX5_reads cX5_reads 3 (some .boolean) 1603 0 0 0 0 70 (kX5_reads_70 n) := s_iconst dX5_reads_70 (by decide) (s_rZ dX5_reads_71 (Nat.le_of_ble_eq_true rfl) (Nat.le_of_ble_eq_true rfl))
def kX5_reads_41 (n : Nat) (r41 : mK) : mK := i_ldI 2 (i_cst (.int (1600)) (i_c2 (fun x y => decide (y ≤ x)) (kX5_reads_70 n) (i_ldA 0 (i_gI 5 5 (i_c0 (fun x => decide (x = 0)) (kX5_reads_70 n) (i_ldA 0 (i_cV 5 0 (FX5_line n) (i_c0 (fun x => decide (¬ x = 0)) (i_inc 2 (1) (r41)) (i_cst (.int (0)) (i_rZ))))))))))
set_option maxRecDepth 20000 in
theorem okX5_reads_41 {E : mE} {X : State → Heap → Prop} {l : Launch} (hX : mXok E X) (n : Nat) {r41 : mK} (h41 : Sd E X l yX5_reads cX5_reads 3 (some .boolean) 1603 0 0 0 0 41 r41) : Sd E X l yX5_reads cX5_reads 3 (some .boolean) 1603 0 0 0 0 41 (kX5_reads_41 n r41) := s_iload_n dX5_reads_41 rfl (s_sipush dX5_reads_42 (by decide) (s_icge dX5_reads_45 (by decide) (okX5_reads_70 hX n) (s_aload_n dX5_reads_48 rfl (s_gI dX5_reads_49 lFX5_60 (by decide) (s_ifeq dX5_reads_52 (by decide) (okX5_reads_70 hX n) (s_aload_n dX5_reads_55 rfl (s_cV dX5_reads_56 lMX5_63 bVX5_line rfl (CtX5_line hX n) (Nat.le_of_ble_eq_true rfl) (s_ifne dX5_reads_59 (by decide) (s_iinc dX5_reads_64 (by decide) (s_goto dX5_reads_67 (by decide) h41)) (s_iconst dX5_reads_62 (by decide) (s_rZ dX5_reads_63 (Nat.le_of_ble_eq_true rfl) (Nat.le_of_ble_eq_true rfl)))) (Nat.le_of_ble_eq_true rfl) (Nat.le_of_ble_eq_true rfl))))))))
def kX5_reads_0 (n : Nat) : mK := i_ldA 0 (i_gA 5 0 (i_ldI 1 (i_cV 9 1 (FX9_cut n) (i_ldA 0 (i_gA 5 1 (i_cV 4 0 (FX4_clear n) (i_ldA 0 (i_cst (.int (0)) (i_pI 5 9 (i_ldA 0 (i_cst (.int (0)) (i_pI 5 11 (i_ldA 0 (i_cst (.int (-1)) (i_pI 5 12 (i_ldA 0 (i_cst (.int (-1)) (i_pI 5 4 (i_ldA 0 (i_cV 5 0 (FX5_advance n) (i_cst (.int (0)) (i_stI 2 (mit (kX5_reads_41 n ) n)))))))))))))))))))))))
set_option maxRecDepth 20000 in
theorem okX5_reads_0 {E : mE} {X : State → Heap → Prop} {l : Launch} (hX : mXok E X) (n : Nat) : Sd E X l yX5_reads cX5_reads 3 (some .boolean) 1603 0 0 0 0 0 (kX5_reads_0 n) := s_aload_n dX5_reads_0 rfl (s_gA dX5_reads_1 lFX5_24 (s_iload_n dX5_reads_4 rfl (s_cV dX5_reads_5 lMX5_41 bVX9_cut rfl (CtX9_cut hX n) (Nat.le_of_ble_eq_true rfl) (s_aload_n dX5_reads_8 rfl (s_gA dX5_reads_9 lFX5_28 (s_cV dX5_reads_12 lMX5_45 bVX4_clear rfl (CtX4_clear hX n) (Nat.le_of_ble_eq_true rfl) (s_aload_n dX5_reads_15 rfl (s_iconst dX5_reads_16 (by decide) (s_pI dX5_reads_17 lFX5_48 (s_aload_n dX5_reads_20 rfl (s_iconst dX5_reads_21 (by decide) (s_pI dX5_reads_22 lFX5_51 (s_aload_n dX5_reads_25 rfl (s_iconst dX5_reads_26 (by decide) (s_pI dX5_reads_27 lFX5_15 (s_aload_n dX5_reads_30 rfl (s_iconst dX5_reads_31 (by decide) (s_pI dX5_reads_32 lFX5_54 (s_aload_n dX5_reads_35 rfl (s_cV dX5_reads_36 lMX5_57 bVX5_advance rfl (CtX5_advance hX n) (Nat.le_of_ble_eq_true rfl) (s_iconst dX5_reads_39 (by decide) (s_istore_n dX5_reads_40 rfl (s_mit (fun _ hk => okX5_reads_41 hX n hk) n))) (Nat.le_of_ble_eq_true rfl) (Nat.le_of_ble_eq_true rfl))))))))))))))) (Nat.le_of_ble_eq_true rfl) (Nat.le_of_ble_eq_true rfl)))) (Nat.le_of_ble_eq_true rfl) (Nat.le_of_ble_eq_true rfl))))
def FX5_reads (n : Nat) : List Value → mM → Option mR := mfn 3 (kX5_reads_0 n)
theorem CtX5_reads {E : mE} {X : State → Heap → Prop} {l : Launch} (hX : mXok E X) (n : Nat) : Ct E X l yX5_reads cX5_reads 3 (some .boolean) 1603 0 0 (FX5_reads n) := Ct_of (by decide) hX (okX5_reads_0 hX n)
theorem dX11_jam_0 : decode cX11_jam 0 = .ok (.aload_n 0, 1) := by decide +kernel
theorem dX11_jam_1 : decode cX11_jam 1 = .ok (.getfield 104, 3) := by decide +kernel
theorem dX11_jam_4 : decode cX11_jam 4 = .ok (.istore_n 1, 1) := by decide +kernel
theorem dX11_jam_5 : decode cX11_jam 5 = .ok (.aload_n 0, 1) := by decide +kernel
theorem dX11_jam_6 : decode cX11_jam 6 = .ok (.iconst 0, 1) := by decide +kernel
theorem dX11_jam_7 : decode cX11_jam 7 = .ok (.putfield 104, 3) := by decide +kernel
theorem dX11_jam_10 : decode cX11_jam 10 = .ok (.aload_n 0, 1) := by decide +kernel
theorem dX11_jam_11 : decode cX11_jam 11 = .ok (.getfield 28, 3) := by decide +kernel
theorem dX11_jam_14 : decode cX11_jam 14 = .ok (.iload_n 1, 1) := by decide +kernel
theorem dX11_jam_15 : decode cX11_jam 15 = .ok (.invokevirtual 116, 3) := by decide +kernel
theorem dX11_jam_18 : decode cX11_jam 18 = .ok (.ifCond .ne 5, 3) := by decide +kernel
theorem dX11_jam_21 : decode cX11_jam 21 = .ok (.iconst (-1), 1) := by decide +kernel
theorem dX11_jam_22 : decode cX11_jam 22 = .ok (.ireturn, 1) := by decide +kernel
theorem dX11_jam_23 : decode cX11_jam 23 = .ok (.aload_n 0, 1) := by decide +kernel
theorem dX11_jam_24 : decode cX11_jam 24 = .ok (.getfield 16, 3) := by decide +kernel
theorem dX11_jam_27 : decode cX11_jam 27 = .ok (.aload_n 0, 1) := by decide +kernel
theorem dX11_jam_28 : decode cX11_jam 28 = .ok (.getfield 20, 3) := by decide +kernel
theorem dX11_jam_31 : decode cX11_jam 31 = .ok (.invokevirtual 120, 3) := by decide +kernel
theorem dX11_jam_34 : decode cX11_jam 34 = .ok (.aload_n 0, 1) := by decide +kernel
theorem dX11_jam_35 : decode cX11_jam 35 = .ok (.getfield 37, 3) := by decide +kernel
theorem dX11_jam_38 : decode cX11_jam 38 = .ok (.invokevirtual 98, 3) := by decide +kernel
theorem dX11_jam_41 : decode cX11_jam 41 = .ok (.aload_n 0, 1) := by decide +kernel
theorem dX11_jam_42 : decode cX11_jam 42 = .ok (.getfield 63, 3) := by decide +kernel
theorem dX11_jam_45 : decode cX11_jam 45 = .ok (.invokevirtual 101, 3) := by decide +kernel
theorem dX11_jam_48 : decode cX11_jam 48 = .ok (.aload_n 0, 1) := by decide +kernel
theorem dX11_jam_49 : decode cX11_jam 49 = .ok (.getfield 70, 3) := by decide +kernel
theorem dX11_jam_52 : decode cX11_jam 52 = .ok (.invokevirtual 123, 3) := by decide +kernel
theorem dX11_jam_55 : decode cX11_jam 55 = .ok (.aload_n 0, 1) := by decide +kernel
theorem dX11_jam_56 : decode cX11_jam 56 = .ok (.getfield 84, 3) := by decide +kernel
theorem dX11_jam_59 : decode cX11_jam 59 = .ok (.invokevirtual 126, 3) := by decide +kernel
theorem dX11_jam_62 : decode cX11_jam 62 = .ok (.iconst 0, 1) := by decide +kernel
theorem dX11_jam_63 : decode cX11_jam 63 = .ok (.istore_n 2, 1) := by decide +kernel
theorem dX11_jam_64 : decode cX11_jam 64 = .ok (.iload_n 2, 1) := by decide +kernel
theorem dX11_jam_65 : decode cX11_jam 65 = .ok (.aload_n 0, 1) := by decide +kernel
theorem dX11_jam_66 : decode cX11_jam 66 = .ok (.getfield 94, 3) := by decide +kernel
theorem dX11_jam_69 : decode cX11_jam 69 = .ok (.arraylength, 1) := by decide +kernel
theorem dX11_jam_70 : decode cX11_jam 70 = .ok (.if_icmp .ge 16, 3) := by decide +kernel
theorem dX11_jam_73 : decode cX11_jam 73 = .ok (.aload_n 0, 1) := by decide +kernel
theorem dX11_jam_74 : decode cX11_jam 74 = .ok (.getfield 94, 3) := by decide +kernel
theorem dX11_jam_77 : decode cX11_jam 77 = .ok (.iload_n 2, 1) := by decide +kernel
theorem dX11_jam_78 : decode cX11_jam 78 = .ok (.iconst 0, 1) := by decide +kernel
theorem dX11_jam_79 : decode cX11_jam 79 = .ok (.bastore, 1) := by decide +kernel
theorem dX11_jam_80 : decode cX11_jam 80 = .ok (.iinc 2 1, 3) := by decide +kernel
theorem dX11_jam_83 : decode cX11_jam 83 = .ok (.goto (-19), 3) := by decide +kernel
theorem dX11_jam_86 : decode cX11_jam 86 = .ok (.aload_n 0, 1) := by decide +kernel
theorem dX11_jam_87 : decode cX11_jam 87 = .ok (.getfield 16, 3) := by decide +kernel
theorem dX11_jam_90 : decode cX11_jam 90 = .ok (.getfield 129, 3) := by decide +kernel
theorem dX11_jam_93 : decode cX11_jam 93 = .ok (.ireturn, 1) := by decide +kernel
def kX11_jam_64 (n : Nat) (r64 : mK) : mK := i_ldI 2 (i_ldA 0 (i_gA 11 15 (i_len (i_c2 (fun x y => decide (y ≤ x)) (i_ldA 0 (i_gA 11 2 (i_gI 4 2 (i_rI)))) (i_ldA 0 (i_gA 11 15 (i_ldI 2 (i_cst (.int (0)) (i_as 2 (i_inc 2 (1) (r64)))))))))))
set_option maxRecDepth 20000 in
theorem okX11_jam_64 {E : mE} {X : State → Heap → Prop} {l : Launch} (hX : mXok E X) (n : Nat) {r64 : mK} (h64 : Sd E X l yX11_jam cX11_jam 3 (some .int) 1604 0 0 0 0 64 r64) : Sd E X l yX11_jam cX11_jam 3 (some .int) 1604 0 0 0 0 64 (kX11_jam_64 n r64) := s_iload_n dX11_jam_64 rfl (s_aload_n dX11_jam_65 rfl (s_gA dX11_jam_66 lFX11_94 (s_len dX11_jam_69 (s_icge dX11_jam_70 (by decide) (s_aload_n dX11_jam_86 rfl (s_gA dX11_jam_87 lFX11_16 (s_gI dX11_jam_90 lFX11_129 (by decide) (s_rI dX11_jam_93 (Nat.le_of_ble_eq_true rfl) (Nat.le_of_ble_eq_true rfl))))) (s_aload_n dX11_jam_73 rfl (s_gA dX11_jam_74 lFX11_94 (s_iload_n dX11_jam_77 rfl (s_iconst dX11_jam_78 (by decide) (s_zast dX11_jam_79 (s_iinc dX11_jam_80 (by decide) (s_goto dX11_jam_83 (by decide) h64)))))))))))
def kX11_jam_52 (n : Nat) : mK := i_cV 2 0 (FX2_forget n) (i_ldA 0 (i_gA 11 12 (i_cV 6 0 (FX6_clear n) (i_cst (.int (0)) (i_stI 2 (mit (kX11_jam_64 n ) n))))))
set_option maxRecDepth 20000 in
theorem okX11_jam_52 {E : mE} {X : State → Heap → Prop} {l : Launch} (hX : mXok E X) (n : Nat) : Sd E X l yX11_jam cX11_jam 3 (some .int) 1604 0 0 0 0 52 (kX11_jam_52 n) := s_cV dX11_jam_52 lMX11_123 bVX2_forget rfl (CtX2_forget hX n) (Nat.le_of_ble_eq_true rfl) (s_aload_n dX11_jam_55 rfl (s_gA dX11_jam_56 lFX11_84 (s_cV dX11_jam_59 lMX11_126 bVX6_clear rfl (CtX6_clear hX n) (Nat.le_of_ble_eq_true rfl) (s_iconst dX11_jam_62 (by decide) (s_istore_n dX11_jam_63 rfl (s_mit (fun _ hk => okX11_jam_64 hX n hk) n))) (Nat.le_of_ble_eq_true rfl) (Nat.le_of_ble_eq_true rfl)))) (Nat.le_of_ble_eq_true rfl) (Nat.le_of_ble_eq_true rfl)
def kX11_jam_0 (n : Nat) : mK := i_ldA 0 (i_gI 11 1 (i_stI 1 (i_ldA 0 (i_cst (.int (0)) (i_pI 11 1 (i_ldA 0 (i_gA 11 4 (i_ldI 1 (i_cV 5 1 (FX5_reads n) (i_c0 (fun x => decide (¬ x = 0)) (i_ldA 0 (i_gA 11 2 (i_ldA 0 (i_gA 11 3 (i_cV 4 1 (FX4_copyFrom n) (i_ldA 0 (i_gA 11 5 (i_cV 8 0 (FX8_lay n) (i_ldA 0 (i_gA 11 9 (i_cV 3 0 (FX3_begin n) (i_ldA 0 (i_gA 11 10 (kX11_jam_52 n)))))))))))))) (i_cst (.int (-1)) (i_rI))))))))))))
set_option maxRecDepth 20000 in
theorem okX11_jam_0 {E : mE} {X : State → Heap → Prop} {l : Launch} (hX : mXok E X) (n : Nat) : Sd E X l yX11_jam cX11_jam 3 (some .int) 1604 0 0 0 0 0 (kX11_jam_0 n) := s_aload_n dX11_jam_0 rfl (s_gI dX11_jam_1 lFX11_104 (by decide) (s_istore_n dX11_jam_4 rfl (s_aload_n dX11_jam_5 rfl (s_iconst dX11_jam_6 (by decide) (s_pI dX11_jam_7 lFX11_104 (s_aload_n dX11_jam_10 rfl (s_gA dX11_jam_11 lFX11_28 (s_iload_n dX11_jam_14 rfl (s_cV dX11_jam_15 lMX11_116 bVX5_reads rfl (CtX5_reads hX n) (Nat.le_of_ble_eq_true rfl) (s_ifne dX11_jam_18 (by decide) (s_aload_n dX11_jam_23 rfl (s_gA dX11_jam_24 lFX11_16 (s_aload_n dX11_jam_27 rfl (s_gA dX11_jam_28 lFX11_20 (s_cV dX11_jam_31 lMX11_120 bVX4_copyFrom rfl (CtX4_copyFrom hX n) (Nat.le_of_ble_eq_true rfl) (s_aload_n dX11_jam_34 rfl (s_gA dX11_jam_35 lFX11_37 (s_cV dX11_jam_38 lMX11_98 bVX8_lay rfl (CtX8_lay hX n) (Nat.le_of_ble_eq_true rfl) (s_aload_n dX11_jam_41 rfl (s_gA dX11_jam_42 lFX11_63 (s_cV dX11_jam_45 lMX11_101 bVX3_begin rfl (CtX3_begin hX n) (Nat.le_of_ble_eq_true rfl) (s_aload_n dX11_jam_48 rfl (s_gA dX11_jam_49 lFX11_70 (okX11_jam_52 hX n))) (Nat.le_of_ble_eq_true rfl) (Nat.le_of_ble_eq_true rfl)))) (Nat.le_of_ble_eq_true rfl) (Nat.le_of_ble_eq_true rfl)))) (Nat.le_of_ble_eq_true rfl) (Nat.le_of_ble_eq_true rfl)))))) (s_iconst dX11_jam_21 (by decide) (s_rI dX11_jam_22 (Nat.le_of_ble_eq_true rfl) (Nat.le_of_ble_eq_true rfl)))) (Nat.le_of_ble_eq_true rfl) (Nat.le_of_ble_eq_true rfl))))))))))
def FX11_jam (n : Nat) : List Value → mM → Option mR := mfn 3 (kX11_jam_0 n)
theorem CtX11_jam {E : mE} {X : State → Heap → Prop} {l : Launch} (hX : mXok E X) (n : Nat) : Ct E X l yX11_jam cX11_jam 3 (some .int) 1604 0 0 (FX11_jam n) := Ct_of (by decide) hX (okX11_jam_0 hX n)
