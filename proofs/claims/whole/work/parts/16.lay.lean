/-! THE CELLS BEHIND BOTH CONSTRUCTORS -/
def LAY : List (Nat × Nat) := [(4, 11), (0, 1600), (4, 4), (0, 8), (0, 8), (0, 8), (0, 8), (4, 1), (0, 300), (0, 32), (4, 1), (0, 300), (0, 32), (4, 4), (0, 8), (0, 8), (0, 8), (0, 8), (4, 1), (0, 300), (0, 32), (4, 1), (0, 300), (0, 32), (4, 5), (3, 8), (4, 9), (0, 1601), (0, 1601), (4, 8), (0, 8), (0, 8), (0, 8), (0, 8), (4, 8), (0, 8), (0, 8), (0, 8), (0, 8), (4, 0), (0, 8), (4, 10), (0, 64), (0, 64), (4, 3), (0, 1394), (4, 2), (0, 30), (0, 30), (2, 30), (0, 30), (0, 30), (0, 2100), (0, 100), (4, 7), (4, 6), (0, 16), (0, 3), (0, 102), (2, 3), (4, 12), (1, 1620), (1, 1600), (0, 2), (0, 2), (0, 2), (0, 2), (0, 2), (0, 2), (0, 2), (0, 2), (0, 16), (0, 16), (0, 16), (0, 16), (0, 4), (0, 4), (3, 16), (0, 1120), (0, 1120), (0, 90), (0, 90), (0, 60), (0, 34), (0, 8), (0, 1394), (0, 34), (0, 16), (0, 8), (0, 16), (0, 64), (0, 2100), (0, 30), (0, 30), (0, 30), (0, 30), (0, 30), (0, 100), (0, 102), (2, 3)]
def RT (f a j : Nat) : Option Nat := match a, j with
  | 0, 0 => some 1
  | 0, 2 => some 2
  | 0, 3 => some 13
  | 0, 4 => some 24
  | 0, 5 => some 29
  | 0, 6 => some 34
  | 0, 7 => some 39
  | 0, 8 => some 41
  | 0, 9 => some 44
  | 0, 10 => some 46
  | 0, 11 => some 54
  | 0, 12 => some 55
  | 0, 13 => some 57
  | 0, 14 => some 58
  | 0, 15 => some 59
  | 2, 6 => some 3
  | 2, 7 => some 4
  | 2, 8 => some 5
  | 2, 9 => some 6
  | 2, 10 => some 7
  | 2, 11 => some 10
  | 7, 0 => some 8
  | 7, 1 => some 9
  | 10, 0 => some 11
  | 10, 1 => some 12
  | 13, 6 => some 14
  | 13, 7 => some 15
  | 13, 8 => some 16
  | 13, 9 => some 17
  | 13, 10 => some 18
  | 13, 11 => some 21
  | 18, 0 => some 19
  | 18, 1 => some 20
  | 21, 0 => some 22
  | 21, 1 => some 23
  | 24, 0 => some 26
  | 24, 1 => some 13
  | 24, 2 => some 25
  | 24, 3 => some f
  | 26, 0 => some 1
  | 26, 1 => some 27
  | 26, 2 => some 28
  | 29, 0 => some 2
  | 29, 1 => some 30
  | 29, 2 => some 31
  | 29, 3 => some 32
  | 29, 4 => some 33
  | 34, 0 => some 2
  | 34, 1 => some 35
  | 34, 2 => some 36
  | 34, 3 => some 37
  | 34, 4 => some 38
  | 39, 0 => some 29
  | 39, 1 => some 40
  | 41, 0 => some 29
  | 41, 1 => some 42
  | 41, 2 => some 43
  | 44, 0 => some 29
  | 44, 1 => some 45
  | 46, 0 => some 2
  | 46, 1 => some 47
  | 46, 2 => some 48
  | 46, 3 => some 49
  | 46, 4 => some 50
  | 46, 5 => some 51
  | 46, 8 => some 52
  | 46, 10 => some 53
  | 55, 0 => some 56
  | 60, 0 => some 61
  | 60, 1 => some 62
  | 60, 11 => some 63
  | 60, 12 => some 64
  | 60, 13 => some 65
  | 60, 14 => some 66
  | 60, 15 => some 67
  | 60, 16 => some 68
  | 60, 17 => some 69
  | 60, 18 => some 70
  | 60, 19 => some 71
  | 60, 20 => some 72
  | 60, 21 => some 73
  | 60, 22 => some 74
  | 60, 23 => some 75
  | 60, 24 => some 76
  | 60, 25 => some 77
  | 60, 26 => some 78
  | 60, 27 => some 79
  | 60, 28 => some 80
  | 60, 29 => some 81
  | 60, 30 => some 82
  | 60, 39 => some 83
  | 60, 41 => some 84
  | 60, 42 => some 85
  | 60, 45 => some 86
  | 60, 46 => some 87
  | 60, 47 => some 88
  | 60, 49 => some 89
  | 60, 50 => some 90
  | 60, 51 => some 91
  | 60, 52 => some 92
  | 60, 53 => some 93
  | 60, 54 => some 94
  | 60, 55 => some 95
  | 60, 56 => some 96
  | 60, 59 => some 97
  | 60, 61 => some 98
  | 60, 62 => some 99
  | _, _ => none
abbrev mm (I : Nat → Nat → Int32) (J : Nat → Nat → Int64) (f : Nat) : mM := (I, J, RT f, LAY)
theorem y_0 : LAY[0]? = some (4, 11) := rfl
theorem y_1 : LAY[1]? = some (0, 1600) := rfl
theorem y_2 : LAY[2]? = some (4, 4) := rfl
theorem y_3 : LAY[3]? = some (0, 8) := rfl
theorem y_4 : LAY[4]? = some (0, 8) := rfl
theorem y_5 : LAY[5]? = some (0, 8) := rfl
theorem y_6 : LAY[6]? = some (0, 8) := rfl
theorem y_7 : LAY[7]? = some (4, 1) := rfl
theorem y_8 : LAY[8]? = some (0, 300) := rfl
theorem y_9 : LAY[9]? = some (0, 32) := rfl
theorem y_10 : LAY[10]? = some (4, 1) := rfl
theorem y_11 : LAY[11]? = some (0, 300) := rfl
theorem y_12 : LAY[12]? = some (0, 32) := rfl
theorem y_13 : LAY[13]? = some (4, 4) := rfl
theorem y_14 : LAY[14]? = some (0, 8) := rfl
theorem y_15 : LAY[15]? = some (0, 8) := rfl
theorem y_16 : LAY[16]? = some (0, 8) := rfl
theorem y_17 : LAY[17]? = some (0, 8) := rfl
theorem y_18 : LAY[18]? = some (4, 1) := rfl
theorem y_19 : LAY[19]? = some (0, 300) := rfl
theorem y_20 : LAY[20]? = some (0, 32) := rfl
theorem y_21 : LAY[21]? = some (4, 1) := rfl
theorem y_22 : LAY[22]? = some (0, 300) := rfl
theorem y_23 : LAY[23]? = some (0, 32) := rfl
theorem y_24 : LAY[24]? = some (4, 5) := rfl
theorem y_25 : LAY[25]? = some (3, 8) := rfl
theorem y_26 : LAY[26]? = some (4, 9) := rfl
theorem y_27 : LAY[27]? = some (0, 1601) := rfl
theorem y_28 : LAY[28]? = some (0, 1601) := rfl
theorem y_29 : LAY[29]? = some (4, 8) := rfl
theorem y_30 : LAY[30]? = some (0, 8) := rfl
theorem y_31 : LAY[31]? = some (0, 8) := rfl
theorem y_32 : LAY[32]? = some (0, 8) := rfl
theorem y_33 : LAY[33]? = some (0, 8) := rfl
theorem y_34 : LAY[34]? = some (4, 8) := rfl
theorem y_35 : LAY[35]? = some (0, 8) := rfl
theorem y_36 : LAY[36]? = some (0, 8) := rfl
theorem y_37 : LAY[37]? = some (0, 8) := rfl
theorem y_38 : LAY[38]? = some (0, 8) := rfl
theorem y_39 : LAY[39]? = some (4, 0) := rfl
theorem y_40 : LAY[40]? = some (0, 8) := rfl
theorem y_41 : LAY[41]? = some (4, 10) := rfl
theorem y_42 : LAY[42]? = some (0, 64) := rfl
theorem y_43 : LAY[43]? = some (0, 64) := rfl
theorem y_44 : LAY[44]? = some (4, 3) := rfl
theorem y_45 : LAY[45]? = some (0, 1394) := rfl
theorem y_46 : LAY[46]? = some (4, 2) := rfl
theorem y_47 : LAY[47]? = some (0, 30) := rfl
theorem y_48 : LAY[48]? = some (0, 30) := rfl
theorem y_49 : LAY[49]? = some (2, 30) := rfl
theorem y_50 : LAY[50]? = some (0, 30) := rfl
theorem y_51 : LAY[51]? = some (0, 30) := rfl
theorem y_52 : LAY[52]? = some (0, 2100) := rfl
theorem y_53 : LAY[53]? = some (0, 100) := rfl
theorem y_54 : LAY[54]? = some (4, 7) := rfl
theorem y_55 : LAY[55]? = some (4, 6) := rfl
theorem y_56 : LAY[56]? = some (0, 16) := rfl
theorem y_57 : LAY[57]? = some (0, 3) := rfl
theorem y_58 : LAY[58]? = some (0, 102) := rfl
theorem y_59 : LAY[59]? = some (2, 3) := rfl
theorem y_60 : LAY[60]? = some (4, 12) := rfl
theorem y_61 : LAY[61]? = some (1, 1620) := rfl
theorem y_62 : LAY[62]? = some (1, 1600) := rfl
theorem y_63 : LAY[63]? = some (0, 2) := rfl
theorem y_64 : LAY[64]? = some (0, 2) := rfl
theorem y_65 : LAY[65]? = some (0, 2) := rfl
theorem y_66 : LAY[66]? = some (0, 2) := rfl
theorem y_67 : LAY[67]? = some (0, 2) := rfl
theorem y_68 : LAY[68]? = some (0, 2) := rfl
theorem y_69 : LAY[69]? = some (0, 2) := rfl
theorem y_70 : LAY[70]? = some (0, 2) := rfl
theorem y_71 : LAY[71]? = some (0, 16) := rfl
theorem y_72 : LAY[72]? = some (0, 16) := rfl
theorem y_73 : LAY[73]? = some (0, 16) := rfl
theorem y_74 : LAY[74]? = some (0, 16) := rfl
theorem y_75 : LAY[75]? = some (0, 4) := rfl
theorem y_76 : LAY[76]? = some (0, 4) := rfl
theorem y_77 : LAY[77]? = some (3, 16) := rfl
theorem y_78 : LAY[78]? = some (0, 1120) := rfl
theorem y_79 : LAY[79]? = some (0, 1120) := rfl
theorem y_80 : LAY[80]? = some (0, 90) := rfl
theorem y_81 : LAY[81]? = some (0, 90) := rfl
theorem y_82 : LAY[82]? = some (0, 60) := rfl
theorem y_83 : LAY[83]? = some (0, 34) := rfl
theorem y_84 : LAY[84]? = some (0, 8) := rfl
theorem y_85 : LAY[85]? = some (0, 1394) := rfl
theorem y_86 : LAY[86]? = some (0, 34) := rfl
theorem y_87 : LAY[87]? = some (0, 16) := rfl
theorem y_88 : LAY[88]? = some (0, 8) := rfl
theorem y_89 : LAY[89]? = some (0, 16) := rfl
theorem y_90 : LAY[90]? = some (0, 64) := rfl
theorem y_91 : LAY[91]? = some (0, 2100) := rfl
theorem y_92 : LAY[92]? = some (0, 30) := rfl
theorem y_93 : LAY[93]? = some (0, 30) := rfl
theorem y_94 : LAY[94]? = some (0, 30) := rfl
theorem y_95 : LAY[95]? = some (0, 30) := rfl
theorem y_96 : LAY[96]? = some (0, 30) := rfl
theorem y_97 : LAY[97]? = some (0, 100) := rfl
theorem y_98 : LAY[98]? = some (0, 102) := rfl
theorem y_99 : LAY[99]? = some (2, 3) := rfl
theorem rt_0_0 (f : Nat) : RT f 0 0 = some 1 := rfl
theorem rt_0_2 (f : Nat) : RT f 0 2 = some 2 := rfl
theorem rt_0_3 (f : Nat) : RT f 0 3 = some 13 := rfl
theorem rt_0_4 (f : Nat) : RT f 0 4 = some 24 := rfl
theorem rt_0_5 (f : Nat) : RT f 0 5 = some 29 := rfl
theorem rt_0_6 (f : Nat) : RT f 0 6 = some 34 := rfl
theorem rt_0_7 (f : Nat) : RT f 0 7 = some 39 := rfl
theorem rt_0_8 (f : Nat) : RT f 0 8 = some 41 := rfl
theorem rt_0_9 (f : Nat) : RT f 0 9 = some 44 := rfl
theorem rt_0_10 (f : Nat) : RT f 0 10 = some 46 := rfl
theorem rt_0_11 (f : Nat) : RT f 0 11 = some 54 := rfl
theorem rt_0_12 (f : Nat) : RT f 0 12 = some 55 := rfl
theorem rt_0_13 (f : Nat) : RT f 0 13 = some 57 := rfl
theorem rt_0_14 (f : Nat) : RT f 0 14 = some 58 := rfl
theorem rt_0_15 (f : Nat) : RT f 0 15 = some 59 := rfl
theorem rt_2_6 (f : Nat) : RT f 2 6 = some 3 := rfl
theorem rt_2_7 (f : Nat) : RT f 2 7 = some 4 := rfl
theorem rt_2_8 (f : Nat) : RT f 2 8 = some 5 := rfl
theorem rt_2_9 (f : Nat) : RT f 2 9 = some 6 := rfl
theorem rt_2_10 (f : Nat) : RT f 2 10 = some 7 := rfl
theorem rt_2_11 (f : Nat) : RT f 2 11 = some 10 := rfl
theorem rt_7_0 (f : Nat) : RT f 7 0 = some 8 := rfl
theorem rt_7_1 (f : Nat) : RT f 7 1 = some 9 := rfl
theorem rt_10_0 (f : Nat) : RT f 10 0 = some 11 := rfl
theorem rt_10_1 (f : Nat) : RT f 10 1 = some 12 := rfl
theorem rt_13_6 (f : Nat) : RT f 13 6 = some 14 := rfl
theorem rt_13_7 (f : Nat) : RT f 13 7 = some 15 := rfl
theorem rt_13_8 (f : Nat) : RT f 13 8 = some 16 := rfl
theorem rt_13_9 (f : Nat) : RT f 13 9 = some 17 := rfl
theorem rt_13_10 (f : Nat) : RT f 13 10 = some 18 := rfl
theorem rt_13_11 (f : Nat) : RT f 13 11 = some 21 := rfl
theorem rt_18_0 (f : Nat) : RT f 18 0 = some 19 := rfl
theorem rt_18_1 (f : Nat) : RT f 18 1 = some 20 := rfl
theorem rt_21_0 (f : Nat) : RT f 21 0 = some 22 := rfl
theorem rt_21_1 (f : Nat) : RT f 21 1 = some 23 := rfl
theorem rt_24_0 (f : Nat) : RT f 24 0 = some 26 := rfl
theorem rt_24_1 (f : Nat) : RT f 24 1 = some 13 := rfl
theorem rt_24_2 (f : Nat) : RT f 24 2 = some 25 := rfl
theorem rt_24_3 (f : Nat) : RT f 24 3 = some f := rfl
theorem rt_26_0 (f : Nat) : RT f 26 0 = some 1 := rfl
theorem rt_26_1 (f : Nat) : RT f 26 1 = some 27 := rfl
theorem rt_26_2 (f : Nat) : RT f 26 2 = some 28 := rfl
theorem rt_29_0 (f : Nat) : RT f 29 0 = some 2 := rfl
theorem rt_29_1 (f : Nat) : RT f 29 1 = some 30 := rfl
theorem rt_29_2 (f : Nat) : RT f 29 2 = some 31 := rfl
theorem rt_29_3 (f : Nat) : RT f 29 3 = some 32 := rfl
theorem rt_29_4 (f : Nat) : RT f 29 4 = some 33 := rfl
theorem rt_34_0 (f : Nat) : RT f 34 0 = some 2 := rfl
theorem rt_34_1 (f : Nat) : RT f 34 1 = some 35 := rfl
theorem rt_34_2 (f : Nat) : RT f 34 2 = some 36 := rfl
theorem rt_34_3 (f : Nat) : RT f 34 3 = some 37 := rfl
theorem rt_34_4 (f : Nat) : RT f 34 4 = some 38 := rfl
theorem rt_39_0 (f : Nat) : RT f 39 0 = some 29 := rfl
theorem rt_39_1 (f : Nat) : RT f 39 1 = some 40 := rfl
theorem rt_41_0 (f : Nat) : RT f 41 0 = some 29 := rfl
theorem rt_41_1 (f : Nat) : RT f 41 1 = some 42 := rfl
theorem rt_41_2 (f : Nat) : RT f 41 2 = some 43 := rfl
theorem rt_44_0 (f : Nat) : RT f 44 0 = some 29 := rfl
theorem rt_44_1 (f : Nat) : RT f 44 1 = some 45 := rfl
theorem rt_46_0 (f : Nat) : RT f 46 0 = some 2 := rfl
theorem rt_46_1 (f : Nat) : RT f 46 1 = some 47 := rfl
theorem rt_46_2 (f : Nat) : RT f 46 2 = some 48 := rfl
theorem rt_46_3 (f : Nat) : RT f 46 3 = some 49 := rfl
theorem rt_46_4 (f : Nat) : RT f 46 4 = some 50 := rfl
theorem rt_46_5 (f : Nat) : RT f 46 5 = some 51 := rfl
theorem rt_46_8 (f : Nat) : RT f 46 8 = some 52 := rfl
theorem rt_46_10 (f : Nat) : RT f 46 10 = some 53 := rfl
theorem rt_55_0 (f : Nat) : RT f 55 0 = some 56 := rfl
theorem rt_60_0 (f : Nat) : RT f 60 0 = some 61 := rfl
theorem rt_60_1 (f : Nat) : RT f 60 1 = some 62 := rfl
theorem rt_60_11 (f : Nat) : RT f 60 11 = some 63 := rfl
theorem rt_60_12 (f : Nat) : RT f 60 12 = some 64 := rfl
theorem rt_60_13 (f : Nat) : RT f 60 13 = some 65 := rfl
theorem rt_60_14 (f : Nat) : RT f 60 14 = some 66 := rfl
theorem rt_60_15 (f : Nat) : RT f 60 15 = some 67 := rfl
theorem rt_60_16 (f : Nat) : RT f 60 16 = some 68 := rfl
theorem rt_60_17 (f : Nat) : RT f 60 17 = some 69 := rfl
theorem rt_60_18 (f : Nat) : RT f 60 18 = some 70 := rfl
theorem rt_60_19 (f : Nat) : RT f 60 19 = some 71 := rfl
theorem rt_60_20 (f : Nat) : RT f 60 20 = some 72 := rfl
theorem rt_60_21 (f : Nat) : RT f 60 21 = some 73 := rfl
theorem rt_60_22 (f : Nat) : RT f 60 22 = some 74 := rfl
theorem rt_60_23 (f : Nat) : RT f 60 23 = some 75 := rfl
theorem rt_60_24 (f : Nat) : RT f 60 24 = some 76 := rfl
theorem rt_60_25 (f : Nat) : RT f 60 25 = some 77 := rfl
theorem rt_60_26 (f : Nat) : RT f 60 26 = some 78 := rfl
theorem rt_60_27 (f : Nat) : RT f 60 27 = some 79 := rfl
theorem rt_60_28 (f : Nat) : RT f 60 28 = some 80 := rfl
theorem rt_60_29 (f : Nat) : RT f 60 29 = some 81 := rfl
theorem rt_60_30 (f : Nat) : RT f 60 30 = some 82 := rfl
theorem rt_60_39 (f : Nat) : RT f 60 39 = some 83 := rfl
theorem rt_60_41 (f : Nat) : RT f 60 41 = some 84 := rfl
theorem rt_60_42 (f : Nat) : RT f 60 42 = some 85 := rfl
theorem rt_60_45 (f : Nat) : RT f 60 45 = some 86 := rfl
theorem rt_60_46 (f : Nat) : RT f 60 46 = some 87 := rfl
theorem rt_60_47 (f : Nat) : RT f 60 47 = some 88 := rfl
theorem rt_60_49 (f : Nat) : RT f 60 49 = some 89 := rfl
theorem rt_60_50 (f : Nat) : RT f 60 50 = some 90 := rfl
theorem rt_60_51 (f : Nat) : RT f 60 51 = some 91 := rfl
theorem rt_60_52 (f : Nat) : RT f 60 52 = some 92 := rfl
theorem rt_60_53 (f : Nat) : RT f 60 53 = some 93 := rfl
theorem rt_60_54 (f : Nat) : RT f 60 54 = some 94 := rfl
theorem rt_60_55 (f : Nat) : RT f 60 55 = some 95 := rfl
theorem rt_60_56 (f : Nat) : RT f 60 56 = some 96 := rfl
theorem rt_60_59 (f : Nat) : RT f 60 59 = some 97 := rfl
theorem rt_60_61 (f : Nat) : RT f 60 61 = some 98 := rfl
theorem rt_60_62 (f : Nat) : RT f 60 62 = some 99 := rfl
