def mtm (i : Nat) : Term := Term.string "VintageJams$Tokens" (if i = 0 then 56 else 63)
def mfl : List Cond := flatC (Jvm.Cond.and given_1 narrow_1)
theorem el0_0 : Cond.eq (.elem (.field (mtm 0) "java/lang/String" "value" "[B") (.int (Int32.ofNat 0))) (.int 59) ∈ mfl := List.mem_of_getElem? (i := 169) (by decide +kernel)
theorem el0_1 : Cond.eq (.elem (.field (mtm 0) "java/lang/String" "value" "[B") (.int (Int32.ofNat 1))) (.int 40) ∈ mfl := List.mem_of_getElem? (i := 170) (by decide +kernel)
theorem el0_2 : Cond.eq (.elem (.field (mtm 0) "java/lang/String" "value" "[B") (.int (Int32.ofNat 2))) (.int 41) ∈ mfl := List.mem_of_getElem? (i := 171) (by decide +kernel)
theorem el0_3 : Cond.eq (.elem (.field (mtm 0) "java/lang/String" "value" "[B") (.int (Int32.ofNat 3))) (.int 60) ∈ mfl := List.mem_of_getElem? (i := 172) (by decide +kernel)
theorem el0_4 : Cond.eq (.elem (.field (mtm 0) "java/lang/String" "value" "[B") (.int (Int32.ofNat 4))) (.int 62) ∈ mfl := List.mem_of_getElem? (i := 173) (by decide +kernel)
theorem el0_5 : Cond.eq (.elem (.field (mtm 0) "java/lang/String" "value" "[B") (.int (Int32.ofNat 5))) (.int 61) ∈ mfl := List.mem_of_getElem? (i := 174) (by decide +kernel)
theorem el0_6 : Cond.eq (.elem (.field (mtm 0) "java/lang/String" "value" "[B") (.int (Int32.ofNat 6))) (.int 43) ∈ mfl := List.mem_of_getElem? (i := 175) (by decide +kernel)
theorem el0_7 : Cond.eq (.elem (.field (mtm 0) "java/lang/String" "value" "[B") (.int (Int32.ofNat 7))) (.int 45) ∈ mfl := List.mem_of_getElem? (i := 176) (by decide +kernel)
theorem el0_8 : Cond.eq (.elem (.field (mtm 0) "java/lang/String" "value" "[B") (.int (Int32.ofNat 8))) (.int 42) ∈ mfl := List.mem_of_getElem? (i := 177) (by decide +kernel)
theorem el0_9 : Cond.eq (.elem (.field (mtm 0) "java/lang/String" "value" "[B") (.int (Int32.ofNat 9))) (.int 47) ∈ mfl := List.mem_of_getElem? (i := 178) (by decide +kernel)
theorem el0_10 : Cond.eq (.elem (.field (mtm 0) "java/lang/String" "value" "[B") (.int (Int32.ofNat 10))) (.int 37) ∈ mfl := List.mem_of_getElem? (i := 179) (by decide +kernel)
theorem el1_0 : Cond.eq (.elem (.field (mtm 1) "java/lang/String" "value" "[B") (.int (Int32.ofNat 0))) (.int 115) ∈ mfl := List.mem_of_getElem? (i := 13) (by decide +kernel)
theorem el1_1 : Cond.eq (.elem (.field (mtm 1) "java/lang/String" "value" "[B") (.int (Int32.ofNat 1))) (.int 116) ∈ mfl := List.mem_of_getElem? (i := 14) (by decide +kernel)
theorem el1_2 : Cond.eq (.elem (.field (mtm 1) "java/lang/String" "value" "[B") (.int (Int32.ofNat 2))) (.int 114) ∈ mfl := List.mem_of_getElem? (i := 15) (by decide +kernel)
theorem el1_3 : Cond.eq (.elem (.field (mtm 1) "java/lang/String" "value" "[B") (.int (Int32.ofNat 3))) (.int 101) ∈ mfl := List.mem_of_getElem? (i := 16) (by decide +kernel)
theorem el1_4 : Cond.eq (.elem (.field (mtm 1) "java/lang/String" "value" "[B") (.int (Int32.ofNat 4))) (.int 101) ∈ mfl := List.mem_of_getElem? (i := 17) (by decide +kernel)
theorem el1_5 : Cond.eq (.elem (.field (mtm 1) "java/lang/String" "value" "[B") (.int (Int32.ofNat 5))) (.int 116) ∈ mfl := List.mem_of_getElem? (i := 18) (by decide +kernel)
theorem el1_6 : Cond.eq (.elem (.field (mtm 1) "java/lang/String" "value" "[B") (.int (Int32.ofNat 6))) (.int 32) ∈ mfl := List.mem_of_getElem? (i := 19) (by decide +kernel)
theorem el1_7 : Cond.eq (.elem (.field (mtm 1) "java/lang/String" "value" "[B") (.int (Int32.ofNat 7))) (.int 32) ∈ mfl := List.mem_of_getElem? (i := 20) (by decide +kernel)
theorem el1_8 : Cond.eq (.elem (.field (mtm 1) "java/lang/String" "value" "[B") (.int (Int32.ofNat 8))) (.int 98) ∈ mfl := List.mem_of_getElem? (i := 21) (by decide +kernel)
theorem el1_9 : Cond.eq (.elem (.field (mtm 1) "java/lang/String" "value" "[B") (.int (Int32.ofNat 9))) (.int 121) ∈ mfl := List.mem_of_getElem? (i := 22) (by decide +kernel)
theorem el1_10 : Cond.eq (.elem (.field (mtm 1) "java/lang/String" "value" "[B") (.int (Int32.ofNat 10))) (.int 32) ∈ mfl := List.mem_of_getElem? (i := 23) (by decide +kernel)
theorem el1_11 : Cond.eq (.elem (.field (mtm 1) "java/lang/String" "value" "[B") (.int (Int32.ofNat 11))) (.int 32) ∈ mfl := List.mem_of_getElem? (i := 24) (by decide +kernel)
theorem el1_12 : Cond.eq (.elem (.field (mtm 1) "java/lang/String" "value" "[B") (.int (Int32.ofNat 12))) (.int 32) ∈ mfl := List.mem_of_getElem? (i := 25) (by decide +kernel)
theorem el1_13 : Cond.eq (.elem (.field (mtm 1) "java/lang/String" "value" "[B") (.int (Int32.ofNat 13))) (.int 32) ∈ mfl := List.mem_of_getElem? (i := 26) (by decide +kernel)
theorem el1_14 : Cond.eq (.elem (.field (mtm 1) "java/lang/String" "value" "[B") (.int (Int32.ofNat 14))) (.int 32) ∈ mfl := List.mem_of_getElem? (i := 27) (by decide +kernel)
theorem el1_15 : Cond.eq (.elem (.field (mtm 1) "java/lang/String" "value" "[B") (.int (Int32.ofNat 15))) (.int 32) ∈ mfl := List.mem_of_getElem? (i := 28) (by decide +kernel)
theorem el1_16 : Cond.eq (.elem (.field (mtm 1) "java/lang/String" "value" "[B") (.int (Int32.ofNat 16))) (.int 99) ∈ mfl := List.mem_of_getElem? (i := 29) (by decide +kernel)
theorem el1_17 : Cond.eq (.elem (.field (mtm 1) "java/lang/String" "value" "[B") (.int (Int32.ofNat 17))) (.int 97) ∈ mfl := List.mem_of_getElem? (i := 30) (by decide +kernel)
theorem el1_18 : Cond.eq (.elem (.field (mtm 1) "java/lang/String" "value" "[B") (.int (Int32.ofNat 18))) (.int 114) ∈ mfl := List.mem_of_getElem? (i := 31) (by decide +kernel)
theorem el1_19 : Cond.eq (.elem (.field (mtm 1) "java/lang/String" "value" "[B") (.int (Int32.ofNat 19))) (.int 32) ∈ mfl := List.mem_of_getElem? (i := 32) (by decide +kernel)
theorem el1_20 : Cond.eq (.elem (.field (mtm 1) "java/lang/String" "value" "[B") (.int (Int32.ofNat 20))) (.int 32) ∈ mfl := List.mem_of_getElem? (i := 33) (by decide +kernel)
theorem el1_21 : Cond.eq (.elem (.field (mtm 1) "java/lang/String" "value" "[B") (.int (Int32.ofNat 21))) (.int 32) ∈ mfl := List.mem_of_getElem? (i := 34) (by decide +kernel)
theorem el1_22 : Cond.eq (.elem (.field (mtm 1) "java/lang/String" "value" "[B") (.int (Int32.ofNat 22))) (.int 32) ∈ mfl := List.mem_of_getElem? (i := 35) (by decide +kernel)
theorem el1_23 : Cond.eq (.elem (.field (mtm 1) "java/lang/String" "value" "[B") (.int (Int32.ofNat 23))) (.int 32) ∈ mfl := List.mem_of_getElem? (i := 36) (by decide +kernel)
theorem el1_24 : Cond.eq (.elem (.field (mtm 1) "java/lang/String" "value" "[B") (.int (Int32.ofNat 24))) (.int 97) ∈ mfl := List.mem_of_getElem? (i := 37) (by decide +kernel)
theorem el1_25 : Cond.eq (.elem (.field (mtm 1) "java/lang/String" "value" "[B") (.int (Int32.ofNat 25))) (.int 116) ∈ mfl := List.mem_of_getElem? (i := 38) (by decide +kernel)
theorem el1_26 : Cond.eq (.elem (.field (mtm 1) "java/lang/String" "value" "[B") (.int (Int32.ofNat 26))) (.int 32) ∈ mfl := List.mem_of_getElem? (i := 39) (by decide +kernel)
theorem el1_27 : Cond.eq (.elem (.field (mtm 1) "java/lang/String" "value" "[B") (.int (Int32.ofNat 27))) (.int 32) ∈ mfl := List.mem_of_getElem? (i := 40) (by decide +kernel)
theorem el1_28 : Cond.eq (.elem (.field (mtm 1) "java/lang/String" "value" "[B") (.int (Int32.ofNat 28))) (.int 32) ∈ mfl := List.mem_of_getElem? (i := 41) (by decide +kernel)
theorem el1_29 : Cond.eq (.elem (.field (mtm 1) "java/lang/String" "value" "[B") (.int (Int32.ofNat 29))) (.int 32) ∈ mfl := List.mem_of_getElem? (i := 42) (by decide +kernel)
theorem el1_30 : Cond.eq (.elem (.field (mtm 1) "java/lang/String" "value" "[B") (.int (Int32.ofNat 30))) (.int 32) ∈ mfl := List.mem_of_getElem? (i := 43) (by decide +kernel)
theorem el1_31 : Cond.eq (.elem (.field (mtm 1) "java/lang/String" "value" "[B") (.int (Int32.ofNat 31))) (.int 32) ∈ mfl := List.mem_of_getElem? (i := 44) (by decide +kernel)
theorem el1_32 : Cond.eq (.elem (.field (mtm 1) "java/lang/String" "value" "[B") (.int (Int32.ofNat 32))) (.int 104) ∈ mfl := List.mem_of_getElem? (i := 45) (by decide +kernel)
theorem el1_33 : Cond.eq (.elem (.field (mtm 1) "java/lang/String" "value" "[B") (.int (Int32.ofNat 33))) (.int 101) ∈ mfl := List.mem_of_getElem? (i := 46) (by decide +kernel)
theorem el1_34 : Cond.eq (.elem (.field (mtm 1) "java/lang/String" "value" "[B") (.int (Int32.ofNat 34))) (.int 97) ∈ mfl := List.mem_of_getElem? (i := 47) (by decide +kernel)
theorem el1_35 : Cond.eq (.elem (.field (mtm 1) "java/lang/String" "value" "[B") (.int (Int32.ofNat 35))) (.int 100) ∈ mfl := List.mem_of_getElem? (i := 48) (by decide +kernel)
theorem el1_36 : Cond.eq (.elem (.field (mtm 1) "java/lang/String" "value" "[B") (.int (Int32.ofNat 36))) (.int 115) ∈ mfl := List.mem_of_getElem? (i := 49) (by decide +kernel)
theorem el1_37 : Cond.eq (.elem (.field (mtm 1) "java/lang/String" "value" "[B") (.int (Int32.ofNat 37))) (.int 32) ∈ mfl := List.mem_of_getElem? (i := 50) (by decide +kernel)
theorem el1_38 : Cond.eq (.elem (.field (mtm 1) "java/lang/String" "value" "[B") (.int (Int32.ofNat 38))) (.int 32) ∈ mfl := List.mem_of_getElem? (i := 51) (by decide +kernel)
theorem el1_39 : Cond.eq (.elem (.field (mtm 1) "java/lang/String" "value" "[B") (.int (Int32.ofNat 39))) (.int 32) ∈ mfl := List.mem_of_getElem? (i := 52) (by decide +kernel)
theorem el1_40 : Cond.eq (.elem (.field (mtm 1) "java/lang/String" "value" "[B") (.int (Int32.ofNat 40))) (.int 104) ∈ mfl := List.mem_of_getElem? (i := 53) (by decide +kernel)
theorem el1_41 : Cond.eq (.elem (.field (mtm 1) "java/lang/String" "value" "[B") (.int (Int32.ofNat 41))) (.int 111) ∈ mfl := List.mem_of_getElem? (i := 54) (by decide +kernel)
theorem el1_42 : Cond.eq (.elem (.field (mtm 1) "java/lang/String" "value" "[B") (.int (Int32.ofNat 42))) (.int 111) ∈ mfl := List.mem_of_getElem? (i := 55) (by decide +kernel)
theorem el1_43 : Cond.eq (.elem (.field (mtm 1) "java/lang/String" "value" "[B") (.int (Int32.ofNat 43))) (.int 116) ∈ mfl := List.mem_of_getElem? (i := 56) (by decide +kernel)
theorem el1_44 : Cond.eq (.elem (.field (mtm 1) "java/lang/String" "value" "[B") (.int (Int32.ofNat 44))) (.int 115) ∈ mfl := List.mem_of_getElem? (i := 57) (by decide +kernel)
theorem el1_45 : Cond.eq (.elem (.field (mtm 1) "java/lang/String" "value" "[B") (.int (Int32.ofNat 45))) (.int 32) ∈ mfl := List.mem_of_getElem? (i := 58) (by decide +kernel)
theorem el1_46 : Cond.eq (.elem (.field (mtm 1) "java/lang/String" "value" "[B") (.int (Int32.ofNat 46))) (.int 32) ∈ mfl := List.mem_of_getElem? (i := 59) (by decide +kernel)
theorem el1_47 : Cond.eq (.elem (.field (mtm 1) "java/lang/String" "value" "[B") (.int (Int32.ofNat 47))) (.int 32) ∈ mfl := List.mem_of_getElem? (i := 60) (by decide +kernel)
theorem el1_48 : Cond.eq (.elem (.field (mtm 1) "java/lang/String" "value" "[B") (.int (Int32.ofNat 48))) (.int 98) ∈ mfl := List.mem_of_getElem? (i := 61) (by decide +kernel)
theorem el1_49 : Cond.eq (.elem (.field (mtm 1) "java/lang/String" "value" "[B") (.int (Int32.ofNat 49))) (.int 111) ∈ mfl := List.mem_of_getElem? (i := 62) (by decide +kernel)
theorem el1_50 : Cond.eq (.elem (.field (mtm 1) "java/lang/String" "value" "[B") (.int (Int32.ofNat 50))) (.int 100) ∈ mfl := List.mem_of_getElem? (i := 63) (by decide +kernel)
theorem el1_51 : Cond.eq (.elem (.field (mtm 1) "java/lang/String" "value" "[B") (.int (Int32.ofNat 51))) (.int 121) ∈ mfl := List.mem_of_getElem? (i := 64) (by decide +kernel)
theorem el1_52 : Cond.eq (.elem (.field (mtm 1) "java/lang/String" "value" "[B") (.int (Int32.ofNat 52))) (.int 32) ∈ mfl := List.mem_of_getElem? (i := 65) (by decide +kernel)
theorem el1_53 : Cond.eq (.elem (.field (mtm 1) "java/lang/String" "value" "[B") (.int (Int32.ofNat 53))) (.int 32) ∈ mfl := List.mem_of_getElem? (i := 66) (by decide +kernel)
theorem el1_54 : Cond.eq (.elem (.field (mtm 1) "java/lang/String" "value" "[B") (.int (Int32.ofNat 54))) (.int 32) ∈ mfl := List.mem_of_getElem? (i := 67) (by decide +kernel)
theorem el1_55 : Cond.eq (.elem (.field (mtm 1) "java/lang/String" "value" "[B") (.int (Int32.ofNat 55))) (.int 32) ∈ mfl := List.mem_of_getElem? (i := 68) (by decide +kernel)
theorem el1_56 : Cond.eq (.elem (.field (mtm 1) "java/lang/String" "value" "[B") (.int (Int32.ofNat 56))) (.int 115) ∈ mfl := List.mem_of_getElem? (i := 69) (by decide +kernel)
theorem el1_57 : Cond.eq (.elem (.field (mtm 1) "java/lang/String" "value" "[B") (.int (Int32.ofNat 57))) (.int 111) ∈ mfl := List.mem_of_getElem? (i := 70) (by decide +kernel)
theorem el1_58 : Cond.eq (.elem (.field (mtm 1) "java/lang/String" "value" "[B") (.int (Int32.ofNat 58))) (.int 102) ∈ mfl := List.mem_of_getElem? (i := 71) (by decide +kernel)
theorem el1_59 : Cond.eq (.elem (.field (mtm 1) "java/lang/String" "value" "[B") (.int (Int32.ofNat 59))) (.int 116) ∈ mfl := List.mem_of_getElem? (i := 72) (by decide +kernel)
theorem el1_60 : Cond.eq (.elem (.field (mtm 1) "java/lang/String" "value" "[B") (.int (Int32.ofNat 60))) (.int 101) ∈ mfl := List.mem_of_getElem? (i := 73) (by decide +kernel)
theorem el1_61 : Cond.eq (.elem (.field (mtm 1) "java/lang/String" "value" "[B") (.int (Int32.ofNat 61))) (.int 110) ∈ mfl := List.mem_of_getElem? (i := 74) (by decide +kernel)
theorem el1_62 : Cond.eq (.elem (.field (mtm 1) "java/lang/String" "value" "[B") (.int (Int32.ofNat 62))) (.int 115) ∈ mfl := List.mem_of_getElem? (i := 75) (by decide +kernel)
theorem el1_63 : Cond.eq (.elem (.field (mtm 1) "java/lang/String" "value" "[B") (.int (Int32.ofNat 63))) (.int 32) ∈ mfl := List.mem_of_getElem? (i := 76) (by decide +kernel)
theorem el1_64 : Cond.eq (.elem (.field (mtm 1) "java/lang/String" "value" "[B") (.int (Int32.ofNat 64))) (.int 119) ∈ mfl := List.mem_of_getElem? (i := 77) (by decide +kernel)
theorem el1_65 : Cond.eq (.elem (.field (mtm 1) "java/lang/String" "value" "[B") (.int (Int32.ofNat 65))) (.int 111) ∈ mfl := List.mem_of_getElem? (i := 78) (by decide +kernel)
theorem el1_66 : Cond.eq (.elem (.field (mtm 1) "java/lang/String" "value" "[B") (.int (Int32.ofNat 66))) (.int 114) ∈ mfl := List.mem_of_getElem? (i := 79) (by decide +kernel)
theorem el1_67 : Cond.eq (.elem (.field (mtm 1) "java/lang/String" "value" "[B") (.int (Int32.ofNat 67))) (.int 116) ∈ mfl := List.mem_of_getElem? (i := 80) (by decide +kernel)
theorem el1_68 : Cond.eq (.elem (.field (mtm 1) "java/lang/String" "value" "[B") (.int (Int32.ofNat 68))) (.int 104) ∈ mfl := List.mem_of_getElem? (i := 81) (by decide +kernel)
theorem el1_69 : Cond.eq (.elem (.field (mtm 1) "java/lang/String" "value" "[B") (.int (Int32.ofNat 69))) (.int 32) ∈ mfl := List.mem_of_getElem? (i := 82) (by decide +kernel)
theorem el1_70 : Cond.eq (.elem (.field (mtm 1) "java/lang/String" "value" "[B") (.int (Int32.ofNat 70))) (.int 32) ∈ mfl := List.mem_of_getElem? (i := 83) (by decide +kernel)
theorem el1_71 : Cond.eq (.elem (.field (mtm 1) "java/lang/String" "value" "[B") (.int (Int32.ofNat 71))) (.int 32) ∈ mfl := List.mem_of_getElem? (i := 84) (by decide +kernel)
theorem el1_72 : Cond.eq (.elem (.field (mtm 1) "java/lang/String" "value" "[B") (.int (Int32.ofNat 72))) (.int 98) ∈ mfl := List.mem_of_getElem? (i := 85) (by decide +kernel)
theorem el1_73 : Cond.eq (.elem (.field (mtm 1) "java/lang/String" "value" "[B") (.int (Int32.ofNat 73))) (.int 114) ∈ mfl := List.mem_of_getElem? (i := 86) (by decide +kernel)
theorem el1_74 : Cond.eq (.elem (.field (mtm 1) "java/lang/String" "value" "[B") (.int (Int32.ofNat 74))) (.int 101) ∈ mfl := List.mem_of_getElem? (i := 87) (by decide +kernel)
theorem el1_75 : Cond.eq (.elem (.field (mtm 1) "java/lang/String" "value" "[B") (.int (Int32.ofNat 75))) (.int 97) ∈ mfl := List.mem_of_getElem? (i := 88) (by decide +kernel)
theorem el1_76 : Cond.eq (.elem (.field (mtm 1) "java/lang/String" "value" "[B") (.int (Int32.ofNat 76))) (.int 107) ∈ mfl := List.mem_of_getElem? (i := 89) (by decide +kernel)
theorem el1_77 : Cond.eq (.elem (.field (mtm 1) "java/lang/String" "value" "[B") (.int (Int32.ofNat 77))) (.int 115) ∈ mfl := List.mem_of_getElem? (i := 90) (by decide +kernel)
theorem el1_78 : Cond.eq (.elem (.field (mtm 1) "java/lang/String" "value" "[B") (.int (Int32.ofNat 78))) (.int 32) ∈ mfl := List.mem_of_getElem? (i := 91) (by decide +kernel)
theorem el1_79 : Cond.eq (.elem (.field (mtm 1) "java/lang/String" "value" "[B") (.int (Int32.ofNat 79))) (.int 32) ∈ mfl := List.mem_of_getElem? (i := 92) (by decide +kernel)
theorem el1_80 : Cond.eq (.elem (.field (mtm 1) "java/lang/String" "value" "[B") (.int (Int32.ofNat 80))) (.int 100) ∈ mfl := List.mem_of_getElem? (i := 93) (by decide +kernel)
theorem el1_81 : Cond.eq (.elem (.field (mtm 1) "java/lang/String" "value" "[B") (.int (Int32.ofNat 81))) (.int 114) ∈ mfl := List.mem_of_getElem? (i := 94) (by decide +kernel)
theorem el1_82 : Cond.eq (.elem (.field (mtm 1) "java/lang/String" "value" "[B") (.int (Int32.ofNat 82))) (.int 97) ∈ mfl := List.mem_of_getElem? (i := 95) (by decide +kernel)
theorem el1_83 : Cond.eq (.elem (.field (mtm 1) "java/lang/String" "value" "[B") (.int (Int32.ofNat 83))) (.int 119) ∈ mfl := List.mem_of_getElem? (i := 96) (by decide +kernel)
theorem el1_84 : Cond.eq (.elem (.field (mtm 1) "java/lang/String" "value" "[B") (.int (Int32.ofNat 84))) (.int 32) ∈ mfl := List.mem_of_getElem? (i := 97) (by decide +kernel)
theorem el1_85 : Cond.eq (.elem (.field (mtm 1) "java/lang/String" "value" "[B") (.int (Int32.ofNat 85))) (.int 32) ∈ mfl := List.mem_of_getElem? (i := 98) (by decide +kernel)
theorem el1_86 : Cond.eq (.elem (.field (mtm 1) "java/lang/String" "value" "[B") (.int (Int32.ofNat 86))) (.int 32) ∈ mfl := List.mem_of_getElem? (i := 99) (by decide +kernel)
theorem el1_87 : Cond.eq (.elem (.field (mtm 1) "java/lang/String" "value" "[B") (.int (Int32.ofNat 87))) (.int 32) ∈ mfl := List.mem_of_getElem? (i := 100) (by decide +kernel)
theorem el1_88 : Cond.eq (.elem (.field (mtm 1) "java/lang/String" "value" "[B") (.int (Int32.ofNat 88))) (.int 111) ∈ mfl := List.mem_of_getElem? (i := 101) (by decide +kernel)
theorem el1_89 : Cond.eq (.elem (.field (mtm 1) "java/lang/String" "value" "[B") (.int (Int32.ofNat 89))) (.int 114) ∈ mfl := List.mem_of_getElem? (i := 102) (by decide +kernel)
theorem el1_90 : Cond.eq (.elem (.field (mtm 1) "java/lang/String" "value" "[B") (.int (Int32.ofNat 90))) (.int 32) ∈ mfl := List.mem_of_getElem? (i := 103) (by decide +kernel)
theorem el1_91 : Cond.eq (.elem (.field (mtm 1) "java/lang/String" "value" "[B") (.int (Int32.ofNat 91))) (.int 32) ∈ mfl := List.mem_of_getElem? (i := 104) (by decide +kernel)
theorem el1_92 : Cond.eq (.elem (.field (mtm 1) "java/lang/String" "value" "[B") (.int (Int32.ofNat 92))) (.int 32) ∈ mfl := List.mem_of_getElem? (i := 105) (by decide +kernel)
theorem el1_93 : Cond.eq (.elem (.field (mtm 1) "java/lang/String" "value" "[B") (.int (Int32.ofNat 93))) (.int 32) ∈ mfl := List.mem_of_getElem? (i := 106) (by decide +kernel)
theorem el1_94 : Cond.eq (.elem (.field (mtm 1) "java/lang/String" "value" "[B") (.int (Int32.ofNat 94))) (.int 32) ∈ mfl := List.mem_of_getElem? (i := 107) (by decide +kernel)
theorem el1_95 : Cond.eq (.elem (.field (mtm 1) "java/lang/String" "value" "[B") (.int (Int32.ofNat 95))) (.int 32) ∈ mfl := List.mem_of_getElem? (i := 108) (by decide +kernel)
theorem el1_96 : Cond.eq (.elem (.field (mtm 1) "java/lang/String" "value" "[B") (.int (Int32.ofNat 96))) (.int 97) ∈ mfl := List.mem_of_getElem? (i := 109) (by decide +kernel)
theorem el1_97 : Cond.eq (.elem (.field (mtm 1) "java/lang/String" "value" "[B") (.int (Int32.ofNat 97))) (.int 110) ∈ mfl := List.mem_of_getElem? (i := 110) (by decide +kernel)
theorem el1_98 : Cond.eq (.elem (.field (mtm 1) "java/lang/String" "value" "[B") (.int (Int32.ofNat 98))) (.int 100) ∈ mfl := List.mem_of_getElem? (i := 111) (by decide +kernel)
theorem el1_99 : Cond.eq (.elem (.field (mtm 1) "java/lang/String" "value" "[B") (.int (Int32.ofNat 99))) (.int 32) ∈ mfl := List.mem_of_getElem? (i := 112) (by decide +kernel)
theorem el1_100 : Cond.eq (.elem (.field (mtm 1) "java/lang/String" "value" "[B") (.int (Int32.ofNat 100))) (.int 32) ∈ mfl := List.mem_of_getElem? (i := 113) (by decide +kernel)
theorem el1_101 : Cond.eq (.elem (.field (mtm 1) "java/lang/String" "value" "[B") (.int (Int32.ofNat 101))) (.int 32) ∈ mfl := List.mem_of_getElem? (i := 114) (by decide +kernel)
theorem el1_102 : Cond.eq (.elem (.field (mtm 1) "java/lang/String" "value" "[B") (.int (Int32.ofNat 102))) (.int 32) ∈ mfl := List.mem_of_getElem? (i := 115) (by decide +kernel)
theorem el1_103 : Cond.eq (.elem (.field (mtm 1) "java/lang/String" "value" "[B") (.int (Int32.ofNat 103))) (.int 32) ∈ mfl := List.mem_of_getElem? (i := 116) (by decide +kernel)
theorem el1_104 : Cond.eq (.elem (.field (mtm 1) "java/lang/String" "value" "[B") (.int (Int32.ofNat 104))) (.int 110) ∈ mfl := List.mem_of_getElem? (i := 117) (by decide +kernel)
theorem el1_105 : Cond.eq (.elem (.field (mtm 1) "java/lang/String" "value" "[B") (.int (Int32.ofNat 105))) (.int 111) ∈ mfl := List.mem_of_getElem? (i := 118) (by decide +kernel)
theorem el1_106 : Cond.eq (.elem (.field (mtm 1) "java/lang/String" "value" "[B") (.int (Int32.ofNat 106))) (.int 116) ∈ mfl := List.mem_of_getElem? (i := 119) (by decide +kernel)
theorem el1_107 : Cond.eq (.elem (.field (mtm 1) "java/lang/String" "value" "[B") (.int (Int32.ofNat 107))) (.int 32) ∈ mfl := List.mem_of_getElem? (i := 120) (by decide +kernel)
theorem el1_108 : Cond.eq (.elem (.field (mtm 1) "java/lang/String" "value" "[B") (.int (Int32.ofNat 108))) (.int 32) ∈ mfl := List.mem_of_getElem? (i := 121) (by decide +kernel)
theorem el1_109 : Cond.eq (.elem (.field (mtm 1) "java/lang/String" "value" "[B") (.int (Int32.ofNat 109))) (.int 32) ∈ mfl := List.mem_of_getElem? (i := 122) (by decide +kernel)
theorem el1_110 : Cond.eq (.elem (.field (mtm 1) "java/lang/String" "value" "[B") (.int (Int32.ofNat 110))) (.int 32) ∈ mfl := List.mem_of_getElem? (i := 123) (by decide +kernel)
theorem el1_111 : Cond.eq (.elem (.field (mtm 1) "java/lang/String" "value" "[B") (.int (Int32.ofNat 111))) (.int 32) ∈ mfl := List.mem_of_getElem? (i := 124) (by decide +kernel)
theorem el1_112 : Cond.eq (.elem (.field (mtm 1) "java/lang/String" "value" "[B") (.int (Int32.ofNat 112))) (.int 104) ∈ mfl := List.mem_of_getElem? (i := 125) (by decide +kernel)
theorem el1_113 : Cond.eq (.elem (.field (mtm 1) "java/lang/String" "value" "[B") (.int (Int32.ofNat 113))) (.int 111) ∈ mfl := List.mem_of_getElem? (i := 126) (by decide +kernel)
theorem el1_114 : Cond.eq (.elem (.field (mtm 1) "java/lang/String" "value" "[B") (.int (Int32.ofNat 114))) (.int 111) ∈ mfl := List.mem_of_getElem? (i := 127) (by decide +kernel)
theorem el1_115 : Cond.eq (.elem (.field (mtm 1) "java/lang/String" "value" "[B") (.int (Int32.ofNat 115))) (.int 116) ∈ mfl := List.mem_of_getElem? (i := 128) (by decide +kernel)
theorem el1_116 : Cond.eq (.elem (.field (mtm 1) "java/lang/String" "value" "[B") (.int (Int32.ofNat 116))) (.int 32) ∈ mfl := List.mem_of_getElem? (i := 129) (by decide +kernel)
theorem el1_117 : Cond.eq (.elem (.field (mtm 1) "java/lang/String" "value" "[B") (.int (Int32.ofNat 117))) (.int 32) ∈ mfl := List.mem_of_getElem? (i := 130) (by decide +kernel)
theorem el1_118 : Cond.eq (.elem (.field (mtm 1) "java/lang/String" "value" "[B") (.int (Int32.ofNat 118))) (.int 32) ∈ mfl := List.mem_of_getElem? (i := 131) (by decide +kernel)
theorem el1_119 : Cond.eq (.elem (.field (mtm 1) "java/lang/String" "value" "[B") (.int (Int32.ofNat 119))) (.int 32) ∈ mfl := List.mem_of_getElem? (i := 132) (by decide +kernel)
theorem el1_120 : Cond.eq (.elem (.field (mtm 1) "java/lang/String" "value" "[B") (.int (Int32.ofNat 120))) (.int 98) ∈ mfl := List.mem_of_getElem? (i := 133) (by decide +kernel)
theorem el1_121 : Cond.eq (.elem (.field (mtm 1) "java/lang/String" "value" "[B") (.int (Int32.ofNat 121))) (.int 111) ∈ mfl := List.mem_of_getElem? (i := 134) (by decide +kernel)
theorem el1_122 : Cond.eq (.elem (.field (mtm 1) "java/lang/String" "value" "[B") (.int (Int32.ofNat 122))) (.int 100) ∈ mfl := List.mem_of_getElem? (i := 135) (by decide +kernel)
theorem el1_123 : Cond.eq (.elem (.field (mtm 1) "java/lang/String" "value" "[B") (.int (Int32.ofNat 123))) (.int 105) ∈ mfl := List.mem_of_getElem? (i := 136) (by decide +kernel)
theorem el1_124 : Cond.eq (.elem (.field (mtm 1) "java/lang/String" "value" "[B") (.int (Int32.ofNat 124))) (.int 101) ∈ mfl := List.mem_of_getElem? (i := 137) (by decide +kernel)
theorem el1_125 : Cond.eq (.elem (.field (mtm 1) "java/lang/String" "value" "[B") (.int (Int32.ofNat 125))) (.int 100) ∈ mfl := List.mem_of_getElem? (i := 138) (by decide +kernel)
theorem el1_126 : Cond.eq (.elem (.field (mtm 1) "java/lang/String" "value" "[B") (.int (Int32.ofNat 126))) (.int 32) ∈ mfl := List.mem_of_getElem? (i := 139) (by decide +kernel)
theorem el1_127 : Cond.eq (.elem (.field (mtm 1) "java/lang/String" "value" "[B") (.int (Int32.ofNat 127))) (.int 32) ∈ mfl := List.mem_of_getElem? (i := 140) (by decide +kernel)
theorem el1_128 : Cond.eq (.elem (.field (mtm 1) "java/lang/String" "value" "[B") (.int (Int32.ofNat 128))) (.int 109) ∈ mfl := List.mem_of_getElem? (i := 141) (by decide +kernel)
theorem el1_129 : Cond.eq (.elem (.field (mtm 1) "java/lang/String" "value" "[B") (.int (Int32.ofNat 129))) (.int 97) ∈ mfl := List.mem_of_getElem? (i := 142) (by decide +kernel)
theorem el1_130 : Cond.eq (.elem (.field (mtm 1) "java/lang/String" "value" "[B") (.int (Int32.ofNat 130))) (.int 110) ∈ mfl := List.mem_of_getElem? (i := 143) (by decide +kernel)
theorem el1_131 : Cond.eq (.elem (.field (mtm 1) "java/lang/String" "value" "[B") (.int (Int32.ofNat 131))) (.int 121) ∈ mfl := List.mem_of_getElem? (i := 144) (by decide +kernel)
theorem el1_132 : Cond.eq (.elem (.field (mtm 1) "java/lang/String" "value" "[B") (.int (Int32.ofNat 132))) (.int 32) ∈ mfl := List.mem_of_getElem? (i := 145) (by decide +kernel)
theorem el1_133 : Cond.eq (.elem (.field (mtm 1) "java/lang/String" "value" "[B") (.int (Int32.ofNat 133))) (.int 32) ∈ mfl := List.mem_of_getElem? (i := 146) (by decide +kernel)
theorem el1_134 : Cond.eq (.elem (.field (mtm 1) "java/lang/String" "value" "[B") (.int (Int32.ofNat 134))) (.int 32) ∈ mfl := List.mem_of_getElem? (i := 147) (by decide +kernel)
theorem el1_135 : Cond.eq (.elem (.field (mtm 1) "java/lang/String" "value" "[B") (.int (Int32.ofNat 135))) (.int 32) ∈ mfl := List.mem_of_getElem? (i := 148) (by decide +kernel)
theorem el1_136 : Cond.eq (.elem (.field (mtm 1) "java/lang/String" "value" "[B") (.int (Int32.ofNat 136))) (.int 108) ∈ mfl := List.mem_of_getElem? (i := 149) (by decide +kernel)
theorem el1_137 : Cond.eq (.elem (.field (mtm 1) "java/lang/String" "value" "[B") (.int (Int32.ofNat 137))) (.int 97) ∈ mfl := List.mem_of_getElem? (i := 150) (by decide +kernel)
theorem el1_138 : Cond.eq (.elem (.field (mtm 1) "java/lang/String" "value" "[B") (.int (Int32.ofNat 138))) (.int 110) ∈ mfl := List.mem_of_getElem? (i := 151) (by decide +kernel)
theorem el1_139 : Cond.eq (.elem (.field (mtm 1) "java/lang/String" "value" "[B") (.int (Int32.ofNat 139))) (.int 101) ∈ mfl := List.mem_of_getElem? (i := 152) (by decide +kernel)
theorem el1_140 : Cond.eq (.elem (.field (mtm 1) "java/lang/String" "value" "[B") (.int (Int32.ofNat 140))) (.int 32) ∈ mfl := List.mem_of_getElem? (i := 153) (by decide +kernel)
theorem el1_141 : Cond.eq (.elem (.field (mtm 1) "java/lang/String" "value" "[B") (.int (Int32.ofNat 141))) (.int 32) ∈ mfl := List.mem_of_getElem? (i := 154) (by decide +kernel)
theorem el1_142 : Cond.eq (.elem (.field (mtm 1) "java/lang/String" "value" "[B") (.int (Int32.ofNat 142))) (.int 32) ∈ mfl := List.mem_of_getElem? (i := 155) (by decide +kernel)
theorem el1_143 : Cond.eq (.elem (.field (mtm 1) "java/lang/String" "value" "[B") (.int (Int32.ofNat 143))) (.int 32) ∈ mfl := List.mem_of_getElem? (i := 156) (by decide +kernel)
theorem el1_144 : Cond.eq (.elem (.field (mtm 1) "java/lang/String" "value" "[B") (.int (Int32.ofNat 144))) (.int 121) ∈ mfl := List.mem_of_getElem? (i := 157) (by decide +kernel)
theorem el1_145 : Cond.eq (.elem (.field (mtm 1) "java/lang/String" "value" "[B") (.int (Int32.ofNat 145))) (.int 101) ∈ mfl := List.mem_of_getElem? (i := 158) (by decide +kernel)
theorem el1_146 : Cond.eq (.elem (.field (mtm 1) "java/lang/String" "value" "[B") (.int (Int32.ofNat 146))) (.int 97) ∈ mfl := List.mem_of_getElem? (i := 159) (by decide +kernel)
theorem el1_147 : Cond.eq (.elem (.field (mtm 1) "java/lang/String" "value" "[B") (.int (Int32.ofNat 147))) (.int 114) ∈ mfl := List.mem_of_getElem? (i := 160) (by decide +kernel)
theorem el1_148 : Cond.eq (.elem (.field (mtm 1) "java/lang/String" "value" "[B") (.int (Int32.ofNat 148))) (.int 32) ∈ mfl := List.mem_of_getElem? (i := 161) (by decide +kernel)
theorem el1_149 : Cond.eq (.elem (.field (mtm 1) "java/lang/String" "value" "[B") (.int (Int32.ofNat 149))) (.int 32) ∈ mfl := List.mem_of_getElem? (i := 162) (by decide +kernel)
theorem el1_150 : Cond.eq (.elem (.field (mtm 1) "java/lang/String" "value" "[B") (.int (Int32.ofNat 150))) (.int 32) ∈ mfl := List.mem_of_getElem? (i := 163) (by decide +kernel)
theorem el1_151 : Cond.eq (.elem (.field (mtm 1) "java/lang/String" "value" "[B") (.int (Int32.ofNat 151))) (.int 32) ∈ mfl := List.mem_of_getElem? (i := 164) (by decide +kernel)
theorem st_el0 : ∀ j : Nat, j < 11 → Cond.eq (.elem (.field (mtm 0) "java/lang/String" "value" "[B") (.int (Int32.ofNat j))) (.int ((bytJ.getD 0 []).getD j 0)) ∈ mfl
  | 0, _ => el0_0
  | 1, _ => el0_1
  | 2, _ => el0_2
  | 3, _ => el0_3
  | 4, _ => el0_4
  | 5, _ => el0_5
  | 6, _ => el0_6
  | 7, _ => el0_7
  | 8, _ => el0_8
  | 9, _ => el0_9
  | 10, _ => el0_10
  | j + 11, h => absurd h (by omega)
theorem st_el1_0 : ∀ j : Nat, j < 38 → Cond.eq (.elem (.field (mtm 1) "java/lang/String" "value" "[B") (.int (Int32.ofNat (j + 0)))) (.int ((bytJ.getD 1 []).getD (j + 0) 0)) ∈ mfl
  | 0, _ => el1_0
  | 1, _ => el1_1
  | 2, _ => el1_2
  | 3, _ => el1_3
  | 4, _ => el1_4
  | 5, _ => el1_5
  | 6, _ => el1_6
  | 7, _ => el1_7
  | 8, _ => el1_8
  | 9, _ => el1_9
  | 10, _ => el1_10
  | 11, _ => el1_11
  | 12, _ => el1_12
  | 13, _ => el1_13
  | 14, _ => el1_14
  | 15, _ => el1_15
  | 16, _ => el1_16
  | 17, _ => el1_17
  | 18, _ => el1_18
  | 19, _ => el1_19
  | 20, _ => el1_20
  | 21, _ => el1_21
  | 22, _ => el1_22
  | 23, _ => el1_23
  | 24, _ => el1_24
  | 25, _ => el1_25
  | 26, _ => el1_26
  | 27, _ => el1_27
  | 28, _ => el1_28
  | 29, _ => el1_29
  | 30, _ => el1_30
  | 31, _ => el1_31
  | 32, _ => el1_32
  | 33, _ => el1_33
  | 34, _ => el1_34
  | 35, _ => el1_35
  | 36, _ => el1_36
  | 37, _ => el1_37
  | j + 38, h => absurd h (by omega)
theorem st_el1_38 : ∀ j : Nat, j < 38 → Cond.eq (.elem (.field (mtm 1) "java/lang/String" "value" "[B") (.int (Int32.ofNat (j + 38)))) (.int ((bytJ.getD 1 []).getD (j + 38) 0)) ∈ mfl
  | 0, _ => el1_38
  | 1, _ => el1_39
  | 2, _ => el1_40
  | 3, _ => el1_41
  | 4, _ => el1_42
  | 5, _ => el1_43
  | 6, _ => el1_44
  | 7, _ => el1_45
  | 8, _ => el1_46
  | 9, _ => el1_47
  | 10, _ => el1_48
  | 11, _ => el1_49
  | 12, _ => el1_50
  | 13, _ => el1_51
  | 14, _ => el1_52
  | 15, _ => el1_53
  | 16, _ => el1_54
  | 17, _ => el1_55
  | 18, _ => el1_56
  | 19, _ => el1_57
  | 20, _ => el1_58
  | 21, _ => el1_59
  | 22, _ => el1_60
  | 23, _ => el1_61
  | 24, _ => el1_62
  | 25, _ => el1_63
  | 26, _ => el1_64
  | 27, _ => el1_65
  | 28, _ => el1_66
  | 29, _ => el1_67
  | 30, _ => el1_68
  | 31, _ => el1_69
  | 32, _ => el1_70
  | 33, _ => el1_71
  | 34, _ => el1_72
  | 35, _ => el1_73
  | 36, _ => el1_74
  | 37, _ => el1_75
  | j + 38, h => absurd h (by omega)
theorem st_el1_76 : ∀ j : Nat, j < 38 → Cond.eq (.elem (.field (mtm 1) "java/lang/String" "value" "[B") (.int (Int32.ofNat (j + 76)))) (.int ((bytJ.getD 1 []).getD (j + 76) 0)) ∈ mfl
  | 0, _ => el1_76
  | 1, _ => el1_77
  | 2, _ => el1_78
  | 3, _ => el1_79
  | 4, _ => el1_80
  | 5, _ => el1_81
  | 6, _ => el1_82
  | 7, _ => el1_83
  | 8, _ => el1_84
  | 9, _ => el1_85
  | 10, _ => el1_86
  | 11, _ => el1_87
  | 12, _ => el1_88
  | 13, _ => el1_89
  | 14, _ => el1_90
  | 15, _ => el1_91
  | 16, _ => el1_92
  | 17, _ => el1_93
  | 18, _ => el1_94
  | 19, _ => el1_95
  | 20, _ => el1_96
  | 21, _ => el1_97
  | 22, _ => el1_98
  | 23, _ => el1_99
  | 24, _ => el1_100
  | 25, _ => el1_101
  | 26, _ => el1_102
  | 27, _ => el1_103
  | 28, _ => el1_104
  | 29, _ => el1_105
  | 30, _ => el1_106
  | 31, _ => el1_107
  | 32, _ => el1_108
  | 33, _ => el1_109
  | 34, _ => el1_110
  | 35, _ => el1_111
  | 36, _ => el1_112
  | 37, _ => el1_113
  | j + 38, h => absurd h (by omega)
theorem st_el1_114 : ∀ j : Nat, j < 38 → Cond.eq (.elem (.field (mtm 1) "java/lang/String" "value" "[B") (.int (Int32.ofNat (j + 114)))) (.int ((bytJ.getD 1 []).getD (j + 114) 0)) ∈ mfl
  | 0, _ => el1_114
  | 1, _ => el1_115
  | 2, _ => el1_116
  | 3, _ => el1_117
  | 4, _ => el1_118
  | 5, _ => el1_119
  | 6, _ => el1_120
  | 7, _ => el1_121
  | 8, _ => el1_122
  | 9, _ => el1_123
  | 10, _ => el1_124
  | 11, _ => el1_125
  | 12, _ => el1_126
  | 13, _ => el1_127
  | 14, _ => el1_128
  | 15, _ => el1_129
  | 16, _ => el1_130
  | 17, _ => el1_131
  | 18, _ => el1_132
  | 19, _ => el1_133
  | 20, _ => el1_134
  | 21, _ => el1_135
  | 22, _ => el1_136
  | 23, _ => el1_137
  | 24, _ => el1_138
  | 25, _ => el1_139
  | 26, _ => el1_140
  | 27, _ => el1_141
  | 28, _ => el1_142
  | 29, _ => el1_143
  | 30, _ => el1_144
  | 31, _ => el1_145
  | 32, _ => el1_146
  | 33, _ => el1_147
  | 34, _ => el1_148
  | 35, _ => el1_149
  | 36, _ => el1_150
  | 37, _ => el1_151
  | j + 38, h => absurd h (by omega)
theorem st_el1 (j : Nat) (hj : j < 152) : Cond.eq (.elem (.field (mtm 1) "java/lang/String" "value" "[B") (.int (Int32.ofNat j))) (.int ((bytJ.getD 1 []).getD j 0)) ∈ mfl := by
  rcases (show j < 38 ∨ (38 ≤ j ∧ j < 76) ∨ (76 ≤ j ∧ j < 114) ∨ (114 ≤ j ∧ j < 152) by omega) with h | h | h | h
  · exact st_el1_0 j h
  · have := st_el1_38 (j - 38) (by omega)
    rwa [show j - 38 + 38 = j by omega] at this
  · have := st_el1_76 (j - 76) (by omega)
    rwa [show j - 76 + 76 = j by omega] at this
  · have := st_el1_114 (j - 114) (by omega)
    rwa [show j - 114 + 114 = j by omega] at this
theorem st_ex0 : Cond.exactly (mtm 0) "java/lang/String" ∈ mfl := List.mem_of_getElem? (i := 165) (by decide +kernel)
theorem st_ex1 : Cond.exactly (mtm 1) "java/lang/String" ∈ mfl := List.mem_of_getElem? (i := 9) (by decide +kernel)
theorem st_ex (i : Nat) (hi : i < 2) : Cond.exactly (mtm i) "java/lang/String" ∈ mfl := by
  rcases (show i = 0 ∨ i = 1 by omega) with rfl | rfl
  · exact st_ex0
  · exact st_ex1
theorem st_co0 : Cond.eq (.field (mtm 0) "java/lang/String" "coder" "B") (.int 0) ∈ mfl := List.mem_of_getElem? (i := 166) (by decide +kernel)
theorem st_co1 : Cond.eq (.field (mtm 1) "java/lang/String" "coder" "B") (.int 0) ∈ mfl := List.mem_of_getElem? (i := 10) (by decide +kernel)
theorem st_co (i : Nat) (hi : i < 2) : Cond.eq (.field (mtm i) "java/lang/String" "coder" "B") (.int 0) ∈ mfl := by
  rcases (show i = 0 ∨ i = 1 by omega) with rfl | rfl
  · exact st_co0
  · exact st_co1
theorem st_ar0 : Cond.arrayOf (.field (mtm 0) "java/lang/String" "value" "[B") .byte ∈ mfl := List.mem_of_getElem? (i := 167) (by decide +kernel)
theorem st_ar1 : Cond.arrayOf (.field (mtm 1) "java/lang/String" "value" "[B") .byte ∈ mfl := List.mem_of_getElem? (i := 11) (by decide +kernel)
theorem st_ar (i : Nat) (hi : i < 2) : Cond.arrayOf (.field (mtm i) "java/lang/String" "value" "[B") .byte ∈ mfl := by
  rcases (show i = 0 ∨ i = 1 by omega) with rfl | rfl
  · exact st_ar0
  · exact st_ar1
theorem st_le0 : Cond.eq (.length (.field (mtm 0) "java/lang/String" "value" "[B")) (.int (Int32.ofNat (lenJ.getD 0 0))) ∈ mfl := List.mem_of_getElem? (i := 168) (by decide +kernel)
theorem st_le1 : Cond.eq (.length (.field (mtm 1) "java/lang/String" "value" "[B")) (.int (Int32.ofNat (lenJ.getD 1 0))) ∈ mfl := List.mem_of_getElem? (i := 12) (by decide +kernel)
theorem st_le (i : Nat) (hi : i < 2) : Cond.eq (.length (.field (mtm i) "java/lang/String" "value" "[B")) (.int (Int32.ofNat (lenJ.getD i 0))) ∈ mfl := by
  rcases (show i = 0 ∨ i = 1 by omega) with rfl | rfl
  · exact st_le0
  · exact st_le1
theorem st_el (i : Nat) (hi : i < 2) (j : Nat) (hj : j < lenJ.getD i 0) : Cond.eq (.elem (.field (mtm i) "java/lang/String" "value" "[B") (.int (Int32.ofNat j))) (.int ((bytJ.getD i []).getD j 0)) ∈ mfl := by
  rcases (show i = 0 ∨ i = 1 by omega) with rfl | rfl
  · exact st_el0 j hj
  · exact st_el1 j hj
theorem st_ne : Cond.not (Cond.eq (mtm 1) (mtm 0)) ∈ mfl := List.mem_of_getElem? (i := 180) (by decide +kernel)
theorem st_cs : Cond.eq (.static "java/lang/String" "COMPACT_STRINGS" "Z") (.int 1) ∈ mfl := List.mem_of_getElem? (i := 4) (by decide +kernel)
theorem st_fm : Cond.isRef (.static "jdk/internal/util/Preconditions" "SIOOBE_FORMATTER" "Ljava/util/function/BiFunction;") ∈ mfl := List.mem_of_getElem? (i := 5) (by decide +kernel)
