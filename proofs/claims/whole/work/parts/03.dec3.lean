theorem dX8_init_0 : decode cX8_init 0 = .ok (.aload_n 0, 1) := by decide +kernel
theorem dX8_init_1 : decode cX8_init 1 = .ok (.invokespecial 1, 3) := by decide +kernel
theorem dX8_init_4 : decode cX8_init 4 = .ok (.aload_n 0, 1) := by decide +kernel
theorem dX8_init_5 : decode cX8_init 5 = .ok (.sipush 172, 3) := by decide +kernel
theorem dX8_init_8 : decode cX8_init 8 = .ok (.newarray .int, 2) := by decide +kernel
theorem dX8_init_10 : decode cX8_init 10 = .ok (.putfield 7, 3) := by decide +kernel
theorem dX8_init_13 : decode cX8_init 13 = .ok (.aload_n 0, 1) := by decide +kernel
theorem dX8_init_14 : decode cX8_init 14 = .ok (.sipush 172, 3) := by decide +kernel
theorem dX8_init_17 : decode cX8_init 17 = .ok (.newarray .int, 2) := by decide +kernel
theorem dX8_init_19 : decode cX8_init 19 = .ok (.putfield 13, 3) := by decide +kernel
theorem dX8_init_22 : decode cX8_init 22 = .ok (.aload_n 0, 1) := by decide +kernel
theorem dX8_init_23 : decode cX8_init 23 = .ok (.sipush 1376, 3) := by decide +kernel
theorem dX8_init_26 : decode cX8_init 26 = .ok (.newarray .int, 2) := by decide +kernel
theorem dX8_init_28 : decode cX8_init 28 = .ok (.putfield 16, 3) := by decide +kernel
theorem dX8_init_31 : decode cX8_init 31 = .ok (.aload_n 0, 1) := by decide +kernel
theorem dX8_init_32 : decode cX8_init 32 = .ok (.sipush 200, 3) := by decide +kernel
theorem dX8_init_35 : decode cX8_init 35 = .ok (.newarray .byte, 2) := by decide +kernel
theorem dX8_init_37 : decode cX8_init 37 = .ok (.putfield 19, 3) := by decide +kernel
theorem dX8_init_40 : decode cX8_init 40 = .ok (.aload_n 0, 1) := by decide +kernel
theorem dX8_init_41 : decode cX8_init 41 = .ok (.bipush 32, 2) := by decide +kernel
theorem dX8_init_43 : decode cX8_init 43 = .ok (.newarray .long, 2) := by decide +kernel
theorem dX8_init_45 : decode cX8_init 45 = .ok (.putfield 23, 3) := by decide +kernel
theorem dX8_init_48 : decode cX8_init 48 = .ok (.aload_n 0, 1) := by decide +kernel
theorem dX8_init_49 : decode cX8_init 49 = .ok (.bipush 8, 2) := by decide +kernel
theorem dX8_init_51 : decode cX8_init 51 = .ok (.newarray .int, 2) := by decide +kernel
theorem dX8_init_53 : decode cX8_init 53 = .ok (.putfield 27, 3) := by decide +kernel
theorem dX8_init_56 : decode cX8_init 56 = .ok (.aload_n 0, 1) := by decide +kernel
theorem dX8_init_57 : decode cX8_init 57 = .ok (.bipush 6, 2) := by decide +kernel
theorem dX8_init_59 : decode cX8_init 59 = .ok (.newarray .long, 2) := by decide +kernel
theorem dX8_init_61 : decode cX8_init 61 = .ok (.putfield 30, 3) := by decide +kernel
theorem dX8_init_64 : decode cX8_init 64 = .ok (.aload_n 0, 1) := by decide +kernel
theorem dX8_init_65 : decode cX8_init 65 = .ok (.bipush 8, 2) := by decide +kernel
theorem dX8_init_67 : decode cX8_init 67 = .ok (.newarray .int, 2) := by decide +kernel
theorem dX8_init_69 : decode cX8_init 69 = .ok (.putfield 33, 3) := by decide +kernel
theorem dX8_init_72 : decode cX8_init 72 = .ok (.aload_n 0, 1) := by decide +kernel
theorem dX8_init_73 : decode cX8_init 73 = .ok (.bipush 6, 2) := by decide +kernel
theorem dX8_init_75 : decode cX8_init 75 = .ok (.newarray .long, 2) := by decide +kernel
theorem dX8_init_77 : decode cX8_init 77 = .ok (.putfield 36, 3) := by decide +kernel
theorem dX8_init_80 : decode cX8_init 80 = .ok (.aload_n 0, 1) := by decide +kernel
theorem dX8_init_81 : decode cX8_init 81 = .ok (.sipush 172, 3) := by decide +kernel
theorem dX8_init_84 : decode cX8_init 84 = .ok (.newarray .int, 2) := by decide +kernel
theorem dX8_init_86 : decode cX8_init 86 = .ok (.putfield 39, 3) := by decide +kernel
theorem dX8_init_89 : decode cX8_init 89 = .ok (.aload_n 0, 1) := by decide +kernel
theorem dX8_init_90 : decode cX8_init 90 = .ok (.bipush 6, 2) := by decide +kernel
theorem dX8_init_92 : decode cX8_init 92 = .ok (.newarray .long, 2) := by decide +kernel
theorem dX8_init_94 : decode cX8_init 94 = .ok (.putfield 42, 3) := by decide +kernel
theorem dX8_init_97 : decode cX8_init 97 = .ok (.aload_n 0, 1) := by decide +kernel
theorem dX8_init_98 : decode cX8_init 98 = .ok (.bipush 6, 2) := by decide +kernel
theorem dX8_init_100 : decode cX8_init 100 = .ok (.newarray .long, 2) := by decide +kernel
theorem dX8_init_102 : decode cX8_init 102 = .ok (.putfield 45, 3) := by decide +kernel
theorem dX8_init_105 : decode cX8_init 105 = .ok (.aload_n 0, 1) := by decide +kernel
theorem dX8_init_106 : decode cX8_init 106 = .ok (.getfield 7, 3) := by decide +kernel
theorem dX8_init_109 : decode cX8_init 109 = .ok (.bipush 57, 2) := by decide +kernel
theorem dX8_init_111 : decode cX8_init 111 = .ok (.iconst 1, 1) := by decide +kernel
theorem dX8_init_112 : decode cX8_init 112 = .ok (.iastore, 1) := by decide +kernel
theorem dX8_init_113 : decode cX8_init 113 = .ok (.return_, 1) := by decide +kernel
theorem dX8_thrown_0 : decode cX8_thrown 0 = .ok (.aload_n 0, 1) := by decide +kernel
theorem dX8_thrown_1 : decode cX8_thrown 1 = .ok (.getfield 48, 3) := by decide +kernel
theorem dX8_thrown_4 : decode cX8_thrown 4 = .ok (.ireturn, 1) := by decide +kernel
theorem dX8_in_0 : decode cX8_in 0 = .ok (.lload_n 0, 1) := by decide +kernel
theorem dX8_in_1 : decode cX8_in 1 = .ok (.lload_n 2, 1) := by decide +kernel
theorem dX8_in_2 : decode cX8_in 2 = .ok (.lcmp, 1) := by decide +kernel
theorem dX8_in_3 : decode cX8_in 3 = .ok (.ifCond .lt 14, 3) := by decide +kernel
theorem dX8_in_6 : decode cX8_in 6 = .ok (.lload_n 0, 1) := by decide +kernel
theorem dX8_in_7 : decode cX8_in 7 = .ok (.lload 4, 2) := by decide +kernel
theorem dX8_in_9 : decode cX8_in 9 = .ok (.lcmp, 1) := by decide +kernel
theorem dX8_in_10 : decode cX8_in 10 = .ok (.ifCond .gt 7, 3) := by decide +kernel
theorem dX8_in_13 : decode cX8_in 13 = .ok (.iconst 1, 1) := by decide +kernel
theorem dX8_in_14 : decode cX8_in 14 = .ok (.goto 4, 3) := by decide +kernel
theorem dX8_in_17 : decode cX8_in 17 = .ok (.iconst 0, 1) := by decide +kernel
theorem dX8_in_18 : decode cX8_in 18 = .ok (.ireturn, 1) := by decide +kernel
theorem dX8_lost_0 : decode cX8_lost 0 = .ok (.aload_n 0, 1) := by decide +kernel
theorem dX8_lost_1 : decode cX8_lost 1 = .ok (.iconst 1, 1) := by decide +kernel
theorem dX8_lost_2 : decode cX8_lost 2 = .ok (.putfield 48, 3) := by decide +kernel
theorem dX8_lost_5 : decode cX8_lost 5 = .ok (.iconst 0, 1) := by decide +kernel
theorem dX8_lost_6 : decode cX8_lost 6 = .ok (.ireturn, 1) := by decide +kernel
theorem dX8_tell_0 : decode cX8_tell 0 = .ok (.aload_n 0, 1) := by decide +kernel
theorem dX8_tell_1 : decode cX8_tell 1 = .ok (.getfield 23, 3) := by decide +kernel
theorem dX8_tell_4 : decode cX8_tell 4 = .ok (.aload_n 0, 1) := by decide +kernel
theorem dX8_tell_5 : decode cX8_tell 5 = .ok (.getfield 52, 3) := by decide +kernel
theorem dX8_tell_8 : decode cX8_tell 8 = .ok (.lload_n 1, 1) := by decide +kernel
theorem dX8_tell_9 : decode cX8_tell 9 = .ok (.lastore, 1) := by decide +kernel
theorem dX8_tell_10 : decode cX8_tell 10 = .ok (.aload_n 0, 1) := by decide +kernel
theorem dX8_tell_11 : decode cX8_tell 11 = .ok (.dup, 1) := by decide +kernel
theorem dX8_tell_12 : decode cX8_tell 12 = .ok (.getfield 52, 3) := by decide +kernel
theorem dX8_tell_15 : decode cX8_tell 15 = .ok (.iconst 1, 1) := by decide +kernel
theorem dX8_tell_16 : decode cX8_tell 16 = .ok (.iadd, 1) := by decide +kernel
theorem dX8_tell_17 : decode cX8_tell 17 = .ok (.putfield 52, 3) := by decide +kernel
theorem dX8_tell_20 : decode cX8_tell 20 = .ok (.return_, 1) := by decide +kernel
theorem dX8_sign_0 : decode cX8_sign 0 = .ok (.aload_n 0, 1) := by decide +kernel
theorem dX8_sign_1 : decode cX8_sign 1 = .ok (.iconst 0, 1) := by decide +kernel
theorem dX8_sign_2 : decode cX8_sign 2 = .ok (.putfield 48, 3) := by decide +kernel
theorem dX8_sign_5 : decode cX8_sign 5 = .ok (.aload_n 0, 1) := by decide +kernel
theorem dX8_sign_6 : decode cX8_sign 6 = .ok (.getfield 55, 3) := by decide +kernel
theorem dX8_sign_9 : decode cX8_sign 9 = .ok (.iconst 4, 1) := by decide +kernel
theorem dX8_sign_10 : decode cX8_sign 10 = .ok (.iadd, 1) := by decide +kernel
theorem dX8_sign_11 : decode cX8_sign 11 = .ok (.sipush 200, 3) := by decide +kernel
theorem dX8_sign_14 : decode cX8_sign 14 = .ok (.if_icmp .le 5, 3) := by decide +kernel
theorem dX8_sign_17 : decode cX8_sign 17 = .ok (.iconst (-1), 1) := by decide +kernel
theorem dX8_sign_18 : decode cX8_sign 18 = .ok (.ireturn, 1) := by decide +kernel
theorem dX8_sign_19 : decode cX8_sign 19 = .ok (.iconst 3, 1) := by decide +kernel
theorem dX8_sign_20 : decode cX8_sign 20 = .ok (.istore_n 2, 1) := by decide +kernel
theorem dX8_sign_21 : decode cX8_sign 21 = .ok (.iload_n 2, 1) := by decide +kernel
theorem dX8_sign_22 : decode cX8_sign 22 = .ok (.ifCond .lt 32, 3) := by decide +kernel
theorem dX8_sign_25 : decode cX8_sign 25 = .ok (.aload_n 0, 1) := by decide +kernel
theorem dX8_sign_26 : decode cX8_sign 26 = .ok (.getfield 19, 3) := by decide +kernel
theorem dX8_sign_29 : decode cX8_sign 29 = .ok (.aload_n 0, 1) := by decide +kernel
theorem dX8_sign_30 : decode cX8_sign 30 = .ok (.dup, 1) := by decide +kernel
theorem dX8_sign_31 : decode cX8_sign 31 = .ok (.getfield 55, 3) := by decide +kernel
theorem dX8_sign_34 : decode cX8_sign 34 = .ok (.dup_x1, 1) := by decide +kernel
theorem dX8_sign_35 : decode cX8_sign 35 = .ok (.iconst 1, 1) := by decide +kernel
theorem dX8_sign_36 : decode cX8_sign 36 = .ok (.iadd, 1) := by decide +kernel
theorem dX8_sign_37 : decode cX8_sign 37 = .ok (.putfield 55, 3) := by decide +kernel
theorem dX8_sign_40 : decode cX8_sign 40 = .ok (.iload_n 1, 1) := by decide +kernel
theorem dX8_sign_41 : decode cX8_sign 41 = .ok (.bipush 8, 2) := by decide +kernel
theorem dX8_sign_43 : decode cX8_sign 43 = .ok (.iload_n 2, 1) := by decide +kernel
theorem dX8_sign_44 : decode cX8_sign 44 = .ok (.imul, 1) := by decide +kernel
theorem dX8_sign_45 : decode cX8_sign 45 = .ok (.ishr, 1) := by decide +kernel
theorem dX8_sign_46 : decode cX8_sign 46 = .ok (.i2b, 1) := by decide +kernel
theorem dX8_sign_47 : decode cX8_sign 47 = .ok (.bastore, 1) := by decide +kernel
theorem dX8_sign_48 : decode cX8_sign 48 = .ok (.iinc 2 (-1), 3) := by decide +kernel
theorem dX8_sign_51 : decode cX8_sign 51 = .ok (.goto (-30), 3) := by decide +kernel
theorem dX8_sign_54 : decode cX8_sign 54 = .ok (.aload_n 0, 1) := by decide +kernel
theorem dX8_sign_55 : decode cX8_sign 55 = .ok (.getfield 55, 3) := by decide +kernel
theorem dX8_sign_58 : decode cX8_sign 58 = .ok (.ireturn, 1) := by decide +kernel
theorem dX8_end_0 : decode cX8_end 0 = .ok (.aload_n 0, 1) := by decide +kernel
theorem dX8_end_1 : decode cX8_end 1 = .ok (.iconst 0, 1) := by decide +kernel
theorem dX8_end_2 : decode cX8_end 2 = .ok (.putfield 48, 3) := by decide +kernel
theorem dX8_end_5 : decode cX8_end 5 = .ok (.iload_n 1, 1) := by decide +kernel
theorem dX8_end_6 : decode cX8_end 6 = .ok (.i2l, 1) := by decide +kernel
theorem dX8_end_7 : decode cX8_end 7 = .ok (.lconst 0, 1) := by decide +kernel
theorem dX8_end_8 : decode cX8_end 8 = .ok (.aload_n 0, 1) := by decide +kernel
theorem dX8_end_9 : decode cX8_end 9 = .ok (.getfield 55, 3) := by decide +kernel
theorem dX8_end_12 : decode cX8_end 12 = .ok (.i2l, 1) := by decide +kernel
theorem dX8_end_13 : decode cX8_end 13 = .ok (.invokestatic 58, 3) := by decide +kernel
theorem dX8_end_16 : decode cX8_end 16 = .ok (.ifCond .ne 5, 3) := by decide +kernel
theorem dX8_end_19 : decode cX8_end 19 = .ok (.iconst 0, 1) := by decide +kernel
theorem dX8_end_20 : decode cX8_end 20 = .ok (.ireturn, 1) := by decide +kernel
theorem dX8_end_21 : decode cX8_end 21 = .ok (.aload_n 0, 1) := by decide +kernel
theorem dX8_end_22 : decode cX8_end 22 = .ok (.iload_n 1, 1) := by decide +kernel
theorem dX8_end_23 : decode cX8_end 23 = .ok (.putfield 55, 3) := by decide +kernel
theorem dX8_end_26 : decode cX8_end 26 = .ok (.iconst 1, 1) := by decide +kernel
theorem dX8_end_27 : decode cX8_end 27 = .ok (.ireturn, 1) := by decide +kernel
theorem dX8_isHolder_0 : decode cX8_isHolder 0 = .ok (.iload_n 0, 1) := by decide +kernel
theorem dX8_isHolder_1 : decode cX8_isHolder 1 = .ok (.i2l, 1) := by decide +kernel
theorem dX8_isHolder_2 : decode cX8_isHolder 2 = .ok (.lconst 0, 1) := by decide +kernel
theorem dX8_isHolder_3 : decode cX8_isHolder 3 = .ok (.ldc2_w 62, 3) := by decide +kernel
theorem dX8_isHolder_6 : decode cX8_isHolder 6 = .ok (.invokestatic 58, 3) := by decide +kernel
theorem dX8_isHolder_9 : decode cX8_isHolder 9 = .ok (.ireturn, 1) := by decide +kernel
theorem dX8_isType_0 : decode cX8_isType 0 = .ok (.iload_n 1, 1) := by decide +kernel
theorem dX8_isType_1 : decode cX8_isType 1 = .ok (.i2l, 1) := by decide +kernel
theorem dX8_isType_2 : decode cX8_isType 2 = .ok (.lconst 0, 1) := by decide +kernel
theorem dX8_isType_3 : decode cX8_isType 3 = .ok (.aload_n 0, 1) := by decide +kernel
theorem dX8_isType_4 : decode cX8_isType 4 = .ok (.getfield 7, 3) := by decide +kernel
theorem dX8_isType_7 : decode cX8_isType 7 = .ok (.bipush 57, 2) := by decide +kernel
theorem dX8_isType_9 : decode cX8_isType 9 = .ok (.iaload, 1) := by decide +kernel
theorem dX8_isType_10 : decode cX8_isType 10 = .ok (.iconst 1, 1) := by decide +kernel
theorem dX8_isType_11 : decode cX8_isType 11 = .ok (.isub, 1) := by decide +kernel
theorem dX8_isType_12 : decode cX8_isType 12 = .ok (.i2l, 1) := by decide +kernel
theorem dX8_isType_13 : decode cX8_isType 13 = .ok (.invokestatic 58, 3) := by decide +kernel
theorem dX8_isType_16 : decode cX8_isType 16 = .ok (.ireturn, 1) := by decide +kernel
theorem dX8_isRound_0 : decode cX8_isRound 0 = .ok (.iload_n 1, 1) := by decide +kernel
theorem dX8_isRound_1 : decode cX8_isRound 1 = .ok (.ifCond .le 15, 3) := by decide +kernel
theorem dX8_isRound_4 : decode cX8_isRound 4 = .ok (.aload_n 0, 1) := by decide +kernel
theorem dX8_isRound_5 : decode cX8_isRound 5 = .ok (.iload_n 1, 1) := by decide +kernel
theorem dX8_isRound_6 : decode cX8_isRound 6 = .ok (.invokevirtual 64, 3) := by decide +kernel
theorem dX8_isRound_9 : decode cX8_isRound 9 = .ok (.ifCond .eq 7, 3) := by decide +kernel
theorem dX8_isRound_12 : decode cX8_isRound 12 = .ok (.iconst 1, 1) := by decide +kernel
theorem dX8_isRound_13 : decode cX8_isRound 13 = .ok (.goto 4, 3) := by decide +kernel
theorem dX8_isRound_16 : decode cX8_isRound 16 = .ok (.iconst 0, 1) := by decide +kernel
theorem dX8_isRound_17 : decode cX8_isRound 17 = .ok (.ireturn, 1) := by decide +kernel
theorem dX8_sharesOf_0 : decode cX8_sharesOf 0 = .ok (.aload_n 0, 1) := by decide +kernel
theorem dX8_sharesOf_1 : decode cX8_sharesOf 1 = .ok (.getfield 7, 3) := by decide +kernel
theorem dX8_sharesOf_4 : decode cX8_sharesOf 4 = .ok (.bipush 6, 2) := by decide +kernel
theorem dX8_sharesOf_6 : decode cX8_sharesOf 6 = .ok (.iload_n 1, 1) := by decide +kernel
theorem dX8_sharesOf_7 : decode cX8_sharesOf 7 = .ok (.imul, 1) := by decide +kernel
theorem dX8_sharesOf_8 : decode cX8_sharesOf 8 = .ok (.iload_n 2, 1) := by decide +kernel
theorem dX8_sharesOf_9 : decode cX8_sharesOf 9 = .ok (.iadd, 1) := by decide +kernel
theorem dX8_sharesOf_10 : decode cX8_sharesOf 10 = .ok (.iaload, 1) := by decide +kernel
theorem dX8_sharesOf_11 : decode cX8_sharesOf 11 = .ok (.ireturn, 1) := by decide +kernel
theorem dX8_has_0 : decode cX8_has 0 = .ok (.aload_n 0, 1) := by decide +kernel
theorem dX8_has_1 : decode cX8_has 1 = .ok (.getfield 7, 3) := by decide +kernel
theorem dX8_has_4 : decode cX8_has 4 = .ok (.bipush 6, 2) := by decide +kernel
theorem dX8_has_6 : decode cX8_has 6 = .ok (.iload_n 1, 1) := by decide +kernel
theorem dX8_has_7 : decode cX8_has 7 = .ok (.imul, 1) := by decide +kernel
theorem dX8_has_8 : decode cX8_has 8 = .ok (.iload_n 2, 1) := by decide +kernel
theorem dX8_has_9 : decode cX8_has 9 = .ok (.iadd, 1) := by decide +kernel
theorem dX8_has_10 : decode cX8_has 10 = .ok (.iload_n 3, 1) := by decide +kernel
theorem dX8_has_11 : decode cX8_has 11 = .ok (.iastore, 1) := by decide +kernel
theorem dX8_has_12 : decode cX8_has 12 = .ok (.return_, 1) := by decide +kernel
theorem dX8_does_0 : decode cX8_does 0 = .ok (.aload_n 0, 1) := by decide +kernel
theorem dX8_does_1 : decode cX8_does 1 = .ok (.invokevirtual 68, 3) := by decide +kernel
theorem dX8_does_4 : decode cX8_does 4 = .ok (.aload_n 0, 1) := by decide +kernel
theorem dX8_does_5 : decode cX8_does 5 = .ok (.invokevirtual 71, 3) := by decide +kernel
theorem dX8_does_8 : decode cX8_does 8 = .ok (.return_, 1) := by decide +kernel
theorem dX8_did_0 : decode cX8_did 0 = .ok (.aload_n 0, 1) := by decide +kernel
theorem dX8_did_1 : decode cX8_did 1 = .ok (.getfield 74, 3) := by decide +kernel
theorem dX8_did_4 : decode cX8_did 4 = .ok (.bipush 8, 2) := by decide +kernel
theorem dX8_did_6 : decode cX8_did 6 = .ok (.if_icmp .ne 46, 3) := by decide +kernel
theorem dX8_did_9 : decode cX8_did 9 = .ok (.sipush 172, 3) := by decide +kernel
theorem dX8_did_12 : decode cX8_did 12 = .ok (.istore_n 1, 1) := by decide +kernel
theorem dX8_did_13 : decode cX8_did 13 = .ok (.iload_n 1, 1) := by decide +kernel
theorem dX8_did_14 : decode cX8_did 14 = .ok (.sipush 1376, 3) := by decide +kernel
theorem dX8_did_17 : decode cX8_did 17 = .ok (.if_icmp .ge 25, 3) := by decide +kernel
theorem dX8_did_20 : decode cX8_did 20 = .ok (.aload_n 0, 1) := by decide +kernel
theorem dX8_did_21 : decode cX8_did 21 = .ok (.getfield 16, 3) := by decide +kernel
theorem dX8_did_24 : decode cX8_did 24 = .ok (.iload_n 1, 1) := by decide +kernel
theorem dX8_did_25 : decode cX8_did 25 = .ok (.sipush 172, 3) := by decide +kernel
theorem dX8_did_28 : decode cX8_did 28 = .ok (.isub, 1) := by decide +kernel
theorem dX8_did_29 : decode cX8_did 29 = .ok (.aload_n 0, 1) := by decide +kernel
theorem dX8_did_30 : decode cX8_did 30 = .ok (.getfield 16, 3) := by decide +kernel
theorem dX8_did_33 : decode cX8_did 33 = .ok (.iload_n 1, 1) := by decide +kernel
theorem dX8_did_34 : decode cX8_did 34 = .ok (.iaload, 1) := by decide +kernel
theorem dX8_did_35 : decode cX8_did 35 = .ok (.iastore, 1) := by decide +kernel
theorem dX8_did_36 : decode cX8_did 36 = .ok (.iinc 1 1, 3) := by decide +kernel
theorem dX8_did_39 : decode cX8_did 39 = .ok (.goto (-26), 3) := by decide +kernel
theorem dX8_did_42 : decode cX8_did 42 = .ok (.aload_n 0, 1) := by decide +kernel
theorem dX8_did_43 : decode cX8_did 43 = .ok (.dup, 1) := by decide +kernel
theorem dX8_did_44 : decode cX8_did 44 = .ok (.getfield 74, 3) := by decide +kernel
theorem dX8_did_47 : decode cX8_did 47 = .ok (.iconst 1, 1) := by decide +kernel
theorem dX8_did_48 : decode cX8_did 48 = .ok (.isub, 1) := by decide +kernel
theorem dX8_did_49 : decode cX8_did 49 = .ok (.putfield 74, 3) := by decide +kernel
theorem dX8_did_52 : decode cX8_did 52 = .ok (.iconst 0, 1) := by decide +kernel
theorem dX8_did_53 : decode cX8_did 53 = .ok (.istore_n 1, 1) := by decide +kernel
theorem dX8_did_54 : decode cX8_did 54 = .ok (.iload_n 1, 1) := by decide +kernel
theorem dX8_did_55 : decode cX8_did 55 = .ok (.sipush 172, 3) := by decide +kernel
theorem dX8_did_58 : decode cX8_did 58 = .ok (.if_icmp .ge 30, 3) := by decide +kernel
theorem dX8_did_61 : decode cX8_did 61 = .ok (.aload_n 0, 1) := by decide +kernel
theorem dX8_did_62 : decode cX8_did 62 = .ok (.getfield 16, 3) := by decide +kernel
theorem dX8_did_65 : decode cX8_did 65 = .ok (.sipush 172, 3) := by decide +kernel
theorem dX8_did_68 : decode cX8_did 68 = .ok (.aload_n 0, 1) := by decide +kernel
theorem dX8_did_69 : decode cX8_did 69 = .ok (.getfield 74, 3) := by decide +kernel
theorem dX8_did_72 : decode cX8_did 72 = .ok (.imul, 1) := by decide +kernel
theorem dX8_did_73 : decode cX8_did 73 = .ok (.iload_n 1, 1) := by decide +kernel
theorem dX8_did_74 : decode cX8_did 74 = .ok (.iadd, 1) := by decide +kernel
theorem dX8_did_75 : decode cX8_did 75 = .ok (.aload_n 0, 1) := by decide +kernel
theorem dX8_did_76 : decode cX8_did 76 = .ok (.getfield 39, 3) := by decide +kernel
theorem dX8_did_79 : decode cX8_did 79 = .ok (.iload_n 1, 1) := by decide +kernel
theorem dX8_did_80 : decode cX8_did 80 = .ok (.iaload, 1) := by decide +kernel
theorem dX8_did_81 : decode cX8_did 81 = .ok (.iastore, 1) := by decide +kernel
theorem dX8_did_82 : decode cX8_did 82 = .ok (.iinc 1 1, 3) := by decide +kernel
theorem dX8_did_85 : decode cX8_did 85 = .ok (.goto (-31), 3) := by decide +kernel
theorem dX8_did_88 : decode cX8_did 88 = .ok (.aload_n 0, 1) := by decide +kernel
theorem dX8_did_89 : decode cX8_did 89 = .ok (.dup, 1) := by decide +kernel
theorem dX8_did_90 : decode cX8_did 90 = .ok (.getfield 74, 3) := by decide +kernel
theorem dX8_did_93 : decode cX8_did 93 = .ok (.iconst 1, 1) := by decide +kernel
theorem dX8_did_94 : decode cX8_did 94 = .ok (.iadd, 1) := by decide +kernel
theorem dX8_did_95 : decode cX8_did 95 = .ok (.putfield 74, 3) := by decide +kernel
theorem dX8_did_98 : decode cX8_did 98 = .ok (.aload_n 0, 1) := by decide +kernel
theorem dX8_did_99 : decode cX8_did 99 = .ok (.dup, 1) := by decide +kernel
theorem dX8_did_100 : decode cX8_did 100 = .ok (.getfield 77, 3) := by decide +kernel
theorem dX8_did_103 : decode cX8_did 103 = .ok (.iconst 1, 1) := by decide +kernel
theorem dX8_did_104 : decode cX8_did 104 = .ok (.iadd, 1) := by decide +kernel
theorem dX8_did_105 : decode cX8_did 105 = .ok (.putfield 77, 3) := by decide +kernel
theorem dX8_did_108 : decode cX8_did 108 = .ok (.return_, 1) := by decide +kernel
theorem dX8_undoes_0 : decode cX8_undoes 0 = .ok (.aload_n 0, 1) := by decide +kernel
theorem dX8_undoes_1 : decode cX8_undoes 1 = .ok (.dup, 1) := by decide +kernel
theorem dX8_undoes_2 : decode cX8_undoes 2 = .ok (.getfield 74, 3) := by decide +kernel
theorem dX8_undoes_5 : decode cX8_undoes 5 = .ok (.iconst 1, 1) := by decide +kernel
theorem dX8_undoes_6 : decode cX8_undoes 6 = .ok (.isub, 1) := by decide +kernel
theorem dX8_undoes_7 : decode cX8_undoes 7 = .ok (.putfield 74, 3) := by decide +kernel
theorem dX8_undoes_10 : decode cX8_undoes 10 = .ok (.iconst 0, 1) := by decide +kernel
theorem dX8_undoes_11 : decode cX8_undoes 11 = .ok (.istore_n 1, 1) := by decide +kernel
theorem dX8_undoes_12 : decode cX8_undoes 12 = .ok (.iload_n 1, 1) := by decide +kernel
theorem dX8_undoes_13 : decode cX8_undoes 13 = .ok (.sipush 172, 3) := by decide +kernel
theorem dX8_undoes_16 : decode cX8_undoes 16 = .ok (.if_icmp .ge 30, 3) := by decide +kernel
theorem dX8_undoes_19 : decode cX8_undoes 19 = .ok (.aload_n 0, 1) := by decide +kernel
theorem dX8_undoes_20 : decode cX8_undoes 20 = .ok (.getfield 7, 3) := by decide +kernel
theorem dX8_undoes_23 : decode cX8_undoes 23 = .ok (.iload_n 1, 1) := by decide +kernel
theorem dX8_undoes_24 : decode cX8_undoes 24 = .ok (.aload_n 0, 1) := by decide +kernel
theorem dX8_undoes_25 : decode cX8_undoes 25 = .ok (.getfield 16, 3) := by decide +kernel
theorem dX8_undoes_28 : decode cX8_undoes 28 = .ok (.sipush 172, 3) := by decide +kernel
theorem dX8_undoes_31 : decode cX8_undoes 31 = .ok (.aload_n 0, 1) := by decide +kernel
theorem dX8_undoes_32 : decode cX8_undoes 32 = .ok (.getfield 74, 3) := by decide +kernel
theorem dX8_undoes_35 : decode cX8_undoes 35 = .ok (.imul, 1) := by decide +kernel
theorem dX8_undoes_36 : decode cX8_undoes 36 = .ok (.iload_n 1, 1) := by decide +kernel
theorem dX8_undoes_37 : decode cX8_undoes 37 = .ok (.iadd, 1) := by decide +kernel
theorem dX8_undoes_38 : decode cX8_undoes 38 = .ok (.iaload, 1) := by decide +kernel
theorem dX8_undoes_39 : decode cX8_undoes 39 = .ok (.iastore, 1) := by decide +kernel
theorem dX8_undoes_40 : decode cX8_undoes 40 = .ok (.iinc 1 1, 3) := by decide +kernel
theorem dX8_undoes_43 : decode cX8_undoes 43 = .ok (.goto (-31), 3) := by decide +kernel
theorem dX8_undoes_46 : decode cX8_undoes 46 = .ok (.return_, 1) := by decide +kernel
theorem dX8_converted_0 : decode cX8_converted 0 = .ok (.iload_n 2, 1) := by decide +kernel
theorem dX8_converted_1 : decode cX8_converted 1 = .ok (.ifCond .ne 8, 3) := by decide +kernel
theorem dX8_converted_4 : decode cX8_converted 4 = .ok (.iload_n 1, 1) := by decide +kernel
theorem dX8_converted_5 : decode cX8_converted 5 = .ok (.i2l, 1) := by decide +kernel
theorem dX8_converted_6 : decode cX8_converted 6 = .ok (.goto 27, 3) := by decide +kernel
theorem dX8_converted_9 : decode cX8_converted 9 = .ok (.iload_n 1, 1) := by decide +kernel
theorem dX8_converted_10 : decode cX8_converted 10 = .ok (.i2l, 1) := by decide +kernel
theorem dX8_converted_11 : decode cX8_converted 11 = .ok (.aload_n 0, 1) := by decide +kernel
theorem dX8_converted_12 : decode cX8_converted 12 = .ok (.getfield 7, 3) := by decide +kernel
theorem dX8_converted_15 : decode cX8_converted 15 = .ok (.bipush 58, 2) := by decide +kernel
theorem dX8_converted_17 : decode cX8_converted 17 = .ok (.iload_n 2, 1) := by decide +kernel
theorem dX8_converted_18 : decode cX8_converted 18 = .ok (.iadd, 1) := by decide +kernel
theorem dX8_converted_19 : decode cX8_converted 19 = .ok (.iaload, 1) := by decide +kernel
theorem dX8_converted_20 : decode cX8_converted 20 = .ok (.i2l, 1) := by decide +kernel
theorem dX8_converted_21 : decode cX8_converted 21 = .ok (.lmul, 1) := by decide +kernel
theorem dX8_converted_22 : decode cX8_converted 22 = .ok (.aload_n 0, 1) := by decide +kernel
theorem dX8_converted_23 : decode cX8_converted 23 = .ok (.getfield 7, 3) := by decide +kernel
theorem dX8_converted_26 : decode cX8_converted 26 = .ok (.bipush 64, 2) := by decide +kernel
theorem dX8_converted_28 : decode cX8_converted 28 = .ok (.iload_n 2, 1) := by decide +kernel
theorem dX8_converted_29 : decode cX8_converted 29 = .ok (.iadd, 1) := by decide +kernel
theorem dX8_converted_30 : decode cX8_converted 30 = .ok (.iaload, 1) := by decide +kernel
theorem dX8_converted_31 : decode cX8_converted 31 = .ok (.i2l, 1) := by decide +kernel
theorem dX8_converted_32 : decode cX8_converted 32 = .ok (.ldiv, 1) := by decide +kernel
theorem dX8_converted_33 : decode cX8_converted 33 = .ok (.lreturn, 1) := by decide +kernel
theorem dX8_stakeByShares_0 : decode cX8_stakeByShares 0 = .ok (.lconst 0, 1) := by decide +kernel
theorem dX8_stakeByShares_1 : decode cX8_stakeByShares 1 = .ok (.lstore_n 2, 1) := by decide +kernel
theorem dX8_stakeByShares_2 : decode cX8_stakeByShares 2 = .ok (.iconst 0, 1) := by decide +kernel
theorem dX8_stakeByShares_3 : decode cX8_stakeByShares 3 = .ok (.istore 4, 2) := by decide +kernel
theorem dX8_stakeByShares_5 : decode cX8_stakeByShares 5 = .ok (.iload 4, 2) := by decide +kernel
theorem dX8_stakeByShares_7 : decode cX8_stakeByShares 7 = .ok (.aload_n 0, 1) := by decide +kernel
theorem dX8_stakeByShares_8 : decode cX8_stakeByShares 8 = .ok (.getfield 7, 3) := by decide +kernel
theorem dX8_stakeByShares_11 : decode cX8_stakeByShares 11 = .ok (.bipush 57, 2) := by decide +kernel
theorem dX8_stakeByShares_13 : decode cX8_stakeByShares 13 = .ok (.iaload, 1) := by decide +kernel
theorem dX8_stakeByShares_14 : decode cX8_stakeByShares 14 = .ok (.if_icmp .ge 25, 3) := by decide +kernel
theorem dX8_stakeByShares_17 : decode cX8_stakeByShares 17 = .ok (.lload_n 2, 1) := by decide +kernel
theorem dX8_stakeByShares_18 : decode cX8_stakeByShares 18 = .ok (.aload_n 0, 1) := by decide +kernel
theorem dX8_stakeByShares_19 : decode cX8_stakeByShares 19 = .ok (.aload_n 0, 1) := by decide +kernel
theorem dX8_stakeByShares_20 : decode cX8_stakeByShares 20 = .ok (.iload_n 1, 1) := by decide +kernel
theorem dX8_stakeByShares_21 : decode cX8_stakeByShares 21 = .ok (.iload 4, 2) := by decide +kernel
theorem dX8_stakeByShares_23 : decode cX8_stakeByShares 23 = .ok (.invokevirtual 80, 3) := by decide +kernel
theorem dX8_stakeByShares_26 : decode cX8_stakeByShares 26 = .ok (.iload 4, 2) := by decide +kernel
theorem dX8_stakeByShares_28 : decode cX8_stakeByShares 28 = .ok (.invokevirtual 84, 3) := by decide +kernel
theorem dX8_stakeByShares_31 : decode cX8_stakeByShares 31 = .ok (.ladd, 1) := by decide +kernel
theorem dX8_stakeByShares_32 : decode cX8_stakeByShares 32 = .ok (.lstore_n 2, 1) := by decide +kernel
theorem dX8_stakeByShares_33 : decode cX8_stakeByShares 33 = .ok (.iinc 4 1, 3) := by decide +kernel
theorem dX8_stakeByShares_36 : decode cX8_stakeByShares 36 = .ok (.goto (-31), 3) := by decide +kernel
theorem dX8_stakeByShares_39 : decode cX8_stakeByShares 39 = .ok (.lload_n 2, 1) := by decide +kernel
theorem dX8_stakeByShares_40 : decode cX8_stakeByShares 40 = .ok (.lreturn, 1) := by decide +kernel
theorem dX8_convertedType_0 : decode cX8_convertedType 0 = .ok (.lconst 0, 1) := by decide +kernel
theorem dX8_convertedType_1 : decode cX8_convertedType 1 = .ok (.lstore_n 2, 1) := by decide +kernel
theorem dX8_convertedType_2 : decode cX8_convertedType 2 = .ok (.iconst 0, 1) := by decide +kernel
theorem dX8_convertedType_3 : decode cX8_convertedType 3 = .ok (.istore 4, 2) := by decide +kernel
theorem dX8_convertedType_5 : decode cX8_convertedType 5 = .ok (.iload 4, 2) := by decide +kernel
theorem dX8_convertedType_7 : decode cX8_convertedType 7 = .ok (.bipush 8, 2) := by decide +kernel
theorem dX8_convertedType_9 : decode cX8_convertedType 9 = .ok (.if_icmp .ge 24, 3) := by decide +kernel
theorem dX8_convertedType_12 : decode cX8_convertedType 12 = .ok (.lload_n 2, 1) := by decide +kernel
theorem dX8_convertedType_13 : decode cX8_convertedType 13 = .ok (.aload_n 0, 1) := by decide +kernel
theorem dX8_convertedType_14 : decode cX8_convertedType 14 = .ok (.aload_n 0, 1) := by decide +kernel
theorem dX8_convertedType_15 : decode cX8_convertedType 15 = .ok (.iload 4, 2) := by decide +kernel
theorem dX8_convertedType_17 : decode cX8_convertedType 17 = .ok (.iload_n 1, 1) := by decide +kernel
theorem dX8_convertedType_18 : decode cX8_convertedType 18 = .ok (.invokevirtual 80, 3) := by decide +kernel
theorem dX8_convertedType_21 : decode cX8_convertedType 21 = .ok (.iload_n 1, 1) := by decide +kernel
theorem dX8_convertedType_22 : decode cX8_convertedType 22 = .ok (.invokevirtual 84, 3) := by decide +kernel
theorem dX8_convertedType_25 : decode cX8_convertedType 25 = .ok (.ladd, 1) := by decide +kernel
theorem dX8_convertedType_26 : decode cX8_convertedType 26 = .ok (.lstore_n 2, 1) := by decide +kernel
theorem dX8_convertedType_27 : decode cX8_convertedType 27 = .ok (.iinc 4 1, 3) := by decide +kernel
theorem dX8_convertedType_30 : decode cX8_convertedType 30 = .ok (.goto (-25), 3) := by decide +kernel
theorem dX8_convertedType_33 : decode cX8_convertedType 33 = .ok (.lload_n 2, 1) := by decide +kernel
theorem dX8_convertedType_34 : decode cX8_convertedType 34 = .ok (.lreturn, 1) := by decide +kernel
theorem dX8_allByShares_0 : decode cX8_allByShares 0 = .ok (.lconst 0, 1) := by decide +kernel
theorem dX8_allByShares_1 : decode cX8_allByShares 1 = .ok (.lstore_n 1, 1) := by decide +kernel
theorem dX8_allByShares_2 : decode cX8_allByShares 2 = .ok (.iconst 0, 1) := by decide +kernel
theorem dX8_allByShares_3 : decode cX8_allByShares 3 = .ok (.istore_n 3, 1) := by decide +kernel
theorem dX8_allByShares_4 : decode cX8_allByShares 4 = .ok (.iload_n 3, 1) := by decide +kernel
theorem dX8_allByShares_5 : decode cX8_allByShares 5 = .ok (.bipush 8, 2) := by decide +kernel
theorem dX8_allByShares_7 : decode cX8_allByShares 7 = .ok (.if_icmp .ge 17, 3) := by decide +kernel
theorem dX8_allByShares_10 : decode cX8_allByShares 10 = .ok (.lload_n 1, 1) := by decide +kernel
theorem dX8_allByShares_11 : decode cX8_allByShares 11 = .ok (.aload_n 0, 1) := by decide +kernel
theorem dX8_allByShares_12 : decode cX8_allByShares 12 = .ok (.iload_n 3, 1) := by decide +kernel
theorem dX8_allByShares_13 : decode cX8_allByShares 13 = .ok (.invokevirtual 88, 3) := by decide +kernel
theorem dX8_allByShares_16 : decode cX8_allByShares 16 = .ok (.ladd, 1) := by decide +kernel
theorem dX8_allByShares_17 : decode cX8_allByShares 17 = .ok (.lstore_n 1, 1) := by decide +kernel
theorem dX8_allByShares_18 : decode cX8_allByShares 18 = .ok (.iinc 3 1, 3) := by decide +kernel
theorem dX8_allByShares_21 : decode cX8_allByShares 21 = .ok (.goto (-17), 3) := by decide +kernel
theorem dX8_allByShares_24 : decode cX8_allByShares 24 = .ok (.lload_n 1, 1) := by decide +kernel
theorem dX8_allByShares_25 : decode cX8_allByShares 25 = .ok (.lreturn, 1) := by decide +kernel
theorem dX8_allOptions_0 : decode cX8_allOptions 0 = .ok (.lconst 0, 1) := by decide +kernel
theorem dX8_allOptions_1 : decode cX8_allOptions 1 = .ok (.lstore_n 1, 1) := by decide +kernel
theorem dX8_allOptions_2 : decode cX8_allOptions 2 = .ok (.iconst 0, 1) := by decide +kernel
theorem dX8_allOptions_3 : decode cX8_allOptions 3 = .ok (.istore_n 3, 1) := by decide +kernel
theorem dX8_allOptions_4 : decode cX8_allOptions 4 = .ok (.iload_n 3, 1) := by decide +kernel
theorem dX8_allOptions_5 : decode cX8_allOptions 5 = .ok (.bipush 8, 2) := by decide +kernel
theorem dX8_allOptions_7 : decode cX8_allOptions 7 = .ok (.if_icmp .ge 22, 3) := by decide +kernel
theorem dX8_allOptions_10 : decode cX8_allOptions 10 = .ok (.lload_n 1, 1) := by decide +kernel
theorem dX8_allOptions_11 : decode cX8_allOptions 11 = .ok (.aload_n 0, 1) := by decide +kernel
theorem dX8_allOptions_12 : decode cX8_allOptions 12 = .ok (.getfield 7, 3) := by decide +kernel
theorem dX8_allOptions_15 : decode cX8_allOptions 15 = .ok (.bipush 48, 2) := by decide +kernel
theorem dX8_allOptions_17 : decode cX8_allOptions 17 = .ok (.iload_n 3, 1) := by decide +kernel
theorem dX8_allOptions_18 : decode cX8_allOptions 18 = .ok (.iadd, 1) := by decide +kernel
theorem dX8_allOptions_19 : decode cX8_allOptions 19 = .ok (.iaload, 1) := by decide +kernel
theorem dX8_allOptions_20 : decode cX8_allOptions 20 = .ok (.i2l, 1) := by decide +kernel
theorem dX8_allOptions_21 : decode cX8_allOptions 21 = .ok (.ladd, 1) := by decide +kernel
theorem dX8_allOptions_22 : decode cX8_allOptions 22 = .ok (.lstore_n 1, 1) := by decide +kernel
theorem dX8_allOptions_23 : decode cX8_allOptions 23 = .ok (.iinc 3 1, 3) := by decide +kernel
theorem dX8_allOptions_26 : decode cX8_allOptions 26 = .ok (.goto (-22), 3) := by decide +kernel
theorem dX8_allOptions_29 : decode cX8_allOptions 29 = .ok (.lload_n 1, 1) := by decide +kernel
theorem dX8_allOptions_30 : decode cX8_allOptions 30 = .ok (.lreturn, 1) := by decide +kernel
theorem dX8_stakeOf_0 : decode cX8_stakeOf 0 = .ok (.aload_n 0, 1) := by decide +kernel
theorem dX8_stakeOf_1 : decode cX8_stakeOf 1 = .ok (.iload_n 1, 1) := by decide +kernel
theorem dX8_stakeOf_2 : decode cX8_stakeOf 2 = .ok (.invokevirtual 88, 3) := by decide +kernel
theorem dX8_stakeOf_5 : decode cX8_stakeOf 5 = .ok (.aload_n 0, 1) := by decide +kernel
theorem dX8_stakeOf_6 : decode cX8_stakeOf 6 = .ok (.getfield 7, 3) := by decide +kernel
theorem dX8_stakeOf_9 : decode cX8_stakeOf 9 = .ok (.bipush 48, 2) := by decide +kernel
theorem dX8_stakeOf_11 : decode cX8_stakeOf 11 = .ok (.iload_n 1, 1) := by decide +kernel
theorem dX8_stakeOf_12 : decode cX8_stakeOf 12 = .ok (.iadd, 1) := by decide +kernel
theorem dX8_stakeOf_13 : decode cX8_stakeOf 13 = .ok (.iaload, 1) := by decide +kernel
theorem dX8_stakeOf_14 : decode cX8_stakeOf 14 = .ok (.i2l, 1) := by decide +kernel
theorem dX8_stakeOf_15 : decode cX8_stakeOf 15 = .ok (.ladd, 1) := by decide +kernel
theorem dX8_stakeOf_16 : decode cX8_stakeOf 16 = .ok (.lreturn, 1) := by decide +kernel
theorem dX8_fullNow_0 : decode cX8_fullNow 0 = .ok (.aload_n 0, 1) := by decide +kernel
theorem dX8_fullNow_1 : decode cX8_fullNow 1 = .ok (.invokevirtual 92, 3) := by decide +kernel
theorem dX8_fullNow_4 : decode cX8_fullNow 4 = .ok (.aload_n 0, 1) := by decide +kernel
theorem dX8_fullNow_5 : decode cX8_fullNow 5 = .ok (.invokevirtual 96, 3) := by decide +kernel
theorem dX8_fullNow_8 : decode cX8_fullNow 8 = .ok (.ladd, 1) := by decide +kernel
theorem dX8_fullNow_9 : decode cX8_fullNow 9 = .ok (.aload_n 0, 1) := by decide +kernel
theorem dX8_fullNow_10 : decode cX8_fullNow 10 = .ok (.getfield 7, 3) := by decide +kernel
theorem dX8_fullNow_13 : decode cX8_fullNow 13 = .ok (.bipush 56, 2) := by decide +kernel
theorem dX8_fullNow_15 : decode cX8_fullNow 15 = .ok (.iaload, 1) := by decide +kernel
theorem dX8_fullNow_16 : decode cX8_fullNow 16 = .ok (.i2l, 1) := by decide +kernel
theorem dX8_fullNow_17 : decode cX8_fullNow 17 = .ok (.ladd, 1) := by decide +kernel
theorem dX8_fullNow_18 : decode cX8_fullNow 18 = .ok (.lreturn, 1) := by decide +kernel
theorem dX8_allShares_0 : decode cX8_allShares 0 = .ok (.lconst 0, 1) := by decide +kernel
theorem dX8_allShares_1 : decode cX8_allShares 1 = .ok (.lstore_n 2, 1) := by decide +kernel
theorem dX8_allShares_2 : decode cX8_allShares 2 = .ok (.iconst 0, 1) := by decide +kernel
theorem dX8_allShares_3 : decode cX8_allShares 3 = .ok (.istore 4, 2) := by decide +kernel
theorem dX8_allShares_5 : decode cX8_allShares 5 = .ok (.iload 4, 2) := by decide +kernel
theorem dX8_allShares_7 : decode cX8_allShares 7 = .ok (.bipush 8, 2) := by decide +kernel
theorem dX8_allShares_9 : decode cX8_allShares 9 = .ok (.if_icmp .ge 20, 3) := by decide +kernel
theorem dX8_allShares_12 : decode cX8_allShares 12 = .ok (.lload_n 2, 1) := by decide +kernel
theorem dX8_allShares_13 : decode cX8_allShares 13 = .ok (.aload_n 0, 1) := by decide +kernel
theorem dX8_allShares_14 : decode cX8_allShares 14 = .ok (.iload 4, 2) := by decide +kernel
theorem dX8_allShares_16 : decode cX8_allShares 16 = .ok (.iload_n 1, 1) := by decide +kernel
theorem dX8_allShares_17 : decode cX8_allShares 17 = .ok (.invokevirtual 80, 3) := by decide +kernel
theorem dX8_allShares_20 : decode cX8_allShares 20 = .ok (.i2l, 1) := by decide +kernel
theorem dX8_allShares_21 : decode cX8_allShares 21 = .ok (.ladd, 1) := by decide +kernel
theorem dX8_allShares_22 : decode cX8_allShares 22 = .ok (.lstore_n 2, 1) := by decide +kernel
theorem dX8_allShares_23 : decode cX8_allShares 23 = .ok (.iinc 4 1, 3) := by decide +kernel
theorem dX8_allShares_26 : decode cX8_allShares 26 = .ok (.goto (-21), 3) := by decide +kernel
theorem dX8_allShares_29 : decode cX8_allShares 29 = .ok (.lload_n 2, 1) := by decide +kernel
theorem dX8_allShares_30 : decode cX8_allShares 30 = .ok (.lreturn, 1) := by decide +kernel
theorem dX8_begin_0 : decode cX8_begin 0 = .ok (.aload_n 0, 1) := by decide +kernel
theorem dX8_begin_1 : decode cX8_begin 1 = .ok (.aload_n 0, 1) := by decide +kernel
theorem dX8_begin_2 : decode cX8_begin 2 = .ok (.getfield 55, 3) := by decide +kernel
theorem dX8_begin_5 : decode cX8_begin 5 = .ok (.putfield 99, 3) := by decide +kernel
theorem dX8_begin_8 : decode cX8_begin 8 = .ok (.aload_n 0, 1) := by decide +kernel
theorem dX8_begin_9 : decode cX8_begin 9 = .ok (.iconst 0, 1) := by decide +kernel
theorem dX8_begin_10 : decode cX8_begin 10 = .ok (.putfield 55, 3) := by decide +kernel
theorem dX8_begin_13 : decode cX8_begin 13 = .ok (.aload_n 0, 1) := by decide +kernel
theorem dX8_begin_14 : decode cX8_begin 14 = .ok (.iconst 0, 1) := by decide +kernel
theorem dX8_begin_15 : decode cX8_begin 15 = .ok (.putfield 102, 3) := by decide +kernel
theorem dX8_begin_18 : decode cX8_begin 18 = .ok (.aload_n 0, 1) := by decide +kernel
theorem dX8_begin_19 : decode cX8_begin 19 = .ok (.iconst (-1), 1) := by decide +kernel
theorem dX8_begin_20 : decode cX8_begin 20 = .ok (.putfield 105, 3) := by decide +kernel
theorem dX8_begin_23 : decode cX8_begin 23 = .ok (.return_, 1) := by decide +kernel
theorem dX8_sees_0 : decode cX8_sees 0 = .ok (.aload_n 0, 1) := by decide +kernel
theorem dX8_sees_1 : decode cX8_sees 1 = .ok (.getfield 102, 3) := by decide +kernel
theorem dX8_sees_4 : decode cX8_sees 4 = .ok (.aload_n 0, 1) := by decide +kernel
theorem dX8_sees_5 : decode cX8_sees 5 = .ok (.getfield 99, 3) := by decide +kernel
theorem dX8_sees_8 : decode cX8_sees 8 = .ok (.if_icmp .ge 19, 3) := by decide +kernel
theorem dX8_sees_11 : decode cX8_sees 11 = .ok (.aload_n 0, 1) := by decide +kernel
theorem dX8_sees_12 : decode cX8_sees 12 = .ok (.getfield 19, 3) := by decide +kernel
theorem dX8_sees_15 : decode cX8_sees 15 = .ok (.aload_n 0, 1) := by decide +kernel
theorem dX8_sees_16 : decode cX8_sees 16 = .ok (.getfield 102, 3) := by decide +kernel
theorem dX8_sees_19 : decode cX8_sees 19 = .ok (.baload, 1) := by decide +kernel
theorem dX8_sees_20 : decode cX8_sees 20 = .ok (.sipush 255, 3) := by decide +kernel
theorem dX8_sees_23 : decode cX8_sees 23 = .ok (.iand, 1) := by decide +kernel
theorem dX8_sees_24 : decode cX8_sees 24 = .ok (.goto 4, 3) := by decide +kernel
theorem dX8_sees_27 : decode cX8_sees 27 = .ok (.iconst (-1), 1) := by decide +kernel
theorem dX8_sees_28 : decode cX8_sees 28 = .ok (.ireturn, 1) := by decide +kernel
theorem dX8_fault_0 : decode cX8_fault 0 = .ok (.aload_n 0, 1) := by decide +kernel
theorem dX8_fault_1 : decode cX8_fault 1 = .ok (.getfield 105, 3) := by decide +kernel
theorem dX8_fault_4 : decode cX8_fault 4 = .ok (.iconst (-1), 1) := by decide +kernel
theorem dX8_fault_5 : decode cX8_fault 5 = .ok (.if_icmp .ne 8, 3) := by decide +kernel
theorem dX8_fault_8 : decode cX8_fault 8 = .ok (.aload_n 0, 1) := by decide +kernel
theorem dX8_fault_9 : decode cX8_fault 9 = .ok (.iload_n 1, 1) := by decide +kernel
theorem dX8_fault_10 : decode cX8_fault 10 = .ok (.putfield 105, 3) := by decide +kernel
theorem dX8_fault_13 : decode cX8_fault 13 = .ok (.return_, 1) := by decide +kernel
theorem dX8_expect_0 : decode cX8_expect 0 = .ok (.aload_n 0, 1) := by decide +kernel
theorem dX8_expect_1 : decode cX8_expect 1 = .ok (.getfield 105, 3) := by decide +kernel
theorem dX8_expect_4 : decode cX8_expect 4 = .ok (.iconst (-1), 1) := by decide +kernel
theorem dX8_expect_5 : decode cX8_expect 5 = .ok (.if_icmp .eq 4, 3) := by decide +kernel
theorem dX8_expect_8 : decode cX8_expect 8 = .ok (.return_, 1) := by decide +kernel
theorem dX8_expect_9 : decode cX8_expect 9 = .ok (.aload_n 0, 1) := by decide +kernel
theorem dX8_expect_10 : decode cX8_expect 10 = .ok (.invokevirtual 108, 3) := by decide +kernel
theorem dX8_expect_13 : decode cX8_expect 13 = .ok (.iload_n 1, 1) := by decide +kernel
theorem dX8_expect_14 : decode cX8_expect 14 = .ok (.if_icmp .ne 16, 3) := by decide +kernel
theorem dX8_expect_17 : decode cX8_expect 17 = .ok (.aload_n 0, 1) := by decide +kernel
theorem dX8_expect_18 : decode cX8_expect 18 = .ok (.dup, 1) := by decide +kernel
theorem dX8_expect_19 : decode cX8_expect 19 = .ok (.getfield 102, 3) := by decide +kernel
theorem dX8_expect_22 : decode cX8_expect 22 = .ok (.iconst 1, 1) := by decide +kernel
theorem dX8_expect_23 : decode cX8_expect 23 = .ok (.iadd, 1) := by decide +kernel
theorem dX8_expect_24 : decode cX8_expect 24 = .ok (.putfield 102, 3) := by decide +kernel
theorem dX8_expect_27 : decode cX8_expect 27 = .ok (.goto 11, 3) := by decide +kernel
theorem dX8_expect_30 : decode cX8_expect 30 = .ok (.aload_n 0, 1) := by decide +kernel
theorem dX8_expect_31 : decode cX8_expect 31 = .ok (.aload_n 0, 1) := by decide +kernel
theorem dX8_expect_32 : decode cX8_expect 32 = .ok (.getfield 102, 3) := by decide +kernel
theorem dX8_expect_35 : decode cX8_expect 35 = .ok (.invokevirtual 112, 3) := by decide +kernel
theorem dX8_expect_38 : decode cX8_expect 38 = .ok (.return_, 1) := by decide +kernel
theorem dX8_number_0 : decode cX8_number 0 = .ok (.aload_n 0, 1) := by decide +kernel
theorem dX8_number_1 : decode cX8_number 1 = .ok (.getfield 105, 3) := by decide +kernel
theorem dX8_number_4 : decode cX8_number 4 = .ok (.iconst (-1), 1) := by decide +kernel
theorem dX8_number_5 : decode cX8_number 5 = .ok (.if_icmp .eq 5, 3) := by decide +kernel
theorem dX8_number_8 : decode cX8_number 8 = .ok (.iload_n 1, 1) := by decide +kernel
theorem dX8_number_9 : decode cX8_number 9 = .ok (.ireturn, 1) := by decide +kernel
theorem dX8_number_10 : decode cX8_number 10 = .ok (.aload_n 0, 1) := by decide +kernel
theorem dX8_number_11 : decode cX8_number 11 = .ok (.invokevirtual 108, 3) := by decide +kernel
theorem dX8_number_14 : decode cX8_number 14 = .ok (.i2l, 1) := by decide +kernel
theorem dX8_number_15 : decode cX8_number 15 = .ok (.ldc2_w 116, 3) := by decide +kernel
theorem dX8_number_18 : decode cX8_number 18 = .ok (.ldc2_w 118, 3) := by decide +kernel
theorem dX8_number_21 : decode cX8_number 21 = .ok (.invokestatic 58, 3) := by decide +kernel
theorem dX8_number_24 : decode cX8_number 24 = .ok (.ifCond .ne 13, 3) := by decide +kernel
theorem dX8_number_27 : decode cX8_number 27 = .ok (.aload_n 0, 1) := by decide +kernel
theorem dX8_number_28 : decode cX8_number 28 = .ok (.aload_n 0, 1) := by decide +kernel
theorem dX8_number_29 : decode cX8_number 29 = .ok (.getfield 102, 3) := by decide +kernel
theorem dX8_number_32 : decode cX8_number 32 = .ok (.invokevirtual 112, 3) := by decide +kernel
theorem dX8_number_35 : decode cX8_number 35 = .ok (.iload_n 1, 1) := by decide +kernel
theorem dX8_number_36 : decode cX8_number 36 = .ok (.ireturn, 1) := by decide +kernel
theorem dX8_number_37 : decode cX8_number 37 = .ok (.aload_n 0, 1) := by decide +kernel
theorem dX8_number_38 : decode cX8_number 38 = .ok (.invokevirtual 108, 3) := by decide +kernel
theorem dX8_number_41 : decode cX8_number 41 = .ok (.bipush 48, 2) := by decide +kernel
theorem dX8_number_43 : decode cX8_number 43 = .ok (.isub, 1) := by decide +kernel
theorem dX8_number_44 : decode cX8_number 44 = .ok (.i2l, 1) := by decide +kernel
theorem dX8_number_45 : decode cX8_number 45 = .ok (.lstore 4, 2) := by decide +kernel
theorem dX8_number_47 : decode cX8_number 47 = .ok (.lload 4, 2) := by decide +kernel
theorem dX8_number_49 : decode cX8_number 49 = .ok (.iload_n 1, 1) := by decide +kernel
theorem dX8_number_50 : decode cX8_number 50 = .ok (.i2l, 1) := by decide +kernel
theorem dX8_number_51 : decode cX8_number 51 = .ok (.lcmp, 1) := by decide +kernel
theorem dX8_number_52 : decode cX8_number 52 = .ok (.ifCond .lt 10, 3) := by decide +kernel
theorem dX8_number_55 : decode cX8_number 55 = .ok (.lload 4, 2) := by decide +kernel
theorem dX8_number_57 : decode cX8_number 57 = .ok (.lload_n 2, 1) := by decide +kernel
theorem dX8_number_58 : decode cX8_number 58 = .ok (.lcmp, 1) := by decide +kernel
theorem dX8_number_59 : decode cX8_number 59 = .ok (.ifCond .le 13, 3) := by decide +kernel
theorem dX8_number_62 : decode cX8_number 62 = .ok (.aload_n 0, 1) := by decide +kernel
theorem dX8_number_63 : decode cX8_number 63 = .ok (.aload_n 0, 1) := by decide +kernel
theorem dX8_number_64 : decode cX8_number 64 = .ok (.getfield 102, 3) := by decide +kernel
theorem dX8_number_67 : decode cX8_number 67 = .ok (.invokevirtual 112, 3) := by decide +kernel
theorem dX8_number_70 : decode cX8_number 70 = .ok (.iload_n 1, 1) := by decide +kernel
theorem dX8_number_71 : decode cX8_number 71 = .ok (.ireturn, 1) := by decide +kernel
theorem dX8_number_72 : decode cX8_number 72 = .ok (.aload_n 0, 1) := by decide +kernel
theorem dX8_number_73 : decode cX8_number 73 = .ok (.dup, 1) := by decide +kernel
theorem dX8_number_74 : decode cX8_number 74 = .ok (.getfield 102, 3) := by decide +kernel
theorem dX8_number_77 : decode cX8_number 77 = .ok (.iconst 1, 1) := by decide +kernel
theorem dX8_number_78 : decode cX8_number 78 = .ok (.iadd, 1) := by decide +kernel
theorem dX8_number_79 : decode cX8_number 79 = .ok (.putfield 102, 3) := by decide +kernel
theorem dX8_number_82 : decode cX8_number 82 = .ok (.iconst 1, 1) := by decide +kernel
theorem dX8_number_83 : decode cX8_number 83 = .ok (.istore 6, 2) := by decide +kernel
theorem dX8_number_85 : decode cX8_number 85 = .ok (.lload 4, 2) := by decide +kernel
theorem dX8_number_87 : decode cX8_number 87 = .ok (.lconst 0, 1) := by decide +kernel
theorem dX8_number_88 : decode cX8_number 88 = .ok (.lcmp, 1) := by decide +kernel
theorem dX8_number_89 : decode cX8_number 89 = .ok (.ifCond .le 78, 3) := by decide +kernel
theorem dX8_number_92 : decode cX8_number 92 = .ok (.iload 6, 2) := by decide +kernel
theorem dX8_number_94 : decode cX8_number 94 = .ok (.bipush 9, 2) := by decide +kernel
theorem dX8_number_96 : decode cX8_number 96 = .ok (.if_icmp .ge 71, 3) := by decide +kernel
theorem dX8_number_99 : decode cX8_number 99 = .ok (.aload_n 0, 1) := by decide +kernel
theorem dX8_number_100 : decode cX8_number 100 = .ok (.invokevirtual 108, 3) := by decide +kernel
theorem dX8_number_103 : decode cX8_number 103 = .ok (.i2l, 1) := by decide +kernel
theorem dX8_number_104 : decode cX8_number 104 = .ok (.ldc2_w 116, 3) := by decide +kernel
theorem dX8_number_107 : decode cX8_number 107 = .ok (.ldc2_w 118, 3) := by decide +kernel
theorem dX8_number_110 : decode cX8_number 110 = .ok (.invokestatic 58, 3) := by decide +kernel
theorem dX8_number_113 : decode cX8_number 113 = .ok (.ifCond .eq 54, 3) := by decide +kernel
theorem dX8_number_116 : decode cX8_number 116 = .ok (.ldc2_w 120, 3) := by decide +kernel
theorem dX8_number_119 : decode cX8_number 119 = .ok (.lload 4, 2) := by decide +kernel
theorem dX8_number_121 : decode cX8_number 121 = .ok (.lmul, 1) := by decide +kernel
theorem dX8_number_122 : decode cX8_number 122 = .ok (.aload_n 0, 1) := by decide +kernel
theorem dX8_number_123 : decode cX8_number 123 = .ok (.invokevirtual 108, 3) := by decide +kernel
theorem dX8_number_126 : decode cX8_number 126 = .ok (.i2l, 1) := by decide +kernel
theorem dX8_number_127 : decode cX8_number 127 = .ok (.ladd, 1) := by decide +kernel
theorem dX8_number_128 : decode cX8_number 128 = .ok (.ldc2_w 116, 3) := by decide +kernel
theorem dX8_number_131 : decode cX8_number 131 = .ok (.lsub, 1) := by decide +kernel
theorem dX8_number_132 : decode cX8_number 132 = .ok (.lstore 4, 2) := by decide +kernel
theorem dX8_number_134 : decode cX8_number 134 = .ok (.lload 4, 2) := by decide +kernel
theorem dX8_number_136 : decode cX8_number 136 = .ok (.lload_n 2, 1) := by decide +kernel
theorem dX8_number_137 : decode cX8_number 137 = .ok (.lcmp, 1) := by decide +kernel
theorem dX8_number_138 : decode cX8_number 138 = .ok (.ifCond .le 13, 3) := by decide +kernel
theorem dX8_number_141 : decode cX8_number 141 = .ok (.aload_n 0, 1) := by decide +kernel
theorem dX8_number_142 : decode cX8_number 142 = .ok (.aload_n 0, 1) := by decide +kernel
theorem dX8_number_143 : decode cX8_number 143 = .ok (.getfield 102, 3) := by decide +kernel
theorem dX8_number_146 : decode cX8_number 146 = .ok (.invokevirtual 112, 3) := by decide +kernel
theorem dX8_number_149 : decode cX8_number 149 = .ok (.iload_n 1, 1) := by decide +kernel
theorem dX8_number_150 : decode cX8_number 150 = .ok (.ireturn, 1) := by decide +kernel
theorem dX8_number_151 : decode cX8_number 151 = .ok (.aload_n 0, 1) := by decide +kernel
theorem dX8_number_152 : decode cX8_number 152 = .ok (.dup, 1) := by decide +kernel
theorem dX8_number_153 : decode cX8_number 153 = .ok (.getfield 102, 3) := by decide +kernel
theorem dX8_number_156 : decode cX8_number 156 = .ok (.iconst 1, 1) := by decide +kernel
theorem dX8_number_157 : decode cX8_number 157 = .ok (.iadd, 1) := by decide +kernel
theorem dX8_number_158 : decode cX8_number 158 = .ok (.putfield 102, 3) := by decide +kernel
theorem dX8_number_161 : decode cX8_number 161 = .ok (.iinc 6 1, 3) := by decide +kernel
theorem dX8_number_164 : decode cX8_number 164 = .ok (.goto (-79), 3) := by decide +kernel
theorem dX8_number_167 : decode cX8_number 167 = .ok (.lload 4, 2) := by decide +kernel
theorem dX8_number_169 : decode cX8_number 169 = .ok (.l2i, 1) := by decide +kernel
theorem dX8_number_170 : decode cX8_number 170 = .ok (.ireturn, 1) := by decide +kernel
theorem dX8_founds_0 : decode cX8_founds 0 = .ok (.aload_n 0, 1) := by decide +kernel
theorem dX8_founds_1 : decode cX8_founds 1 = .ok (.iconst 0, 1) := by decide +kernel
theorem dX8_founds_2 : decode cX8_founds 2 = .ok (.putfield 48, 3) := by decide +kernel
theorem dX8_founds_5 : decode cX8_founds 5 = .ok (.aload_n 0, 1) := by decide +kernel
theorem dX8_founds_6 : decode cX8_founds 6 = .ok (.invokevirtual 122, 3) := by decide +kernel
theorem dX8_founds_9 : decode cX8_founds 9 = .ok (.iconst 0, 1) := by decide +kernel
theorem dX8_founds_10 : decode cX8_founds 10 = .ok (.istore_n 1, 1) := by decide +kernel
theorem dX8_founds_11 : decode cX8_founds 11 = .ok (.iload_n 1, 1) := by decide +kernel
theorem dX8_founds_12 : decode cX8_founds 12 = .ok (.bipush 8, 2) := by decide +kernel
theorem dX8_founds_14 : decode cX8_founds 14 = .ok (.if_icmp .ge 16, 3) := by decide +kernel
theorem dX8_founds_17 : decode cX8_founds 17 = .ok (.aload_n 0, 1) := by decide +kernel
theorem dX8_founds_18 : decode cX8_founds 18 = .ok (.getfield 27, 3) := by decide +kernel
theorem dX8_founds_21 : decode cX8_founds 21 = .ok (.iload_n 1, 1) := by decide +kernel
theorem dX8_founds_22 : decode cX8_founds 22 = .ok (.iconst 0, 1) := by decide +kernel
theorem dX8_founds_23 : decode cX8_founds 23 = .ok (.iastore, 1) := by decide +kernel
theorem dX8_founds_24 : decode cX8_founds 24 = .ok (.iinc 1 1, 3) := by decide +kernel
theorem dX8_founds_27 : decode cX8_founds 27 = .ok (.goto (-16), 3) := by decide +kernel
theorem dX8_founds_30 : decode cX8_founds 30 = .ok (.aload_n 0, 1) := by decide +kernel
theorem dX8_founds_31 : decode cX8_founds 31 = .ok (.getfield 99, 3) := by decide +kernel
theorem dX8_founds_34 : decode cX8_founds 34 = .ok (.ifCond .le 99, 3) := by decide +kernel
theorem dX8_founds_37 : decode cX8_founds 37 = .ok (.aload_n 0, 1) := by decide +kernel
theorem dX8_founds_38 : decode cX8_founds 38 = .ok (.getfield 27, 3) := by decide +kernel
theorem dX8_founds_41 : decode cX8_founds 41 = .ok (.iconst 0, 1) := by decide +kernel
theorem dX8_founds_42 : decode cX8_founds 42 = .ok (.aload_n 0, 1) := by decide +kernel
theorem dX8_founds_43 : decode cX8_founds 43 = .ok (.iconst 0, 1) := by decide +kernel
theorem dX8_founds_44 : decode cX8_founds 44 = .ok (.ldc2_w 125, 3) := by decide +kernel
theorem dX8_founds_47 : decode cX8_founds 47 = .ok (.invokevirtual 127, 3) := by decide +kernel
theorem dX8_founds_50 : decode cX8_founds 50 = .ok (.iastore, 1) := by decide +kernel
theorem dX8_founds_51 : decode cX8_founds 51 = .ok (.iconst 1, 1) := by decide +kernel
theorem dX8_founds_52 : decode cX8_founds 52 = .ok (.istore_n 1, 1) := by decide +kernel
theorem dX8_founds_53 : decode cX8_founds 53 = .ok (.aload_n 0, 1) := by decide +kernel
theorem dX8_founds_54 : decode cX8_founds 54 = .ok (.getfield 105, 3) := by decide +kernel
theorem dX8_founds_57 : decode cX8_founds 57 = .ok (.iconst (-1), 1) := by decide +kernel
theorem dX8_founds_58 : decode cX8_founds 58 = .ok (.if_icmp .ne 48, 3) := by decide +kernel
theorem dX8_founds_61 : decode cX8_founds 61 = .ok (.aload_n 0, 1) := by decide +kernel
theorem dX8_founds_62 : decode cX8_founds 62 = .ok (.invokevirtual 108, 3) := by decide +kernel
theorem dX8_founds_65 : decode cX8_founds 65 = .ok (.bipush 44, 2) := by decide +kernel
theorem dX8_founds_67 : decode cX8_founds 67 = .ok (.if_icmp .ne 39, 3) := by decide +kernel
theorem dX8_founds_70 : decode cX8_founds 70 = .ok (.iload_n 1, 1) := by decide +kernel
theorem dX8_founds_71 : decode cX8_founds 71 = .ok (.bipush 8, 2) := by decide +kernel
theorem dX8_founds_73 : decode cX8_founds 73 = .ok (.if_icmp .ge 33, 3) := by decide +kernel
theorem dX8_founds_76 : decode cX8_founds 76 = .ok (.aload_n 0, 1) := by decide +kernel
theorem dX8_founds_77 : decode cX8_founds 77 = .ok (.dup, 1) := by decide +kernel
theorem dX8_founds_78 : decode cX8_founds 78 = .ok (.getfield 102, 3) := by decide +kernel
theorem dX8_founds_81 : decode cX8_founds 81 = .ok (.iconst 1, 1) := by decide +kernel
theorem dX8_founds_82 : decode cX8_founds 82 = .ok (.iadd, 1) := by decide +kernel
theorem dX8_founds_83 : decode cX8_founds 83 = .ok (.putfield 102, 3) := by decide +kernel
theorem dX8_founds_86 : decode cX8_founds 86 = .ok (.aload_n 0, 1) := by decide +kernel
theorem dX8_founds_87 : decode cX8_founds 87 = .ok (.getfield 27, 3) := by decide +kernel
theorem dX8_founds_90 : decode cX8_founds 90 = .ok (.iload_n 1, 1) := by decide +kernel
theorem dX8_founds_91 : decode cX8_founds 91 = .ok (.aload_n 0, 1) := by decide +kernel
theorem dX8_founds_92 : decode cX8_founds 92 = .ok (.iconst 0, 1) := by decide +kernel
theorem dX8_founds_93 : decode cX8_founds 93 = .ok (.ldc2_w 125, 3) := by decide +kernel
theorem dX8_founds_96 : decode cX8_founds 96 = .ok (.invokevirtual 127, 3) := by decide +kernel
theorem dX8_founds_99 : decode cX8_founds 99 = .ok (.iastore, 1) := by decide +kernel
theorem dX8_founds_100 : decode cX8_founds 100 = .ok (.iinc 1 1, 3) := by decide +kernel
theorem dX8_founds_103 : decode cX8_founds 103 = .ok (.goto (-50), 3) := by decide +kernel
theorem dX8_founds_106 : decode cX8_founds 106 = .ok (.aload_n 0, 1) := by decide +kernel
theorem dX8_founds_107 : decode cX8_founds 107 = .ok (.getfield 105, 3) := by decide +kernel
theorem dX8_founds_110 : decode cX8_founds 110 = .ok (.iconst (-1), 1) := by decide +kernel
theorem dX8_founds_111 : decode cX8_founds 111 = .ok (.if_icmp .ne 22, 3) := by decide +kernel
theorem dX8_founds_114 : decode cX8_founds 114 = .ok (.aload_n 0, 1) := by decide +kernel
theorem dX8_founds_115 : decode cX8_founds 115 = .ok (.getfield 102, 3) := by decide +kernel
theorem dX8_founds_118 : decode cX8_founds 118 = .ok (.aload_n 0, 1) := by decide +kernel
theorem dX8_founds_119 : decode cX8_founds 119 = .ok (.getfield 99, 3) := by decide +kernel
theorem dX8_founds_122 : decode cX8_founds 122 = .ok (.if_icmp .ge 11, 3) := by decide +kernel
theorem dX8_founds_125 : decode cX8_founds 125 = .ok (.aload_n 0, 1) := by decide +kernel
theorem dX8_founds_126 : decode cX8_founds 126 = .ok (.aload_n 0, 1) := by decide +kernel
theorem dX8_founds_127 : decode cX8_founds 127 = .ok (.getfield 102, 3) := by decide +kernel
theorem dX8_founds_130 : decode cX8_founds 130 = .ok (.invokevirtual 112, 3) := by decide +kernel
theorem dX8_founds_133 : decode cX8_founds 133 = .ok (.aload_n 0, 1) := by decide +kernel
theorem dX8_founds_134 : decode cX8_founds 134 = .ok (.getfield 105, 3) := by decide +kernel
theorem dX8_founds_137 : decode cX8_founds 137 = .ok (.iconst (-1), 1) := by decide +kernel
theorem dX8_founds_138 : decode cX8_founds 138 = .ok (.if_icmp .eq 11, 3) := by decide +kernel
theorem dX8_founds_141 : decode cX8_founds 141 = .ok (.bipush (-21), 2) := by decide +kernel
theorem dX8_founds_143 : decode cX8_founds 143 = .ok (.aload_n 0, 1) := by decide +kernel
theorem dX8_founds_144 : decode cX8_founds 144 = .ok (.getfield 105, 3) := by decide +kernel
theorem dX8_founds_147 : decode cX8_founds 147 = .ok (.isub, 1) := by decide +kernel
theorem dX8_founds_148 : decode cX8_founds 148 = .ok (.ireturn, 1) := by decide +kernel
theorem dX8_founds_149 : decode cX8_founds 149 = .ok (.lconst 0, 1) := by decide +kernel
theorem dX8_founds_150 : decode cX8_founds 150 = .ok (.lstore_n 1, 1) := by decide +kernel
theorem dX8_founds_151 : decode cX8_founds 151 = .ok (.iconst 0, 1) := by decide +kernel
theorem dX8_founds_152 : decode cX8_founds 152 = .ok (.istore_n 3, 1) := by decide +kernel
theorem dX8_founds_153 : decode cX8_founds 153 = .ok (.iload_n 3, 1) := by decide +kernel
theorem dX8_founds_154 : decode cX8_founds 154 = .ok (.bipush 8, 2) := by decide +kernel
theorem dX8_founds_156 : decode cX8_founds 156 = .ok (.if_icmp .ge 19, 3) := by decide +kernel
theorem dX8_founds_159 : decode cX8_founds 159 = .ok (.lload_n 1, 1) := by decide +kernel
theorem dX8_founds_160 : decode cX8_founds 160 = .ok (.aload_n 0, 1) := by decide +kernel
theorem dX8_founds_161 : decode cX8_founds 161 = .ok (.getfield 27, 3) := by decide +kernel
theorem dX8_founds_164 : decode cX8_founds 164 = .ok (.iload_n 3, 1) := by decide +kernel
theorem dX8_founds_165 : decode cX8_founds 165 = .ok (.iaload, 1) := by decide +kernel
theorem dX8_founds_166 : decode cX8_founds 166 = .ok (.i2l, 1) := by decide +kernel
theorem dX8_founds_167 : decode cX8_founds 167 = .ok (.ladd, 1) := by decide +kernel
theorem dX8_founds_168 : decode cX8_founds 168 = .ok (.lstore_n 1, 1) := by decide +kernel
theorem dX8_founds_169 : decode cX8_founds 169 = .ok (.iinc 3 1, 3) := by decide +kernel
theorem dX8_founds_172 : decode cX8_founds 172 = .ok (.goto (-19), 3) := by decide +kernel
theorem dX8_founds_175 : decode cX8_founds 175 = .ok (.lload_n 1, 1) := by decide +kernel
theorem dX8_founds_176 : decode cX8_founds 176 = .ok (.ldc2_w 131, 3) := by decide +kernel
theorem dX8_founds_179 : decode cX8_founds 179 = .ok (.lcmp, 1) := by decide +kernel
theorem dX8_founds_180 : decode cX8_founds 180 = .ok (.ifCond .le 6, 3) := by decide +kernel
theorem dX8_founds_183 : decode cX8_founds 183 = .ok (.bipush (-9), 2) := by decide +kernel
theorem dX8_founds_185 : decode cX8_founds 185 = .ok (.ireturn, 1) := by decide +kernel
theorem dX8_founds_186 : decode cX8_founds 186 = .ok (.aload_n 0, 1) := by decide +kernel
theorem dX8_founds_187 : decode cX8_founds 187 = .ok (.invokevirtual 133, 3) := by decide +kernel
theorem dX8_founds_190 : decode cX8_founds 190 = .ok (.iconst 0, 1) := by decide +kernel
theorem dX8_founds_191 : decode cX8_founds 191 = .ok (.istore_n 3, 1) := by decide +kernel
theorem dX8_founds_192 : decode cX8_founds 192 = .ok (.iload_n 3, 1) := by decide +kernel
theorem dX8_founds_193 : decode cX8_founds 193 = .ok (.sipush 172, 3) := by decide +kernel
theorem dX8_founds_196 : decode cX8_founds 196 = .ok (.if_icmp .ge 16, 3) := by decide +kernel
theorem dX8_founds_199 : decode cX8_founds 199 = .ok (.aload_n 0, 1) := by decide +kernel
theorem dX8_founds_200 : decode cX8_founds 200 = .ok (.getfield 7, 3) := by decide +kernel
theorem dX8_founds_203 : decode cX8_founds 203 = .ok (.iload_n 3, 1) := by decide +kernel
theorem dX8_founds_204 : decode cX8_founds 204 = .ok (.iconst 0, 1) := by decide +kernel
theorem dX8_founds_205 : decode cX8_founds 205 = .ok (.iastore, 1) := by decide +kernel
theorem dX8_founds_206 : decode cX8_founds 206 = .ok (.iinc 3 1, 3) := by decide +kernel
theorem dX8_founds_209 : decode cX8_founds 209 = .ok (.goto (-17), 3) := by decide +kernel
theorem dX8_founds_212 : decode cX8_founds 212 = .ok (.aload_n 0, 1) := by decide +kernel
theorem dX8_founds_213 : decode cX8_founds 213 = .ok (.getfield 7, 3) := by decide +kernel
theorem dX8_founds_216 : decode cX8_founds 216 = .ok (.bipush 57, 2) := by decide +kernel
theorem dX8_founds_218 : decode cX8_founds 218 = .ok (.iconst 1, 1) := by decide +kernel
theorem dX8_founds_219 : decode cX8_founds 219 = .ok (.iastore, 1) := by decide +kernel
theorem dX8_founds_220 : decode cX8_founds 220 = .ok (.iconst 0, 1) := by decide +kernel
theorem dX8_founds_221 : decode cX8_founds 221 = .ok (.istore_n 3, 1) := by decide +kernel
theorem dX8_founds_222 : decode cX8_founds 222 = .ok (.iload_n 3, 1) := by decide +kernel
theorem dX8_founds_223 : decode cX8_founds 223 = .ok (.bipush 8, 2) := by decide +kernel
theorem dX8_founds_225 : decode cX8_founds 225 = .ok (.if_icmp .ge 21, 3) := by decide +kernel
theorem dX8_founds_228 : decode cX8_founds 228 = .ok (.aload_n 0, 1) := by decide +kernel
theorem dX8_founds_229 : decode cX8_founds 229 = .ok (.iload_n 3, 1) := by decide +kernel
theorem dX8_founds_230 : decode cX8_founds 230 = .ok (.iconst 0, 1) := by decide +kernel
theorem dX8_founds_231 : decode cX8_founds 231 = .ok (.aload_n 0, 1) := by decide +kernel
theorem dX8_founds_232 : decode cX8_founds 232 = .ok (.getfield 27, 3) := by decide +kernel
theorem dX8_founds_235 : decode cX8_founds 235 = .ok (.iload_n 3, 1) := by decide +kernel
theorem dX8_founds_236 : decode cX8_founds 236 = .ok (.iaload, 1) := by decide +kernel
theorem dX8_founds_237 : decode cX8_founds 237 = .ok (.invokevirtual 136, 3) := by decide +kernel
theorem dX8_founds_240 : decode cX8_founds 240 = .ok (.iinc 3 1, 3) := by decide +kernel
theorem dX8_founds_243 : decode cX8_founds 243 = .ok (.goto (-21), 3) := by decide +kernel
theorem dX8_founds_246 : decode cX8_founds 246 = .ok (.lload_n 1, 1) := by decide +kernel
theorem dX8_founds_247 : decode cX8_founds 247 = .ok (.l2i, 1) := by decide +kernel
theorem dX8_founds_248 : decode cX8_founds 248 = .ok (.ireturn, 1) := by decide +kernel
theorem dX8_issues_0 : decode cX8_issues 0 = .ok (.aload_n 0, 1) := by decide +kernel
theorem dX8_issues_1 : decode cX8_issues 1 = .ok (.iconst 0, 1) := by decide +kernel
theorem dX8_issues_2 : decode cX8_issues 2 = .ok (.putfield 48, 3) := by decide +kernel
theorem dX8_issues_5 : decode cX8_issues 5 = .ok (.iload_n 1, 1) := by decide +kernel
theorem dX8_issues_6 : decode cX8_issues 6 = .ok (.invokestatic 140, 3) := by decide +kernel
theorem dX8_issues_9 : decode cX8_issues 9 = .ok (.ifCond .eq 8, 3) := by decide +kernel
theorem dX8_issues_12 : decode cX8_issues 12 = .ok (.iload_n 2, 1) := by decide +kernel
theorem dX8_issues_13 : decode cX8_issues 13 = .ok (.iconst 1, 1) := by decide +kernel
theorem dX8_issues_14 : decode cX8_issues 14 = .ok (.if_icmp .ge 5, 3) := by decide +kernel
theorem dX8_issues_17 : decode cX8_issues 17 = .ok (.iconst (-1), 1) := by decide +kernel
theorem dX8_issues_18 : decode cX8_issues 18 = .ok (.ireturn, 1) := by decide +kernel
theorem dX8_issues_19 : decode cX8_issues 19 = .ok (.aload_n 0, 1) := by decide +kernel
theorem dX8_issues_20 : decode cX8_issues 20 = .ok (.invokevirtual 143, 3) := by decide +kernel
theorem dX8_issues_23 : decode cX8_issues 23 = .ok (.iload_n 2, 1) := by decide +kernel
theorem dX8_issues_24 : decode cX8_issues 24 = .ok (.i2l, 1) := by decide +kernel
theorem dX8_issues_25 : decode cX8_issues 25 = .ok (.ladd, 1) := by decide +kernel
theorem dX8_issues_26 : decode cX8_issues 26 = .ok (.ldc2_w 131, 3) := by decide +kernel
theorem dX8_issues_29 : decode cX8_issues 29 = .ok (.lcmp, 1) := by decide +kernel
theorem dX8_issues_30 : decode cX8_issues 30 = .ok (.ifCond .le 6, 3) := by decide +kernel
theorem dX8_issues_33 : decode cX8_issues 33 = .ok (.bipush (-9), 2) := by decide +kernel
theorem dX8_issues_35 : decode cX8_issues 35 = .ok (.ireturn, 1) := by decide +kernel
theorem dX8_issues_36 : decode cX8_issues 36 = .ok (.aload_n 0, 1) := by decide +kernel
theorem dX8_issues_37 : decode cX8_issues 37 = .ok (.invokevirtual 133, 3) := by decide +kernel
theorem dX8_issues_40 : decode cX8_issues 40 = .ok (.aload_n 0, 1) := by decide +kernel
theorem dX8_issues_41 : decode cX8_issues 41 = .ok (.iload_n 1, 1) := by decide +kernel
theorem dX8_issues_42 : decode cX8_issues 42 = .ok (.iconst 0, 1) := by decide +kernel
theorem dX8_issues_43 : decode cX8_issues 43 = .ok (.aload_n 0, 1) := by decide +kernel
theorem dX8_issues_44 : decode cX8_issues 44 = .ok (.iload_n 1, 1) := by decide +kernel
theorem dX8_issues_45 : decode cX8_issues 45 = .ok (.iconst 0, 1) := by decide +kernel
theorem dX8_issues_46 : decode cX8_issues 46 = .ok (.invokevirtual 80, 3) := by decide +kernel
theorem dX8_issues_49 : decode cX8_issues 49 = .ok (.iload_n 2, 1) := by decide +kernel
theorem dX8_issues_50 : decode cX8_issues 50 = .ok (.iadd, 1) := by decide +kernel
theorem dX8_issues_51 : decode cX8_issues 51 = .ok (.invokevirtual 136, 3) := by decide +kernel
theorem dX8_issues_54 : decode cX8_issues 54 = .ok (.aload_n 0, 1) := by decide +kernel
theorem dX8_issues_55 : decode cX8_issues 55 = .ok (.invokevirtual 143, 3) := by decide +kernel
theorem dX8_issues_58 : decode cX8_issues 58 = .ok (.l2i, 1) := by decide +kernel
theorem dX8_issues_59 : decode cX8_issues 59 = .ok (.ireturn, 1) := by decide +kernel
theorem dX8_cancels_0 : decode cX8_cancels 0 = .ok (.aload_n 0, 1) := by decide +kernel
theorem dX8_cancels_1 : decode cX8_cancels 1 = .ok (.iconst 0, 1) := by decide +kernel
theorem dX8_cancels_2 : decode cX8_cancels 2 = .ok (.putfield 48, 3) := by decide +kernel
theorem dX8_cancels_5 : decode cX8_cancels 5 = .ok (.iload_n 1, 1) := by decide +kernel
theorem dX8_cancels_6 : decode cX8_cancels 6 = .ok (.invokestatic 140, 3) := by decide +kernel
theorem dX8_cancels_9 : decode cX8_cancels 9 = .ok (.ifCond .eq 16, 3) := by decide +kernel
theorem dX8_cancels_12 : decode cX8_cancels 12 = .ok (.aload_n 0, 1) := by decide +kernel
theorem dX8_cancels_13 : decode cX8_cancels 13 = .ok (.iload_n 2, 1) := by decide +kernel
theorem dX8_cancels_14 : decode cX8_cancels 14 = .ok (.invokevirtual 64, 3) := by decide +kernel
theorem dX8_cancels_17 : decode cX8_cancels 17 = .ok (.ifCond .eq 8, 3) := by decide +kernel
theorem dX8_cancels_20 : decode cX8_cancels 20 = .ok (.iload_n 3, 1) := by decide +kernel
theorem dX8_cancels_21 : decode cX8_cancels 21 = .ok (.iconst 1, 1) := by decide +kernel
theorem dX8_cancels_22 : decode cX8_cancels 22 = .ok (.if_icmp .ge 5, 3) := by decide +kernel
theorem dX8_cancels_25 : decode cX8_cancels 25 = .ok (.iconst (-1), 1) := by decide +kernel
theorem dX8_cancels_26 : decode cX8_cancels 26 = .ok (.ireturn, 1) := by decide +kernel
theorem dX8_cancels_27 : decode cX8_cancels 27 = .ok (.aload_n 0, 1) := by decide +kernel
theorem dX8_cancels_28 : decode cX8_cancels 28 = .ok (.iload_n 1, 1) := by decide +kernel
theorem dX8_cancels_29 : decode cX8_cancels 29 = .ok (.iload_n 2, 1) := by decide +kernel
theorem dX8_cancels_30 : decode cX8_cancels 30 = .ok (.invokevirtual 80, 3) := by decide +kernel
theorem dX8_cancels_33 : decode cX8_cancels 33 = .ok (.iload_n 3, 1) := by decide +kernel
theorem dX8_cancels_34 : decode cX8_cancels 34 = .ok (.if_icmp .ge 6, 3) := by decide +kernel
theorem dX8_cancels_37 : decode cX8_cancels 37 = .ok (.bipush (-2), 2) := by decide +kernel
theorem dX8_cancels_39 : decode cX8_cancels 39 = .ok (.ireturn, 1) := by decide +kernel
theorem dX8_cancels_40 : decode cX8_cancels 40 = .ok (.aload_n 0, 1) := by decide +kernel
theorem dX8_cancels_41 : decode cX8_cancels 41 = .ok (.invokevirtual 133, 3) := by decide +kernel
theorem dX8_cancels_44 : decode cX8_cancels 44 = .ok (.aload_n 0, 1) := by decide +kernel
theorem dX8_cancels_45 : decode cX8_cancels 45 = .ok (.iload_n 1, 1) := by decide +kernel
theorem dX8_cancels_46 : decode cX8_cancels 46 = .ok (.iload_n 2, 1) := by decide +kernel
theorem dX8_cancels_47 : decode cX8_cancels 47 = .ok (.aload_n 0, 1) := by decide +kernel
theorem dX8_cancels_48 : decode cX8_cancels 48 = .ok (.iload_n 1, 1) := by decide +kernel
theorem dX8_cancels_49 : decode cX8_cancels 49 = .ok (.iload_n 2, 1) := by decide +kernel
theorem dX8_cancels_50 : decode cX8_cancels 50 = .ok (.invokevirtual 80, 3) := by decide +kernel
theorem dX8_cancels_53 : decode cX8_cancels 53 = .ok (.iload_n 3, 1) := by decide +kernel
theorem dX8_cancels_54 : decode cX8_cancels 54 = .ok (.isub, 1) := by decide +kernel
theorem dX8_cancels_55 : decode cX8_cancels 55 = .ok (.invokevirtual 136, 3) := by decide +kernel
theorem dX8_cancels_58 : decode cX8_cancels 58 = .ok (.aload_n 0, 1) := by decide +kernel
theorem dX8_cancels_59 : decode cX8_cancels 59 = .ok (.invokevirtual 143, 3) := by decide +kernel
theorem dX8_cancels_62 : decode cX8_cancels 62 = .ok (.l2i, 1) := by decide +kernel
theorem dX8_cancels_63 : decode cX8_cancels 63 = .ok (.ireturn, 1) := by decide +kernel
theorem dX8_pool_0 : decode cX8_pool 0 = .ok (.aload_n 0, 1) := by decide +kernel
theorem dX8_pool_1 : decode cX8_pool 1 = .ok (.iconst 0, 1) := by decide +kernel
theorem dX8_pool_2 : decode cX8_pool 2 = .ok (.putfield 48, 3) := by decide +kernel
theorem dX8_pool_5 : decode cX8_pool 5 = .ok (.iload_n 1, 1) := by decide +kernel
theorem dX8_pool_6 : decode cX8_pool 6 = .ok (.ifCond .ge 5, 3) := by decide +kernel
theorem dX8_pool_9 : decode cX8_pool 9 = .ok (.iconst (-1), 1) := by decide +kernel
theorem dX8_pool_10 : decode cX8_pool 10 = .ok (.ireturn, 1) := by decide +kernel
theorem dX8_pool_11 : decode cX8_pool 11 = .ok (.aload_n 0, 1) := by decide +kernel
theorem dX8_pool_12 : decode cX8_pool 12 = .ok (.invokevirtual 143, 3) := by decide +kernel
theorem dX8_pool_15 : decode cX8_pool 15 = .ok (.aload_n 0, 1) := by decide +kernel
theorem dX8_pool_16 : decode cX8_pool 16 = .ok (.getfield 7, 3) := by decide +kernel
theorem dX8_pool_19 : decode cX8_pool 19 = .ok (.bipush 56, 2) := by decide +kernel
theorem dX8_pool_21 : decode cX8_pool 21 = .ok (.iaload, 1) := by decide +kernel
theorem dX8_pool_22 : decode cX8_pool 22 = .ok (.i2l, 1) := by decide +kernel
theorem dX8_pool_23 : decode cX8_pool 23 = .ok (.lsub, 1) := by decide +kernel
theorem dX8_pool_24 : decode cX8_pool 24 = .ok (.iload_n 1, 1) := by decide +kernel
theorem dX8_pool_25 : decode cX8_pool 25 = .ok (.i2l, 1) := by decide +kernel
theorem dX8_pool_26 : decode cX8_pool 26 = .ok (.ladd, 1) := by decide +kernel
theorem dX8_pool_27 : decode cX8_pool 27 = .ok (.ldc2_w 131, 3) := by decide +kernel
theorem dX8_pool_30 : decode cX8_pool 30 = .ok (.lcmp, 1) := by decide +kernel
theorem dX8_pool_31 : decode cX8_pool 31 = .ok (.ifCond .le 6, 3) := by decide +kernel
theorem dX8_pool_34 : decode cX8_pool 34 = .ok (.bipush (-9), 2) := by decide +kernel
theorem dX8_pool_36 : decode cX8_pool 36 = .ok (.ireturn, 1) := by decide +kernel
theorem dX8_pool_37 : decode cX8_pool 37 = .ok (.aload_n 0, 1) := by decide +kernel
theorem dX8_pool_38 : decode cX8_pool 38 = .ok (.invokevirtual 133, 3) := by decide +kernel
theorem dX8_pool_41 : decode cX8_pool 41 = .ok (.aload_n 0, 1) := by decide +kernel
theorem dX8_pool_42 : decode cX8_pool 42 = .ok (.getfield 7, 3) := by decide +kernel
theorem dX8_pool_45 : decode cX8_pool 45 = .ok (.bipush 56, 2) := by decide +kernel
theorem dX8_pool_47 : decode cX8_pool 47 = .ok (.iaload, 1) := by decide +kernel
theorem dX8_pool_48 : decode cX8_pool 48 = .ok (.istore_n 2, 1) := by decide +kernel
theorem dX8_pool_49 : decode cX8_pool 49 = .ok (.aload_n 0, 1) := by decide +kernel
theorem dX8_pool_50 : decode cX8_pool 50 = .ok (.getfield 7, 3) := by decide +kernel
theorem dX8_pool_53 : decode cX8_pool 53 = .ok (.bipush 56, 2) := by decide +kernel
theorem dX8_pool_55 : decode cX8_pool 55 = .ok (.iload_n 1, 1) := by decide +kernel
theorem dX8_pool_56 : decode cX8_pool 56 = .ok (.iastore, 1) := by decide +kernel
theorem dX8_pool_57 : decode cX8_pool 57 = .ok (.iload_n 2, 1) := by decide +kernel
theorem dX8_pool_58 : decode cX8_pool 58 = .ok (.ireturn, 1) := by decide +kernel
theorem dX8_grant_0 : decode cX8_grant 0 = .ok (.aload_n 0, 1) := by decide +kernel
theorem dX8_grant_1 : decode cX8_grant 1 = .ok (.iconst 0, 1) := by decide +kernel
theorem dX8_grant_2 : decode cX8_grant 2 = .ok (.putfield 48, 3) := by decide +kernel
theorem dX8_grant_5 : decode cX8_grant 5 = .ok (.iload_n 1, 1) := by decide +kernel
theorem dX8_grant_6 : decode cX8_grant 6 = .ok (.invokestatic 140, 3) := by decide +kernel
theorem dX8_grant_9 : decode cX8_grant 9 = .ok (.ifCond .eq 8, 3) := by decide +kernel
theorem dX8_grant_12 : decode cX8_grant 12 = .ok (.iload_n 2, 1) := by decide +kernel
theorem dX8_grant_13 : decode cX8_grant 13 = .ok (.iconst 1, 1) := by decide +kernel
theorem dX8_grant_14 : decode cX8_grant 14 = .ok (.if_icmp .ge 5, 3) := by decide +kernel
theorem dX8_grant_17 : decode cX8_grant 17 = .ok (.iconst (-1), 1) := by decide +kernel
theorem dX8_grant_18 : decode cX8_grant 18 = .ok (.ireturn, 1) := by decide +kernel
theorem dX8_grant_19 : decode cX8_grant 19 = .ok (.aload_n 0, 1) := by decide +kernel
theorem dX8_grant_20 : decode cX8_grant 20 = .ok (.getfield 7, 3) := by decide +kernel
theorem dX8_grant_23 : decode cX8_grant 23 = .ok (.bipush 56, 2) := by decide +kernel
theorem dX8_grant_25 : decode cX8_grant 25 = .ok (.iaload, 1) := by decide +kernel
theorem dX8_grant_26 : decode cX8_grant 26 = .ok (.iload_n 2, 1) := by decide +kernel
theorem dX8_grant_27 : decode cX8_grant 27 = .ok (.if_icmp .ge 6, 3) := by decide +kernel
theorem dX8_grant_30 : decode cX8_grant 30 = .ok (.bipush (-2), 2) := by decide +kernel
theorem dX8_grant_32 : decode cX8_grant 32 = .ok (.ireturn, 1) := by decide +kernel
theorem dX8_grant_33 : decode cX8_grant 33 = .ok (.aload_n 0, 1) := by decide +kernel
theorem dX8_grant_34 : decode cX8_grant 34 = .ok (.invokevirtual 133, 3) := by decide +kernel
theorem dX8_grant_37 : decode cX8_grant 37 = .ok (.aload_n 0, 1) := by decide +kernel
theorem dX8_grant_38 : decode cX8_grant 38 = .ok (.getfield 7, 3) := by decide +kernel
theorem dX8_grant_41 : decode cX8_grant 41 = .ok (.bipush 56, 2) := by decide +kernel
theorem dX8_grant_43 : decode cX8_grant 43 = .ok (.dup2, 1) := by decide +kernel
theorem dX8_grant_44 : decode cX8_grant 44 = .ok (.iaload, 1) := by decide +kernel
theorem dX8_grant_45 : decode cX8_grant 45 = .ok (.iload_n 2, 1) := by decide +kernel
theorem dX8_grant_46 : decode cX8_grant 46 = .ok (.isub, 1) := by decide +kernel
theorem dX8_grant_47 : decode cX8_grant 47 = .ok (.iastore, 1) := by decide +kernel
theorem dX8_grant_48 : decode cX8_grant 48 = .ok (.aload_n 0, 1) := by decide +kernel
theorem dX8_grant_49 : decode cX8_grant 49 = .ok (.getfield 7, 3) := by decide +kernel
theorem dX8_grant_52 : decode cX8_grant 52 = .ok (.bipush 48, 2) := by decide +kernel
theorem dX8_grant_54 : decode cX8_grant 54 = .ok (.iload_n 1, 1) := by decide +kernel
theorem dX8_grant_55 : decode cX8_grant 55 = .ok (.iadd, 1) := by decide +kernel
theorem dX8_grant_56 : decode cX8_grant 56 = .ok (.dup2, 1) := by decide +kernel
theorem dX8_grant_57 : decode cX8_grant 57 = .ok (.iaload, 1) := by decide +kernel
theorem dX8_grant_58 : decode cX8_grant 58 = .ok (.iload_n 2, 1) := by decide +kernel
theorem dX8_grant_59 : decode cX8_grant 59 = .ok (.iadd, 1) := by decide +kernel
theorem dX8_grant_60 : decode cX8_grant 60 = .ok (.iastore, 1) := by decide +kernel
theorem dX8_grant_61 : decode cX8_grant 61 = .ok (.aload_n 0, 1) := by decide +kernel
theorem dX8_grant_62 : decode cX8_grant 62 = .ok (.getfield 7, 3) := by decide +kernel
theorem dX8_grant_65 : decode cX8_grant 65 = .ok (.bipush 56, 2) := by decide +kernel
theorem dX8_grant_67 : decode cX8_grant 67 = .ok (.iaload, 1) := by decide +kernel
theorem dX8_grant_68 : decode cX8_grant 68 = .ok (.ireturn, 1) := by decide +kernel
theorem dX8_exercise_0 : decode cX8_exercise 0 = .ok (.aload_n 0, 1) := by decide +kernel
theorem dX8_exercise_1 : decode cX8_exercise 1 = .ok (.iconst 0, 1) := by decide +kernel
theorem dX8_exercise_2 : decode cX8_exercise 2 = .ok (.putfield 48, 3) := by decide +kernel
theorem dX8_exercise_5 : decode cX8_exercise 5 = .ok (.iload_n 1, 1) := by decide +kernel
theorem dX8_exercise_6 : decode cX8_exercise 6 = .ok (.invokestatic 140, 3) := by decide +kernel
theorem dX8_exercise_9 : decode cX8_exercise 9 = .ok (.ifCond .eq 8, 3) := by decide +kernel
theorem dX8_exercise_12 : decode cX8_exercise 12 = .ok (.iload_n 2, 1) := by decide +kernel
theorem dX8_exercise_13 : decode cX8_exercise 13 = .ok (.iconst 1, 1) := by decide +kernel
theorem dX8_exercise_14 : decode cX8_exercise 14 = .ok (.if_icmp .ge 5, 3) := by decide +kernel
theorem dX8_exercise_17 : decode cX8_exercise 17 = .ok (.iconst (-1), 1) := by decide +kernel
theorem dX8_exercise_18 : decode cX8_exercise 18 = .ok (.ireturn, 1) := by decide +kernel
theorem dX8_exercise_19 : decode cX8_exercise 19 = .ok (.aload_n 0, 1) := by decide +kernel
theorem dX8_exercise_20 : decode cX8_exercise 20 = .ok (.getfield 7, 3) := by decide +kernel
theorem dX8_exercise_23 : decode cX8_exercise 23 = .ok (.bipush 48, 2) := by decide +kernel
theorem dX8_exercise_25 : decode cX8_exercise 25 = .ok (.iload_n 1, 1) := by decide +kernel
theorem dX8_exercise_26 : decode cX8_exercise 26 = .ok (.iadd, 1) := by decide +kernel
theorem dX8_exercise_27 : decode cX8_exercise 27 = .ok (.iaload, 1) := by decide +kernel
theorem dX8_exercise_28 : decode cX8_exercise 28 = .ok (.iload_n 2, 1) := by decide +kernel
theorem dX8_exercise_29 : decode cX8_exercise 29 = .ok (.if_icmp .ge 6, 3) := by decide +kernel
theorem dX8_exercise_32 : decode cX8_exercise 32 = .ok (.bipush (-2), 2) := by decide +kernel
theorem dX8_exercise_34 : decode cX8_exercise 34 = .ok (.ireturn, 1) := by decide +kernel
theorem dX8_exercise_35 : decode cX8_exercise 35 = .ok (.aload_n 0, 1) := by decide +kernel
theorem dX8_exercise_36 : decode cX8_exercise 36 = .ok (.invokevirtual 133, 3) := by decide +kernel
theorem dX8_exercise_39 : decode cX8_exercise 39 = .ok (.aload_n 0, 1) := by decide +kernel
theorem dX8_exercise_40 : decode cX8_exercise 40 = .ok (.getfield 7, 3) := by decide +kernel
theorem dX8_exercise_43 : decode cX8_exercise 43 = .ok (.bipush 48, 2) := by decide +kernel
theorem dX8_exercise_45 : decode cX8_exercise 45 = .ok (.iload_n 1, 1) := by decide +kernel
theorem dX8_exercise_46 : decode cX8_exercise 46 = .ok (.iadd, 1) := by decide +kernel
theorem dX8_exercise_47 : decode cX8_exercise 47 = .ok (.dup2, 1) := by decide +kernel
theorem dX8_exercise_48 : decode cX8_exercise 48 = .ok (.iaload, 1) := by decide +kernel
theorem dX8_exercise_49 : decode cX8_exercise 49 = .ok (.iload_n 2, 1) := by decide +kernel
theorem dX8_exercise_50 : decode cX8_exercise 50 = .ok (.isub, 1) := by decide +kernel
theorem dX8_exercise_51 : decode cX8_exercise 51 = .ok (.iastore, 1) := by decide +kernel
theorem dX8_exercise_52 : decode cX8_exercise 52 = .ok (.aload_n 0, 1) := by decide +kernel
theorem dX8_exercise_53 : decode cX8_exercise 53 = .ok (.iload_n 1, 1) := by decide +kernel
theorem dX8_exercise_54 : decode cX8_exercise 54 = .ok (.iconst 0, 1) := by decide +kernel
theorem dX8_exercise_55 : decode cX8_exercise 55 = .ok (.aload_n 0, 1) := by decide +kernel
theorem dX8_exercise_56 : decode cX8_exercise 56 = .ok (.iload_n 1, 1) := by decide +kernel
theorem dX8_exercise_57 : decode cX8_exercise 57 = .ok (.iconst 0, 1) := by decide +kernel
theorem dX8_exercise_58 : decode cX8_exercise 58 = .ok (.invokevirtual 80, 3) := by decide +kernel
theorem dX8_exercise_61 : decode cX8_exercise 61 = .ok (.iload_n 2, 1) := by decide +kernel
theorem dX8_exercise_62 : decode cX8_exercise 62 = .ok (.iadd, 1) := by decide +kernel
theorem dX8_exercise_63 : decode cX8_exercise 63 = .ok (.invokevirtual 136, 3) := by decide +kernel
theorem dX8_exercise_66 : decode cX8_exercise 66 = .ok (.aload_n 0, 1) := by decide +kernel
theorem dX8_exercise_67 : decode cX8_exercise 67 = .ok (.getfield 7, 3) := by decide +kernel
theorem dX8_exercise_70 : decode cX8_exercise 70 = .ok (.bipush 48, 2) := by decide +kernel
theorem dX8_exercise_72 : decode cX8_exercise 72 = .ok (.iload_n 1, 1) := by decide +kernel
theorem dX8_exercise_73 : decode cX8_exercise 73 = .ok (.iadd, 1) := by decide +kernel
theorem dX8_exercise_74 : decode cX8_exercise 74 = .ok (.iaload, 1) := by decide +kernel
theorem dX8_exercise_75 : decode cX8_exercise 75 = .ok (.ireturn, 1) := by decide +kernel
theorem dX8_lapses_0 : decode cX8_lapses 0 = .ok (.aload_n 0, 1) := by decide +kernel
theorem dX8_lapses_1 : decode cX8_lapses 1 = .ok (.iconst 0, 1) := by decide +kernel
theorem dX8_lapses_2 : decode cX8_lapses 2 = .ok (.putfield 48, 3) := by decide +kernel
theorem dX8_lapses_5 : decode cX8_lapses 5 = .ok (.iload_n 1, 1) := by decide +kernel
theorem dX8_lapses_6 : decode cX8_lapses 6 = .ok (.invokestatic 140, 3) := by decide +kernel
theorem dX8_lapses_9 : decode cX8_lapses 9 = .ok (.ifCond .eq 8, 3) := by decide +kernel
theorem dX8_lapses_12 : decode cX8_lapses 12 = .ok (.iload_n 2, 1) := by decide +kernel
theorem dX8_lapses_13 : decode cX8_lapses 13 = .ok (.iconst 1, 1) := by decide +kernel
theorem dX8_lapses_14 : decode cX8_lapses 14 = .ok (.if_icmp .ge 5, 3) := by decide +kernel
theorem dX8_lapses_17 : decode cX8_lapses 17 = .ok (.iconst (-1), 1) := by decide +kernel
theorem dX8_lapses_18 : decode cX8_lapses 18 = .ok (.ireturn, 1) := by decide +kernel
theorem dX8_lapses_19 : decode cX8_lapses 19 = .ok (.aload_n 0, 1) := by decide +kernel
theorem dX8_lapses_20 : decode cX8_lapses 20 = .ok (.getfield 7, 3) := by decide +kernel
theorem dX8_lapses_23 : decode cX8_lapses 23 = .ok (.bipush 48, 2) := by decide +kernel
theorem dX8_lapses_25 : decode cX8_lapses 25 = .ok (.iload_n 1, 1) := by decide +kernel
theorem dX8_lapses_26 : decode cX8_lapses 26 = .ok (.iadd, 1) := by decide +kernel
theorem dX8_lapses_27 : decode cX8_lapses 27 = .ok (.iaload, 1) := by decide +kernel
theorem dX8_lapses_28 : decode cX8_lapses 28 = .ok (.iload_n 2, 1) := by decide +kernel
theorem dX8_lapses_29 : decode cX8_lapses 29 = .ok (.if_icmp .ge 6, 3) := by decide +kernel
theorem dX8_lapses_32 : decode cX8_lapses 32 = .ok (.bipush (-2), 2) := by decide +kernel
theorem dX8_lapses_34 : decode cX8_lapses 34 = .ok (.ireturn, 1) := by decide +kernel
theorem dX8_lapses_35 : decode cX8_lapses 35 = .ok (.aload_n 0, 1) := by decide +kernel
theorem dX8_lapses_36 : decode cX8_lapses 36 = .ok (.invokevirtual 133, 3) := by decide +kernel
theorem dX8_lapses_39 : decode cX8_lapses 39 = .ok (.aload_n 0, 1) := by decide +kernel
theorem dX8_lapses_40 : decode cX8_lapses 40 = .ok (.getfield 7, 3) := by decide +kernel
theorem dX8_lapses_43 : decode cX8_lapses 43 = .ok (.bipush 48, 2) := by decide +kernel
theorem dX8_lapses_45 : decode cX8_lapses 45 = .ok (.iload_n 1, 1) := by decide +kernel
theorem dX8_lapses_46 : decode cX8_lapses 46 = .ok (.iadd, 1) := by decide +kernel
theorem dX8_lapses_47 : decode cX8_lapses 47 = .ok (.dup2, 1) := by decide +kernel
theorem dX8_lapses_48 : decode cX8_lapses 48 = .ok (.iaload, 1) := by decide +kernel
theorem dX8_lapses_49 : decode cX8_lapses 49 = .ok (.iload_n 2, 1) := by decide +kernel
theorem dX8_lapses_50 : decode cX8_lapses 50 = .ok (.isub, 1) := by decide +kernel
theorem dX8_lapses_51 : decode cX8_lapses 51 = .ok (.iastore, 1) := by decide +kernel
theorem dX8_lapses_52 : decode cX8_lapses 52 = .ok (.aload_n 0, 1) := by decide +kernel
theorem dX8_lapses_53 : decode cX8_lapses 53 = .ok (.getfield 7, 3) := by decide +kernel
theorem dX8_lapses_56 : decode cX8_lapses 56 = .ok (.bipush 56, 2) := by decide +kernel
theorem dX8_lapses_58 : decode cX8_lapses 58 = .ok (.dup2, 1) := by decide +kernel
theorem dX8_lapses_59 : decode cX8_lapses 59 = .ok (.iaload, 1) := by decide +kernel
theorem dX8_lapses_60 : decode cX8_lapses 60 = .ok (.iload_n 2, 1) := by decide +kernel
theorem dX8_lapses_61 : decode cX8_lapses 61 = .ok (.iadd, 1) := by decide +kernel
theorem dX8_lapses_62 : decode cX8_lapses 62 = .ok (.iastore, 1) := by decide +kernel
theorem dX8_lapses_63 : decode cX8_lapses 63 = .ok (.aload_n 0, 1) := by decide +kernel
theorem dX8_lapses_64 : decode cX8_lapses 64 = .ok (.getfield 7, 3) := by decide +kernel
theorem dX8_lapses_67 : decode cX8_lapses 67 = .ok (.bipush 56, 2) := by decide +kernel
theorem dX8_lapses_69 : decode cX8_lapses 69 = .ok (.iaload, 1) := by decide +kernel
theorem dX8_lapses_70 : decode cX8_lapses 70 = .ok (.ireturn, 1) := by decide +kernel
theorem dX8_sells_0 : decode cX8_sells 0 = .ok (.aload_n 0, 1) := by decide +kernel
theorem dX8_sells_1 : decode cX8_sells 1 = .ok (.iconst 0, 1) := by decide +kernel
theorem dX8_sells_2 : decode cX8_sells 2 = .ok (.putfield 48, 3) := by decide +kernel
theorem dX8_sells_5 : decode cX8_sells 5 = .ok (.iload_n 1, 1) := by decide +kernel
theorem dX8_sells_6 : decode cX8_sells 6 = .ok (.invokestatic 140, 3) := by decide +kernel
theorem dX8_sells_9 : decode cX8_sells 9 = .ok (.ifCond .eq 24, 3) := by decide +kernel
theorem dX8_sells_12 : decode cX8_sells 12 = .ok (.iload_n 2, 1) := by decide +kernel
theorem dX8_sells_13 : decode cX8_sells 13 = .ok (.invokestatic 140, 3) := by decide +kernel
theorem dX8_sells_16 : decode cX8_sells 16 = .ok (.ifCond .eq 17, 3) := by decide +kernel
theorem dX8_sells_19 : decode cX8_sells 19 = .ok (.aload_n 0, 1) := by decide +kernel
theorem dX8_sells_20 : decode cX8_sells 20 = .ok (.iload_n 3, 1) := by decide +kernel
theorem dX8_sells_21 : decode cX8_sells 21 = .ok (.invokevirtual 64, 3) := by decide +kernel
theorem dX8_sells_24 : decode cX8_sells 24 = .ok (.ifCond .eq 9, 3) := by decide +kernel
theorem dX8_sells_27 : decode cX8_sells 27 = .ok (.iload 4, 2) := by decide +kernel
theorem dX8_sells_29 : decode cX8_sells 29 = .ok (.iconst 1, 1) := by decide +kernel
theorem dX8_sells_30 : decode cX8_sells 30 = .ok (.if_icmp .ge 5, 3) := by decide +kernel
theorem dX8_sells_33 : decode cX8_sells 33 = .ok (.iconst (-1), 1) := by decide +kernel
theorem dX8_sells_34 : decode cX8_sells 34 = .ok (.ireturn, 1) := by decide +kernel
theorem dX8_sells_35 : decode cX8_sells 35 = .ok (.aload_n 0, 1) := by decide +kernel
theorem dX8_sells_36 : decode cX8_sells 36 = .ok (.iload_n 1, 1) := by decide +kernel
theorem dX8_sells_37 : decode cX8_sells 37 = .ok (.iload_n 3, 1) := by decide +kernel
theorem dX8_sells_38 : decode cX8_sells 38 = .ok (.invokevirtual 80, 3) := by decide +kernel
theorem dX8_sells_41 : decode cX8_sells 41 = .ok (.iload 4, 2) := by decide +kernel
theorem dX8_sells_43 : decode cX8_sells 43 = .ok (.if_icmp .lt 8, 3) := by decide +kernel
theorem dX8_sells_46 : decode cX8_sells 46 = .ok (.iload_n 1, 1) := by decide +kernel
theorem dX8_sells_47 : decode cX8_sells 47 = .ok (.iload_n 2, 1) := by decide +kernel
theorem dX8_sells_48 : decode cX8_sells 48 = .ok (.if_icmp .ne 6, 3) := by decide +kernel
theorem dX8_sells_51 : decode cX8_sells 51 = .ok (.bipush (-2), 2) := by decide +kernel
theorem dX8_sells_53 : decode cX8_sells 53 = .ok (.ireturn, 1) := by decide +kernel
theorem dX8_sells_54 : decode cX8_sells 54 = .ok (.aload_n 0, 1) := by decide +kernel
theorem dX8_sells_55 : decode cX8_sells 55 = .ok (.invokevirtual 68, 3) := by decide +kernel
theorem dX8_sells_58 : decode cX8_sells 58 = .ok (.aload_n 0, 1) := by decide +kernel
theorem dX8_sells_59 : decode cX8_sells 59 = .ok (.iload_n 1, 1) := by decide +kernel
theorem dX8_sells_60 : decode cX8_sells 60 = .ok (.iload_n 3, 1) := by decide +kernel
theorem dX8_sells_61 : decode cX8_sells 61 = .ok (.aload_n 0, 1) := by decide +kernel
theorem dX8_sells_62 : decode cX8_sells 62 = .ok (.iload_n 1, 1) := by decide +kernel
theorem dX8_sells_63 : decode cX8_sells 63 = .ok (.iload_n 3, 1) := by decide +kernel
theorem dX8_sells_64 : decode cX8_sells 64 = .ok (.invokevirtual 80, 3) := by decide +kernel
theorem dX8_sells_67 : decode cX8_sells 67 = .ok (.iload 4, 2) := by decide +kernel
theorem dX8_sells_69 : decode cX8_sells 69 = .ok (.isub, 1) := by decide +kernel
theorem dX8_sells_70 : decode cX8_sells 70 = .ok (.invokevirtual 136, 3) := by decide +kernel
theorem dX8_sells_73 : decode cX8_sells 73 = .ok (.aload_n 0, 1) := by decide +kernel
theorem dX8_sells_74 : decode cX8_sells 74 = .ok (.iload_n 2, 1) := by decide +kernel
theorem dX8_sells_75 : decode cX8_sells 75 = .ok (.iload_n 3, 1) := by decide +kernel
theorem dX8_sells_76 : decode cX8_sells 76 = .ok (.aload_n 0, 1) := by decide +kernel
theorem dX8_sells_77 : decode cX8_sells 77 = .ok (.iload_n 2, 1) := by decide +kernel
theorem dX8_sells_78 : decode cX8_sells 78 = .ok (.iload_n 3, 1) := by decide +kernel
theorem dX8_sells_79 : decode cX8_sells 79 = .ok (.invokevirtual 80, 3) := by decide +kernel
theorem dX8_sells_82 : decode cX8_sells 82 = .ok (.iload 4, 2) := by decide +kernel
theorem dX8_sells_84 : decode cX8_sells 84 = .ok (.iadd, 1) := by decide +kernel
theorem dX8_sells_85 : decode cX8_sells 85 = .ok (.invokevirtual 136, 3) := by decide +kernel
theorem dX8_sells_88 : decode cX8_sells 88 = .ok (.aload_n 0, 1) := by decide +kernel
theorem dX8_sells_89 : decode cX8_sells 89 = .ok (.invokevirtual 143, 3) := by decide +kernel
theorem dX8_sells_92 : decode cX8_sells 92 = .ok (.ldc2_w 131, 3) := by decide +kernel
theorem dX8_sells_95 : decode cX8_sells 95 = .ok (.lcmp, 1) := by decide +kernel
theorem dX8_sells_96 : decode cX8_sells 96 = .ok (.ifCond .le 10, 3) := by decide +kernel
theorem dX8_sells_99 : decode cX8_sells 99 = .ok (.aload_n 0, 1) := by decide +kernel
theorem dX8_sells_100 : decode cX8_sells 100 = .ok (.invokevirtual 146, 3) := by decide +kernel
theorem dX8_sells_103 : decode cX8_sells 103 = .ok (.bipush (-9), 2) := by decide +kernel
theorem dX8_sells_105 : decode cX8_sells 105 = .ok (.ireturn, 1) := by decide +kernel
theorem dX8_sells_106 : decode cX8_sells 106 = .ok (.aload_n 0, 1) := by decide +kernel
theorem dX8_sells_107 : decode cX8_sells 107 = .ok (.invokevirtual 71, 3) := by decide +kernel
theorem dX8_sells_110 : decode cX8_sells 110 = .ok (.aload_n 0, 1) := by decide +kernel
theorem dX8_sells_111 : decode cX8_sells 111 = .ok (.iload_n 1, 1) := by decide +kernel
theorem dX8_sells_112 : decode cX8_sells 112 = .ok (.iload_n 3, 1) := by decide +kernel
theorem dX8_sells_113 : decode cX8_sells 113 = .ok (.invokevirtual 80, 3) := by decide +kernel
theorem dX8_sells_116 : decode cX8_sells 116 = .ok (.ireturn, 1) := by decide +kernel
theorem dX8_gives_0 : decode cX8_gives 0 = .ok (.aload_n 0, 1) := by decide +kernel
theorem dX8_gives_1 : decode cX8_gives 1 = .ok (.iconst 0, 1) := by decide +kernel
theorem dX8_gives_2 : decode cX8_gives 2 = .ok (.putfield 48, 3) := by decide +kernel
theorem dX8_gives_5 : decode cX8_gives 5 = .ok (.iload_n 1, 1) := by decide +kernel
theorem dX8_gives_6 : decode cX8_gives 6 = .ok (.invokestatic 140, 3) := by decide +kernel
theorem dX8_gives_9 : decode cX8_gives 9 = .ok (.ifCond .eq 10, 3) := by decide +kernel
theorem dX8_gives_12 : decode cX8_gives 12 = .ok (.iload_n 2, 1) := by decide +kernel
theorem dX8_gives_13 : decode cX8_gives 13 = .ok (.invokestatic 140, 3) := by decide +kernel
theorem dX8_gives_16 : decode cX8_gives 16 = .ok (.ifCond .ne 5, 3) := by decide +kernel
theorem dX8_gives_19 : decode cX8_gives 19 = .ok (.iconst (-1), 1) := by decide +kernel
theorem dX8_gives_20 : decode cX8_gives 20 = .ok (.ireturn, 1) := by decide +kernel
theorem dX8_gives_21 : decode cX8_gives 21 = .ok (.aload_n 0, 1) := by decide +kernel
theorem dX8_gives_22 : decode cX8_gives 22 = .ok (.getfield 7, 3) := by decide +kernel
theorem dX8_gives_25 : decode cX8_gives 25 = .ok (.bipush 48, 2) := by decide +kernel
theorem dX8_gives_27 : decode cX8_gives 27 = .ok (.iload_n 1, 1) := by decide +kernel
theorem dX8_gives_28 : decode cX8_gives 28 = .ok (.iadd, 1) := by decide +kernel
theorem dX8_gives_29 : decode cX8_gives 29 = .ok (.iaload, 1) := by decide +kernel
theorem dX8_gives_30 : decode cX8_gives 30 = .ok (.i2l, 1) := by decide +kernel
theorem dX8_gives_31 : decode cX8_gives 31 = .ok (.lstore_n 3, 1) := by decide +kernel
theorem dX8_gives_32 : decode cX8_gives 32 = .ok (.iconst 0, 1) := by decide +kernel
theorem dX8_gives_33 : decode cX8_gives 33 = .ok (.istore 5, 2) := by decide +kernel
theorem dX8_gives_35 : decode cX8_gives 35 = .ok (.iload 5, 2) := by decide +kernel
theorem dX8_gives_37 : decode cX8_gives 37 = .ok (.aload_n 0, 1) := by decide +kernel
theorem dX8_gives_38 : decode cX8_gives 38 = .ok (.getfield 7, 3) := by decide +kernel
theorem dX8_gives_41 : decode cX8_gives 41 = .ok (.bipush 57, 2) := by decide +kernel
theorem dX8_gives_43 : decode cX8_gives 43 = .ok (.iaload, 1) := by decide +kernel
theorem dX8_gives_44 : decode cX8_gives 44 = .ok (.if_icmp .ge 20, 3) := by decide +kernel
theorem dX8_gives_47 : decode cX8_gives 47 = .ok (.lload_n 3, 1) := by decide +kernel
theorem dX8_gives_48 : decode cX8_gives 48 = .ok (.aload_n 0, 1) := by decide +kernel
theorem dX8_gives_49 : decode cX8_gives 49 = .ok (.iload_n 1, 1) := by decide +kernel
theorem dX8_gives_50 : decode cX8_gives 50 = .ok (.iload 5, 2) := by decide +kernel
theorem dX8_gives_52 : decode cX8_gives 52 = .ok (.invokevirtual 80, 3) := by decide +kernel
theorem dX8_gives_55 : decode cX8_gives 55 = .ok (.i2l, 1) := by decide +kernel
theorem dX8_gives_56 : decode cX8_gives 56 = .ok (.ladd, 1) := by decide +kernel
theorem dX8_gives_57 : decode cX8_gives 57 = .ok (.lstore_n 3, 1) := by decide +kernel
theorem dX8_gives_58 : decode cX8_gives 58 = .ok (.iinc 5 1, 3) := by decide +kernel
theorem dX8_gives_61 : decode cX8_gives 61 = .ok (.goto (-26), 3) := by decide +kernel
theorem dX8_gives_64 : decode cX8_gives 64 = .ok (.iload_n 1, 1) := by decide +kernel
theorem dX8_gives_65 : decode cX8_gives 65 = .ok (.iload_n 2, 1) := by decide +kernel
theorem dX8_gives_66 : decode cX8_gives 66 = .ok (.if_icmp .eq 9, 3) := by decide +kernel
theorem dX8_gives_69 : decode cX8_gives 69 = .ok (.lload_n 3, 1) := by decide +kernel
theorem dX8_gives_70 : decode cX8_gives 70 = .ok (.lconst 0, 1) := by decide +kernel
theorem dX8_gives_71 : decode cX8_gives 71 = .ok (.lcmp, 1) := by decide +kernel
theorem dX8_gives_72 : decode cX8_gives 72 = .ok (.ifCond .ne 6, 3) := by decide +kernel
theorem dX8_gives_75 : decode cX8_gives 75 = .ok (.bipush (-2), 2) := by decide +kernel
theorem dX8_gives_77 : decode cX8_gives 77 = .ok (.ireturn, 1) := by decide +kernel
theorem dX8_gives_78 : decode cX8_gives 78 = .ok (.aload_n 0, 1) := by decide +kernel
theorem dX8_gives_79 : decode cX8_gives 79 = .ok (.invokevirtual 68, 3) := by decide +kernel
theorem dX8_gives_82 : decode cX8_gives 82 = .ok (.iconst 0, 1) := by decide +kernel
theorem dX8_gives_83 : decode cX8_gives 83 = .ok (.istore 5, 2) := by decide +kernel
theorem dX8_gives_85 : decode cX8_gives 85 = .ok (.iload 5, 2) := by decide +kernel
theorem dX8_gives_87 : decode cX8_gives 87 = .ok (.aload_n 0, 1) := by decide +kernel
theorem dX8_gives_88 : decode cX8_gives 88 = .ok (.getfield 7, 3) := by decide +kernel
theorem dX8_gives_91 : decode cX8_gives 91 = .ok (.bipush 57, 2) := by decide +kernel
theorem dX8_gives_93 : decode cX8_gives 93 = .ok (.iaload, 1) := by decide +kernel
theorem dX8_gives_94 : decode cX8_gives 94 = .ok (.if_icmp .ge 39, 3) := by decide +kernel
theorem dX8_gives_97 : decode cX8_gives 97 = .ok (.aload_n 0, 1) := by decide +kernel
theorem dX8_gives_98 : decode cX8_gives 98 = .ok (.iload_n 2, 1) := by decide +kernel
theorem dX8_gives_99 : decode cX8_gives 99 = .ok (.iload 5, 2) := by decide +kernel
theorem dX8_gives_101 : decode cX8_gives 101 = .ok (.aload_n 0, 1) := by decide +kernel
theorem dX8_gives_102 : decode cX8_gives 102 = .ok (.iload_n 2, 1) := by decide +kernel
theorem dX8_gives_103 : decode cX8_gives 103 = .ok (.iload 5, 2) := by decide +kernel
theorem dX8_gives_105 : decode cX8_gives 105 = .ok (.invokevirtual 80, 3) := by decide +kernel
theorem dX8_gives_108 : decode cX8_gives 108 = .ok (.aload_n 0, 1) := by decide +kernel
theorem dX8_gives_109 : decode cX8_gives 109 = .ok (.iload_n 1, 1) := by decide +kernel
theorem dX8_gives_110 : decode cX8_gives 110 = .ok (.iload 5, 2) := by decide +kernel
theorem dX8_gives_112 : decode cX8_gives 112 = .ok (.invokevirtual 80, 3) := by decide +kernel
theorem dX8_gives_115 : decode cX8_gives 115 = .ok (.iadd, 1) := by decide +kernel
theorem dX8_gives_116 : decode cX8_gives 116 = .ok (.invokevirtual 136, 3) := by decide +kernel
theorem dX8_gives_119 : decode cX8_gives 119 = .ok (.aload_n 0, 1) := by decide +kernel
theorem dX8_gives_120 : decode cX8_gives 120 = .ok (.iload_n 1, 1) := by decide +kernel
theorem dX8_gives_121 : decode cX8_gives 121 = .ok (.iload 5, 2) := by decide +kernel
theorem dX8_gives_123 : decode cX8_gives 123 = .ok (.iconst 0, 1) := by decide +kernel
theorem dX8_gives_124 : decode cX8_gives 124 = .ok (.invokevirtual 136, 3) := by decide +kernel
theorem dX8_gives_127 : decode cX8_gives 127 = .ok (.iinc 5 1, 3) := by decide +kernel
theorem dX8_gives_130 : decode cX8_gives 130 = .ok (.goto (-45), 3) := by decide +kernel
theorem dX8_gives_133 : decode cX8_gives 133 = .ok (.aload_n 0, 1) := by decide +kernel
theorem dX8_gives_134 : decode cX8_gives 134 = .ok (.getfield 7, 3) := by decide +kernel
theorem dX8_gives_137 : decode cX8_gives 137 = .ok (.bipush 48, 2) := by decide +kernel
theorem dX8_gives_139 : decode cX8_gives 139 = .ok (.iload_n 2, 1) := by decide +kernel
theorem dX8_gives_140 : decode cX8_gives 140 = .ok (.iadd, 1) := by decide +kernel
theorem dX8_gives_141 : decode cX8_gives 141 = .ok (.dup2, 1) := by decide +kernel
theorem dX8_gives_142 : decode cX8_gives 142 = .ok (.iaload, 1) := by decide +kernel
theorem dX8_gives_143 : decode cX8_gives 143 = .ok (.aload_n 0, 1) := by decide +kernel
theorem dX8_gives_144 : decode cX8_gives 144 = .ok (.getfield 7, 3) := by decide +kernel
theorem dX8_gives_147 : decode cX8_gives 147 = .ok (.bipush 48, 2) := by decide +kernel
theorem dX8_gives_149 : decode cX8_gives 149 = .ok (.iload_n 1, 1) := by decide +kernel
theorem dX8_gives_150 : decode cX8_gives 150 = .ok (.iadd, 1) := by decide +kernel
theorem dX8_gives_151 : decode cX8_gives 151 = .ok (.iaload, 1) := by decide +kernel
theorem dX8_gives_152 : decode cX8_gives 152 = .ok (.iadd, 1) := by decide +kernel
theorem dX8_gives_153 : decode cX8_gives 153 = .ok (.iastore, 1) := by decide +kernel
theorem dX8_gives_154 : decode cX8_gives 154 = .ok (.aload_n 0, 1) := by decide +kernel
theorem dX8_gives_155 : decode cX8_gives 155 = .ok (.getfield 7, 3) := by decide +kernel
theorem dX8_gives_158 : decode cX8_gives 158 = .ok (.bipush 48, 2) := by decide +kernel
theorem dX8_gives_160 : decode cX8_gives 160 = .ok (.iload_n 1, 1) := by decide +kernel
theorem dX8_gives_161 : decode cX8_gives 161 = .ok (.iadd, 1) := by decide +kernel
theorem dX8_gives_162 : decode cX8_gives 162 = .ok (.iconst 0, 1) := by decide +kernel
theorem dX8_gives_163 : decode cX8_gives 163 = .ok (.iastore, 1) := by decide +kernel
theorem dX8_gives_164 : decode cX8_gives 164 = .ok (.aload_n 0, 1) := by decide +kernel
theorem dX8_gives_165 : decode cX8_gives 165 = .ok (.invokevirtual 143, 3) := by decide +kernel
theorem dX8_gives_168 : decode cX8_gives 168 = .ok (.ldc2_w 131, 3) := by decide +kernel
theorem dX8_gives_171 : decode cX8_gives 171 = .ok (.lcmp, 1) := by decide +kernel
theorem dX8_gives_172 : decode cX8_gives 172 = .ok (.ifCond .le 10, 3) := by decide +kernel
theorem dX8_gives_175 : decode cX8_gives 175 = .ok (.aload_n 0, 1) := by decide +kernel
theorem dX8_gives_176 : decode cX8_gives 176 = .ok (.invokevirtual 146, 3) := by decide +kernel
theorem dX8_gives_179 : decode cX8_gives 179 = .ok (.bipush (-9), 2) := by decide +kernel
theorem dX8_gives_181 : decode cX8_gives 181 = .ok (.ireturn, 1) := by decide +kernel
theorem dX8_gives_182 : decode cX8_gives 182 = .ok (.aload_n 0, 1) := by decide +kernel
theorem dX8_gives_183 : decode cX8_gives 183 = .ok (.invokevirtual 71, 3) := by decide +kernel
theorem dX8_gives_186 : decode cX8_gives 186 = .ok (.aload_n 0, 1) := by decide +kernel
theorem dX8_gives_187 : decode cX8_gives 187 = .ok (.iload_n 2, 1) := by decide +kernel
theorem dX8_gives_188 : decode cX8_gives 188 = .ok (.invokevirtual 149, 3) := by decide +kernel
theorem dX8_gives_191 : decode cX8_gives 191 = .ok (.l2i, 1) := by decide +kernel
theorem dX8_gives_192 : decode cX8_gives 192 = .ok (.ireturn, 1) := by decide +kernel
theorem dX8_splits_0 : decode cX8_splits 0 = .ok (.aload_n 0, 1) := by decide +kernel
theorem dX8_splits_1 : decode cX8_splits 1 = .ok (.iconst 0, 1) := by decide +kernel
theorem dX8_splits_2 : decode cX8_splits 2 = .ok (.putfield 48, 3) := by decide +kernel
theorem dX8_splits_5 : decode cX8_splits 5 = .ok (.iload_n 1, 1) := by decide +kernel
theorem dX8_splits_6 : decode cX8_splits 6 = .ok (.i2l, 1) := by decide +kernel
theorem dX8_splits_7 : decode cX8_splits 7 = .ok (.ldc2_w 152, 3) := by decide +kernel
theorem dX8_splits_10 : decode cX8_splits 10 = .ok (.ldc2_w 120, 3) := by decide +kernel
theorem dX8_splits_13 : decode cX8_splits 13 = .ok (.invokestatic 58, 3) := by decide +kernel
theorem dX8_splits_16 : decode cX8_splits 16 = .ok (.ifCond .ne 5, 3) := by decide +kernel
theorem dX8_splits_19 : decode cX8_splits 19 = .ok (.iconst (-1), 1) := by decide +kernel
theorem dX8_splits_20 : decode cX8_splits 20 = .ok (.ireturn, 1) := by decide +kernel
theorem dX8_splits_21 : decode cX8_splits 21 = .ok (.aload_n 0, 1) := by decide +kernel
theorem dX8_splits_22 : decode cX8_splits 22 = .ok (.invokevirtual 96, 3) := by decide +kernel
theorem dX8_splits_25 : decode cX8_splits 25 = .ok (.aload_n 0, 1) := by decide +kernel
theorem dX8_splits_26 : decode cX8_splits 26 = .ok (.getfield 7, 3) := by decide +kernel
theorem dX8_splits_29 : decode cX8_splits 29 = .ok (.bipush 56, 2) := by decide +kernel
theorem dX8_splits_31 : decode cX8_splits 31 = .ok (.iaload, 1) := by decide +kernel
theorem dX8_splits_32 : decode cX8_splits 32 = .ok (.i2l, 1) := by decide +kernel
theorem dX8_splits_33 : decode cX8_splits 33 = .ok (.ladd, 1) := by decide +kernel
theorem dX8_splits_34 : decode cX8_splits 34 = .ok (.lstore_n 2, 1) := by decide +kernel
theorem dX8_splits_35 : decode cX8_splits 35 = .ok (.iconst 0, 1) := by decide +kernel
theorem dX8_splits_36 : decode cX8_splits 36 = .ok (.istore 4, 2) := by decide +kernel
theorem dX8_splits_38 : decode cX8_splits 38 = .ok (.iload 4, 2) := by decide +kernel
theorem dX8_splits_40 : decode cX8_splits 40 = .ok (.aload_n 0, 1) := by decide +kernel
theorem dX8_splits_41 : decode cX8_splits 41 = .ok (.getfield 7, 3) := by decide +kernel
theorem dX8_splits_44 : decode cX8_splits 44 = .ok (.bipush 57, 2) := by decide +kernel
theorem dX8_splits_46 : decode cX8_splits 46 = .ok (.iaload, 1) := by decide +kernel
theorem dX8_splits_47 : decode cX8_splits 47 = .ok (.if_icmp .ge 18, 3) := by decide +kernel
theorem dX8_splits_50 : decode cX8_splits 50 = .ok (.lload_n 2, 1) := by decide +kernel
theorem dX8_splits_51 : decode cX8_splits 51 = .ok (.aload_n 0, 1) := by decide +kernel
theorem dX8_splits_52 : decode cX8_splits 52 = .ok (.iload 4, 2) := by decide +kernel
theorem dX8_splits_54 : decode cX8_splits 54 = .ok (.invokevirtual 154, 3) := by decide +kernel
theorem dX8_splits_57 : decode cX8_splits 57 = .ok (.ladd, 1) := by decide +kernel
theorem dX8_splits_58 : decode cX8_splits 58 = .ok (.lstore_n 2, 1) := by decide +kernel
theorem dX8_splits_59 : decode cX8_splits 59 = .ok (.iinc 4 1, 3) := by decide +kernel
theorem dX8_splits_62 : decode cX8_splits 62 = .ok (.goto (-24), 3) := by decide +kernel
theorem dX8_splits_65 : decode cX8_splits 65 = .ok (.iload_n 1, 1) := by decide +kernel
theorem dX8_splits_66 : decode cX8_splits 66 = .ok (.i2l, 1) := by decide +kernel
theorem dX8_splits_67 : decode cX8_splits 67 = .ok (.lload_n 2, 1) := by decide +kernel
theorem dX8_splits_68 : decode cX8_splits 68 = .ok (.lmul, 1) := by decide +kernel
theorem dX8_splits_69 : decode cX8_splits 69 = .ok (.ldc2_w 131, 3) := by decide +kernel
theorem dX8_splits_72 : decode cX8_splits 72 = .ok (.lcmp, 1) := by decide +kernel
theorem dX8_splits_73 : decode cX8_splits 73 = .ok (.ifCond .le 6, 3) := by decide +kernel
theorem dX8_splits_76 : decode cX8_splits 76 = .ok (.bipush (-9), 2) := by decide +kernel
theorem dX8_splits_78 : decode cX8_splits 78 = .ok (.ireturn, 1) := by decide +kernel
theorem dX8_splits_79 : decode cX8_splits 79 = .ok (.aload_n 0, 1) := by decide +kernel
theorem dX8_splits_80 : decode cX8_splits 80 = .ok (.invokevirtual 68, 3) := by decide +kernel
theorem dX8_splits_83 : decode cX8_splits 83 = .ok (.iconst 0, 1) := by decide +kernel
theorem dX8_splits_84 : decode cX8_splits 84 = .ok (.istore 4, 2) := by decide +kernel
theorem dX8_splits_86 : decode cX8_splits 86 = .ok (.iload 4, 2) := by decide +kernel
theorem dX8_splits_88 : decode cX8_splits 88 = .ok (.bipush 56, 2) := by decide +kernel
theorem dX8_splits_90 : decode cX8_splits 90 = .ok (.if_icmp .gt 20, 3) := by decide +kernel
theorem dX8_splits_93 : decode cX8_splits 93 = .ok (.aload_n 0, 1) := by decide +kernel
theorem dX8_splits_94 : decode cX8_splits 94 = .ok (.getfield 7, 3) := by decide +kernel
theorem dX8_splits_97 : decode cX8_splits 97 = .ok (.iload 4, 2) := by decide +kernel
theorem dX8_splits_99 : decode cX8_splits 99 = .ok (.dup2, 1) := by decide +kernel
theorem dX8_splits_100 : decode cX8_splits 100 = .ok (.iaload, 1) := by decide +kernel
theorem dX8_splits_101 : decode cX8_splits 101 = .ok (.iload_n 1, 1) := by decide +kernel
theorem dX8_splits_102 : decode cX8_splits 102 = .ok (.imul, 1) := by decide +kernel
theorem dX8_splits_103 : decode cX8_splits 103 = .ok (.iastore, 1) := by decide +kernel
theorem dX8_splits_104 : decode cX8_splits 104 = .ok (.iinc 4 1, 3) := by decide +kernel
theorem dX8_splits_107 : decode cX8_splits 107 = .ok (.goto (-21), 3) := by decide +kernel
theorem dX8_splits_110 : decode cX8_splits 110 = .ok (.iconst 1, 1) := by decide +kernel
theorem dX8_splits_111 : decode cX8_splits 111 = .ok (.istore 4, 2) := by decide +kernel
theorem dX8_splits_113 : decode cX8_splits 113 = .ok (.iload 4, 2) := by decide +kernel
theorem dX8_splits_115 : decode cX8_splits 115 = .ok (.aload_n 0, 1) := by decide +kernel
theorem dX8_splits_116 : decode cX8_splits 116 = .ok (.getfield 7, 3) := by decide +kernel
theorem dX8_splits_119 : decode cX8_splits 119 = .ok (.bipush 57, 2) := by decide +kernel
theorem dX8_splits_121 : decode cX8_splits 121 = .ok (.iaload, 1) := by decide +kernel
theorem dX8_splits_122 : decode cX8_splits 122 = .ok (.if_icmp .ge 61, 3) := by decide +kernel
theorem dX8_splits_125 : decode cX8_splits 125 = .ok (.aload_n 0, 1) := by decide +kernel
theorem dX8_splits_126 : decode cX8_splits 126 = .ok (.getfield 7, 3) := by decide +kernel
theorem dX8_splits_129 : decode cX8_splits 129 = .ok (.bipush 58, 2) := by decide +kernel
theorem dX8_splits_131 : decode cX8_splits 131 = .ok (.iload 4, 2) := by decide +kernel
theorem dX8_splits_133 : decode cX8_splits 133 = .ok (.iadd, 1) := by decide +kernel
theorem dX8_splits_134 : decode cX8_splits 134 = .ok (.iconst 1, 1) := by decide +kernel
theorem dX8_splits_135 : decode cX8_splits 135 = .ok (.aload_n 0, 1) := by decide +kernel
theorem dX8_splits_136 : decode cX8_splits 136 = .ok (.getfield 7, 3) := by decide +kernel
theorem dX8_splits_139 : decode cX8_splits 139 = .ok (.bipush 58, 2) := by decide +kernel
theorem dX8_splits_141 : decode cX8_splits 141 = .ok (.iload 4, 2) := by decide +kernel
theorem dX8_splits_143 : decode cX8_splits 143 = .ok (.iadd, 1) := by decide +kernel
theorem dX8_splits_144 : decode cX8_splits 144 = .ok (.iaload, 1) := by decide +kernel
theorem dX8_splits_145 : decode cX8_splits 145 = .ok (.iload_n 1, 1) := by decide +kernel
theorem dX8_splits_146 : decode cX8_splits 146 = .ok (.idiv, 1) := by decide +kernel
theorem dX8_splits_147 : decode cX8_splits 147 = .ok (.invokestatic 157, 3) := by decide +kernel
theorem dX8_splits_150 : decode cX8_splits 150 = .ok (.iastore, 1) := by decide +kernel
theorem dX8_splits_151 : decode cX8_splits 151 = .ok (.aload_n 0, 1) := by decide +kernel
theorem dX8_splits_152 : decode cX8_splits 152 = .ok (.getfield 7, 3) := by decide +kernel
theorem dX8_splits_155 : decode cX8_splits 155 = .ok (.bipush 64, 2) := by decide +kernel
theorem dX8_splits_157 : decode cX8_splits 157 = .ok (.iload 4, 2) := by decide +kernel
theorem dX8_splits_159 : decode cX8_splits 159 = .ok (.iadd, 1) := by decide +kernel
theorem dX8_splits_160 : decode cX8_splits 160 = .ok (.iconst 1, 1) := by decide +kernel
theorem dX8_splits_161 : decode cX8_splits 161 = .ok (.aload_n 0, 1) := by decide +kernel
theorem dX8_splits_162 : decode cX8_splits 162 = .ok (.getfield 7, 3) := by decide +kernel
theorem dX8_splits_165 : decode cX8_splits 165 = .ok (.bipush 64, 2) := by decide +kernel
theorem dX8_splits_167 : decode cX8_splits 167 = .ok (.iload 4, 2) := by decide +kernel
theorem dX8_splits_169 : decode cX8_splits 169 = .ok (.iadd, 1) := by decide +kernel
theorem dX8_splits_170 : decode cX8_splits 170 = .ok (.iaload, 1) := by decide +kernel
theorem dX8_splits_171 : decode cX8_splits 171 = .ok (.iload_n 1, 1) := by decide +kernel
theorem dX8_splits_172 : decode cX8_splits 172 = .ok (.idiv, 1) := by decide +kernel
theorem dX8_splits_173 : decode cX8_splits 173 = .ok (.invokestatic 157, 3) := by decide +kernel
theorem dX8_splits_176 : decode cX8_splits 176 = .ok (.iastore, 1) := by decide +kernel
theorem dX8_splits_177 : decode cX8_splits 177 = .ok (.iinc 4 1, 3) := by decide +kernel
theorem dX8_splits_180 : decode cX8_splits 180 = .ok (.goto (-67), 3) := by decide +kernel
theorem dX8_splits_183 : decode cX8_splits 183 = .ok (.aload_n 0, 1) := by decide +kernel
theorem dX8_splits_184 : decode cX8_splits 184 = .ok (.invokevirtual 143, 3) := by decide +kernel
theorem dX8_splits_187 : decode cX8_splits 187 = .ok (.ldc2_w 131, 3) := by decide +kernel
theorem dX8_splits_190 : decode cX8_splits 190 = .ok (.lcmp, 1) := by decide +kernel
theorem dX8_splits_191 : decode cX8_splits 191 = .ok (.ifCond .le 10, 3) := by decide +kernel
theorem dX8_splits_194 : decode cX8_splits 194 = .ok (.aload_n 0, 1) := by decide +kernel
theorem dX8_splits_195 : decode cX8_splits 195 = .ok (.invokevirtual 146, 3) := by decide +kernel
theorem dX8_splits_198 : decode cX8_splits 198 = .ok (.bipush (-9), 2) := by decide +kernel
theorem dX8_splits_200 : decode cX8_splits 200 = .ok (.ireturn, 1) := by decide +kernel
theorem dX8_splits_201 : decode cX8_splits 201 = .ok (.aload_n 0, 1) := by decide +kernel
theorem dX8_splits_202 : decode cX8_splits 202 = .ok (.invokevirtual 71, 3) := by decide +kernel
theorem dX8_splits_205 : decode cX8_splits 205 = .ok (.aload_n 0, 1) := by decide +kernel
theorem dX8_splits_206 : decode cX8_splits 206 = .ok (.invokevirtual 143, 3) := by decide +kernel
theorem dX8_splits_209 : decode cX8_splits 209 = .ok (.l2i, 1) := by decide +kernel
theorem dX8_splits_210 : decode cX8_splits 210 = .ok (.ireturn, 1) := by decide +kernel
theorem dX8_converts_0 : decode cX8_converts 0 = .ok (.aload_n 0, 1) := by decide +kernel
theorem dX8_converts_1 : decode cX8_converts 1 = .ok (.iconst 0, 1) := by decide +kernel
theorem dX8_converts_2 : decode cX8_converts 2 = .ok (.putfield 48, 3) := by decide +kernel
theorem dX8_converts_5 : decode cX8_converts 5 = .ok (.iload_n 1, 1) := by decide +kernel
theorem dX8_converts_6 : decode cX8_converts 6 = .ok (.invokestatic 140, 3) := by decide +kernel
theorem dX8_converts_9 : decode cX8_converts 9 = .ok (.ifCond .eq 16, 3) := by decide +kernel
theorem dX8_converts_12 : decode cX8_converts 12 = .ok (.aload_n 0, 1) := by decide +kernel
theorem dX8_converts_13 : decode cX8_converts 13 = .ok (.iload_n 2, 1) := by decide +kernel
theorem dX8_converts_14 : decode cX8_converts 14 = .ok (.invokevirtual 162, 3) := by decide +kernel
theorem dX8_converts_17 : decode cX8_converts 17 = .ok (.ifCond .eq 8, 3) := by decide +kernel
theorem dX8_converts_20 : decode cX8_converts 20 = .ok (.iload_n 3, 1) := by decide +kernel
theorem dX8_converts_21 : decode cX8_converts 21 = .ok (.iconst 1, 1) := by decide +kernel
theorem dX8_converts_22 : decode cX8_converts 22 = .ok (.if_icmp .ge 5, 3) := by decide +kernel
theorem dX8_converts_25 : decode cX8_converts 25 = .ok (.iconst (-1), 1) := by decide +kernel
theorem dX8_converts_26 : decode cX8_converts 26 = .ok (.ireturn, 1) := by decide +kernel
theorem dX8_converts_27 : decode cX8_converts 27 = .ok (.aload_n 0, 1) := by decide +kernel
theorem dX8_converts_28 : decode cX8_converts 28 = .ok (.iload_n 1, 1) := by decide +kernel
theorem dX8_converts_29 : decode cX8_converts 29 = .ok (.iload_n 2, 1) := by decide +kernel
theorem dX8_converts_30 : decode cX8_converts 30 = .ok (.invokevirtual 80, 3) := by decide +kernel
theorem dX8_converts_33 : decode cX8_converts 33 = .ok (.iload_n 3, 1) := by decide +kernel
theorem dX8_converts_34 : decode cX8_converts 34 = .ok (.if_icmp .ge 6, 3) := by decide +kernel
theorem dX8_converts_37 : decode cX8_converts 37 = .ok (.bipush (-2), 2) := by decide +kernel
theorem dX8_converts_39 : decode cX8_converts 39 = .ok (.ireturn, 1) := by decide +kernel
theorem dX8_converts_40 : decode cX8_converts 40 = .ok (.aload_n 0, 1) := by decide +kernel
theorem dX8_converts_41 : decode cX8_converts 41 = .ok (.invokevirtual 133, 3) := by decide +kernel
theorem dX8_converts_44 : decode cX8_converts 44 = .ok (.aload_n 0, 1) := by decide +kernel
theorem dX8_converts_45 : decode cX8_converts 45 = .ok (.iload_n 3, 1) := by decide +kernel
theorem dX8_converts_46 : decode cX8_converts 46 = .ok (.iload_n 2, 1) := by decide +kernel
theorem dX8_converts_47 : decode cX8_converts 47 = .ok (.invokevirtual 84, 3) := by decide +kernel
theorem dX8_converts_50 : decode cX8_converts 50 = .ok (.l2i, 1) := by decide +kernel
theorem dX8_converts_51 : decode cX8_converts 51 = .ok (.istore 4, 2) := by decide +kernel
theorem dX8_converts_53 : decode cX8_converts 53 = .ok (.aload_n 0, 1) := by decide +kernel
theorem dX8_converts_54 : decode cX8_converts 54 = .ok (.iload_n 1, 1) := by decide +kernel
theorem dX8_converts_55 : decode cX8_converts 55 = .ok (.iload_n 2, 1) := by decide +kernel
theorem dX8_converts_56 : decode cX8_converts 56 = .ok (.aload_n 0, 1) := by decide +kernel
theorem dX8_converts_57 : decode cX8_converts 57 = .ok (.iload_n 1, 1) := by decide +kernel
theorem dX8_converts_58 : decode cX8_converts 58 = .ok (.iload_n 2, 1) := by decide +kernel
theorem dX8_converts_59 : decode cX8_converts 59 = .ok (.invokevirtual 80, 3) := by decide +kernel
theorem dX8_converts_62 : decode cX8_converts 62 = .ok (.iload_n 3, 1) := by decide +kernel
theorem dX8_converts_63 : decode cX8_converts 63 = .ok (.isub, 1) := by decide +kernel
theorem dX8_converts_64 : decode cX8_converts 64 = .ok (.invokevirtual 136, 3) := by decide +kernel
theorem dX8_converts_67 : decode cX8_converts 67 = .ok (.aload_n 0, 1) := by decide +kernel
theorem dX8_converts_68 : decode cX8_converts 68 = .ok (.iload_n 1, 1) := by decide +kernel
theorem dX8_converts_69 : decode cX8_converts 69 = .ok (.iconst 0, 1) := by decide +kernel
theorem dX8_converts_70 : decode cX8_converts 70 = .ok (.aload_n 0, 1) := by decide +kernel
theorem dX8_converts_71 : decode cX8_converts 71 = .ok (.iload_n 1, 1) := by decide +kernel
theorem dX8_converts_72 : decode cX8_converts 72 = .ok (.iconst 0, 1) := by decide +kernel
theorem dX8_converts_73 : decode cX8_converts 73 = .ok (.invokevirtual 80, 3) := by decide +kernel
theorem dX8_converts_76 : decode cX8_converts 76 = .ok (.iload 4, 2) := by decide +kernel
theorem dX8_converts_78 : decode cX8_converts 78 = .ok (.iadd, 1) := by decide +kernel
theorem dX8_converts_79 : decode cX8_converts 79 = .ok (.invokevirtual 136, 3) := by decide +kernel
theorem dX8_converts_82 : decode cX8_converts 82 = .ok (.iload 4, 2) := by decide +kernel
theorem dX8_converts_84 : decode cX8_converts 84 = .ok (.ireturn, 1) := by decide +kernel
theorem dX8_termAt_0 : decode cX8_termAt 0 = .ok (.iload_n 2, 1) := by decide +kernel
theorem dX8_termAt_1 : decode cX8_termAt 1 = .ok (.ifCond .ne 8, 3) := by decide +kernel
theorem dX8_termAt_4 : decode cX8_termAt 4 = .ok (.bipush 70, 2) := by decide +kernel
theorem dX8_termAt_6 : decode cX8_termAt 6 = .ok (.goto 25, 3) := by decide +kernel
theorem dX8_termAt_9 : decode cX8_termAt 9 = .ok (.iload_n 2, 1) := by decide +kernel
theorem dX8_termAt_10 : decode cX8_termAt 10 = .ok (.iconst 1, 1) := by decide +kernel
theorem dX8_termAt_11 : decode cX8_termAt 11 = .ok (.if_icmp .ne 8, 3) := by decide +kernel
theorem dX8_termAt_14 : decode cX8_termAt 14 = .ok (.bipush 76, 2) := by decide +kernel
theorem dX8_termAt_16 : decode cX8_termAt 16 = .ok (.goto 15, 3) := by decide +kernel
theorem dX8_termAt_19 : decode cX8_termAt 19 = .ok (.iload_n 2, 1) := by decide +kernel
theorem dX8_termAt_20 : decode cX8_termAt 20 = .ok (.iconst 2, 1) := by decide +kernel
theorem dX8_termAt_21 : decode cX8_termAt 21 = .ok (.if_icmp .ne 8, 3) := by decide +kernel
theorem dX8_termAt_24 : decode cX8_termAt 24 = .ok (.bipush 82, 2) := by decide +kernel
theorem dX8_termAt_26 : decode cX8_termAt 26 = .ok (.goto 5, 3) := by decide +kernel
theorem dX8_termAt_29 : decode cX8_termAt 29 = .ok (.bipush 88, 2) := by decide +kernel
theorem dX8_termAt_31 : decode cX8_termAt 31 = .ok (.iload_n 1, 1) := by decide +kernel
theorem dX8_termAt_32 : decode cX8_termAt 32 = .ok (.iadd, 1) := by decide +kernel
theorem dX8_termAt_33 : decode cX8_termAt 33 = .ok (.ireturn, 1) := by decide +kernel
theorem dX8_term_0 : decode cX8_term 0 = .ok (.aload_n 0, 1) := by decide +kernel
theorem dX8_term_1 : decode cX8_term 1 = .ok (.iconst 0, 1) := by decide +kernel
theorem dX8_term_2 : decode cX8_term 2 = .ok (.putfield 48, 3) := by decide +kernel
theorem dX8_term_5 : decode cX8_term 5 = .ok (.aload_n 0, 1) := by decide +kernel
theorem dX8_term_6 : decode cX8_term 6 = .ok (.iload_n 1, 1) := by decide +kernel
theorem dX8_term_7 : decode cX8_term 7 = .ok (.invokevirtual 162, 3) := by decide +kernel
theorem dX8_term_10 : decode cX8_term 10 = .ok (.ifCond .eq 46, 3) := by decide +kernel
theorem dX8_term_13 : decode cX8_term 13 = .ok (.iload_n 2, 1) := by decide +kernel
theorem dX8_term_14 : decode cX8_term 14 = .ok (.i2l, 1) := by decide +kernel
theorem dX8_term_15 : decode cX8_term 15 = .ok (.lconst 0, 1) := by decide +kernel
theorem dX8_term_16 : decode cX8_term 16 = .ok (.ldc2_w 165, 3) := by decide +kernel
theorem dX8_term_19 : decode cX8_term 19 = .ok (.invokestatic 58, 3) := by decide +kernel
theorem dX8_term_22 : decode cX8_term 22 = .ok (.ifCond .eq 34, 3) := by decide +kernel
theorem dX8_term_25 : decode cX8_term 25 = .ok (.iload_n 3, 1) := by decide +kernel
theorem dX8_term_26 : decode cX8_term 26 = .ok (.i2l, 1) := by decide +kernel
theorem dX8_term_27 : decode cX8_term 27 = .ok (.lconst 0, 1) := by decide +kernel
theorem dX8_term_28 : decode cX8_term 28 = .ok (.iload_n 2, 1) := by decide +kernel
theorem dX8_term_29 : decode cX8_term 29 = .ok (.ifCond .ne 9, 3) := by decide +kernel
theorem dX8_term_32 : decode cX8_term 32 = .ok (.ldc2_w 165, 3) := by decide +kernel
theorem dX8_term_35 : decode cX8_term 35 = .ok (.goto 15, 3) := by decide +kernel
theorem dX8_term_38 : decode cX8_term 38 = .ok (.iload_n 2, 1) := by decide +kernel
theorem dX8_term_39 : decode cX8_term 39 = .ok (.iconst 1, 1) := by decide +kernel
theorem dX8_term_40 : decode cX8_term 40 = .ok (.if_icmp .ne 9, 3) := by decide +kernel
theorem dX8_term_43 : decode cX8_term 43 = .ok (.ldc2_w 167, 3) := by decide +kernel
theorem dX8_term_46 : decode cX8_term 46 = .ok (.goto 4, 3) := by decide +kernel
theorem dX8_term_49 : decode cX8_term 49 = .ok (.lconst 1, 1) := by decide +kernel
theorem dX8_term_50 : decode cX8_term 50 = .ok (.invokestatic 58, 3) := by decide +kernel
theorem dX8_term_53 : decode cX8_term 53 = .ok (.ifCond .ne 5, 3) := by decide +kernel
theorem dX8_term_56 : decode cX8_term 56 = .ok (.iconst (-1), 1) := by decide +kernel
theorem dX8_term_57 : decode cX8_term 57 = .ok (.ireturn, 1) := by decide +kernel
theorem dX8_term_58 : decode cX8_term 58 = .ok (.aload_n 0, 1) := by decide +kernel
theorem dX8_term_59 : decode cX8_term 59 = .ok (.invokevirtual 133, 3) := by decide +kernel
theorem dX8_term_62 : decode cX8_term 62 = .ok (.aload_n 0, 1) := by decide +kernel
theorem dX8_term_63 : decode cX8_term 63 = .ok (.getfield 7, 3) := by decide +kernel
theorem dX8_term_66 : decode cX8_term 66 = .ok (.aload_n 0, 1) := by decide +kernel
theorem dX8_term_67 : decode cX8_term 67 = .ok (.iload_n 1, 1) := by decide +kernel
theorem dX8_term_68 : decode cX8_term 68 = .ok (.iload_n 2, 1) := by decide +kernel
theorem dX8_term_69 : decode cX8_term 69 = .ok (.invokevirtual 169, 3) := by decide +kernel
theorem dX8_term_72 : decode cX8_term 72 = .ok (.iaload, 1) := by decide +kernel
theorem dX8_term_73 : decode cX8_term 73 = .ok (.istore 4, 2) := by decide +kernel
theorem dX8_term_75 : decode cX8_term 75 = .ok (.aload_n 0, 1) := by decide +kernel
theorem dX8_term_76 : decode cX8_term 76 = .ok (.getfield 7, 3) := by decide +kernel
theorem dX8_term_79 : decode cX8_term 79 = .ok (.aload_n 0, 1) := by decide +kernel
theorem dX8_term_80 : decode cX8_term 80 = .ok (.iload_n 1, 1) := by decide +kernel
theorem dX8_term_81 : decode cX8_term 81 = .ok (.iload_n 2, 1) := by decide +kernel
theorem dX8_term_82 : decode cX8_term 82 = .ok (.invokevirtual 169, 3) := by decide +kernel
theorem dX8_term_85 : decode cX8_term 85 = .ok (.iload_n 3, 1) := by decide +kernel
theorem dX8_term_86 : decode cX8_term 86 = .ok (.iastore, 1) := by decide +kernel
theorem dX8_term_87 : decode cX8_term 87 = .ok (.iload 4, 2) := by decide +kernel
theorem dX8_term_89 : decode cX8_term 89 = .ok (.ireturn, 1) := by decide +kernel
theorem dX8_passes_0 : decode cX8_passes 0 = .ok (.aload_n 0, 1) := by decide +kernel
theorem dX8_passes_1 : decode cX8_passes 1 = .ok (.getfield 105, 3) := by decide +kernel
theorem dX8_passes_4 : decode cX8_passes 4 = .ok (.iconst (-1), 1) := by decide +kernel
theorem dX8_passes_5 : decode cX8_passes 5 = .ok (.if_icmp .ne 12, 3) := by decide +kernel
theorem dX8_passes_8 : decode cX8_passes 8 = .ok (.aload_n 0, 1) := by decide +kernel
theorem dX8_passes_9 : decode cX8_passes 9 = .ok (.invokevirtual 108, 3) := by decide +kernel
theorem dX8_passes_12 : decode cX8_passes 12 = .ok (.bipush 32, 2) := by decide +kernel
theorem dX8_passes_14 : decode cX8_passes 14 = .ok (.if_icmp .eq 5, 3) := by decide +kernel
theorem dX8_passes_17 : decode cX8_passes 17 = .ok (.iconst 0, 1) := by decide +kernel
theorem dX8_passes_18 : decode cX8_passes 18 = .ok (.ireturn, 1) := by decide +kernel
theorem dX8_passes_19 : decode cX8_passes 19 = .ok (.iconst 0, 1) := by decide +kernel
theorem dX8_passes_20 : decode cX8_passes 20 = .ok (.istore_n 2, 1) := by decide +kernel
theorem dX8_passes_21 : decode cX8_passes 21 = .ok (.iload_n 2, 1) := by decide +kernel
theorem dX8_passes_22 : decode cX8_passes 22 = .ok (.aload_n 1, 1) := by decide +kernel
theorem dX8_passes_23 : decode cX8_passes 23 = .ok (.invokevirtual 172, 3) := by decide +kernel
theorem dX8_passes_26 : decode cX8_passes 26 = .ok (.if_icmp .ge 47, 3) := by decide +kernel
theorem dX8_passes_29 : decode cX8_passes 29 = .ok (.aload_n 0, 1) := by decide +kernel
theorem dX8_passes_30 : decode cX8_passes 30 = .ok (.getfield 102, 3) := by decide +kernel
theorem dX8_passes_33 : decode cX8_passes 33 = .ok (.iconst 1, 1) := by decide +kernel
theorem dX8_passes_34 : decode cX8_passes 34 = .ok (.iadd, 1) := by decide +kernel
theorem dX8_passes_35 : decode cX8_passes 35 = .ok (.iload_n 2, 1) := by decide +kernel
theorem dX8_passes_36 : decode cX8_passes 36 = .ok (.iadd, 1) := by decide +kernel
theorem dX8_passes_37 : decode cX8_passes 37 = .ok (.aload_n 0, 1) := by decide +kernel
theorem dX8_passes_38 : decode cX8_passes 38 = .ok (.getfield 99, 3) := by decide +kernel
theorem dX8_passes_41 : decode cX8_passes 41 = .ok (.if_icmp .ge 24, 3) := by decide +kernel
theorem dX8_passes_44 : decode cX8_passes 44 = .ok (.aload_n 0, 1) := by decide +kernel
theorem dX8_passes_45 : decode cX8_passes 45 = .ok (.getfield 19, 3) := by decide +kernel
theorem dX8_passes_48 : decode cX8_passes 48 = .ok (.aload_n 0, 1) := by decide +kernel
theorem dX8_passes_49 : decode cX8_passes 49 = .ok (.getfield 102, 3) := by decide +kernel
theorem dX8_passes_52 : decode cX8_passes 52 = .ok (.iconst 1, 1) := by decide +kernel
theorem dX8_passes_53 : decode cX8_passes 53 = .ok (.iadd, 1) := by decide +kernel
theorem dX8_passes_54 : decode cX8_passes 54 = .ok (.iload_n 2, 1) := by decide +kernel
theorem dX8_passes_55 : decode cX8_passes 55 = .ok (.iadd, 1) := by decide +kernel
theorem dX8_passes_56 : decode cX8_passes 56 = .ok (.baload, 1) := by decide +kernel
theorem dX8_passes_57 : decode cX8_passes 57 = .ok (.aload_n 1, 1) := by decide +kernel
theorem dX8_passes_58 : decode cX8_passes 58 = .ok (.iload_n 2, 1) := by decide +kernel
theorem dX8_passes_59 : decode cX8_passes 59 = .ok (.invokevirtual 177, 3) := by decide +kernel
theorem dX8_passes_62 : decode cX8_passes 62 = .ok (.if_icmp .eq 5, 3) := by decide +kernel
theorem dX8_passes_65 : decode cX8_passes 65 = .ok (.iconst 0, 1) := by decide +kernel
theorem dX8_passes_66 : decode cX8_passes 66 = .ok (.ireturn, 1) := by decide +kernel
theorem dX8_passes_67 : decode cX8_passes 67 = .ok (.iinc 2 1, 3) := by decide +kernel
theorem dX8_passes_70 : decode cX8_passes 70 = .ok (.goto (-49), 3) := by decide +kernel
theorem dX8_passes_73 : decode cX8_passes 73 = .ok (.aload_n 0, 1) := by decide +kernel
theorem dX8_passes_74 : decode cX8_passes 74 = .ok (.dup, 1) := by decide +kernel
theorem dX8_passes_75 : decode cX8_passes 75 = .ok (.getfield 102, 3) := by decide +kernel
theorem dX8_passes_78 : decode cX8_passes 78 = .ok (.iconst 1, 1) := by decide +kernel
theorem dX8_passes_79 : decode cX8_passes 79 = .ok (.aload_n 1, 1) := by decide +kernel
theorem dX8_passes_80 : decode cX8_passes 80 = .ok (.invokevirtual 172, 3) := by decide +kernel
theorem dX8_passes_83 : decode cX8_passes 83 = .ok (.iadd, 1) := by decide +kernel
theorem dX8_passes_84 : decode cX8_passes 84 = .ok (.iadd, 1) := by decide +kernel
theorem dX8_passes_85 : decode cX8_passes 85 = .ok (.putfield 102, 3) := by decide +kernel
theorem dX8_passes_88 : decode cX8_passes 88 = .ok (.iconst 1, 1) := by decide +kernel
theorem dX8_passes_89 : decode cX8_passes 89 = .ok (.ireturn, 1) := by decide +kernel
theorem dX8_wordAt_0 : decode cX8_wordAt 0 = .ok (.iload_n 0, 1) := by decide +kernel
theorem dX8_wordAt_1 : decode cX8_wordAt 1 = .ok (.tableswitch 64 0 6 #[43, 46, 49, 52, 55, 58, 61], 43) := by decide +kernel
theorem dX8_wordAt_44 : decode cX8_wordAt 44 = .ok (.ldc 181, 2) := by decide +kernel
theorem dX8_wordAt_46 : decode cX8_wordAt 46 = .ok (.areturn, 1) := by decide +kernel
theorem dX8_wordAt_47 : decode cX8_wordAt 47 = .ok (.ldc 183, 2) := by decide +kernel
theorem dX8_wordAt_49 : decode cX8_wordAt 49 = .ok (.areturn, 1) := by decide +kernel
theorem dX8_wordAt_50 : decode cX8_wordAt 50 = .ok (.ldc 185, 2) := by decide +kernel
theorem dX8_wordAt_52 : decode cX8_wordAt 52 = .ok (.areturn, 1) := by decide +kernel
theorem dX8_wordAt_53 : decode cX8_wordAt 53 = .ok (.ldc 187, 2) := by decide +kernel
theorem dX8_wordAt_55 : decode cX8_wordAt 55 = .ok (.areturn, 1) := by decide +kernel
theorem dX8_wordAt_56 : decode cX8_wordAt 56 = .ok (.ldc 189, 2) := by decide +kernel
theorem dX8_wordAt_58 : decode cX8_wordAt 58 = .ok (.areturn, 1) := by decide +kernel
theorem dX8_wordAt_59 : decode cX8_wordAt 59 = .ok (.ldc 191, 2) := by decide +kernel
theorem dX8_wordAt_61 : decode cX8_wordAt 61 = .ok (.areturn, 1) := by decide +kernel
theorem dX8_wordAt_62 : decode cX8_wordAt 62 = .ok (.ldc 193, 2) := by decide +kernel
theorem dX8_wordAt_64 : decode cX8_wordAt 64 = .ok (.areturn, 1) := by decide +kernel
theorem dX8_wordAt_65 : decode cX8_wordAt 65 = .ok (.ldc 195, 2) := by decide +kernel
theorem dX8_wordAt_67 : decode cX8_wordAt 67 = .ok (.areturn, 1) := by decide +kernel
theorem dX8_lastFit_0 : decode cX8_lastFit 0 = .ok (.aload_n 0, 1) := by decide +kernel
theorem dX8_lastFit_1 : decode cX8_lastFit 1 = .ok (.getfield 102, 3) := by decide +kernel
theorem dX8_lastFit_4 : decode cX8_lastFit 4 = .ok (.istore_n 2, 1) := by decide +kernel
theorem dX8_lastFit_5 : decode cX8_lastFit 5 = .ok (.aload_n 0, 1) := by decide +kernel
theorem dX8_lastFit_6 : decode cX8_lastFit 6 = .ok (.invokevirtual 108, 3) := by decide +kernel
theorem dX8_lastFit_9 : decode cX8_lastFit 9 = .ok (.bipush 32, 2) := by decide +kernel
theorem dX8_lastFit_11 : decode cX8_lastFit 11 = .ok (.if_icmp .ne 9, 3) := by decide +kernel
theorem dX8_lastFit_14 : decode cX8_lastFit 14 = .ok (.iload_n 1, 1) := by decide +kernel
theorem dX8_lastFit_15 : decode cX8_lastFit 15 = .ok (.bipush 8, 2) := by decide +kernel
theorem dX8_lastFit_17 : decode cX8_lastFit 17 = .ok (.if_icmp .ne 8, 3) := by decide +kernel
theorem dX8_lastFit_20 : decode cX8_lastFit 20 = .ok (.aload_n 0, 1) := by decide +kernel
theorem dX8_lastFit_21 : decode cX8_lastFit 21 = .ok (.getfield 102, 3) := by decide +kernel
theorem dX8_lastFit_24 : decode cX8_lastFit 24 = .ok (.ireturn, 1) := by decide +kernel
theorem dX8_lastFit_25 : decode cX8_lastFit 25 = .ok (.aload_n 0, 1) := by decide +kernel
theorem dX8_lastFit_26 : decode cX8_lastFit 26 = .ok (.getfield 102, 3) := by decide +kernel
theorem dX8_lastFit_29 : decode cX8_lastFit 29 = .ok (.iconst 1, 1) := by decide +kernel
theorem dX8_lastFit_30 : decode cX8_lastFit 30 = .ok (.iadd, 1) := by decide +kernel
theorem dX8_lastFit_31 : decode cX8_lastFit 31 = .ok (.istore_n 2, 1) := by decide +kernel
theorem dX8_lastFit_32 : decode cX8_lastFit 32 = .ok (.iload_n 1, 1) := by decide +kernel
theorem dX8_lastFit_33 : decode cX8_lastFit 33 = .ok (.istore_n 3, 1) := by decide +kernel
theorem dX8_lastFit_34 : decode cX8_lastFit 34 = .ok (.iload_n 3, 1) := by decide +kernel
theorem dX8_lastFit_35 : decode cX8_lastFit 35 = .ok (.bipush 8, 2) := by decide +kernel
theorem dX8_lastFit_37 : decode cX8_lastFit 37 = .ok (.if_icmp .ge 86, 3) := by decide +kernel
theorem dX8_lastFit_40 : decode cX8_lastFit 40 = .ok (.iconst 0, 1) := by decide +kernel
theorem dX8_lastFit_41 : decode cX8_lastFit 41 = .ok (.istore 4, 2) := by decide +kernel
theorem dX8_lastFit_43 : decode cX8_lastFit 43 = .ok (.iload 4, 2) := by decide +kernel
theorem dX8_lastFit_45 : decode cX8_lastFit 45 = .ok (.iload_n 3, 1) := by decide +kernel
theorem dX8_lastFit_46 : decode cX8_lastFit 46 = .ok (.invokestatic 197, 3) := by decide +kernel
theorem dX8_lastFit_49 : decode cX8_lastFit 49 = .ok (.invokevirtual 172, 3) := by decide +kernel
theorem dX8_lastFit_52 : decode cX8_lastFit 52 = .ok (.if_icmp .ge 51, 3) := by decide +kernel
theorem dX8_lastFit_55 : decode cX8_lastFit 55 = .ok (.aload_n 0, 1) := by decide +kernel
theorem dX8_lastFit_56 : decode cX8_lastFit 56 = .ok (.getfield 102, 3) := by decide +kernel
theorem dX8_lastFit_59 : decode cX8_lastFit 59 = .ok (.iconst 1, 1) := by decide +kernel
theorem dX8_lastFit_60 : decode cX8_lastFit 60 = .ok (.iadd, 1) := by decide +kernel
theorem dX8_lastFit_61 : decode cX8_lastFit 61 = .ok (.iload 4, 2) := by decide +kernel
theorem dX8_lastFit_63 : decode cX8_lastFit 63 = .ok (.iadd, 1) := by decide +kernel
theorem dX8_lastFit_64 : decode cX8_lastFit 64 = .ok (.aload_n 0, 1) := by decide +kernel
theorem dX8_lastFit_65 : decode cX8_lastFit 65 = .ok (.getfield 99, 3) := by decide +kernel
theorem dX8_lastFit_68 : decode cX8_lastFit 68 = .ok (.if_icmp .ge 35, 3) := by decide +kernel
theorem dX8_lastFit_71 : decode cX8_lastFit 71 = .ok (.aload_n 0, 1) := by decide +kernel
theorem dX8_lastFit_72 : decode cX8_lastFit 72 = .ok (.getfield 19, 3) := by decide +kernel
theorem dX8_lastFit_75 : decode cX8_lastFit 75 = .ok (.aload_n 0, 1) := by decide +kernel
theorem dX8_lastFit_76 : decode cX8_lastFit 76 = .ok (.getfield 102, 3) := by decide +kernel
theorem dX8_lastFit_79 : decode cX8_lastFit 79 = .ok (.iconst 1, 1) := by decide +kernel
theorem dX8_lastFit_80 : decode cX8_lastFit 80 = .ok (.iadd, 1) := by decide +kernel
theorem dX8_lastFit_81 : decode cX8_lastFit 81 = .ok (.iload 4, 2) := by decide +kernel
theorem dX8_lastFit_83 : decode cX8_lastFit 83 = .ok (.iadd, 1) := by decide +kernel
theorem dX8_lastFit_84 : decode cX8_lastFit 84 = .ok (.baload, 1) := by decide +kernel
theorem dX8_lastFit_85 : decode cX8_lastFit 85 = .ok (.iload_n 3, 1) := by decide +kernel
theorem dX8_lastFit_86 : decode cX8_lastFit 86 = .ok (.invokestatic 197, 3) := by decide +kernel
theorem dX8_lastFit_89 : decode cX8_lastFit 89 = .ok (.iload 4, 2) := by decide +kernel
theorem dX8_lastFit_91 : decode cX8_lastFit 91 = .ok (.invokevirtual 177, 3) := by decide +kernel
theorem dX8_lastFit_94 : decode cX8_lastFit 94 = .ok (.if_icmp .ne 9, 3) := by decide +kernel
theorem dX8_lastFit_97 : decode cX8_lastFit 97 = .ok (.iinc 4 1, 3) := by decide +kernel
theorem dX8_lastFit_100 : decode cX8_lastFit 100 = .ok (.goto (-57), 3) := by decide +kernel
theorem dX8_lastFit_103 : decode cX8_lastFit 103 = .ok (.iload_n 2, 1) := by decide +kernel
theorem dX8_lastFit_104 : decode cX8_lastFit 104 = .ok (.aload_n 0, 1) := by decide +kernel
theorem dX8_lastFit_105 : decode cX8_lastFit 105 = .ok (.getfield 102, 3) := by decide +kernel
theorem dX8_lastFit_108 : decode cX8_lastFit 108 = .ok (.iconst 1, 1) := by decide +kernel
theorem dX8_lastFit_109 : decode cX8_lastFit 109 = .ok (.iadd, 1) := by decide +kernel
theorem dX8_lastFit_110 : decode cX8_lastFit 110 = .ok (.iload 4, 2) := by decide +kernel
theorem dX8_lastFit_112 : decode cX8_lastFit 112 = .ok (.iadd, 1) := by decide +kernel
theorem dX8_lastFit_113 : decode cX8_lastFit 113 = .ok (.invokestatic 157, 3) := by decide +kernel
theorem dX8_lastFit_116 : decode cX8_lastFit 116 = .ok (.istore_n 2, 1) := by decide +kernel
theorem dX8_lastFit_117 : decode cX8_lastFit 117 = .ok (.iinc 3 1, 3) := by decide +kernel
theorem dX8_lastFit_120 : decode cX8_lastFit 120 = .ok (.goto (-86), 3) := by decide +kernel
theorem dX8_lastFit_123 : decode cX8_lastFit 123 = .ok (.iload_n 2, 1) := by decide +kernel
theorem dX8_lastFit_124 : decode cX8_lastFit 124 = .ok (.ireturn, 1) := by decide +kernel
theorem dX8_readsTerms_0 : decode cX8_readsTerms 0 = .ok (.iconst 0, 1) := by decide +kernel
theorem dX8_readsTerms_1 : decode cX8_readsTerms 1 = .ok (.istore_n 1, 1) := by decide +kernel
theorem dX8_readsTerms_2 : decode cX8_readsTerms 2 = .ok (.iload_n 1, 1) := by decide +kernel
theorem dX8_readsTerms_3 : decode cX8_readsTerms 3 = .ok (.iconst 3, 1) := by decide +kernel
theorem dX8_readsTerms_4 : decode cX8_readsTerms 4 = .ok (.if_icmp .ge 52, 3) := by decide +kernel
theorem dX8_readsTerms_7 : decode cX8_readsTerms 7 = .ok (.aload_n 0, 1) := by decide +kernel
theorem dX8_readsTerms_8 : decode cX8_readsTerms 8 = .ok (.invokevirtual 108, 3) := by decide +kernel
theorem dX8_readsTerms_11 : decode cX8_readsTerms 11 = .ok (.ldc 201, 2) := by decide +kernel
theorem dX8_readsTerms_13 : decode cX8_readsTerms 13 = .ok (.iload_n 1, 1) := by decide +kernel
theorem dX8_readsTerms_14 : decode cX8_readsTerms 14 = .ok (.invokevirtual 177, 3) := by decide +kernel
theorem dX8_readsTerms_17 : decode cX8_readsTerms 17 = .ok (.if_icmp .ne 16, 3) := by decide +kernel
theorem dX8_readsTerms_20 : decode cX8_readsTerms 20 = .ok (.aload_n 0, 1) := by decide +kernel
theorem dX8_readsTerms_21 : decode cX8_readsTerms 21 = .ok (.dup, 1) := by decide +kernel
theorem dX8_readsTerms_22 : decode cX8_readsTerms 22 = .ok (.getfield 102, 3) := by decide +kernel
theorem dX8_readsTerms_25 : decode cX8_readsTerms 25 = .ok (.iconst 1, 1) := by decide +kernel
theorem dX8_readsTerms_26 : decode cX8_readsTerms 26 = .ok (.iadd, 1) := by decide +kernel
theorem dX8_readsTerms_27 : decode cX8_readsTerms 27 = .ok (.putfield 102, 3) := by decide +kernel
theorem dX8_readsTerms_30 : decode cX8_readsTerms 30 = .ok (.goto 11, 3) := by decide +kernel
theorem dX8_readsTerms_33 : decode cX8_readsTerms 33 = .ok (.aload_n 0, 1) := by decide +kernel
theorem dX8_readsTerms_34 : decode cX8_readsTerms 34 = .ok (.aload_n 0, 1) := by decide +kernel
theorem dX8_readsTerms_35 : decode cX8_readsTerms 35 = .ok (.getfield 102, 3) := by decide +kernel
theorem dX8_readsTerms_38 : decode cX8_readsTerms 38 = .ok (.invokevirtual 112, 3) := by decide +kernel
theorem dX8_readsTerms_41 : decode cX8_readsTerms 41 = .ok (.aload_n 0, 1) := by decide +kernel
theorem dX8_readsTerms_42 : decode cX8_readsTerms 42 = .ok (.getfield 105, 3) := by decide +kernel
theorem dX8_readsTerms_45 : decode cX8_readsTerms 45 = .ok (.iconst (-1), 1) := by decide +kernel
theorem dX8_readsTerms_46 : decode cX8_readsTerms 46 = .ok (.if_icmp .eq 4, 3) := by decide +kernel
theorem dX8_readsTerms_49 : decode cX8_readsTerms 49 = .ok (.return_, 1) := by decide +kernel
theorem dX8_readsTerms_50 : decode cX8_readsTerms 50 = .ok (.iinc 1 1, 3) := by decide +kernel
theorem dX8_readsTerms_53 : decode cX8_readsTerms 53 = .ok (.goto (-51), 3) := by decide +kernel
theorem dX8_readsTerms_56 : decode cX8_readsTerms 56 = .ok (.aload_n 0, 1) := by decide +kernel
theorem dX8_readsTerms_57 : decode cX8_readsTerms 57 = .ok (.bipush 32, 2) := by decide +kernel
theorem dX8_readsTerms_59 : decode cX8_readsTerms 59 = .ok (.invokevirtual 203, 3) := by decide +kernel
theorem dX8_readsTerms_62 : decode cX8_readsTerms 62 = .ok (.aload_n 0, 1) := by decide +kernel
theorem dX8_readsTerms_63 : decode cX8_readsTerms 63 = .ok (.aload_n 0, 1) := by decide +kernel
theorem dX8_readsTerms_64 : decode cX8_readsTerms 64 = .ok (.iconst 1, 1) := by decide +kernel
theorem dX8_readsTerms_65 : decode cX8_readsTerms 65 = .ok (.ldc2_w 131, 3) := by decide +kernel
theorem dX8_readsTerms_68 : decode cX8_readsTerms 68 = .ok (.invokevirtual 127, 3) := by decide +kernel
theorem dX8_readsTerms_71 : decode cX8_readsTerms 71 = .ok (.putfield 207, 3) := by decide +kernel
theorem dX8_readsTerms_74 : decode cX8_readsTerms 74 = .ok (.aload_n 0, 1) := by decide +kernel
theorem dX8_readsTerms_75 : decode cX8_readsTerms 75 = .ok (.iconst 0, 1) := by decide +kernel
theorem dX8_readsTerms_76 : decode cX8_readsTerms 76 = .ok (.putfield 210, 3) := by decide +kernel
theorem dX8_readsTerms_79 : decode cX8_readsTerms 79 = .ok (.aload_n 0, 1) := by decide +kernel
theorem dX8_readsTerms_80 : decode cX8_readsTerms 80 = .ok (.iconst 0, 1) := by decide +kernel
theorem dX8_readsTerms_81 : decode cX8_readsTerms 81 = .ok (.putfield 213, 3) := by decide +kernel
theorem dX8_readsTerms_84 : decode cX8_readsTerms 84 = .ok (.aload_n 0, 1) := by decide +kernel
theorem dX8_readsTerms_85 : decode cX8_readsTerms 85 = .ok (.iconst 0, 1) := by decide +kernel
theorem dX8_readsTerms_86 : decode cX8_readsTerms 86 = .ok (.putfield 217, 3) := by decide +kernel
theorem dX8_readsTerms_89 : decode cX8_readsTerms 89 = .ok (.aload_n 0, 1) := by decide +kernel
theorem dX8_readsTerms_90 : decode cX8_readsTerms 90 = .ok (.bipush 10, 2) := by decide +kernel
theorem dX8_readsTerms_92 : decode cX8_readsTerms 92 = .ok (.putfield 220, 3) := by decide +kernel
theorem dX8_readsTerms_95 : decode cX8_readsTerms 95 = .ok (.aload_n 0, 1) := by decide +kernel
theorem dX8_readsTerms_96 : decode cX8_readsTerms 96 = .ok (.iconst 0, 1) := by decide +kernel
theorem dX8_readsTerms_97 : decode cX8_readsTerms 97 = .ok (.putfield 222, 3) := by decide +kernel
theorem dX8_readsTerms_100 : decode cX8_readsTerms 100 = .ok (.aload_n 0, 1) := by decide +kernel
theorem dX8_readsTerms_101 : decode cX8_readsTerms 101 = .ok (.iconst 0, 1) := by decide +kernel
theorem dX8_readsTerms_102 : decode cX8_readsTerms 102 = .ok (.putfield 224, 3) := by decide +kernel
theorem dX8_readsTerms_105 : decode cX8_readsTerms 105 = .ok (.iconst 0, 1) := by decide +kernel
theorem dX8_readsTerms_106 : decode cX8_readsTerms 106 = .ok (.istore_n 1, 1) := by decide +kernel
theorem dX8_readsTerms_107 : decode cX8_readsTerms 107 = .ok (.aload_n 0, 1) := by decide +kernel
theorem dX8_readsTerms_108 : decode cX8_readsTerms 108 = .ok (.ldc 181, 2) := by decide +kernel
theorem dX8_readsTerms_110 : decode cX8_readsTerms 110 = .ok (.invokevirtual 226, 3) := by decide +kernel
theorem dX8_readsTerms_113 : decode cX8_readsTerms 113 = .ok (.ifCond .eq 23, 3) := by decide +kernel
theorem dX8_readsTerms_116 : decode cX8_readsTerms 116 = .ok (.aload_n 0, 1) := by decide +kernel
theorem dX8_readsTerms_117 : decode cX8_readsTerms 117 = .ok (.bipush 32, 2) := by decide +kernel
theorem dX8_readsTerms_119 : decode cX8_readsTerms 119 = .ok (.invokevirtual 203, 3) := by decide +kernel
theorem dX8_readsTerms_122 : decode cX8_readsTerms 122 = .ok (.aload_n 0, 1) := by decide +kernel
theorem dX8_readsTerms_123 : decode cX8_readsTerms 123 = .ok (.aload_n 0, 1) := by decide +kernel
theorem dX8_readsTerms_124 : decode cX8_readsTerms 124 = .ok (.iconst 0, 1) := by decide +kernel
theorem dX8_readsTerms_125 : decode cX8_readsTerms 125 = .ok (.ldc2_w 230, 3) := by decide +kernel
theorem dX8_readsTerms_128 : decode cX8_readsTerms 128 = .ok (.invokevirtual 127, 3) := by decide +kernel
theorem dX8_readsTerms_131 : decode cX8_readsTerms 131 = .ok (.putfield 210, 3) := by decide +kernel
theorem dX8_readsTerms_134 : decode cX8_readsTerms 134 = .ok (.iconst 1, 1) := by decide +kernel
theorem dX8_readsTerms_135 : decode cX8_readsTerms 135 = .ok (.istore_n 1, 1) := by decide +kernel
theorem dX8_readsTerms_136 : decode cX8_readsTerms 136 = .ok (.aload_n 0, 1) := by decide +kernel
theorem dX8_readsTerms_137 : decode cX8_readsTerms 137 = .ok (.ldc 183, 2) := by decide +kernel
theorem dX8_readsTerms_139 : decode cX8_readsTerms 139 = .ok (.invokevirtual 226, 3) := by decide +kernel
theorem dX8_readsTerms_142 : decode cX8_readsTerms 142 = .ok (.ifCond .eq 10, 3) := by decide +kernel
theorem dX8_readsTerms_145 : decode cX8_readsTerms 145 = .ok (.aload_n 0, 1) := by decide +kernel
theorem dX8_readsTerms_146 : decode cX8_readsTerms 146 = .ok (.iconst 1, 1) := by decide +kernel
theorem dX8_readsTerms_147 : decode cX8_readsTerms 147 = .ok (.putfield 213, 3) := by decide +kernel
theorem dX8_readsTerms_150 : decode cX8_readsTerms 150 = .ok (.iconst 2, 1) := by decide +kernel
theorem dX8_readsTerms_151 : decode cX8_readsTerms 151 = .ok (.istore_n 1, 1) := by decide +kernel
theorem dX8_readsTerms_152 : decode cX8_readsTerms 152 = .ok (.iconst 0, 1) := by decide +kernel
theorem dX8_readsTerms_153 : decode cX8_readsTerms 153 = .ok (.istore_n 2, 1) := by decide +kernel
theorem dX8_readsTerms_154 : decode cX8_readsTerms 154 = .ok (.iload_n 2, 1) := by decide +kernel
theorem dX8_readsTerms_155 : decode cX8_readsTerms 155 = .ok (.iconst 3, 1) := by decide +kernel
theorem dX8_readsTerms_156 : decode cX8_readsTerms 156 = .ok (.if_icmp .ge 36, 3) := by decide +kernel
theorem dX8_readsTerms_159 : decode cX8_readsTerms 159 = .ok (.aload_n 0, 1) := by decide +kernel
theorem dX8_readsTerms_160 : decode cX8_readsTerms 160 = .ok (.getfield 217, 3) := by decide +kernel
theorem dX8_readsTerms_163 : decode cX8_readsTerms 163 = .ok (.ifCond .ne 29, 3) := by decide +kernel
theorem dX8_readsTerms_166 : decode cX8_readsTerms 166 = .ok (.aload_n 0, 1) := by decide +kernel
theorem dX8_readsTerms_167 : decode cX8_readsTerms 167 = .ok (.iconst 2, 1) := by decide +kernel
theorem dX8_readsTerms_168 : decode cX8_readsTerms 168 = .ok (.iload_n 2, 1) := by decide +kernel
theorem dX8_readsTerms_169 : decode cX8_readsTerms 169 = .ok (.iadd, 1) := by decide +kernel
theorem dX8_readsTerms_170 : decode cX8_readsTerms 170 = .ok (.invokestatic 197, 3) := by decide +kernel
theorem dX8_readsTerms_173 : decode cX8_readsTerms 173 = .ok (.invokevirtual 226, 3) := by decide +kernel
theorem dX8_readsTerms_176 : decode cX8_readsTerms 176 = .ok (.ifCond .eq 10, 3) := by decide +kernel
theorem dX8_readsTerms_179 : decode cX8_readsTerms 179 = .ok (.aload_n 0, 1) := by decide +kernel
theorem dX8_readsTerms_180 : decode cX8_readsTerms 180 = .ok (.iload_n 2, 1) := by decide +kernel
theorem dX8_readsTerms_181 : decode cX8_readsTerms 181 = .ok (.iconst 1, 1) := by decide +kernel
theorem dX8_readsTerms_182 : decode cX8_readsTerms 182 = .ok (.iadd, 1) := by decide +kernel
theorem dX8_readsTerms_183 : decode cX8_readsTerms 183 = .ok (.putfield 217, 3) := by decide +kernel
theorem dX8_readsTerms_186 : decode cX8_readsTerms 186 = .ok (.iinc 2 1, 3) := by decide +kernel
theorem dX8_readsTerms_189 : decode cX8_readsTerms 189 = .ok (.goto (-35), 3) := by decide +kernel
theorem dX8_readsTerms_192 : decode cX8_readsTerms 192 = .ok (.aload_n 0, 1) := by decide +kernel
theorem dX8_readsTerms_193 : decode cX8_readsTerms 193 = .ok (.getfield 217, 3) := by decide +kernel
theorem dX8_readsTerms_196 : decode cX8_readsTerms 196 = .ok (.ifCond .le 5, 3) := by decide +kernel
theorem dX8_readsTerms_199 : decode cX8_readsTerms 199 = .ok (.iconst 5, 1) := by decide +kernel
theorem dX8_readsTerms_200 : decode cX8_readsTerms 200 = .ok (.istore_n 1, 1) := by decide +kernel
theorem dX8_readsTerms_201 : decode cX8_readsTerms 201 = .ok (.aload_n 0, 1) := by decide +kernel
theorem dX8_readsTerms_202 : decode cX8_readsTerms 202 = .ok (.ldc 191, 2) := by decide +kernel
theorem dX8_readsTerms_204 : decode cX8_readsTerms 204 = .ok (.invokevirtual 226, 3) := by decide +kernel
theorem dX8_readsTerms_207 : decode cX8_readsTerms 207 = .ok (.ifCond .eq 24, 3) := by decide +kernel
theorem dX8_readsTerms_210 : decode cX8_readsTerms 210 = .ok (.aload_n 0, 1) := by decide +kernel
theorem dX8_readsTerms_211 : decode cX8_readsTerms 211 = .ok (.bipush 32, 2) := by decide +kernel
theorem dX8_readsTerms_213 : decode cX8_readsTerms 213 = .ok (.invokevirtual 203, 3) := by decide +kernel
theorem dX8_readsTerms_216 : decode cX8_readsTerms 216 = .ok (.aload_n 0, 1) := by decide +kernel
theorem dX8_readsTerms_217 : decode cX8_readsTerms 217 = .ok (.aload_n 0, 1) := by decide +kernel
theorem dX8_readsTerms_218 : decode cX8_readsTerms 218 = .ok (.iconst 0, 1) := by decide +kernel
theorem dX8_readsTerms_219 : decode cX8_readsTerms 219 = .ok (.ldc2_w 167, 3) := by decide +kernel
theorem dX8_readsTerms_222 : decode cX8_readsTerms 222 = .ok (.invokevirtual 127, 3) := by decide +kernel
theorem dX8_readsTerms_225 : decode cX8_readsTerms 225 = .ok (.putfield 220, 3) := by decide +kernel
theorem dX8_readsTerms_228 : decode cX8_readsTerms 228 = .ok (.bipush 6, 2) := by decide +kernel
theorem dX8_readsTerms_230 : decode cX8_readsTerms 230 = .ok (.istore_n 1, 1) := by decide +kernel
theorem dX8_readsTerms_231 : decode cX8_readsTerms 231 = .ok (.aload_n 0, 1) := by decide +kernel
theorem dX8_readsTerms_232 : decode cX8_readsTerms 232 = .ok (.ldc 193, 2) := by decide +kernel
theorem dX8_readsTerms_234 : decode cX8_readsTerms 234 = .ok (.invokevirtual 226, 3) := by decide +kernel
theorem dX8_readsTerms_237 : decode cX8_readsTerms 237 = .ok (.ifCond .eq 11, 3) := by decide +kernel
theorem dX8_readsTerms_240 : decode cX8_readsTerms 240 = .ok (.aload_n 0, 1) := by decide +kernel
theorem dX8_readsTerms_241 : decode cX8_readsTerms 241 = .ok (.iconst 1, 1) := by decide +kernel
theorem dX8_readsTerms_242 : decode cX8_readsTerms 242 = .ok (.putfield 222, 3) := by decide +kernel
theorem dX8_readsTerms_245 : decode cX8_readsTerms 245 = .ok (.bipush 7, 2) := by decide +kernel
theorem dX8_readsTerms_247 : decode cX8_readsTerms 247 = .ok (.istore_n 1, 1) := by decide +kernel
theorem dX8_readsTerms_248 : decode cX8_readsTerms 248 = .ok (.aload_n 0, 1) := by decide +kernel
theorem dX8_readsTerms_249 : decode cX8_readsTerms 249 = .ok (.ldc 195, 2) := by decide +kernel
theorem dX8_readsTerms_251 : decode cX8_readsTerms 251 = .ok (.invokevirtual 226, 3) := by decide +kernel
theorem dX8_readsTerms_254 : decode cX8_readsTerms 254 = .ok (.ifCond .eq 11, 3) := by decide +kernel
theorem dX8_readsTerms_257 : decode cX8_readsTerms 257 = .ok (.aload_n 0, 1) := by decide +kernel
theorem dX8_readsTerms_258 : decode cX8_readsTerms 258 = .ok (.iconst 1, 1) := by decide +kernel
theorem dX8_readsTerms_259 : decode cX8_readsTerms 259 = .ok (.putfield 224, 3) := by decide +kernel
theorem dX8_readsTerms_262 : decode cX8_readsTerms 262 = .ok (.bipush 8, 2) := by decide +kernel
theorem dX8_readsTerms_264 : decode cX8_readsTerms 264 = .ok (.istore_n 1, 1) := by decide +kernel
theorem dX8_readsTerms_265 : decode cX8_readsTerms 265 = .ok (.aload_n 0, 1) := by decide +kernel
theorem dX8_readsTerms_266 : decode cX8_readsTerms 266 = .ok (.getfield 105, 3) := by decide +kernel
theorem dX8_readsTerms_269 : decode cX8_readsTerms 269 = .ok (.iconst (-1), 1) := by decide +kernel
theorem dX8_readsTerms_270 : decode cX8_readsTerms 270 = .ok (.if_icmp .ne 21, 3) := by decide +kernel
theorem dX8_readsTerms_273 : decode cX8_readsTerms 273 = .ok (.aload_n 0, 1) := by decide +kernel
theorem dX8_readsTerms_274 : decode cX8_readsTerms 274 = .ok (.invokevirtual 108, 3) := by decide +kernel
theorem dX8_readsTerms_277 : decode cX8_readsTerms 277 = .ok (.bipush 58, 2) := by decide +kernel
theorem dX8_readsTerms_279 : decode cX8_readsTerms 279 = .ok (.if_icmp .eq 12, 3) := by decide +kernel
theorem dX8_readsTerms_282 : decode cX8_readsTerms 282 = .ok (.aload_n 0, 1) := by decide +kernel
theorem dX8_readsTerms_283 : decode cX8_readsTerms 283 = .ok (.aload_n 0, 1) := by decide +kernel
theorem dX8_readsTerms_284 : decode cX8_readsTerms 284 = .ok (.iload_n 1, 1) := by decide +kernel
theorem dX8_readsTerms_285 : decode cX8_readsTerms 285 = .ok (.invokevirtual 232, 3) := by decide +kernel
theorem dX8_readsTerms_288 : decode cX8_readsTerms 288 = .ok (.invokevirtual 112, 3) := by decide +kernel
theorem dX8_readsTerms_291 : decode cX8_readsTerms 291 = .ok (.aload_n 0, 1) := by decide +kernel
theorem dX8_readsTerms_292 : decode cX8_readsTerms 292 = .ok (.bipush 58, 2) := by decide +kernel
theorem dX8_readsTerms_294 : decode cX8_readsTerms 294 = .ok (.invokevirtual 203, 3) := by decide +kernel
theorem dX8_readsTerms_297 : decode cX8_readsTerms 297 = .ok (.return_, 1) := by decide +kernel
theorem dX8_readsRound_0 : decode cX8_readsRound 0 = .ok (.aload_n 0, 1) := by decide +kernel
theorem dX8_readsRound_1 : decode cX8_readsRound 1 = .ok (.invokevirtual 122, 3) := by decide +kernel
theorem dX8_readsRound_4 : decode cX8_readsRound 4 = .ok (.aload_n 0, 1) := by decide +kernel
theorem dX8_readsRound_5 : decode cX8_readsRound 5 = .ok (.invokevirtual 236, 3) := by decide +kernel
theorem dX8_readsRound_8 : decode cX8_readsRound 8 = .ok (.iconst 0, 1) := by decide +kernel
theorem dX8_readsRound_9 : decode cX8_readsRound 9 = .ok (.istore_n 1, 1) := by decide +kernel
theorem dX8_readsRound_10 : decode cX8_readsRound 10 = .ok (.iload_n 1, 1) := by decide +kernel
theorem dX8_readsRound_11 : decode cX8_readsRound 11 = .ok (.bipush 8, 2) := by decide +kernel
theorem dX8_readsRound_13 : decode cX8_readsRound 13 = .ok (.if_icmp .ge 16, 3) := by decide +kernel
theorem dX8_readsRound_16 : decode cX8_readsRound 16 = .ok (.aload_n 0, 1) := by decide +kernel
theorem dX8_readsRound_17 : decode cX8_readsRound 17 = .ok (.getfield 27, 3) := by decide +kernel
theorem dX8_readsRound_20 : decode cX8_readsRound 20 = .ok (.iload_n 1, 1) := by decide +kernel
theorem dX8_readsRound_21 : decode cX8_readsRound 21 = .ok (.iconst 0, 1) := by decide +kernel
theorem dX8_readsRound_22 : decode cX8_readsRound 22 = .ok (.iastore, 1) := by decide +kernel
theorem dX8_readsRound_23 : decode cX8_readsRound 23 = .ok (.iinc 1 1, 3) := by decide +kernel
theorem dX8_readsRound_26 : decode cX8_readsRound 26 = .ok (.goto (-16), 3) := by decide +kernel
theorem dX8_readsRound_29 : decode cX8_readsRound 29 = .ok (.aload_n 0, 1) := by decide +kernel
theorem dX8_readsRound_30 : decode cX8_readsRound 30 = .ok (.lconst 0, 1) := by decide +kernel
theorem dX8_readsRound_31 : decode cX8_readsRound 31 = .ok (.putfield 239, 3) := by decide +kernel
theorem dX8_readsRound_34 : decode cX8_readsRound 34 = .ok (.iconst (-1), 1) := by decide +kernel
theorem dX8_readsRound_35 : decode cX8_readsRound 35 = .ok (.istore_n 1, 1) := by decide +kernel
theorem dX8_readsRound_36 : decode cX8_readsRound 36 = .ok (.iconst 1, 1) := by decide +kernel
theorem dX8_readsRound_37 : decode cX8_readsRound 37 = .ok (.istore_n 2, 1) := by decide +kernel
theorem dX8_readsRound_38 : decode cX8_readsRound 38 = .ok (.iload_n 2, 1) := by decide +kernel
theorem dX8_readsRound_39 : decode cX8_readsRound 39 = .ok (.ifCond .eq 134, 3) := by decide +kernel
theorem dX8_readsRound_42 : decode cX8_readsRound 42 = .ok (.aload_n 0, 1) := by decide +kernel
theorem dX8_readsRound_43 : decode cX8_readsRound 43 = .ok (.getfield 105, 3) := by decide +kernel
theorem dX8_readsRound_46 : decode cX8_readsRound 46 = .ok (.iconst (-1), 1) := by decide +kernel
theorem dX8_readsRound_47 : decode cX8_readsRound 47 = .ok (.if_icmp .ne 126, 3) := by decide +kernel
theorem dX8_readsRound_50 : decode cX8_readsRound 50 = .ok (.aload_n 0, 1) := by decide +kernel
theorem dX8_readsRound_51 : decode cX8_readsRound 51 = .ok (.invokevirtual 108, 3) := by decide +kernel
theorem dX8_readsRound_54 : decode cX8_readsRound 54 = .ok (.bipush 48, 2) := by decide +kernel
theorem dX8_readsRound_56 : decode cX8_readsRound 56 = .ok (.isub, 1) := by decide +kernel
theorem dX8_readsRound_57 : decode cX8_readsRound 57 = .ok (.istore_n 3, 1) := by decide +kernel
theorem dX8_readsRound_58 : decode cX8_readsRound 58 = .ok (.aload_n 0, 1) := by decide +kernel
theorem dX8_readsRound_59 : decode cX8_readsRound 59 = .ok (.invokevirtual 108, 3) := by decide +kernel
theorem dX8_readsRound_62 : decode cX8_readsRound 62 = .ok (.iconst (-1), 1) := by decide +kernel
theorem dX8_readsRound_63 : decode cX8_readsRound 63 = .ok (.if_icmp .eq 15, 3) := by decide +kernel
theorem dX8_readsRound_66 : decode cX8_readsRound 66 = .ok (.iload_n 3, 1) := by decide +kernel
theorem dX8_readsRound_67 : decode cX8_readsRound 67 = .ok (.invokestatic 140, 3) := by decide +kernel
theorem dX8_readsRound_70 : decode cX8_readsRound 70 = .ok (.ifCond .eq 8, 3) := by decide +kernel
theorem dX8_readsRound_73 : decode cX8_readsRound 73 = .ok (.iload_n 3, 1) := by decide +kernel
theorem dX8_readsRound_74 : decode cX8_readsRound 74 = .ok (.iload_n 1, 1) := by decide +kernel
theorem dX8_readsRound_75 : decode cX8_readsRound 75 = .ok (.if_icmp .gt 12, 3) := by decide +kernel
theorem dX8_readsRound_78 : decode cX8_readsRound 78 = .ok (.aload_n 0, 1) := by decide +kernel
theorem dX8_readsRound_79 : decode cX8_readsRound 79 = .ok (.aload_n 0, 1) := by decide +kernel
theorem dX8_readsRound_80 : decode cX8_readsRound 80 = .ok (.getfield 102, 3) := by decide +kernel
theorem dX8_readsRound_83 : decode cX8_readsRound 83 = .ok (.invokevirtual 112, 3) := by decide +kernel
theorem dX8_readsRound_86 : decode cX8_readsRound 86 = .ok (.return_, 1) := by decide +kernel
theorem dX8_readsRound_87 : decode cX8_readsRound 87 = .ok (.aload_n 0, 1) := by decide +kernel
theorem dX8_readsRound_88 : decode cX8_readsRound 88 = .ok (.dup, 1) := by decide +kernel
theorem dX8_readsRound_89 : decode cX8_readsRound 89 = .ok (.getfield 102, 3) := by decide +kernel
theorem dX8_readsRound_92 : decode cX8_readsRound 92 = .ok (.iconst 1, 1) := by decide +kernel
theorem dX8_readsRound_93 : decode cX8_readsRound 93 = .ok (.iadd, 1) := by decide +kernel
theorem dX8_readsRound_94 : decode cX8_readsRound 94 = .ok (.putfield 102, 3) := by decide +kernel
theorem dX8_readsRound_97 : decode cX8_readsRound 97 = .ok (.aload_n 0, 1) := by decide +kernel
theorem dX8_readsRound_98 : decode cX8_readsRound 98 = .ok (.bipush 61, 2) := by decide +kernel
theorem dX8_readsRound_100 : decode cX8_readsRound 100 = .ok (.invokevirtual 203, 3) := by decide +kernel
theorem dX8_readsRound_103 : decode cX8_readsRound 103 = .ok (.aload_n 0, 1) := by decide +kernel
theorem dX8_readsRound_104 : decode cX8_readsRound 104 = .ok (.getfield 27, 3) := by decide +kernel
theorem dX8_readsRound_107 : decode cX8_readsRound 107 = .ok (.iload_n 3, 1) := by decide +kernel
theorem dX8_readsRound_108 : decode cX8_readsRound 108 = .ok (.aload_n 0, 1) := by decide +kernel
theorem dX8_readsRound_109 : decode cX8_readsRound 109 = .ok (.iconst 1, 1) := by decide +kernel
theorem dX8_readsRound_110 : decode cX8_readsRound 110 = .ok (.ldc2_w 243, 3) := by decide +kernel
theorem dX8_readsRound_113 : decode cX8_readsRound 113 = .ok (.invokevirtual 127, 3) := by decide +kernel
theorem dX8_readsRound_116 : decode cX8_readsRound 116 = .ok (.iastore, 1) := by decide +kernel
theorem dX8_readsRound_117 : decode cX8_readsRound 117 = .ok (.aload_n 0, 1) := by decide +kernel
theorem dX8_readsRound_118 : decode cX8_readsRound 118 = .ok (.dup, 1) := by decide +kernel
theorem dX8_readsRound_119 : decode cX8_readsRound 119 = .ok (.getfield 239, 3) := by decide +kernel
theorem dX8_readsRound_122 : decode cX8_readsRound 122 = .ok (.aload_n 0, 1) := by decide +kernel
theorem dX8_readsRound_123 : decode cX8_readsRound 123 = .ok (.getfield 27, 3) := by decide +kernel
theorem dX8_readsRound_126 : decode cX8_readsRound 126 = .ok (.iload_n 3, 1) := by decide +kernel
theorem dX8_readsRound_127 : decode cX8_readsRound 127 = .ok (.iaload, 1) := by decide +kernel
theorem dX8_readsRound_128 : decode cX8_readsRound 128 = .ok (.i2l, 1) := by decide +kernel
theorem dX8_readsRound_129 : decode cX8_readsRound 129 = .ok (.ladd, 1) := by decide +kernel
theorem dX8_readsRound_130 : decode cX8_readsRound 130 = .ok (.putfield 239, 3) := by decide +kernel
theorem dX8_readsRound_133 : decode cX8_readsRound 133 = .ok (.iload_n 3, 1) := by decide +kernel
theorem dX8_readsRound_134 : decode cX8_readsRound 134 = .ok (.istore_n 1, 1) := by decide +kernel
theorem dX8_readsRound_135 : decode cX8_readsRound 135 = .ok (.aload_n 0, 1) := by decide +kernel
theorem dX8_readsRound_136 : decode cX8_readsRound 136 = .ok (.invokevirtual 108, 3) := by decide +kernel
theorem dX8_readsRound_139 : decode cX8_readsRound 139 = .ok (.bipush 44, 2) := by decide +kernel
theorem dX8_readsRound_141 : decode cX8_readsRound 141 = .ok (.if_icmp .ne 13, 3) := by decide +kernel
theorem dX8_readsRound_144 : decode cX8_readsRound 144 = .ok (.iload_n 3, 1) := by decide +kernel
theorem dX8_readsRound_145 : decode cX8_readsRound 145 = .ok (.bipush 7, 2) := by decide +kernel
theorem dX8_readsRound_147 : decode cX8_readsRound 147 = .ok (.if_icmp .ge 7, 3) := by decide +kernel
theorem dX8_readsRound_150 : decode cX8_readsRound 150 = .ok (.iconst 1, 1) := by decide +kernel
theorem dX8_readsRound_151 : decode cX8_readsRound 151 = .ok (.goto 4, 3) := by decide +kernel
theorem dX8_readsRound_154 : decode cX8_readsRound 154 = .ok (.iconst 0, 1) := by decide +kernel
theorem dX8_readsRound_155 : decode cX8_readsRound 155 = .ok (.istore_n 2, 1) := by decide +kernel
theorem dX8_readsRound_156 : decode cX8_readsRound 156 = .ok (.iload_n 2, 1) := by decide +kernel
theorem dX8_readsRound_157 : decode cX8_readsRound 157 = .ok (.ifCond .eq 13, 3) := by decide +kernel
theorem dX8_readsRound_160 : decode cX8_readsRound 160 = .ok (.aload_n 0, 1) := by decide +kernel
theorem dX8_readsRound_161 : decode cX8_readsRound 161 = .ok (.dup, 1) := by decide +kernel
theorem dX8_readsRound_162 : decode cX8_readsRound 162 = .ok (.getfield 102, 3) := by decide +kernel
theorem dX8_readsRound_165 : decode cX8_readsRound 165 = .ok (.iconst 1, 1) := by decide +kernel
theorem dX8_readsRound_166 : decode cX8_readsRound 166 = .ok (.iadd, 1) := by decide +kernel
theorem dX8_readsRound_167 : decode cX8_readsRound 167 = .ok (.putfield 102, 3) := by decide +kernel
theorem dX8_readsRound_170 : decode cX8_readsRound 170 = .ok (.goto (-132), 3) := by decide +kernel
theorem dX8_readsRound_173 : decode cX8_readsRound 173 = .ok (.aload_n 0, 1) := by decide +kernel
theorem dX8_readsRound_174 : decode cX8_readsRound 174 = .ok (.getfield 105, 3) := by decide +kernel
theorem dX8_readsRound_177 : decode cX8_readsRound 177 = .ok (.iconst (-1), 1) := by decide +kernel
theorem dX8_readsRound_178 : decode cX8_readsRound 178 = .ok (.if_icmp .ne 22, 3) := by decide +kernel
theorem dX8_readsRound_181 : decode cX8_readsRound 181 = .ok (.aload_n 0, 1) := by decide +kernel
theorem dX8_readsRound_182 : decode cX8_readsRound 182 = .ok (.getfield 102, 3) := by decide +kernel
theorem dX8_readsRound_185 : decode cX8_readsRound 185 = .ok (.aload_n 0, 1) := by decide +kernel
theorem dX8_readsRound_186 : decode cX8_readsRound 186 = .ok (.getfield 99, 3) := by decide +kernel
theorem dX8_readsRound_189 : decode cX8_readsRound 189 = .ok (.if_icmp .ge 11, 3) := by decide +kernel
theorem dX8_readsRound_192 : decode cX8_readsRound 192 = .ok (.aload_n 0, 1) := by decide +kernel
theorem dX8_readsRound_193 : decode cX8_readsRound 193 = .ok (.aload_n 0, 1) := by decide +kernel
theorem dX8_readsRound_194 : decode cX8_readsRound 194 = .ok (.getfield 102, 3) := by decide +kernel
theorem dX8_readsRound_197 : decode cX8_readsRound 197 = .ok (.invokevirtual 112, 3) := by decide +kernel
theorem dX8_readsRound_200 : decode cX8_readsRound 200 = .ok (.return_, 1) := by decide +kernel
theorem dX8_mustGo_0 : decode cX8_mustGo 0 = .ok (.aload_n 0, 1) := by decide +kernel
theorem dX8_mustGo_1 : decode cX8_mustGo 1 = .ok (.getfield 7, 3) := by decide +kernel
theorem dX8_mustGo_4 : decode cX8_mustGo 4 = .ok (.bipush 88, 2) := by decide +kernel
theorem dX8_mustGo_6 : decode cX8_mustGo 6 = .ok (.iload_n 2, 1) := by decide +kernel
theorem dX8_mustGo_7 : decode cX8_mustGo 7 = .ok (.iadd, 1) := by decide +kernel
theorem dX8_mustGo_8 : decode cX8_mustGo 8 = .ok (.iaload, 1) := by decide +kernel
theorem dX8_mustGo_9 : decode cX8_mustGo 9 = .ok (.iconst 1, 1) := by decide +kernel
theorem dX8_mustGo_10 : decode cX8_mustGo 10 = .ok (.if_icmp .ne 41, 3) := by decide +kernel
theorem dX8_mustGo_13 : decode cX8_mustGo 13 = .ok (.aload_n 0, 1) := by decide +kernel
theorem dX8_mustGo_14 : decode cX8_mustGo 14 = .ok (.iload_n 1, 1) := by decide +kernel
theorem dX8_mustGo_15 : decode cX8_mustGo 15 = .ok (.iload_n 2, 1) := by decide +kernel
theorem dX8_mustGo_16 : decode cX8_mustGo 16 = .ok (.invokevirtual 80, 3) := by decide +kernel
theorem dX8_mustGo_19 : decode cX8_mustGo 19 = .ok (.ifCond .le 32, 3) := by decide +kernel
theorem dX8_mustGo_22 : decode cX8_mustGo 22 = .ok (.aload_n 0, 1) := by decide +kernel
theorem dX8_mustGo_23 : decode cX8_mustGo 23 = .ok (.getfield 27, 3) := by decide +kernel
theorem dX8_mustGo_26 : decode cX8_mustGo 26 = .ok (.iload_n 1, 1) := by decide +kernel
theorem dX8_mustGo_27 : decode cX8_mustGo 27 = .ok (.iaload, 1) := by decide +kernel
theorem dX8_mustGo_28 : decode cX8_mustGo 28 = .ok (.i2l, 1) := by decide +kernel
theorem dX8_mustGo_29 : decode cX8_mustGo 29 = .ok (.aload_n 0, 1) := by decide +kernel
theorem dX8_mustGo_30 : decode cX8_mustGo 30 = .ok (.getfield 239, 3) := by decide +kernel
theorem dX8_mustGo_33 : decode cX8_mustGo 33 = .ok (.aload_n 0, 1) := by decide +kernel
theorem dX8_mustGo_34 : decode cX8_mustGo 34 = .ok (.iload_n 1, 1) := by decide +kernel
theorem dX8_mustGo_35 : decode cX8_mustGo 35 = .ok (.iload_n 2, 1) := by decide +kernel
theorem dX8_mustGo_36 : decode cX8_mustGo 36 = .ok (.invokevirtual 80, 3) := by decide +kernel
theorem dX8_mustGo_39 : decode cX8_mustGo 39 = .ok (.i2l, 1) := by decide +kernel
theorem dX8_mustGo_40 : decode cX8_mustGo 40 = .ok (.lmul, 1) := by decide +kernel
theorem dX8_mustGo_41 : decode cX8_mustGo 41 = .ok (.lload_n 3, 1) := by decide +kernel
theorem dX8_mustGo_42 : decode cX8_mustGo 42 = .ok (.ldiv, 1) := by decide +kernel
theorem dX8_mustGo_43 : decode cX8_mustGo 43 = .ok (.lcmp, 1) := by decide +kernel
theorem dX8_mustGo_44 : decode cX8_mustGo 44 = .ok (.ifCond .ge 7, 3) := by decide +kernel
theorem dX8_mustGo_47 : decode cX8_mustGo 47 = .ok (.iconst 1, 1) := by decide +kernel
theorem dX8_mustGo_48 : decode cX8_mustGo 48 = .ok (.goto 4, 3) := by decide +kernel
theorem dX8_mustGo_51 : decode cX8_mustGo 51 = .ok (.iconst 0, 1) := by decide +kernel
theorem dX8_mustGo_52 : decode cX8_mustGo 52 = .ok (.ireturn, 1) := by decide +kernel
theorem dX8_plays_0 : decode cX8_plays 0 = .ok (.aload_n 0, 1) := by decide +kernel
theorem dX8_plays_1 : decode cX8_plays 1 = .ok (.iconst 0, 1) := by decide +kernel
theorem dX8_plays_2 : decode cX8_plays 2 = .ok (.putfield 245, 3) := by decide +kernel
theorem dX8_plays_5 : decode cX8_plays 5 = .ok (.iconst 1, 1) := by decide +kernel
theorem dX8_plays_6 : decode cX8_plays 6 = .ok (.istore_n 2, 1) := by decide +kernel
theorem dX8_plays_7 : decode cX8_plays 7 = .ok (.iload_n 2, 1) := by decide +kernel
theorem dX8_plays_8 : decode cX8_plays 8 = .ok (.aload_n 0, 1) := by decide +kernel
theorem dX8_plays_9 : decode cX8_plays 9 = .ok (.getfield 7, 3) := by decide +kernel
theorem dX8_plays_12 : decode cX8_plays 12 = .ok (.bipush 57, 2) := by decide +kernel
theorem dX8_plays_14 : decode cX8_plays 14 = .ok (.iaload, 1) := by decide +kernel
theorem dX8_plays_15 : decode cX8_plays 15 = .ok (.if_icmp .ge 125, 3) := by decide +kernel
theorem dX8_plays_18 : decode cX8_plays 18 = .ok (.aload_n 0, 1) := by decide +kernel
theorem dX8_plays_19 : decode cX8_plays 19 = .ok (.getfield 36, 3) := by decide +kernel
theorem dX8_plays_22 : decode cX8_plays 22 = .ok (.iload_n 2, 1) := by decide +kernel
theorem dX8_plays_23 : decode cX8_plays 23 = .ok (.lconst 0, 1) := by decide +kernel
theorem dX8_plays_24 : decode cX8_plays 24 = .ok (.lastore, 1) := by decide +kernel
theorem dX8_plays_25 : decode cX8_plays 25 = .ok (.aload_n 0, 1) := by decide +kernel
theorem dX8_plays_26 : decode cX8_plays 26 = .ok (.iload_n 2, 1) := by decide +kernel
theorem dX8_plays_27 : decode cX8_plays 27 = .ok (.invokevirtual 154, 3) := by decide +kernel
theorem dX8_plays_30 : decode cX8_plays 30 = .ok (.lstore_n 3, 1) := by decide +kernel
theorem dX8_plays_31 : decode cX8_plays 31 = .ok (.iconst 0, 1) := by decide +kernel
theorem dX8_plays_32 : decode cX8_plays 32 = .ok (.istore 5, 2) := by decide +kernel
theorem dX8_plays_34 : decode cX8_plays 34 = .ok (.iload 5, 2) := by decide +kernel
theorem dX8_plays_36 : decode cX8_plays 36 = .ok (.bipush 8, 2) := by decide +kernel
theorem dX8_plays_38 : decode cX8_plays 38 = .ok (.if_icmp .ge 96, 3) := by decide +kernel
theorem dX8_plays_41 : decode cX8_plays 41 = .ok (.aload_n 0, 1) := by decide +kernel
theorem dX8_plays_42 : decode cX8_plays 42 = .ok (.iload 5, 2) := by decide +kernel
theorem dX8_plays_44 : decode cX8_plays 44 = .ok (.iload_n 2, 1) := by decide +kernel
theorem dX8_plays_45 : decode cX8_plays 45 = .ok (.lload_n 3, 1) := by decide +kernel
theorem dX8_plays_46 : decode cX8_plays 46 = .ok (.invokevirtual 248, 3) := by decide +kernel
theorem dX8_plays_49 : decode cX8_plays 49 = .ok (.ifCond .ne 6, 3) := by decide +kernel
theorem dX8_plays_52 : decode cX8_plays 52 = .ok (.goto 76, 3) := by decide +kernel
theorem dX8_plays_55 : decode cX8_plays 55 = .ok (.aload_n 0, 1) := by decide +kernel
theorem dX8_plays_56 : decode cX8_plays 56 = .ok (.dup, 1) := by decide +kernel
theorem dX8_plays_57 : decode cX8_plays 57 = .ok (.getfield 245, 3) := by decide +kernel
theorem dX8_plays_60 : decode cX8_plays 60 = .ok (.iconst 1, 1) := by decide +kernel
theorem dX8_plays_61 : decode cX8_plays 61 = .ok (.iload 5, 2) := by decide +kernel
theorem dX8_plays_63 : decode cX8_plays 63 = .ok (.ishl, 1) := by decide +kernel
theorem dX8_plays_64 : decode cX8_plays 64 = .ok (.ior, 1) := by decide +kernel
theorem dX8_plays_65 : decode cX8_plays 65 = .ok (.putfield 245, 3) := by decide +kernel
theorem dX8_plays_68 : decode cX8_plays 68 = .ok (.aload_n 0, 1) := by decide +kernel
theorem dX8_plays_69 : decode cX8_plays 69 = .ok (.getfield 36, 3) := by decide +kernel
theorem dX8_plays_72 : decode cX8_plays 72 = .ok (.iload_n 2, 1) := by decide +kernel
theorem dX8_plays_73 : decode cX8_plays 73 = .ok (.dup2, 1) := by decide +kernel
theorem dX8_plays_74 : decode cX8_plays 74 = .ok (.laload, 1) := by decide +kernel
theorem dX8_plays_75 : decode cX8_plays 75 = .ok (.aload_n 0, 1) := by decide +kernel
theorem dX8_plays_76 : decode cX8_plays 76 = .ok (.iload 5, 2) := by decide +kernel
theorem dX8_plays_78 : decode cX8_plays 78 = .ok (.iload_n 2, 1) := by decide +kernel
theorem dX8_plays_79 : decode cX8_plays 79 = .ok (.invokevirtual 80, 3) := by decide +kernel
theorem dX8_plays_82 : decode cX8_plays 82 = .ok (.i2l, 1) := by decide +kernel
theorem dX8_plays_83 : decode cX8_plays 83 = .ok (.ladd, 1) := by decide +kernel
theorem dX8_plays_84 : decode cX8_plays 84 = .ok (.lastore, 1) := by decide +kernel
theorem dX8_plays_85 : decode cX8_plays 85 = .ok (.iload_n 1, 1) := by decide +kernel
theorem dX8_plays_86 : decode cX8_plays 86 = .ok (.ifCond .ne 6, 3) := by decide +kernel
theorem dX8_plays_89 : decode cX8_plays 89 = .ok (.goto 39, 3) := by decide +kernel
theorem dX8_plays_92 : decode cX8_plays 92 = .ok (.aload_n 0, 1) := by decide +kernel
theorem dX8_plays_93 : decode cX8_plays 93 = .ok (.iload 5, 2) := by decide +kernel
theorem dX8_plays_95 : decode cX8_plays 95 = .ok (.iconst 0, 1) := by decide +kernel
theorem dX8_plays_96 : decode cX8_plays 96 = .ok (.aload_n 0, 1) := by decide +kernel
theorem dX8_plays_97 : decode cX8_plays 97 = .ok (.iload 5, 2) := by decide +kernel
theorem dX8_plays_99 : decode cX8_plays 99 = .ok (.iconst 0, 1) := by decide +kernel
theorem dX8_plays_100 : decode cX8_plays 100 = .ok (.invokevirtual 80, 3) := by decide +kernel
theorem dX8_plays_103 : decode cX8_plays 103 = .ok (.aload_n 0, 1) := by decide +kernel
theorem dX8_plays_104 : decode cX8_plays 104 = .ok (.aload_n 0, 1) := by decide +kernel
theorem dX8_plays_105 : decode cX8_plays 105 = .ok (.iload 5, 2) := by decide +kernel
theorem dX8_plays_107 : decode cX8_plays 107 = .ok (.iload_n 2, 1) := by decide +kernel
theorem dX8_plays_108 : decode cX8_plays 108 = .ok (.invokevirtual 80, 3) := by decide +kernel
theorem dX8_plays_111 : decode cX8_plays 111 = .ok (.iload_n 2, 1) := by decide +kernel
theorem dX8_plays_112 : decode cX8_plays 112 = .ok (.invokevirtual 84, 3) := by decide +kernel
theorem dX8_plays_115 : decode cX8_plays 115 = .ok (.l2i, 1) := by decide +kernel
theorem dX8_plays_116 : decode cX8_plays 116 = .ok (.iadd, 1) := by decide +kernel
theorem dX8_plays_117 : decode cX8_plays 117 = .ok (.invokevirtual 136, 3) := by decide +kernel
theorem dX8_plays_120 : decode cX8_plays 120 = .ok (.aload_n 0, 1) := by decide +kernel
theorem dX8_plays_121 : decode cX8_plays 121 = .ok (.iload 5, 2) := by decide +kernel
theorem dX8_plays_123 : decode cX8_plays 123 = .ok (.iload_n 2, 1) := by decide +kernel
theorem dX8_plays_124 : decode cX8_plays 124 = .ok (.iconst 0, 1) := by decide +kernel
theorem dX8_plays_125 : decode cX8_plays 125 = .ok (.invokevirtual 136, 3) := by decide +kernel
theorem dX8_plays_128 : decode cX8_plays 128 = .ok (.iinc 5 1, 3) := by decide +kernel
theorem dX8_plays_131 : decode cX8_plays 131 = .ok (.goto (-97), 3) := by decide +kernel
theorem dX8_plays_134 : decode cX8_plays 134 = .ok (.iinc 2 1, 3) := by decide +kernel
theorem dX8_plays_137 : decode cX8_plays 137 = .ok (.goto (-130), 3) := by decide +kernel
theorem dX8_plays_140 : decode cX8_plays 140 = .ok (.return_, 1) := by decide +kernel
theorem dX8_ratcheted_0 : decode cX8_ratcheted 0 = .ok (.aload_n 0, 1) := by decide +kernel
theorem dX8_ratcheted_1 : decode cX8_ratcheted 1 = .ok (.getfield 30, 3) := by decide +kernel
theorem dX8_ratcheted_4 : decode cX8_ratcheted 4 = .ok (.iload_n 1, 1) := by decide +kernel
theorem dX8_ratcheted_5 : decode cX8_ratcheted 5 = .ok (.laload, 1) := by decide +kernel
theorem dX8_ratcheted_6 : decode cX8_ratcheted 6 = .ok (.lstore 8, 2) := by decide +kernel
theorem dX8_ratcheted_8 : decode cX8_ratcheted 8 = .ok (.aload_n 0, 1) := by decide +kernel
theorem dX8_ratcheted_9 : decode cX8_ratcheted 9 = .ok (.getfield 7, 3) := by decide +kernel
theorem dX8_ratcheted_12 : decode cX8_ratcheted 12 = .ok (.bipush 70, 2) := by decide +kernel
theorem dX8_ratcheted_14 : decode cX8_ratcheted 14 = .ok (.iload_n 1, 1) := by decide +kernel
theorem dX8_ratcheted_15 : decode cX8_ratcheted 15 = .ok (.iadd, 1) := by decide +kernel
theorem dX8_ratcheted_16 : decode cX8_ratcheted 16 = .ok (.iaload, 1) := by decide +kernel
theorem dX8_ratcheted_17 : decode cX8_ratcheted 17 = .ok (.ifCond .eq 10, 3) := by decide +kernel
theorem dX8_ratcheted_20 : decode cX8_ratcheted 20 = .ok (.lload 8, 2) := by decide +kernel
theorem dX8_ratcheted_22 : decode cX8_ratcheted 22 = .ok (.lload_n 2, 1) := by decide +kernel
theorem dX8_ratcheted_23 : decode cX8_ratcheted 23 = .ok (.lcmp, 1) := by decide +kernel
theorem dX8_ratcheted_24 : decode cX8_ratcheted 24 = .ok (.ifCond .gt 6, 3) := by decide +kernel
theorem dX8_ratcheted_27 : decode cX8_ratcheted 27 = .ok (.lload 8, 2) := by decide +kernel
theorem dX8_ratcheted_29 : decode cX8_ratcheted 29 = .ok (.lreturn, 1) := by decide +kernel
theorem dX8_ratcheted_30 : decode cX8_ratcheted 30 = .ok (.aload_n 0, 1) := by decide +kernel
theorem dX8_ratcheted_31 : decode cX8_ratcheted 31 = .ok (.getfield 7, 3) := by decide +kernel
theorem dX8_ratcheted_34 : decode cX8_ratcheted 34 = .ok (.bipush 70, 2) := by decide +kernel
theorem dX8_ratcheted_36 : decode cX8_ratcheted 36 = .ok (.iload_n 1, 1) := by decide +kernel
theorem dX8_ratcheted_37 : decode cX8_ratcheted 37 = .ok (.iadd, 1) := by decide +kernel
theorem dX8_ratcheted_38 : decode cX8_ratcheted 38 = .ok (.iaload, 1) := by decide +kernel
theorem dX8_ratcheted_39 : decode cX8_ratcheted 39 = .ok (.iconst 1, 1) := by decide +kernel
theorem dX8_ratcheted_40 : decode cX8_ratcheted 40 = .ok (.if_icmp .ne 5, 3) := by decide +kernel
theorem dX8_ratcheted_43 : decode cX8_ratcheted 43 = .ok (.lload_n 2, 1) := by decide +kernel
theorem dX8_ratcheted_44 : decode cX8_ratcheted 44 = .ok (.lreturn, 1) := by decide +kernel
theorem dX8_ratcheted_45 : decode cX8_ratcheted 45 = .ok (.aload_n 0, 1) := by decide +kernel
theorem dX8_ratcheted_46 : decode cX8_ratcheted 46 = .ok (.getfield 7, 3) := by decide +kernel
theorem dX8_ratcheted_49 : decode cX8_ratcheted 49 = .ok (.bipush 70, 2) := by decide +kernel
theorem dX8_ratcheted_51 : decode cX8_ratcheted 51 = .ok (.iload_n 1, 1) := by decide +kernel
theorem dX8_ratcheted_52 : decode cX8_ratcheted 52 = .ok (.iadd, 1) := by decide +kernel
theorem dX8_ratcheted_53 : decode cX8_ratcheted 53 = .ok (.iaload, 1) := by decide +kernel
theorem dX8_ratcheted_54 : decode cX8_ratcheted 54 = .ok (.iconst 3, 1) := by decide +kernel
theorem dX8_ratcheted_55 : decode cX8_ratcheted 55 = .ok (.if_icmp .ne 10, 3) := by decide +kernel
theorem dX8_ratcheted_58 : decode cX8_ratcheted 58 = .ok (.aload_n 0, 1) := by decide +kernel
theorem dX8_ratcheted_59 : decode cX8_ratcheted 59 = .ok (.getfield 252, 3) := by decide +kernel
theorem dX8_ratcheted_62 : decode cX8_ratcheted 62 = .ok (.goto 7, 3) := by decide +kernel
theorem dX8_ratcheted_65 : decode cX8_ratcheted 65 = .ok (.aload_n 0, 1) := by decide +kernel
theorem dX8_ratcheted_66 : decode cX8_ratcheted 66 = .ok (.getfield 254, 3) := by decide +kernel
theorem dX8_ratcheted_69 : decode cX8_ratcheted 69 = .ok (.lstore 10, 2) := by decide +kernel
theorem dX8_ratcheted_71 : decode cX8_ratcheted 71 = .ok (.lload 10, 2) := by decide +kernel
theorem dX8_ratcheted_73 : decode cX8_ratcheted 73 = .ok (.lload 4, 2) := by decide +kernel
theorem dX8_ratcheted_75 : decode cX8_ratcheted 75 = .ok (.ladd, 1) := by decide +kernel
theorem dX8_ratcheted_76 : decode cX8_ratcheted 76 = .ok (.lconst 0, 1) := by decide +kernel
theorem dX8_ratcheted_77 : decode cX8_ratcheted 77 = .ok (.lcmp, 1) := by decide +kernel
theorem dX8_ratcheted_78 : decode cX8_ratcheted 78 = .ok (.ifCond .ne 6, 3) := by decide +kernel
theorem dX8_ratcheted_81 : decode cX8_ratcheted 81 = .ok (.lload 8, 2) := by decide +kernel
theorem dX8_ratcheted_83 : decode cX8_ratcheted 83 = .ok (.lreturn, 1) := by decide +kernel
theorem dX8_ratcheted_84 : decode cX8_ratcheted 84 = .ok (.lconst 1, 1) := by decide +kernel
theorem dX8_ratcheted_85 : decode cX8_ratcheted 85 = .ok (.lload 8, 2) := by decide +kernel
theorem dX8_ratcheted_87 : decode cX8_ratcheted 87 = .ok (.lload 8, 2) := by decide +kernel
theorem dX8_ratcheted_89 : decode cX8_ratcheted 89 = .ok (.lload 10, 2) := by decide +kernel
theorem dX8_ratcheted_91 : decode cX8_ratcheted 91 = .ok (.lload 6, 2) := by decide +kernel
theorem dX8_ratcheted_93 : decode cX8_ratcheted 93 = .ok (.lload 4, 2) := by decide +kernel
theorem dX8_ratcheted_95 : decode cX8_ratcheted 95 = .ok (.invokestatic 257, 3) := by decide +kernel
theorem dX8_ratcheted_98 : decode cX8_ratcheted 98 = .ok (.invokestatic 261, 3) := by decide +kernel
theorem dX8_ratcheted_101 : decode cX8_ratcheted 101 = .ok (.invokestatic 265, 3) := by decide +kernel
theorem dX8_ratcheted_104 : decode cX8_ratcheted 104 = .ok (.lreturn, 1) := by decide +kernel
theorem dX8_weighed_0 : decode cX8_weighed 0 = .ok (.lload_n 0, 1) := by decide +kernel
theorem dX8_weighed_1 : decode cX8_weighed 1 = .ok (.lload_n 2, 1) := by decide +kernel
theorem dX8_weighed_2 : decode cX8_weighed 2 = .ok (.lmul, 1) := by decide +kernel
theorem dX8_weighed_3 : decode cX8_weighed 3 = .ok (.ldc2_w 267, 3) := by decide +kernel
theorem dX8_weighed_6 : decode cX8_weighed 6 = .ok (.lload 4, 2) := by decide +kernel
theorem dX8_weighed_8 : decode cX8_weighed 8 = .ok (.lmul, 1) := by decide +kernel
theorem dX8_weighed_9 : decode cX8_weighed 9 = .ok (.ladd, 1) := by decide +kernel
theorem dX8_weighed_10 : decode cX8_weighed 10 = .ok (.lload_n 2, 1) := by decide +kernel
theorem dX8_weighed_11 : decode cX8_weighed 11 = .ok (.lload 6, 2) := by decide +kernel
theorem dX8_weighed_13 : decode cX8_weighed 13 = .ok (.ladd, 1) := by decide +kernel
theorem dX8_weighed_14 : decode cX8_weighed 14 = .ok (.ldiv, 1) := by decide +kernel
theorem dX8_weighed_15 : decode cX8_weighed 15 = .ok (.lreturn, 1) := by decide +kernel
theorem dX8_turn_0 : decode cX8_turn 0 = .ok (.aload_n 0, 1) := by decide +kernel
theorem dX8_turn_1 : decode cX8_turn 1 = .ok (.invokevirtual 143, 3) := by decide +kernel
theorem dX8_turn_4 : decode cX8_turn 4 = .ok (.aload_n 0, 1) := by decide +kernel
theorem dX8_turn_5 : decode cX8_turn 5 = .ok (.getfield 213, 3) := by decide +kernel
theorem dX8_turn_8 : decode cX8_turn 8 = .ok (.ifCond .eq 13, 3) := by decide +kernel
theorem dX8_turn_11 : decode cX8_turn 11 = .ok (.aload_n 0, 1) := by decide +kernel
theorem dX8_turn_12 : decode cX8_turn 12 = .ok (.getfield 7, 3) := by decide +kernel
theorem dX8_turn_15 : decode cX8_turn 15 = .ok (.bipush 56, 2) := by decide +kernel
theorem dX8_turn_17 : decode cX8_turn 17 = .ok (.iaload, 1) := by decide +kernel
theorem dX8_turn_18 : decode cX8_turn 18 = .ok (.goto 4, 3) := by decide +kernel
theorem dX8_turn_21 : decode cX8_turn 21 = .ok (.iconst 0, 1) := by decide +kernel
theorem dX8_turn_22 : decode cX8_turn 22 = .ok (.i2l, 1) := by decide +kernel
theorem dX8_turn_23 : decode cX8_turn 23 = .ok (.lsub, 1) := by decide +kernel
theorem dX8_turn_24 : decode cX8_turn 24 = .ok (.lstore_n 2, 1) := by decide +kernel
theorem dX8_turn_25 : decode cX8_turn 25 = .ok (.lload_n 2, 1) := by decide +kernel
theorem dX8_turn_26 : decode cX8_turn 26 = .ok (.lconst 0, 1) := by decide +kernel
theorem dX8_turn_27 : decode cX8_turn 27 = .ok (.lcmp, 1) := by decide +kernel
theorem dX8_turn_28 : decode cX8_turn 28 = .ok (.ifCond .ne 6, 3) := by decide +kernel
theorem dX8_turn_31 : decode cX8_turn 31 = .ok (.bipush (-3), 2) := by decide +kernel
theorem dX8_turn_33 : decode cX8_turn 33 = .ok (.ireturn, 1) := by decide +kernel
theorem dX8_turn_34 : decode cX8_turn 34 = .ok (.aload_n 0, 1) := by decide +kernel
theorem dX8_turn_35 : decode cX8_turn 35 = .ok (.ldc2_w 267, 3) := by decide +kernel
theorem dX8_turn_38 : decode cX8_turn 38 = .ok (.aload_n 0, 1) := by decide +kernel
theorem dX8_turn_39 : decode cX8_turn 39 = .ok (.getfield 207, 3) := by decide +kernel
theorem dX8_turn_42 : decode cX8_turn 42 = .ok (.i2l, 1) := by decide +kernel
theorem dX8_turn_43 : decode cX8_turn 43 = .ok (.lmul, 1) := by decide +kernel
theorem dX8_turn_44 : decode cX8_turn 44 = .ok (.lload_n 2, 1) := by decide +kernel
theorem dX8_turn_45 : decode cX8_turn 45 = .ok (.ldiv, 1) := by decide +kernel
theorem dX8_turn_46 : decode cX8_turn 46 = .ok (.putfield 269, 3) := by decide +kernel
theorem dX8_turn_49 : decode cX8_turn 49 = .ok (.aload_n 0, 1) := by decide +kernel
theorem dX8_turn_50 : decode cX8_turn 50 = .ok (.getfield 269, 3) := by decide +kernel
theorem dX8_turn_53 : decode cX8_turn 53 = .ok (.lconst 1, 1) := by decide +kernel
theorem dX8_turn_54 : decode cX8_turn 54 = .ok (.ldc2_w 243, 3) := by decide +kernel
theorem dX8_turn_57 : decode cX8_turn 57 = .ok (.invokestatic 58, 3) := by decide +kernel
theorem dX8_turn_60 : decode cX8_turn 60 = .ok (.ifCond .ne 6, 3) := by decide +kernel
theorem dX8_turn_63 : decode cX8_turn 63 = .ok (.bipush (-3), 2) := by decide +kernel
theorem dX8_turn_65 : decode cX8_turn 65 = .ok (.ireturn, 1) := by decide +kernel
theorem dX8_turn_66 : decode cX8_turn 66 = .ok (.aload_n 0, 1) := by decide +kernel
theorem dX8_turn_67 : decode cX8_turn 67 = .ok (.lconst 0, 1) := by decide +kernel
theorem dX8_turn_68 : decode cX8_turn 68 = .ok (.putfield 272, 3) := by decide +kernel
theorem dX8_turn_71 : decode cX8_turn 71 = .ok (.iconst 0, 1) := by decide +kernel
theorem dX8_turn_72 : decode cX8_turn 72 = .ok (.istore 4, 2) := by decide +kernel
theorem dX8_turn_74 : decode cX8_turn 74 = .ok (.iload 4, 2) := by decide +kernel
theorem dX8_turn_76 : decode cX8_turn 76 = .ok (.bipush 8, 2) := by decide +kernel
theorem dX8_turn_78 : decode cX8_turn 78 = .ok (.if_icmp .ge 35, 3) := by decide +kernel
theorem dX8_turn_81 : decode cX8_turn 81 = .ok (.aload_n 0, 1) := by decide +kernel
theorem dX8_turn_82 : decode cX8_turn 82 = .ok (.dup, 1) := by decide +kernel
theorem dX8_turn_83 : decode cX8_turn 83 = .ok (.getfield 272, 3) := by decide +kernel
theorem dX8_turn_86 : decode cX8_turn 86 = .ok (.ldc2_w 267, 3) := by decide +kernel
theorem dX8_turn_89 : decode cX8_turn 89 = .ok (.aload_n 0, 1) := by decide +kernel
theorem dX8_turn_90 : decode cX8_turn 90 = .ok (.getfield 27, 3) := by decide +kernel
theorem dX8_turn_93 : decode cX8_turn 93 = .ok (.iload 4, 2) := by decide +kernel
theorem dX8_turn_95 : decode cX8_turn 95 = .ok (.iaload, 1) := by decide +kernel
theorem dX8_turn_96 : decode cX8_turn 96 = .ok (.i2l, 1) := by decide +kernel
theorem dX8_turn_97 : decode cX8_turn 97 = .ok (.lmul, 1) := by decide +kernel
theorem dX8_turn_98 : decode cX8_turn 98 = .ok (.aload_n 0, 1) := by decide +kernel
theorem dX8_turn_99 : decode cX8_turn 99 = .ok (.getfield 269, 3) := by decide +kernel
theorem dX8_turn_102 : decode cX8_turn 102 = .ok (.ldiv, 1) := by decide +kernel
theorem dX8_turn_103 : decode cX8_turn 103 = .ok (.ladd, 1) := by decide +kernel
theorem dX8_turn_104 : decode cX8_turn 104 = .ok (.putfield 272, 3) := by decide +kernel
theorem dX8_turn_107 : decode cX8_turn 107 = .ok (.iinc 4 1, 3) := by decide +kernel
theorem dX8_turn_110 : decode cX8_turn 110 = .ok (.goto (-36), 3) := by decide +kernel
theorem dX8_turn_113 : decode cX8_turn 113 = .ok (.iconst 1, 1) := by decide +kernel
theorem dX8_turn_114 : decode cX8_turn 114 = .ok (.istore 4, 2) := by decide +kernel
theorem dX8_turn_116 : decode cX8_turn 116 = .ok (.iconst 1, 1) := by decide +kernel
theorem dX8_turn_117 : decode cX8_turn 117 = .ok (.istore 5, 2) := by decide +kernel
theorem dX8_turn_119 : decode cX8_turn 119 = .ok (.iload 5, 2) := by decide +kernel
theorem dX8_turn_121 : decode cX8_turn 121 = .ok (.aload_n 0, 1) := by decide +kernel
theorem dX8_turn_122 : decode cX8_turn 122 = .ok (.getfield 7, 3) := by decide +kernel
theorem dX8_turn_125 : decode cX8_turn 125 = .ok (.bipush 57, 2) := by decide +kernel
theorem dX8_turn_127 : decode cX8_turn 127 = .ok (.iaload, 1) := by decide +kernel
theorem dX8_turn_128 : decode cX8_turn 128 = .ok (.if_icmp .ge 71, 3) := by decide +kernel
theorem dX8_turn_131 : decode cX8_turn 131 = .ok (.aload_n 0, 1) := by decide +kernel
theorem dX8_turn_132 : decode cX8_turn 132 = .ok (.iload 5, 2) := by decide +kernel
theorem dX8_turn_134 : decode cX8_turn 134 = .ok (.aload_n 0, 1) := by decide +kernel
theorem dX8_turn_135 : decode cX8_turn 135 = .ok (.getfield 269, 3) := by decide +kernel
theorem dX8_turn_138 : decode cX8_turn 138 = .ok (.aload_n 0, 1) := by decide +kernel
theorem dX8_turn_139 : decode cX8_turn 139 = .ok (.getfield 272, 3) := by decide +kernel
theorem dX8_turn_142 : decode cX8_turn 142 = .ok (.aload_n 0, 1) := by decide +kernel
theorem dX8_turn_143 : decode cX8_turn 143 = .ok (.getfield 239, 3) := by decide +kernel
theorem dX8_turn_146 : decode cX8_turn 146 = .ok (.invokevirtual 275, 3) := by decide +kernel
theorem dX8_turn_149 : decode cX8_turn 149 = .ok (.lstore 6, 2) := by decide +kernel
theorem dX8_turn_151 : decode cX8_turn 151 = .ok (.iload 4, 2) := by decide +kernel
theorem dX8_turn_153 : decode cX8_turn 153 = .ok (.ifCond .eq 24, 3) := by decide +kernel
theorem dX8_turn_156 : decode cX8_turn 156 = .ok (.lload 6, 2) := by decide +kernel
theorem dX8_turn_158 : decode cX8_turn 158 = .ok (.aload_n 0, 1) := by decide +kernel
theorem dX8_turn_159 : decode cX8_turn 159 = .ok (.getfield 7, 3) := by decide +kernel
theorem dX8_turn_162 : decode cX8_turn 162 = .ok (.bipush 64, 2) := by decide +kernel
theorem dX8_turn_164 : decode cX8_turn 164 = .ok (.iload 5, 2) := by decide +kernel
theorem dX8_turn_166 : decode cX8_turn 166 = .ok (.iadd, 1) := by decide +kernel
theorem dX8_turn_167 : decode cX8_turn 167 = .ok (.iaload, 1) := by decide +kernel
theorem dX8_turn_168 : decode cX8_turn 168 = .ok (.i2l, 1) := by decide +kernel
theorem dX8_turn_169 : decode cX8_turn 169 = .ok (.lcmp, 1) := by decide +kernel
theorem dX8_turn_170 : decode cX8_turn 170 = .ok (.ifCond .ne 7, 3) := by decide +kernel
theorem dX8_turn_173 : decode cX8_turn 173 = .ok (.iconst 1, 1) := by decide +kernel
theorem dX8_turn_174 : decode cX8_turn 174 = .ok (.goto 4, 3) := by decide +kernel
theorem dX8_turn_177 : decode cX8_turn 177 = .ok (.iconst 0, 1) := by decide +kernel
theorem dX8_turn_178 : decode cX8_turn 178 = .ok (.istore 4, 2) := by decide +kernel
theorem dX8_turn_180 : decode cX8_turn 180 = .ok (.aload_n 0, 1) := by decide +kernel
theorem dX8_turn_181 : decode cX8_turn 181 = .ok (.getfield 7, 3) := by decide +kernel
theorem dX8_turn_184 : decode cX8_turn 184 = .ok (.bipush 64, 2) := by decide +kernel
theorem dX8_turn_186 : decode cX8_turn 186 = .ok (.iload 5, 2) := by decide +kernel
theorem dX8_turn_188 : decode cX8_turn 188 = .ok (.iadd, 1) := by decide +kernel
theorem dX8_turn_189 : decode cX8_turn 189 = .ok (.lload 6, 2) := by decide +kernel
theorem dX8_turn_191 : decode cX8_turn 191 = .ok (.l2i, 1) := by decide +kernel
theorem dX8_turn_192 : decode cX8_turn 192 = .ok (.iastore, 1) := by decide +kernel
theorem dX8_turn_193 : decode cX8_turn 193 = .ok (.iinc 5 1, 3) := by decide +kernel
theorem dX8_turn_196 : decode cX8_turn 196 = .ok (.goto (-77), 3) := by decide +kernel
theorem dX8_turn_199 : decode cX8_turn 199 = .ok (.aload_n 0, 1) := by decide +kernel
theorem dX8_turn_200 : decode cX8_turn 200 = .ok (.invokevirtual 143, 3) := by decide +kernel
theorem dX8_turn_203 : decode cX8_turn 203 = .ok (.aload_n 0, 1) := by decide +kernel
theorem dX8_turn_204 : decode cX8_turn 204 = .ok (.getfield 7, 3) := by decide +kernel
theorem dX8_turn_207 : decode cX8_turn 207 = .ok (.bipush 56, 2) := by decide +kernel
theorem dX8_turn_209 : decode cX8_turn 209 = .ok (.iaload, 1) := by decide +kernel
theorem dX8_turn_210 : decode cX8_turn 210 = .ok (.i2l, 1) := by decide +kernel
theorem dX8_turn_211 : decode cX8_turn 211 = .ok (.lsub, 1) := by decide +kernel
theorem dX8_turn_212 : decode cX8_turn 212 = .ok (.aload_n 0, 1) := by decide +kernel
theorem dX8_turn_213 : decode cX8_turn 213 = .ok (.getfield 272, 3) := by decide +kernel
theorem dX8_turn_216 : decode cX8_turn 216 = .ok (.ladd, 1) := by decide +kernel
theorem dX8_turn_217 : decode cX8_turn 217 = .ok (.lstore 5, 2) := by decide +kernel
theorem dX8_turn_219 : decode cX8_turn 219 = .ok (.lload 5, 2) := by decide +kernel
theorem dX8_turn_221 : decode cX8_turn 221 = .ok (.ldc2_w 131, 3) := by decide +kernel
theorem dX8_turn_224 : decode cX8_turn 224 = .ok (.lcmp, 1) := by decide +kernel
theorem dX8_turn_225 : decode cX8_turn 225 = .ok (.ifCond .le 6, 3) := by decide +kernel
theorem dX8_turn_228 : decode cX8_turn 228 = .ok (.bipush (-9), 2) := by decide +kernel
theorem dX8_turn_230 : decode cX8_turn 230 = .ok (.ireturn, 1) := by decide +kernel
theorem dX8_turn_231 : decode cX8_turn 231 = .ok (.aload_n 0, 1) := by decide +kernel
theorem dX8_turn_232 : decode cX8_turn 232 = .ok (.getfield 210, 3) := by decide +kernel
theorem dX8_turn_235 : decode cX8_turn 235 = .ok (.i2l, 1) := by decide +kernel
theorem dX8_turn_236 : decode cX8_turn 236 = .ok (.lload 5, 2) := by decide +kernel
theorem dX8_turn_238 : decode cX8_turn 238 = .ok (.lmul, 1) := by decide +kernel
theorem dX8_turn_239 : decode cX8_turn 239 = .ok (.ldc2_w 279, 3) := by decide +kernel
theorem dX8_turn_242 : decode cX8_turn 242 = .ok (.ladd, 1) := by decide +kernel
theorem dX8_turn_243 : decode cX8_turn 243 = .ok (.aload_n 0, 1) := by decide +kernel
theorem dX8_turn_244 : decode cX8_turn 244 = .ok (.getfield 210, 3) := by decide +kernel
theorem dX8_turn_247 : decode cX8_turn 247 = .ok (.i2l, 1) := by decide +kernel
theorem dX8_turn_248 : decode cX8_turn 248 = .ok (.lsub, 1) := by decide +kernel
theorem dX8_turn_249 : decode cX8_turn 249 = .ok (.ldc2_w 281, 3) := by decide +kernel
theorem dX8_turn_252 : decode cX8_turn 252 = .ok (.aload_n 0, 1) := by decide +kernel
theorem dX8_turn_253 : decode cX8_turn 253 = .ok (.getfield 210, 3) := by decide +kernel
theorem dX8_turn_256 : decode cX8_turn 256 = .ok (.i2l, 1) := by decide +kernel
theorem dX8_turn_257 : decode cX8_turn 257 = .ok (.lsub, 1) := by decide +kernel
theorem dX8_turn_258 : decode cX8_turn 258 = .ok (.ldiv, 1) := by decide +kernel
theorem dX8_turn_259 : decode cX8_turn 259 = .ok (.lstore 7, 2) := by decide +kernel
theorem dX8_turn_261 : decode cX8_turn 261 = .ok (.iload_n 1, 1) := by decide +kernel
theorem dX8_turn_262 : decode cX8_turn 262 = .ok (.i2l, 1) := by decide +kernel
theorem dX8_turn_263 : decode cX8_turn 263 = .ok (.lload 7, 2) := by decide +kernel
theorem dX8_turn_265 : decode cX8_turn 265 = .ok (.invokestatic 265, 3) := by decide +kernel
theorem dX8_turn_268 : decode cX8_turn 268 = .ok (.lstore 9, 2) := by decide +kernel
theorem dX8_turn_270 : decode cX8_turn 270 = .ok (.iload 4, 2) := by decide +kernel
theorem dX8_turn_272 : decode cX8_turn 272 = .ok (.ifCond .eq 21, 3) := by decide +kernel
theorem dX8_turn_275 : decode cX8_turn 275 = .ok (.lload 9, 2) := by decide +kernel
theorem dX8_turn_277 : decode cX8_turn 277 = .ok (.aload_n 0, 1) := by decide +kernel
theorem dX8_turn_278 : decode cX8_turn 278 = .ok (.getfield 7, 3) := by decide +kernel
theorem dX8_turn_281 : decode cX8_turn 281 = .ok (.bipush 56, 2) := by decide +kernel
theorem dX8_turn_283 : decode cX8_turn 283 = .ok (.iaload, 1) := by decide +kernel
theorem dX8_turn_284 : decode cX8_turn 284 = .ok (.i2l, 1) := by decide +kernel
theorem dX8_turn_285 : decode cX8_turn 285 = .ok (.lcmp, 1) := by decide +kernel
theorem dX8_turn_286 : decode cX8_turn 286 = .ok (.ifCond .ne 7, 3) := by decide +kernel
theorem dX8_turn_289 : decode cX8_turn 289 = .ok (.iconst 1, 1) := by decide +kernel
theorem dX8_turn_290 : decode cX8_turn 290 = .ok (.goto 4, 3) := by decide +kernel
theorem dX8_turn_293 : decode cX8_turn 293 = .ok (.iconst 0, 1) := by decide +kernel
theorem dX8_turn_294 : decode cX8_turn 294 = .ok (.istore 4, 2) := by decide +kernel
theorem dX8_turn_296 : decode cX8_turn 296 = .ok (.aload_n 0, 1) := by decide +kernel
theorem dX8_turn_297 : decode cX8_turn 297 = .ok (.getfield 7, 3) := by decide +kernel
theorem dX8_turn_300 : decode cX8_turn 300 = .ok (.bipush 56, 2) := by decide +kernel
theorem dX8_turn_302 : decode cX8_turn 302 = .ok (.lload 9, 2) := by decide +kernel
theorem dX8_turn_304 : decode cX8_turn 304 = .ok (.ldc2_w 131, 3) := by decide +kernel
theorem dX8_turn_307 : decode cX8_turn 307 = .ok (.invokestatic 261, 3) := by decide +kernel
theorem dX8_turn_310 : decode cX8_turn 310 = .ok (.l2i, 1) := by decide +kernel
theorem dX8_turn_311 : decode cX8_turn 311 = .ok (.iastore, 1) := by decide +kernel
theorem dX8_turn_312 : decode cX8_turn 312 = .ok (.lload 5, 2) := by decide +kernel
theorem dX8_turn_314 : decode cX8_turn 314 = .ok (.lload 9, 2) := by decide +kernel
theorem dX8_turn_316 : decode cX8_turn 316 = .ok (.ladd, 1) := by decide +kernel
theorem dX8_turn_317 : decode cX8_turn 317 = .ok (.ldc2_w 131, 3) := by decide +kernel
theorem dX8_turn_320 : decode cX8_turn 320 = .ok (.lcmp, 1) := by decide +kernel
theorem dX8_turn_321 : decode cX8_turn 321 = .ok (.ifCond .le 8, 3) := by decide +kernel
theorem dX8_turn_324 : decode cX8_turn 324 = .ok (.bipush (-9), 2) := by decide +kernel
theorem dX8_turn_326 : decode cX8_turn 326 = .ok (.goto 13, 3) := by decide +kernel
theorem dX8_turn_329 : decode cX8_turn 329 = .ok (.iload 4, 2) := by decide +kernel
theorem dX8_turn_331 : decode cX8_turn 331 = .ok (.ifCond .eq 7, 3) := by decide +kernel
theorem dX8_turn_334 : decode cX8_turn 334 = .ok (.iconst 1, 1) := by decide +kernel
theorem dX8_turn_335 : decode cX8_turn 335 = .ok (.goto 4, 3) := by decide +kernel
theorem dX8_turn_338 : decode cX8_turn 338 = .ok (.iconst 0, 1) := by decide +kernel
theorem dX8_turn_339 : decode cX8_turn 339 = .ok (.ireturn, 1) := by decide +kernel
theorem dX8_reckons_0 : decode cX8_reckons 0 = .ok (.aload_n 0, 1) := by decide +kernel
theorem dX8_reckons_1 : decode cX8_reckons 1 = .ok (.getfield 7, 3) := by decide +kernel
theorem dX8_reckons_4 : decode cX8_reckons 4 = .ok (.bipush 57, 2) := by decide +kernel
theorem dX8_reckons_6 : decode cX8_reckons 6 = .ok (.iaload, 1) := by decide +kernel
theorem dX8_reckons_7 : decode cX8_reckons 7 = .ok (.bipush 6, 2) := by decide +kernel
theorem dX8_reckons_9 : decode cX8_reckons 9 = .ok (.if_icmp .ne 6, 3) := by decide +kernel
theorem dX8_reckons_12 : decode cX8_reckons 12 = .ok (.bipush (-2), 2) := by decide +kernel
theorem dX8_reckons_14 : decode cX8_reckons 14 = .ok (.ireturn, 1) := by decide +kernel
theorem dX8_reckons_15 : decode cX8_reckons 15 = .ok (.aload_n 0, 1) := by decide +kernel
theorem dX8_reckons_16 : decode cX8_reckons 16 = .ok (.iconst 1, 1) := by decide +kernel
theorem dX8_reckons_17 : decode cX8_reckons 17 = .ok (.invokevirtual 283, 3) := by decide +kernel
theorem dX8_reckons_20 : decode cX8_reckons 20 = .ok (.aload_n 0, 1) := by decide +kernel
theorem dX8_reckons_21 : decode cX8_reckons 21 = .ok (.aload_n 0, 1) := by decide +kernel
theorem dX8_reckons_22 : decode cX8_reckons 22 = .ok (.invokevirtual 143, 3) := by decide +kernel
theorem dX8_reckons_25 : decode cX8_reckons 25 = .ok (.putfield 254, 3) := by decide +kernel
theorem dX8_reckons_28 : decode cX8_reckons 28 = .ok (.aload_n 0, 1) := by decide +kernel
theorem dX8_reckons_29 : decode cX8_reckons 29 = .ok (.aload_n 0, 1) := by decide +kernel
theorem dX8_reckons_30 : decode cX8_reckons 30 = .ok (.invokevirtual 92, 3) := by decide +kernel
theorem dX8_reckons_33 : decode cX8_reckons 33 = .ok (.putfield 252, 3) := by decide +kernel
theorem dX8_reckons_36 : decode cX8_reckons 36 = .ok (.iconst 1, 1) := by decide +kernel
theorem dX8_reckons_37 : decode cX8_reckons 37 = .ok (.istore_n 1, 1) := by decide +kernel
theorem dX8_reckons_38 : decode cX8_reckons 38 = .ok (.iload_n 1, 1) := by decide +kernel
theorem dX8_reckons_39 : decode cX8_reckons 39 = .ok (.aload_n 0, 1) := by decide +kernel
theorem dX8_reckons_40 : decode cX8_reckons 40 = .ok (.getfield 7, 3) := by decide +kernel
theorem dX8_reckons_43 : decode cX8_reckons 43 = .ok (.bipush 57, 2) := by decide +kernel
theorem dX8_reckons_45 : decode cX8_reckons 45 = .ok (.iaload, 1) := by decide +kernel
theorem dX8_reckons_46 : decode cX8_reckons 46 = .ok (.if_icmp .ge 25, 3) := by decide +kernel
theorem dX8_reckons_49 : decode cX8_reckons 49 = .ok (.aload_n 0, 1) := by decide +kernel
theorem dX8_reckons_50 : decode cX8_reckons 50 = .ok (.getfield 30, 3) := by decide +kernel
theorem dX8_reckons_53 : decode cX8_reckons 53 = .ok (.iload_n 1, 1) := by decide +kernel
theorem dX8_reckons_54 : decode cX8_reckons 54 = .ok (.aload_n 0, 1) := by decide +kernel
theorem dX8_reckons_55 : decode cX8_reckons 55 = .ok (.getfield 7, 3) := by decide +kernel
theorem dX8_reckons_58 : decode cX8_reckons 58 = .ok (.bipush 64, 2) := by decide +kernel
theorem dX8_reckons_60 : decode cX8_reckons 60 = .ok (.iload_n 1, 1) := by decide +kernel
theorem dX8_reckons_61 : decode cX8_reckons 61 = .ok (.iadd, 1) := by decide +kernel
theorem dX8_reckons_62 : decode cX8_reckons 62 = .ok (.iaload, 1) := by decide +kernel
theorem dX8_reckons_63 : decode cX8_reckons 63 = .ok (.i2l, 1) := by decide +kernel
theorem dX8_reckons_64 : decode cX8_reckons 64 = .ok (.lastore, 1) := by decide +kernel
theorem dX8_reckons_65 : decode cX8_reckons 65 = .ok (.iinc 1 1, 3) := by decide +kernel
theorem dX8_reckons_68 : decode cX8_reckons 68 = .ok (.goto (-30), 3) := by decide +kernel
theorem dX8_reckons_71 : decode cX8_reckons 71 = .ok (.aload_n 0, 1) := by decide +kernel
theorem dX8_reckons_72 : decode cX8_reckons 72 = .ok (.getfield 7, 3) := by decide +kernel
theorem dX8_reckons_75 : decode cX8_reckons 75 = .ok (.bipush 56, 2) := by decide +kernel
theorem dX8_reckons_77 : decode cX8_reckons 77 = .ok (.iaload, 1) := by decide +kernel
theorem dX8_reckons_78 : decode cX8_reckons 78 = .ok (.istore_n 1, 1) := by decide +kernel
theorem dX8_reckons_79 : decode cX8_reckons 79 = .ok (.aload_n 0, 1) := by decide +kernel
theorem dX8_reckons_80 : decode cX8_reckons 80 = .ok (.iconst 0, 1) := by decide +kernel
theorem dX8_reckons_81 : decode cX8_reckons 81 = .ok (.putfield 287, 3) := by decide +kernel
theorem dX8_reckons_84 : decode cX8_reckons 84 = .ok (.iconst 0, 1) := by decide +kernel
theorem dX8_reckons_85 : decode cX8_reckons 85 = .ok (.istore_n 2, 1) := by decide +kernel
theorem dX8_reckons_86 : decode cX8_reckons 86 = .ok (.iload_n 2, 1) := by decide +kernel
theorem dX8_reckons_87 : decode cX8_reckons 87 = .ok (.ifCond .ne 35, 3) := by decide +kernel
theorem dX8_reckons_90 : decode cX8_reckons 90 = .ok (.aload_n 0, 1) := by decide +kernel
theorem dX8_reckons_91 : decode cX8_reckons 91 = .ok (.getfield 287, 3) := by decide +kernel
theorem dX8_reckons_94 : decode cX8_reckons 94 = .ok (.sipush 200, 3) := by decide +kernel
theorem dX8_reckons_97 : decode cX8_reckons 97 = .ok (.if_icmp .ne 6, 3) := by decide +kernel
theorem dX8_reckons_100 : decode cX8_reckons 100 = .ok (.bipush (-4), 2) := by decide +kernel
theorem dX8_reckons_102 : decode cX8_reckons 102 = .ok (.ireturn, 1) := by decide +kernel
theorem dX8_reckons_103 : decode cX8_reckons 103 = .ok (.aload_n 0, 1) := by decide +kernel
theorem dX8_reckons_104 : decode cX8_reckons 104 = .ok (.iload_n 1, 1) := by decide +kernel
theorem dX8_reckons_105 : decode cX8_reckons 105 = .ok (.invokevirtual 290, 3) := by decide +kernel
theorem dX8_reckons_108 : decode cX8_reckons 108 = .ok (.istore_n 2, 1) := by decide +kernel
theorem dX8_reckons_109 : decode cX8_reckons 109 = .ok (.aload_n 0, 1) := by decide +kernel
theorem dX8_reckons_110 : decode cX8_reckons 110 = .ok (.dup, 1) := by decide +kernel
theorem dX8_reckons_111 : decode cX8_reckons 111 = .ok (.getfield 287, 3) := by decide +kernel
theorem dX8_reckons_114 : decode cX8_reckons 114 = .ok (.iconst 1, 1) := by decide +kernel
theorem dX8_reckons_115 : decode cX8_reckons 115 = .ok (.iadd, 1) := by decide +kernel
theorem dX8_reckons_116 : decode cX8_reckons 116 = .ok (.putfield 287, 3) := by decide +kernel
theorem dX8_reckons_119 : decode cX8_reckons 119 = .ok (.goto (-33), 3) := by decide +kernel
theorem dX8_reckons_122 : decode cX8_reckons 122 = .ok (.iload_n 2, 1) := by decide +kernel
theorem dX8_reckons_123 : decode cX8_reckons 123 = .ok (.ifCond .ge 5, 3) := by decide +kernel
theorem dX8_reckons_126 : decode cX8_reckons 126 = .ok (.iload_n 2, 1) := by decide +kernel
theorem dX8_reckons_127 : decode cX8_reckons 127 = .ok (.ireturn, 1) := by decide +kernel
theorem dX8_reckons_128 : decode cX8_reckons 128 = .ok (.aload_n 0, 1) := by decide +kernel
theorem dX8_reckons_129 : decode cX8_reckons 129 = .ok (.getfield 7, 3) := by decide +kernel
theorem dX8_reckons_132 : decode cX8_reckons 132 = .ok (.bipush 57, 2) := by decide +kernel
theorem dX8_reckons_134 : decode cX8_reckons 134 = .ok (.iaload, 1) := by decide +kernel
theorem dX8_reckons_135 : decode cX8_reckons 135 = .ok (.istore_n 3, 1) := by decide +kernel
theorem dX8_reckons_136 : decode cX8_reckons 136 = .ok (.aload_n 0, 1) := by decide +kernel
theorem dX8_reckons_137 : decode cX8_reckons 137 = .ok (.getfield 7, 3) := by decide +kernel
theorem dX8_reckons_140 : decode cX8_reckons 140 = .ok (.bipush 57, 2) := by decide +kernel
theorem dX8_reckons_142 : decode cX8_reckons 142 = .ok (.dup2, 1) := by decide +kernel
theorem dX8_reckons_143 : decode cX8_reckons 143 = .ok (.iaload, 1) := by decide +kernel
theorem dX8_reckons_144 : decode cX8_reckons 144 = .ok (.iconst 1, 1) := by decide +kernel
theorem dX8_reckons_145 : decode cX8_reckons 145 = .ok (.iadd, 1) := by decide +kernel
theorem dX8_reckons_146 : decode cX8_reckons 146 = .ok (.iastore, 1) := by decide +kernel
theorem dX8_reckons_147 : decode cX8_reckons 147 = .ok (.iconst 0, 1) := by decide +kernel
theorem dX8_reckons_148 : decode cX8_reckons 148 = .ok (.istore 4, 2) := by decide +kernel
theorem dX8_reckons_150 : decode cX8_reckons 150 = .ok (.iload 4, 2) := by decide +kernel
theorem dX8_reckons_152 : decode cX8_reckons 152 = .ok (.bipush 8, 2) := by decide +kernel
theorem dX8_reckons_154 : decode cX8_reckons 154 = .ok (.if_icmp .ge 56, 3) := by decide +kernel
theorem dX8_reckons_157 : decode cX8_reckons 157 = .ok (.aload_n 0, 1) := by decide +kernel
theorem dX8_reckons_158 : decode cX8_reckons 158 = .ok (.iload 4, 2) := by decide +kernel
theorem dX8_reckons_160 : decode cX8_reckons 160 = .ok (.iload_n 3, 1) := by decide +kernel
theorem dX8_reckons_161 : decode cX8_reckons 161 = .ok (.ldc2_w 267, 3) := by decide +kernel
theorem dX8_reckons_164 : decode cX8_reckons 164 = .ok (.aload_n 0, 1) := by decide +kernel
theorem dX8_reckons_165 : decode cX8_reckons 165 = .ok (.getfield 27, 3) := by decide +kernel
theorem dX8_reckons_168 : decode cX8_reckons 168 = .ok (.iload 4, 2) := by decide +kernel
theorem dX8_reckons_170 : decode cX8_reckons 170 = .ok (.iaload, 1) := by decide +kernel
theorem dX8_reckons_171 : decode cX8_reckons 171 = .ok (.i2l, 1) := by decide +kernel
theorem dX8_reckons_172 : decode cX8_reckons 172 = .ok (.lmul, 1) := by decide +kernel
theorem dX8_reckons_173 : decode cX8_reckons 173 = .ok (.aload_n 0, 1) := by decide +kernel
theorem dX8_reckons_174 : decode cX8_reckons 174 = .ok (.getfield 269, 3) := by decide +kernel
theorem dX8_reckons_177 : decode cX8_reckons 177 = .ok (.ldiv, 1) := by decide +kernel
theorem dX8_reckons_178 : decode cX8_reckons 178 = .ok (.l2i, 1) := by decide +kernel
theorem dX8_reckons_179 : decode cX8_reckons 179 = .ok (.invokevirtual 136, 3) := by decide +kernel
theorem dX8_reckons_182 : decode cX8_reckons 182 = .ok (.aload_n 0, 1) := by decide +kernel
theorem dX8_reckons_183 : decode cX8_reckons 183 = .ok (.getfield 7, 3) := by decide +kernel
theorem dX8_reckons_186 : decode cX8_reckons 186 = .ok (.bipush 124, 2) := by decide +kernel
theorem dX8_reckons_188 : decode cX8_reckons 188 = .ok (.bipush 6, 2) := by decide +kernel
theorem dX8_reckons_190 : decode cX8_reckons 190 = .ok (.iload 4, 2) := by decide +kernel
theorem dX8_reckons_192 : decode cX8_reckons 192 = .ok (.imul, 1) := by decide +kernel
theorem dX8_reckons_193 : decode cX8_reckons 193 = .ok (.iadd, 1) := by decide +kernel
theorem dX8_reckons_194 : decode cX8_reckons 194 = .ok (.iload_n 3, 1) := by decide +kernel
theorem dX8_reckons_195 : decode cX8_reckons 195 = .ok (.iadd, 1) := by decide +kernel
theorem dX8_reckons_196 : decode cX8_reckons 196 = .ok (.aload_n 0, 1) := by decide +kernel
theorem dX8_reckons_197 : decode cX8_reckons 197 = .ok (.getfield 27, 3) := by decide +kernel
theorem dX8_reckons_200 : decode cX8_reckons 200 = .ok (.iload 4, 2) := by decide +kernel
theorem dX8_reckons_202 : decode cX8_reckons 202 = .ok (.iaload, 1) := by decide +kernel
theorem dX8_reckons_203 : decode cX8_reckons 203 = .ok (.iastore, 1) := by decide +kernel
theorem dX8_reckons_204 : decode cX8_reckons 204 = .ok (.iinc 4 1, 3) := by decide +kernel
theorem dX8_reckons_207 : decode cX8_reckons 207 = .ok (.goto (-57), 3) := by decide +kernel
theorem dX8_reckons_210 : decode cX8_reckons 210 = .ok (.aload_n 0, 1) := by decide +kernel
theorem dX8_reckons_211 : decode cX8_reckons 211 = .ok (.getfield 7, 3) := by decide +kernel
theorem dX8_reckons_214 : decode cX8_reckons 214 = .ok (.bipush 58, 2) := by decide +kernel
theorem dX8_reckons_216 : decode cX8_reckons 216 = .ok (.iload_n 3, 1) := by decide +kernel
theorem dX8_reckons_217 : decode cX8_reckons 217 = .ok (.iadd, 1) := by decide +kernel
theorem dX8_reckons_218 : decode cX8_reckons 218 = .ok (.aload_n 0, 1) := by decide +kernel
theorem dX8_reckons_219 : decode cX8_reckons 219 = .ok (.getfield 269, 3) := by decide +kernel
theorem dX8_reckons_222 : decode cX8_reckons 222 = .ok (.l2i, 1) := by decide +kernel
theorem dX8_reckons_223 : decode cX8_reckons 223 = .ok (.iastore, 1) := by decide +kernel
theorem dX8_reckons_224 : decode cX8_reckons 224 = .ok (.aload_n 0, 1) := by decide +kernel
theorem dX8_reckons_225 : decode cX8_reckons 225 = .ok (.getfield 7, 3) := by decide +kernel
theorem dX8_reckons_228 : decode cX8_reckons 228 = .ok (.bipush 64, 2) := by decide +kernel
theorem dX8_reckons_230 : decode cX8_reckons 230 = .ok (.iload_n 3, 1) := by decide +kernel
theorem dX8_reckons_231 : decode cX8_reckons 231 = .ok (.iadd, 1) := by decide +kernel
theorem dX8_reckons_232 : decode cX8_reckons 232 = .ok (.aload_n 0, 1) := by decide +kernel
theorem dX8_reckons_233 : decode cX8_reckons 233 = .ok (.getfield 269, 3) := by decide +kernel
theorem dX8_reckons_236 : decode cX8_reckons 236 = .ok (.l2i, 1) := by decide +kernel
theorem dX8_reckons_237 : decode cX8_reckons 237 = .ok (.iastore, 1) := by decide +kernel
theorem dX8_reckons_238 : decode cX8_reckons 238 = .ok (.aload_n 0, 1) := by decide +kernel
theorem dX8_reckons_239 : decode cX8_reckons 239 = .ok (.getfield 7, 3) := by decide +kernel
theorem dX8_reckons_242 : decode cX8_reckons 242 = .ok (.bipush 70, 2) := by decide +kernel
theorem dX8_reckons_244 : decode cX8_reckons 244 = .ok (.iload_n 3, 1) := by decide +kernel
theorem dX8_reckons_245 : decode cX8_reckons 245 = .ok (.iadd, 1) := by decide +kernel
theorem dX8_reckons_246 : decode cX8_reckons 246 = .ok (.aload_n 0, 1) := by decide +kernel
theorem dX8_reckons_247 : decode cX8_reckons 247 = .ok (.getfield 217, 3) := by decide +kernel
theorem dX8_reckons_250 : decode cX8_reckons 250 = .ok (.iastore, 1) := by decide +kernel
theorem dX8_reckons_251 : decode cX8_reckons 251 = .ok (.aload_n 0, 1) := by decide +kernel
theorem dX8_reckons_252 : decode cX8_reckons 252 = .ok (.getfield 7, 3) := by decide +kernel
theorem dX8_reckons_255 : decode cX8_reckons 255 = .ok (.bipush 76, 2) := by decide +kernel
theorem dX8_reckons_257 : decode cX8_reckons 257 = .ok (.iload_n 3, 1) := by decide +kernel
theorem dX8_reckons_258 : decode cX8_reckons 258 = .ok (.iadd, 1) := by decide +kernel
theorem dX8_reckons_259 : decode cX8_reckons 259 = .ok (.aload_n 0, 1) := by decide +kernel
theorem dX8_reckons_260 : decode cX8_reckons 260 = .ok (.getfield 220, 3) := by decide +kernel
theorem dX8_reckons_263 : decode cX8_reckons 263 = .ok (.iastore, 1) := by decide +kernel
theorem dX8_reckons_264 : decode cX8_reckons 264 = .ok (.aload_n 0, 1) := by decide +kernel
theorem dX8_reckons_265 : decode cX8_reckons 265 = .ok (.getfield 7, 3) := by decide +kernel
theorem dX8_reckons_268 : decode cX8_reckons 268 = .ok (.bipush 82, 2) := by decide +kernel
theorem dX8_reckons_270 : decode cX8_reckons 270 = .ok (.iload_n 3, 1) := by decide +kernel
theorem dX8_reckons_271 : decode cX8_reckons 271 = .ok (.iadd, 1) := by decide +kernel
theorem dX8_reckons_272 : decode cX8_reckons 272 = .ok (.aload_n 0, 1) := by decide +kernel
theorem dX8_reckons_273 : decode cX8_reckons 273 = .ok (.getfield 222, 3) := by decide +kernel
theorem dX8_reckons_276 : decode cX8_reckons 276 = .ok (.iastore, 1) := by decide +kernel
theorem dX8_reckons_277 : decode cX8_reckons 277 = .ok (.aload_n 0, 1) := by decide +kernel
theorem dX8_reckons_278 : decode cX8_reckons 278 = .ok (.getfield 7, 3) := by decide +kernel
theorem dX8_reckons_281 : decode cX8_reckons 281 = .ok (.bipush 88, 2) := by decide +kernel
theorem dX8_reckons_283 : decode cX8_reckons 283 = .ok (.iload_n 3, 1) := by decide +kernel
theorem dX8_reckons_284 : decode cX8_reckons 284 = .ok (.iadd, 1) := by decide +kernel
theorem dX8_reckons_285 : decode cX8_reckons 285 = .ok (.aload_n 0, 1) := by decide +kernel
theorem dX8_reckons_286 : decode cX8_reckons 286 = .ok (.getfield 224, 3) := by decide +kernel
theorem dX8_reckons_289 : decode cX8_reckons 289 = .ok (.iastore, 1) := by decide +kernel
theorem dX8_reckons_290 : decode cX8_reckons 290 = .ok (.aload_n 0, 1) := by decide +kernel
theorem dX8_reckons_291 : decode cX8_reckons 291 = .ok (.getfield 7, 3) := by decide +kernel
theorem dX8_reckons_294 : decode cX8_reckons 294 = .ok (.bipush 94, 2) := by decide +kernel
theorem dX8_reckons_296 : decode cX8_reckons 296 = .ok (.iconst 5, 1) := by decide +kernel
theorem dX8_reckons_297 : decode cX8_reckons 297 = .ok (.iload_n 3, 1) := by decide +kernel
theorem dX8_reckons_298 : decode cX8_reckons 298 = .ok (.imul, 1) := by decide +kernel
theorem dX8_reckons_299 : decode cX8_reckons 299 = .ok (.iadd, 1) := by decide +kernel
theorem dX8_reckons_300 : decode cX8_reckons 300 = .ok (.aload_n 0, 1) := by decide +kernel
theorem dX8_reckons_301 : decode cX8_reckons 301 = .ok (.getfield 207, 3) := by decide +kernel
theorem dX8_reckons_304 : decode cX8_reckons 304 = .ok (.iastore, 1) := by decide +kernel
theorem dX8_reckons_305 : decode cX8_reckons 305 = .ok (.aload_n 0, 1) := by decide +kernel
theorem dX8_reckons_306 : decode cX8_reckons 306 = .ok (.getfield 7, 3) := by decide +kernel
theorem dX8_reckons_309 : decode cX8_reckons 309 = .ok (.bipush 94, 2) := by decide +kernel
theorem dX8_reckons_311 : decode cX8_reckons 311 = .ok (.iconst 5, 1) := by decide +kernel
theorem dX8_reckons_312 : decode cX8_reckons 312 = .ok (.iload_n 3, 1) := by decide +kernel
theorem dX8_reckons_313 : decode cX8_reckons 313 = .ok (.imul, 1) := by decide +kernel
theorem dX8_reckons_314 : decode cX8_reckons 314 = .ok (.iadd, 1) := by decide +kernel
theorem dX8_reckons_315 : decode cX8_reckons 315 = .ok (.iconst 1, 1) := by decide +kernel
theorem dX8_reckons_316 : decode cX8_reckons 316 = .ok (.iadd, 1) := by decide +kernel
theorem dX8_reckons_317 : decode cX8_reckons 317 = .ok (.aload_n 0, 1) := by decide +kernel
theorem dX8_reckons_318 : decode cX8_reckons 318 = .ok (.getfield 239, 3) := by decide +kernel
theorem dX8_reckons_321 : decode cX8_reckons 321 = .ok (.l2i, 1) := by decide +kernel
theorem dX8_reckons_322 : decode cX8_reckons 322 = .ok (.iastore, 1) := by decide +kernel
theorem dX8_reckons_323 : decode cX8_reckons 323 = .ok (.aload_n 0, 1) := by decide +kernel
theorem dX8_reckons_324 : decode cX8_reckons 324 = .ok (.getfield 7, 3) := by decide +kernel
theorem dX8_reckons_327 : decode cX8_reckons 327 = .ok (.bipush 94, 2) := by decide +kernel
theorem dX8_reckons_329 : decode cX8_reckons 329 = .ok (.iconst 5, 1) := by decide +kernel
theorem dX8_reckons_330 : decode cX8_reckons 330 = .ok (.iload_n 3, 1) := by decide +kernel
theorem dX8_reckons_331 : decode cX8_reckons 331 = .ok (.imul, 1) := by decide +kernel
theorem dX8_reckons_332 : decode cX8_reckons 332 = .ok (.iadd, 1) := by decide +kernel
theorem dX8_reckons_333 : decode cX8_reckons 333 = .ok (.iconst 2, 1) := by decide +kernel
theorem dX8_reckons_334 : decode cX8_reckons 334 = .ok (.iadd, 1) := by decide +kernel
theorem dX8_reckons_335 : decode cX8_reckons 335 = .ok (.aload_n 0, 1) := by decide +kernel
theorem dX8_reckons_336 : decode cX8_reckons 336 = .ok (.getfield 272, 3) := by decide +kernel
theorem dX8_reckons_339 : decode cX8_reckons 339 = .ok (.l2i, 1) := by decide +kernel
theorem dX8_reckons_340 : decode cX8_reckons 340 = .ok (.iastore, 1) := by decide +kernel
theorem dX8_reckons_341 : decode cX8_reckons 341 = .ok (.aload_n 0, 1) := by decide +kernel
theorem dX8_reckons_342 : decode cX8_reckons 342 = .ok (.getfield 7, 3) := by decide +kernel
theorem dX8_reckons_345 : decode cX8_reckons 345 = .ok (.bipush 94, 2) := by decide +kernel
theorem dX8_reckons_347 : decode cX8_reckons 347 = .ok (.iconst 5, 1) := by decide +kernel
theorem dX8_reckons_348 : decode cX8_reckons 348 = .ok (.iload_n 3, 1) := by decide +kernel
theorem dX8_reckons_349 : decode cX8_reckons 349 = .ok (.imul, 1) := by decide +kernel
theorem dX8_reckons_350 : decode cX8_reckons 350 = .ok (.iadd, 1) := by decide +kernel
theorem dX8_reckons_351 : decode cX8_reckons 351 = .ok (.iconst 3, 1) := by decide +kernel
theorem dX8_reckons_352 : decode cX8_reckons 352 = .ok (.iadd, 1) := by decide +kernel
theorem dX8_reckons_353 : decode cX8_reckons 353 = .ok (.aload_n 0, 1) := by decide +kernel
theorem dX8_reckons_354 : decode cX8_reckons 354 = .ok (.getfield 287, 3) := by decide +kernel
theorem dX8_reckons_357 : decode cX8_reckons 357 = .ok (.iastore, 1) := by decide +kernel
theorem dX8_reckons_358 : decode cX8_reckons 358 = .ok (.aload_n 0, 1) := by decide +kernel
theorem dX8_reckons_359 : decode cX8_reckons 359 = .ok (.getfield 7, 3) := by decide +kernel
theorem dX8_reckons_362 : decode cX8_reckons 362 = .ok (.bipush 94, 2) := by decide +kernel
theorem dX8_reckons_364 : decode cX8_reckons 364 = .ok (.iconst 5, 1) := by decide +kernel
theorem dX8_reckons_365 : decode cX8_reckons 365 = .ok (.iload_n 3, 1) := by decide +kernel
theorem dX8_reckons_366 : decode cX8_reckons 366 = .ok (.imul, 1) := by decide +kernel
theorem dX8_reckons_367 : decode cX8_reckons 367 = .ok (.iadd, 1) := by decide +kernel
theorem dX8_reckons_368 : decode cX8_reckons 368 = .ok (.iconst 4, 1) := by decide +kernel
theorem dX8_reckons_369 : decode cX8_reckons 369 = .ok (.iadd, 1) := by decide +kernel
theorem dX8_reckons_370 : decode cX8_reckons 370 = .ok (.aload_n 0, 1) := by decide +kernel
theorem dX8_reckons_371 : decode cX8_reckons 371 = .ok (.invokevirtual 143, 3) := by decide +kernel
theorem dX8_reckons_374 : decode cX8_reckons 374 = .ok (.l2i, 1) := by decide +kernel
theorem dX8_reckons_375 : decode cX8_reckons 375 = .ok (.iastore, 1) := by decide +kernel
theorem dX8_reckons_376 : decode cX8_reckons 376 = .ok (.iconst 0, 1) := by decide +kernel
theorem dX8_reckons_377 : decode cX8_reckons 377 = .ok (.ireturn, 1) := by decide +kernel
theorem dX8_round_0 : decode cX8_round 0 = .ok (.aload_n 0, 1) := by decide +kernel
theorem dX8_round_1 : decode cX8_round 1 = .ok (.iconst 0, 1) := by decide +kernel
theorem dX8_round_2 : decode cX8_round 2 = .ok (.putfield 48, 3) := by decide +kernel
theorem dX8_round_5 : decode cX8_round 5 = .ok (.aload_n 0, 1) := by decide +kernel
theorem dX8_round_6 : decode cX8_round 6 = .ok (.invokevirtual 293, 3) := by decide +kernel
theorem dX8_round_9 : decode cX8_round 9 = .ok (.aload_n 0, 1) := by decide +kernel
theorem dX8_round_10 : decode cX8_round 10 = .ok (.getfield 105, 3) := by decide +kernel
theorem dX8_round_13 : decode cX8_round 13 = .ok (.iconst (-1), 1) := by decide +kernel
theorem dX8_round_14 : decode cX8_round 14 = .ok (.if_icmp .eq 11, 3) := by decide +kernel
theorem dX8_round_17 : decode cX8_round 17 = .ok (.bipush (-21), 2) := by decide +kernel
theorem dX8_round_19 : decode cX8_round 19 = .ok (.aload_n 0, 1) := by decide +kernel
theorem dX8_round_20 : decode cX8_round 20 = .ok (.getfield 105, 3) := by decide +kernel
theorem dX8_round_23 : decode cX8_round 23 = .ok (.isub, 1) := by decide +kernel
theorem dX8_round_24 : decode cX8_round 24 = .ok (.ireturn, 1) := by decide +kernel
theorem dX8_round_25 : decode cX8_round 25 = .ok (.aload_n 0, 1) := by decide +kernel
theorem dX8_round_26 : decode cX8_round 26 = .ok (.invokevirtual 68, 3) := by decide +kernel
theorem dX8_round_29 : decode cX8_round 29 = .ok (.aload_n 0, 1) := by decide +kernel
theorem dX8_round_30 : decode cX8_round 30 = .ok (.invokevirtual 296, 3) := by decide +kernel
theorem dX8_round_33 : decode cX8_round 33 = .ok (.istore_n 1, 1) := by decide +kernel
theorem dX8_round_34 : decode cX8_round 34 = .ok (.iload_n 1, 1) := by decide +kernel
theorem dX8_round_35 : decode cX8_round 35 = .ok (.ifCond .ge 9, 3) := by decide +kernel
theorem dX8_round_38 : decode cX8_round 38 = .ok (.aload_n 0, 1) := by decide +kernel
theorem dX8_round_39 : decode cX8_round 39 = .ok (.invokevirtual 146, 3) := by decide +kernel
theorem dX8_round_42 : decode cX8_round 42 = .ok (.iload_n 1, 1) := by decide +kernel
theorem dX8_round_43 : decode cX8_round 43 = .ok (.ireturn, 1) := by decide +kernel
theorem dX8_round_44 : decode cX8_round 44 = .ok (.aload_n 0, 1) := by decide +kernel
theorem dX8_round_45 : decode cX8_round 45 = .ok (.invokevirtual 71, 3) := by decide +kernel
theorem dX8_round_48 : decode cX8_round 48 = .ok (.aload_n 0, 1) := by decide +kernel
theorem dX8_round_49 : decode cX8_round 49 = .ok (.iconst 0, 1) := by decide +kernel
theorem dX8_round_50 : decode cX8_round 50 = .ok (.putfield 52, 3) := by decide +kernel
theorem dX8_round_53 : decode cX8_round 53 = .ok (.aload_n 0, 1) := by decide +kernel
theorem dX8_round_54 : decode cX8_round 54 = .ok (.aload_n 0, 1) := by decide +kernel
theorem dX8_round_55 : decode cX8_round 55 = .ok (.getfield 272, 3) := by decide +kernel
theorem dX8_round_58 : decode cX8_round 58 = .ok (.invokevirtual 299, 3) := by decide +kernel
theorem dX8_round_61 : decode cX8_round 61 = .ok (.aload_n 0, 1) := by decide +kernel
theorem dX8_round_62 : decode cX8_round 62 = .ok (.aload_n 0, 1) := by decide +kernel
theorem dX8_round_63 : decode cX8_round 63 = .ok (.getfield 287, 3) := by decide +kernel
theorem dX8_round_66 : decode cX8_round 66 = .ok (.i2l, 1) := by decide +kernel
theorem dX8_round_67 : decode cX8_round 67 = .ok (.invokevirtual 299, 3) := by decide +kernel
theorem dX8_round_70 : decode cX8_round 70 = .ok (.aload_n 0, 1) := by decide +kernel
theorem dX8_round_71 : decode cX8_round 71 = .ok (.aload_n 0, 1) := by decide +kernel
theorem dX8_round_72 : decode cX8_round 72 = .ok (.invokevirtual 143, 3) := by decide +kernel
theorem dX8_round_75 : decode cX8_round 75 = .ok (.invokevirtual 299, 3) := by decide +kernel
theorem dX8_round_78 : decode cX8_round 78 = .ok (.aload_n 0, 1) := by decide +kernel
theorem dX8_round_79 : decode cX8_round 79 = .ok (.getfield 269, 3) := by decide +kernel
theorem dX8_round_82 : decode cX8_round 82 = .ok (.l2i, 1) := by decide +kernel
theorem dX8_round_83 : decode cX8_round 83 = .ok (.ireturn, 1) := by decide +kernel
theorem dX8_lays_0 : decode cX8_lays 0 = .ok (.iconst 0, 1) := by decide +kernel
theorem dX8_lays_1 : decode cX8_lays 1 = .ok (.istore_n 1, 1) := by decide +kernel
theorem dX8_lays_2 : decode cX8_lays 2 = .ok (.iload_n 1, 1) := by decide +kernel
theorem dX8_lays_3 : decode cX8_lays 3 = .ok (.sipush 172, 3) := by decide +kernel
theorem dX8_lays_6 : decode cX8_lays 6 = .ok (.if_icmp .ge 21, 3) := by decide +kernel
theorem dX8_lays_9 : decode cX8_lays 9 = .ok (.aload_n 0, 1) := by decide +kernel
theorem dX8_lays_10 : decode cX8_lays 10 = .ok (.getfield 39, 3) := by decide +kernel
theorem dX8_lays_13 : decode cX8_lays 13 = .ok (.iload_n 1, 1) := by decide +kernel
theorem dX8_lays_14 : decode cX8_lays 14 = .ok (.aload_n 0, 1) := by decide +kernel
theorem dX8_lays_15 : decode cX8_lays 15 = .ok (.getfield 7, 3) := by decide +kernel
theorem dX8_lays_18 : decode cX8_lays 18 = .ok (.iload_n 1, 1) := by decide +kernel
theorem dX8_lays_19 : decode cX8_lays 19 = .ok (.iaload, 1) := by decide +kernel
theorem dX8_lays_20 : decode cX8_lays 20 = .ok (.iastore, 1) := by decide +kernel
theorem dX8_lays_21 : decode cX8_lays 21 = .ok (.iinc 1 1, 3) := by decide +kernel
theorem dX8_lays_24 : decode cX8_lays 24 = .ok (.goto (-22), 3) := by decide +kernel
theorem dX8_lays_27 : decode cX8_lays 27 = .ok (.return_, 1) := by decide +kernel
theorem dX8_puts_0 : decode cX8_puts 0 = .ok (.iconst 0, 1) := by decide +kernel
theorem dX8_puts_1 : decode cX8_puts 1 = .ok (.istore_n 1, 1) := by decide +kernel
theorem dX8_puts_2 : decode cX8_puts 2 = .ok (.iload_n 1, 1) := by decide +kernel
theorem dX8_puts_3 : decode cX8_puts 3 = .ok (.sipush 172, 3) := by decide +kernel
theorem dX8_puts_6 : decode cX8_puts 6 = .ok (.if_icmp .ge 21, 3) := by decide +kernel
theorem dX8_puts_9 : decode cX8_puts 9 = .ok (.aload_n 0, 1) := by decide +kernel
theorem dX8_puts_10 : decode cX8_puts 10 = .ok (.getfield 7, 3) := by decide +kernel
theorem dX8_puts_13 : decode cX8_puts 13 = .ok (.iload_n 1, 1) := by decide +kernel
theorem dX8_puts_14 : decode cX8_puts 14 = .ok (.aload_n 0, 1) := by decide +kernel
theorem dX8_puts_15 : decode cX8_puts 15 = .ok (.getfield 39, 3) := by decide +kernel
theorem dX8_puts_18 : decode cX8_puts 18 = .ok (.iload_n 1, 1) := by decide +kernel
theorem dX8_puts_19 : decode cX8_puts 19 = .ok (.iaload, 1) := by decide +kernel
theorem dX8_puts_20 : decode cX8_puts 20 = .ok (.iastore, 1) := by decide +kernel
theorem dX8_puts_21 : decode cX8_puts 21 = .ok (.iinc 1 1, 3) := by decide +kernel
theorem dX8_puts_24 : decode cX8_puts 24 = .ok (.goto (-22), 3) := by decide +kernel
theorem dX8_puts_27 : decode cX8_puts 27 = .ok (.return_, 1) := by decide +kernel
theorem dX8_thought_0 : decode cX8_thought 0 = .ok (.aload_n 0, 1) := by decide +kernel
theorem dX8_thought_1 : decode cX8_thought 1 = .ok (.iconst 0, 1) := by decide +kernel
theorem dX8_thought_2 : decode cX8_thought 2 = .ok (.putfield 48, 3) := by decide +kernel
theorem dX8_thought_5 : decode cX8_thought 5 = .ok (.aload_n 0, 1) := by decide +kernel
theorem dX8_thought_6 : decode cX8_thought 6 = .ok (.invokevirtual 293, 3) := by decide +kernel
theorem dX8_thought_9 : decode cX8_thought 9 = .ok (.aload_n 0, 1) := by decide +kernel
theorem dX8_thought_10 : decode cX8_thought 10 = .ok (.getfield 105, 3) := by decide +kernel
theorem dX8_thought_13 : decode cX8_thought 13 = .ok (.iconst (-1), 1) := by decide +kernel
theorem dX8_thought_14 : decode cX8_thought 14 = .ok (.if_icmp .eq 11, 3) := by decide +kernel
theorem dX8_thought_17 : decode cX8_thought 17 = .ok (.bipush (-21), 2) := by decide +kernel
theorem dX8_thought_19 : decode cX8_thought 19 = .ok (.aload_n 0, 1) := by decide +kernel
theorem dX8_thought_20 : decode cX8_thought 20 = .ok (.getfield 105, 3) := by decide +kernel
theorem dX8_thought_23 : decode cX8_thought 23 = .ok (.isub, 1) := by decide +kernel
theorem dX8_thought_24 : decode cX8_thought 24 = .ok (.ireturn, 1) := by decide +kernel
theorem dX8_thought_25 : decode cX8_thought 25 = .ok (.aload_n 0, 1) := by decide +kernel
theorem dX8_thought_26 : decode cX8_thought 26 = .ok (.invokevirtual 68, 3) := by decide +kernel
theorem dX8_thought_29 : decode cX8_thought 29 = .ok (.aload_n 0, 1) := by decide +kernel
theorem dX8_thought_30 : decode cX8_thought 30 = .ok (.invokevirtual 296, 3) := by decide +kernel
theorem dX8_thought_33 : decode cX8_thought 33 = .ok (.istore_n 1, 1) := by decide +kernel
theorem dX8_thought_34 : decode cX8_thought 34 = .ok (.iload_n 1, 1) := by decide +kernel
theorem dX8_thought_35 : decode cX8_thought 35 = .ok (.ifCond .ne 78, 3) := by decide +kernel
theorem dX8_thought_38 : decode cX8_thought 38 = .ok (.aload_n 0, 1) := by decide +kernel
theorem dX8_thought_39 : decode cX8_thought 39 = .ok (.iconst 0, 1) := by decide +kernel
theorem dX8_thought_40 : decode cX8_thought 40 = .ok (.putfield 52, 3) := by decide +kernel
theorem dX8_thought_43 : decode cX8_thought 43 = .ok (.aload_n 0, 1) := by decide +kernel
theorem dX8_thought_44 : decode cX8_thought 44 = .ok (.aload_n 0, 1) := by decide +kernel
theorem dX8_thought_45 : decode cX8_thought 45 = .ok (.getfield 272, 3) := by decide +kernel
theorem dX8_thought_48 : decode cX8_thought 48 = .ok (.invokevirtual 299, 3) := by decide +kernel
theorem dX8_thought_51 : decode cX8_thought 51 = .ok (.aload_n 0, 1) := by decide +kernel
theorem dX8_thought_52 : decode cX8_thought 52 = .ok (.aload_n 0, 1) := by decide +kernel
theorem dX8_thought_53 : decode cX8_thought 53 = .ok (.getfield 287, 3) := by decide +kernel
theorem dX8_thought_56 : decode cX8_thought 56 = .ok (.i2l, 1) := by decide +kernel
theorem dX8_thought_57 : decode cX8_thought 57 = .ok (.invokevirtual 299, 3) := by decide +kernel
theorem dX8_thought_60 : decode cX8_thought 60 = .ok (.aload_n 0, 1) := by decide +kernel
theorem dX8_thought_61 : decode cX8_thought 61 = .ok (.aload_n 0, 1) := by decide +kernel
theorem dX8_thought_62 : decode cX8_thought 62 = .ok (.invokevirtual 143, 3) := by decide +kernel
theorem dX8_thought_65 : decode cX8_thought 65 = .ok (.invokevirtual 299, 3) := by decide +kernel
theorem dX8_thought_68 : decode cX8_thought 68 = .ok (.aload_n 0, 1) := by decide +kernel
theorem dX8_thought_69 : decode cX8_thought 69 = .ok (.aload_n 0, 1) := by decide +kernel
theorem dX8_thought_70 : decode cX8_thought 70 = .ok (.getfield 7, 3) := by decide +kernel
theorem dX8_thought_73 : decode cX8_thought 73 = .ok (.bipush 56, 2) := by decide +kernel
theorem dX8_thought_75 : decode cX8_thought 75 = .ok (.iaload, 1) := by decide +kernel
theorem dX8_thought_76 : decode cX8_thought 76 = .ok (.i2l, 1) := by decide +kernel
theorem dX8_thought_77 : decode cX8_thought 77 = .ok (.invokevirtual 299, 3) := by decide +kernel
theorem dX8_thought_80 : decode cX8_thought 80 = .ok (.iconst 1, 1) := by decide +kernel
theorem dX8_thought_81 : decode cX8_thought 81 = .ok (.istore_n 2, 1) := by decide +kernel
theorem dX8_thought_82 : decode cX8_thought 82 = .ok (.iload_n 2, 1) := by decide +kernel
theorem dX8_thought_83 : decode cX8_thought 83 = .ok (.aload_n 0, 1) := by decide +kernel
theorem dX8_thought_84 : decode cX8_thought 84 = .ok (.getfield 7, 3) := by decide +kernel
theorem dX8_thought_87 : decode cX8_thought 87 = .ok (.bipush 57, 2) := by decide +kernel
theorem dX8_thought_89 : decode cX8_thought 89 = .ok (.iaload, 1) := by decide +kernel
theorem dX8_thought_90 : decode cX8_thought 90 = .ok (.if_icmp .ge 23, 3) := by decide +kernel
theorem dX8_thought_93 : decode cX8_thought 93 = .ok (.aload_n 0, 1) := by decide +kernel
theorem dX8_thought_94 : decode cX8_thought 94 = .ok (.aload_n 0, 1) := by decide +kernel
theorem dX8_thought_95 : decode cX8_thought 95 = .ok (.getfield 7, 3) := by decide +kernel
theorem dX8_thought_98 : decode cX8_thought 98 = .ok (.bipush 64, 2) := by decide +kernel
theorem dX8_thought_100 : decode cX8_thought 100 = .ok (.iload_n 2, 1) := by decide +kernel
theorem dX8_thought_101 : decode cX8_thought 101 = .ok (.iadd, 1) := by decide +kernel
theorem dX8_thought_102 : decode cX8_thought 102 = .ok (.iaload, 1) := by decide +kernel
theorem dX8_thought_103 : decode cX8_thought 103 = .ok (.i2l, 1) := by decide +kernel
theorem dX8_thought_104 : decode cX8_thought 104 = .ok (.invokevirtual 299, 3) := by decide +kernel
theorem dX8_thought_107 : decode cX8_thought 107 = .ok (.iinc 2 1, 3) := by decide +kernel
theorem dX8_thought_110 : decode cX8_thought 110 = .ok (.goto (-28), 3) := by decide +kernel
theorem dX8_thought_113 : decode cX8_thought 113 = .ok (.aload_n 0, 1) := by decide +kernel
theorem dX8_thought_114 : decode cX8_thought 114 = .ok (.invokevirtual 146, 3) := by decide +kernel
theorem dX8_thought_117 : decode cX8_thought 117 = .ok (.iload_n 1, 1) := by decide +kernel
theorem dX8_thought_118 : decode cX8_thought 118 = .ok (.ifCond .ge 7, 3) := by decide +kernel
theorem dX8_thought_121 : decode cX8_thought 121 = .ok (.iload_n 1, 1) := by decide +kernel
theorem dX8_thought_122 : decode cX8_thought 122 = .ok (.goto 8, 3) := by decide +kernel
theorem dX8_thought_125 : decode cX8_thought 125 = .ok (.aload_n 0, 1) := by decide +kernel
theorem dX8_thought_126 : decode cX8_thought 126 = .ok (.getfield 269, 3) := by decide +kernel
theorem dX8_thought_129 : decode cX8_thought 129 = .ok (.l2i, 1) := by decide +kernel
theorem dX8_thought_130 : decode cX8_thought 130 = .ok (.ireturn, 1) := by decide +kernel
theorem dX8_told_0 : decode cX8_told 0 = .ok (.aload_n 0, 1) := by decide +kernel
theorem dX8_told_1 : decode cX8_told 1 = .ok (.iconst 0, 1) := by decide +kernel
theorem dX8_told_2 : decode cX8_told 2 = .ok (.putfield 48, 3) := by decide +kernel
theorem dX8_told_5 : decode cX8_told 5 = .ok (.aload_n 0, 1) := by decide +kernel
theorem dX8_told_6 : decode cX8_told 6 = .ok (.iload_n 1, 1) := by decide +kernel
theorem dX8_told_7 : decode cX8_told 7 = .ok (.invokevirtual 162, 3) := by decide +kernel
theorem dX8_told_10 : decode cX8_told 10 = .ok (.ifCond .eq 31, 3) := by decide +kernel
theorem dX8_told_13 : decode cX8_told 13 = .ok (.iload_n 2, 1) := by decide +kernel
theorem dX8_told_14 : decode cX8_told 14 = .ok (.i2l, 1) := by decide +kernel
theorem dX8_told_15 : decode cX8_told 15 = .ok (.lconst 0, 1) := by decide +kernel
theorem dX8_told_16 : decode cX8_told 16 = .ok (.ldc2_w 303, 3) := by decide +kernel
theorem dX8_told_19 : decode cX8_told 19 = .ok (.invokestatic 58, 3) := by decide +kernel
theorem dX8_told_22 : decode cX8_told 22 = .ok (.ifCond .eq 19, 3) := by decide +kernel
theorem dX8_told_25 : decode cX8_told 25 = .ok (.aload_n 0, 1) := by decide +kernel
theorem dX8_told_26 : decode cX8_told 26 = .ok (.getfield 7, 3) := by decide +kernel
theorem dX8_told_29 : decode cX8_told 29 = .ok (.bipush 94, 2) := by decide +kernel
theorem dX8_told_31 : decode cX8_told 31 = .ok (.iconst 5, 1) := by decide +kernel
theorem dX8_told_32 : decode cX8_told 32 = .ok (.iload_n 1, 1) := by decide +kernel
theorem dX8_told_33 : decode cX8_told 33 = .ok (.imul, 1) := by decide +kernel
theorem dX8_told_34 : decode cX8_told 34 = .ok (.iadd, 1) := by decide +kernel
theorem dX8_told_35 : decode cX8_told 35 = .ok (.iload_n 2, 1) := by decide +kernel
theorem dX8_told_36 : decode cX8_told 36 = .ok (.iadd, 1) := by decide +kernel
theorem dX8_told_37 : decode cX8_told 37 = .ok (.iaload, 1) := by decide +kernel
theorem dX8_told_38 : decode cX8_told 38 = .ok (.goto 4, 3) := by decide +kernel
theorem dX8_told_41 : decode cX8_told 41 = .ok (.iconst (-1), 1) := by decide +kernel
theorem dX8_told_42 : decode cX8_told 42 = .ok (.ireturn, 1) := by decide +kernel
theorem dX8_thousandths_0 : decode cX8_thousandths 0 = .ok (.lload_n 2, 1) := by decide +kernel
theorem dX8_thousandths_1 : decode cX8_thousandths 1 = .ok (.lconst 0, 1) := by decide +kernel
theorem dX8_thousandths_2 : decode cX8_thousandths 2 = .ok (.lcmp, 1) := by decide +kernel
theorem dX8_thousandths_3 : decode cX8_thousandths 3 = .ok (.ifCond .ne 7, 3) := by decide +kernel
theorem dX8_thousandths_6 : decode cX8_thousandths 6 = .ok (.lconst 0, 1) := by decide +kernel
theorem dX8_thousandths_7 : decode cX8_thousandths 7 = .ok (.goto 10, 3) := by decide +kernel
theorem dX8_thousandths_10 : decode cX8_thousandths 10 = .ok (.ldc2_w 281, 3) := by decide +kernel
theorem dX8_thousandths_13 : decode cX8_thousandths 13 = .ok (.lload_n 0, 1) := by decide +kernel
theorem dX8_thousandths_14 : decode cX8_thousandths 14 = .ok (.lmul, 1) := by decide +kernel
theorem dX8_thousandths_15 : decode cX8_thousandths 15 = .ok (.lload_n 2, 1) := by decide +kernel
theorem dX8_thousandths_16 : decode cX8_thousandths 16 = .ok (.ldiv, 1) := by decide +kernel
theorem dX8_thousandths_17 : decode cX8_thousandths 17 = .ok (.lreturn, 1) := by decide +kernel
theorem dX8_diluted_0 : decode cX8_diluted 0 = .ok (.aload_n 0, 1) := by decide +kernel
theorem dX8_diluted_1 : decode cX8_diluted 1 = .ok (.iconst 0, 1) := by decide +kernel
theorem dX8_diluted_2 : decode cX8_diluted 2 = .ok (.putfield 48, 3) := by decide +kernel
theorem dX8_diluted_5 : decode cX8_diluted 5 = .ok (.aload_n 0, 1) := by decide +kernel
theorem dX8_diluted_6 : decode cX8_diluted 6 = .ok (.invokevirtual 293, 3) := by decide +kernel
theorem dX8_diluted_9 : decode cX8_diluted 9 = .ok (.aload_n 0, 1) := by decide +kernel
theorem dX8_diluted_10 : decode cX8_diluted 10 = .ok (.getfield 105, 3) := by decide +kernel
theorem dX8_diluted_13 : decode cX8_diluted 13 = .ok (.iconst (-1), 1) := by decide +kernel
theorem dX8_diluted_14 : decode cX8_diluted 14 = .ok (.if_icmp .eq 11, 3) := by decide +kernel
theorem dX8_diluted_17 : decode cX8_diluted 17 = .ok (.bipush (-21), 2) := by decide +kernel
theorem dX8_diluted_19 : decode cX8_diluted 19 = .ok (.aload_n 0, 1) := by decide +kernel
theorem dX8_diluted_20 : decode cX8_diluted 20 = .ok (.getfield 105, 3) := by decide +kernel
theorem dX8_diluted_23 : decode cX8_diluted 23 = .ok (.isub, 1) := by decide +kernel
theorem dX8_diluted_24 : decode cX8_diluted 24 = .ok (.ireturn, 1) := by decide +kernel
theorem dX8_diluted_25 : decode cX8_diluted 25 = .ok (.iload_n 1, 1) := by decide +kernel
theorem dX8_diluted_26 : decode cX8_diluted 26 = .ok (.invokestatic 140, 3) := by decide +kernel
theorem dX8_diluted_29 : decode cX8_diluted 29 = .ok (.ifCond .ne 5, 3) := by decide +kernel
theorem dX8_diluted_32 : decode cX8_diluted 32 = .ok (.iconst (-1), 1) := by decide +kernel
theorem dX8_diluted_33 : decode cX8_diluted 33 = .ok (.ireturn, 1) := by decide +kernel
theorem dX8_diluted_34 : decode cX8_diluted 34 = .ok (.aload_n 0, 1) := by decide +kernel
theorem dX8_diluted_35 : decode cX8_diluted 35 = .ok (.iload_n 1, 1) := by decide +kernel
theorem dX8_diluted_36 : decode cX8_diluted 36 = .ok (.invokevirtual 149, 3) := by decide +kernel
theorem dX8_diluted_39 : decode cX8_diluted 39 = .ok (.aload_n 0, 1) := by decide +kernel
theorem dX8_diluted_40 : decode cX8_diluted 40 = .ok (.invokevirtual 143, 3) := by decide +kernel
theorem dX8_diluted_43 : decode cX8_diluted 43 = .ok (.invokestatic 305, 3) := by decide +kernel
theorem dX8_diluted_46 : decode cX8_diluted 46 = .ok (.lstore_n 2, 1) := by decide +kernel
theorem dX8_diluted_47 : decode cX8_diluted 47 = .ok (.aload_n 0, 1) := by decide +kernel
theorem dX8_diluted_48 : decode cX8_diluted 48 = .ok (.invokevirtual 68, 3) := by decide +kernel
theorem dX8_diluted_51 : decode cX8_diluted 51 = .ok (.aload_n 0, 1) := by decide +kernel
theorem dX8_diluted_52 : decode cX8_diluted 52 = .ok (.invokevirtual 296, 3) := by decide +kernel
theorem dX8_diluted_55 : decode cX8_diluted 55 = .ok (.istore 4, 2) := by decide +kernel
theorem dX8_diluted_57 : decode cX8_diluted 57 = .ok (.aload_n 0, 1) := by decide +kernel
theorem dX8_diluted_58 : decode cX8_diluted 58 = .ok (.iload_n 1, 1) := by decide +kernel
theorem dX8_diluted_59 : decode cX8_diluted 59 = .ok (.invokevirtual 149, 3) := by decide +kernel
theorem dX8_diluted_62 : decode cX8_diluted 62 = .ok (.lstore 5, 2) := by decide +kernel
theorem dX8_diluted_64 : decode cX8_diluted 64 = .ok (.lload 5, 2) := by decide +kernel
theorem dX8_diluted_66 : decode cX8_diluted 66 = .ok (.aload_n 0, 1) := by decide +kernel
theorem dX8_diluted_67 : decode cX8_diluted 67 = .ok (.invokevirtual 143, 3) := by decide +kernel
theorem dX8_diluted_70 : decode cX8_diluted 70 = .ok (.invokestatic 305, 3) := by decide +kernel
theorem dX8_diluted_73 : decode cX8_diluted 73 = .ok (.lstore 7, 2) := by decide +kernel
theorem dX8_diluted_75 : decode cX8_diluted 75 = .ok (.aload_n 0, 1) := by decide +kernel
theorem dX8_diluted_76 : decode cX8_diluted 76 = .ok (.invokevirtual 146, 3) := by decide +kernel
theorem dX8_diluted_79 : decode cX8_diluted 79 = .ok (.iload 4, 2) := by decide +kernel
theorem dX8_diluted_81 : decode cX8_diluted 81 = .ok (.ifCond .ge 6, 3) := by decide +kernel
theorem dX8_diluted_84 : decode cX8_diluted 84 = .ok (.iload 4, 2) := by decide +kernel
theorem dX8_diluted_86 : decode cX8_diluted 86 = .ok (.ireturn, 1) := by decide +kernel
theorem dX8_diluted_87 : decode cX8_diluted 87 = .ok (.aload_n 0, 1) := by decide +kernel
theorem dX8_diluted_88 : decode cX8_diluted 88 = .ok (.iconst 0, 1) := by decide +kernel
theorem dX8_diluted_89 : decode cX8_diluted 89 = .ok (.putfield 52, 3) := by decide +kernel
theorem dX8_diluted_92 : decode cX8_diluted 92 = .ok (.aload_n 0, 1) := by decide +kernel
theorem dX8_diluted_93 : decode cX8_diluted 93 = .ok (.lload_n 2, 1) := by decide +kernel
theorem dX8_diluted_94 : decode cX8_diluted 94 = .ok (.invokevirtual 299, 3) := by decide +kernel
theorem dX8_diluted_97 : decode cX8_diluted 97 = .ok (.aload_n 0, 1) := by decide +kernel
theorem dX8_diluted_98 : decode cX8_diluted 98 = .ok (.lload 5, 2) := by decide +kernel
theorem dX8_diluted_100 : decode cX8_diluted 100 = .ok (.invokevirtual 299, 3) := by decide +kernel
theorem dX8_diluted_103 : decode cX8_diluted 103 = .ok (.lload 7, 2) := by decide +kernel
theorem dX8_diluted_105 : decode cX8_diluted 105 = .ok (.l2i, 1) := by decide +kernel
theorem dX8_diluted_106 : decode cX8_diluted 106 = .ok (.ireturn, 1) := by decide +kernel
theorem dX8_threatens_0 : decode cX8_threatens 0 = .ok (.aload_n 0, 1) := by decide +kernel
theorem dX8_threatens_1 : decode cX8_threatens 1 = .ok (.iconst 0, 1) := by decide +kernel
theorem dX8_threatens_2 : decode cX8_threatens 2 = .ok (.putfield 48, 3) := by decide +kernel
theorem dX8_threatens_5 : decode cX8_threatens 5 = .ok (.aload_n 0, 1) := by decide +kernel
theorem dX8_threatens_6 : decode cX8_threatens 6 = .ok (.invokevirtual 293, 3) := by decide +kernel
theorem dX8_threatens_9 : decode cX8_threatens 9 = .ok (.aload_n 0, 1) := by decide +kernel
theorem dX8_threatens_10 : decode cX8_threatens 10 = .ok (.getfield 105, 3) := by decide +kernel
theorem dX8_threatens_13 : decode cX8_threatens 13 = .ok (.iconst (-1), 1) := by decide +kernel
theorem dX8_threatens_14 : decode cX8_threatens 14 = .ok (.if_icmp .eq 11, 3) := by decide +kernel
theorem dX8_threatens_17 : decode cX8_threatens 17 = .ok (.bipush (-21), 2) := by decide +kernel
theorem dX8_threatens_19 : decode cX8_threatens 19 = .ok (.aload_n 0, 1) := by decide +kernel
theorem dX8_threatens_20 : decode cX8_threatens 20 = .ok (.getfield 105, 3) := by decide +kernel
theorem dX8_threatens_23 : decode cX8_threatens 23 = .ok (.isub, 1) := by decide +kernel
theorem dX8_threatens_24 : decode cX8_threatens 24 = .ok (.ireturn, 1) := by decide +kernel
theorem dX8_threatens_25 : decode cX8_threatens 25 = .ok (.aload_n 0, 1) := by decide +kernel
theorem dX8_threatens_26 : decode cX8_threatens 26 = .ok (.iconst 0, 1) := by decide +kernel
theorem dX8_threatens_27 : decode cX8_threatens 27 = .ok (.invokevirtual 283, 3) := by decide +kernel
theorem dX8_threatens_30 : decode cX8_threatens 30 = .ok (.aload_n 0, 1) := by decide +kernel
theorem dX8_threatens_31 : decode cX8_threatens 31 = .ok (.iconst 0, 1) := by decide +kernel
theorem dX8_threatens_32 : decode cX8_threatens 32 = .ok (.putfield 52, 3) := by decide +kernel
theorem dX8_threatens_35 : decode cX8_threatens 35 = .ok (.iconst 1, 1) := by decide +kernel
theorem dX8_threatens_36 : decode cX8_threatens 36 = .ok (.istore_n 1, 1) := by decide +kernel
theorem dX8_threatens_37 : decode cX8_threatens 37 = .ok (.iload_n 1, 1) := by decide +kernel
theorem dX8_threatens_38 : decode cX8_threatens 38 = .ok (.aload_n 0, 1) := by decide +kernel
theorem dX8_threatens_39 : decode cX8_threatens 39 = .ok (.getfield 7, 3) := by decide +kernel
theorem dX8_threatens_42 : decode cX8_threatens 42 = .ok (.bipush 57, 2) := by decide +kernel
theorem dX8_threatens_44 : decode cX8_threatens 44 = .ok (.iaload, 1) := by decide +kernel
theorem dX8_threatens_45 : decode cX8_threatens 45 = .ok (.if_icmp .ge 19, 3) := by decide +kernel
theorem dX8_threatens_48 : decode cX8_threatens 48 = .ok (.aload_n 0, 1) := by decide +kernel
theorem dX8_threatens_49 : decode cX8_threatens 49 = .ok (.aload_n 0, 1) := by decide +kernel
theorem dX8_threatens_50 : decode cX8_threatens 50 = .ok (.getfield 36, 3) := by decide +kernel
theorem dX8_threatens_53 : decode cX8_threatens 53 = .ok (.iload_n 1, 1) := by decide +kernel
theorem dX8_threatens_54 : decode cX8_threatens 54 = .ok (.laload, 1) := by decide +kernel
theorem dX8_threatens_55 : decode cX8_threatens 55 = .ok (.invokevirtual 299, 3) := by decide +kernel
theorem dX8_threatens_58 : decode cX8_threatens 58 = .ok (.iinc 1 1, 3) := by decide +kernel
theorem dX8_threatens_61 : decode cX8_threatens 61 = .ok (.goto (-24), 3) := by decide +kernel
theorem dX8_threatens_64 : decode cX8_threatens 64 = .ok (.aload_n 0, 1) := by decide +kernel
theorem dX8_threatens_65 : decode cX8_threatens 65 = .ok (.getfield 245, 3) := by decide +kernel
theorem dX8_threatens_68 : decode cX8_threatens 68 = .ok (.ireturn, 1) := by decide +kernel
theorem dX8_thinks_0 : decode cX8_thinks 0 = .ok (.aload_n 0, 1) := by decide +kernel
theorem dX8_thinks_1 : decode cX8_thinks 1 = .ok (.invokevirtual 68, 3) := by decide +kernel
theorem dX8_thinks_4 : decode cX8_thinks 4 = .ok (.aload_n 0, 1) := by decide +kernel
theorem dX8_thinks_5 : decode cX8_thinks 5 = .ok (.invokevirtual 296, 3) := by decide +kernel
theorem dX8_thinks_8 : decode cX8_thinks 8 = .ok (.istore_n 1, 1) := by decide +kernel
theorem dX8_thinks_9 : decode cX8_thinks 9 = .ok (.aload_n 0, 1) := by decide +kernel
theorem dX8_thinks_10 : decode cX8_thinks 10 = .ok (.invokevirtual 146, 3) := by decide +kernel
theorem dX8_thinks_13 : decode cX8_thinks 13 = .ok (.iload_n 1, 1) := by decide +kernel
theorem dX8_thinks_14 : decode cX8_thinks 14 = .ok (.ifCond .ge 7, 3) := by decide +kernel
theorem dX8_thinks_17 : decode cX8_thinks 17 = .ok (.iload_n 1, 1) := by decide +kernel
theorem dX8_thinks_18 : decode cX8_thinks 18 = .ok (.goto 8, 3) := by decide +kernel
theorem dX8_thinks_21 : decode cX8_thinks 21 = .ok (.aload_n 0, 1) := by decide +kernel
theorem dX8_thinks_22 : decode cX8_thinks 22 = .ok (.getfield 269, 3) := by decide +kernel
theorem dX8_thinks_25 : decode cX8_thinks 25 = .ok (.l2i, 1) := by decide +kernel
theorem dX8_thinks_26 : decode cX8_thinks 26 = .ok (.ireturn, 1) := by decide +kernel
theorem dX8_sweep_0 : decode cX8_sweep 0 = .ok (.aload_n 0, 1) := by decide +kernel
theorem dX8_sweep_1 : decode cX8_sweep 1 = .ok (.iconst 0, 1) := by decide +kernel
theorem dX8_sweep_2 : decode cX8_sweep 2 = .ok (.putfield 48, 3) := by decide +kernel
theorem dX8_sweep_5 : decode cX8_sweep 5 = .ok (.aload_n 0, 1) := by decide +kernel
theorem dX8_sweep_6 : decode cX8_sweep 6 = .ok (.invokevirtual 293, 3) := by decide +kernel
theorem dX8_sweep_9 : decode cX8_sweep 9 = .ok (.aload_n 0, 1) := by decide +kernel
theorem dX8_sweep_10 : decode cX8_sweep 10 = .ok (.getfield 105, 3) := by decide +kernel
theorem dX8_sweep_13 : decode cX8_sweep 13 = .ok (.iconst (-1), 1) := by decide +kernel
theorem dX8_sweep_14 : decode cX8_sweep 14 = .ok (.if_icmp .eq 11, 3) := by decide +kernel
theorem dX8_sweep_17 : decode cX8_sweep 17 = .ok (.bipush (-21), 2) := by decide +kernel
theorem dX8_sweep_19 : decode cX8_sweep 19 = .ok (.aload_n 0, 1) := by decide +kernel
theorem dX8_sweep_20 : decode cX8_sweep 20 = .ok (.getfield 105, 3) := by decide +kernel
theorem dX8_sweep_23 : decode cX8_sweep 23 = .ok (.isub, 1) := by decide +kernel
theorem dX8_sweep_24 : decode cX8_sweep 24 = .ok (.ireturn, 1) := by decide +kernel
theorem dX8_sweep_25 : decode cX8_sweep 25 = .ok (.iload_n 1, 1) := by decide +kernel
theorem dX8_sweep_26 : decode cX8_sweep 26 = .ok (.i2l, 1) := by decide +kernel
theorem dX8_sweep_27 : decode cX8_sweep 27 = .ok (.lconst 1, 1) := by decide +kernel
theorem dX8_sweep_28 : decode cX8_sweep 28 = .ok (.ldc2_w 243, 3) := by decide +kernel
theorem dX8_sweep_31 : decode cX8_sweep 31 = .ok (.invokestatic 58, 3) := by decide +kernel
theorem dX8_sweep_34 : decode cX8_sweep 34 = .ok (.ifCond .ne 5, 3) := by decide +kernel
theorem dX8_sweep_37 : decode cX8_sweep 37 = .ok (.iconst (-1), 1) := by decide +kernel
theorem dX8_sweep_38 : decode cX8_sweep 38 = .ok (.ireturn, 1) := by decide +kernel
theorem dX8_sweep_39 : decode cX8_sweep 39 = .ok (.aload_n 0, 1) := by decide +kernel
theorem dX8_sweep_40 : decode cX8_sweep 40 = .ok (.getfield 207, 3) := by decide +kernel
theorem dX8_sweep_43 : decode cX8_sweep 43 = .ok (.istore_n 2, 1) := by decide +kernel
theorem dX8_sweep_44 : decode cX8_sweep 44 = .ok (.iconst 0, 1) := by decide +kernel
theorem dX8_sweep_45 : decode cX8_sweep 45 = .ok (.istore_n 3, 1) := by decide +kernel
theorem dX8_sweep_46 : decode cX8_sweep 46 = .ok (.aload_n 0, 1) := by decide +kernel
theorem dX8_sweep_47 : decode cX8_sweep 47 = .ok (.iconst 0, 1) := by decide +kernel
theorem dX8_sweep_48 : decode cX8_sweep 48 = .ok (.putfield 52, 3) := by decide +kernel
theorem dX8_sweep_51 : decode cX8_sweep 51 = .ok (.iconst 0, 1) := by decide +kernel
theorem dX8_sweep_52 : decode cX8_sweep 52 = .ok (.istore 4, 2) := by decide +kernel
theorem dX8_sweep_54 : decode cX8_sweep 54 = .ok (.iload 4, 2) := by decide +kernel
theorem dX8_sweep_56 : decode cX8_sweep 56 = .ok (.bipush 8, 2) := by decide +kernel
theorem dX8_sweep_58 : decode cX8_sweep 58 = .ok (.if_icmp .ge 84, 3) := by decide +kernel
theorem dX8_sweep_61 : decode cX8_sweep 61 = .ok (.iload_n 2, 1) := by decide +kernel
theorem dX8_sweep_62 : decode cX8_sweep 62 = .ok (.i2l, 1) := by decide +kernel
theorem dX8_sweep_63 : decode cX8_sweep 63 = .ok (.iload 4, 2) := by decide +kernel
theorem dX8_sweep_65 : decode cX8_sweep 65 = .ok (.i2l, 1) := by decide +kernel
theorem dX8_sweep_66 : decode cX8_sweep 66 = .ok (.iload_n 1, 1) := by decide +kernel
theorem dX8_sweep_67 : decode cX8_sweep 67 = .ok (.i2l, 1) := by decide +kernel
theorem dX8_sweep_68 : decode cX8_sweep 68 = .ok (.lmul, 1) := by decide +kernel
theorem dX8_sweep_69 : decode cX8_sweep 69 = .ok (.ladd, 1) := by decide +kernel
theorem dX8_sweep_70 : decode cX8_sweep 70 = .ok (.lstore 5, 2) := by decide +kernel
theorem dX8_sweep_72 : decode cX8_sweep 72 = .ok (.aload_n 0, 1) := by decide +kernel
theorem dX8_sweep_73 : decode cX8_sweep 73 = .ok (.ldc2_w 131, 3) := by decide +kernel
theorem dX8_sweep_76 : decode cX8_sweep 76 = .ok (.lload 5, 2) := by decide +kernel
theorem dX8_sweep_78 : decode cX8_sweep 78 = .ok (.invokestatic 261, 3) := by decide +kernel
theorem dX8_sweep_81 : decode cX8_sweep 81 = .ok (.l2i, 1) := by decide +kernel
theorem dX8_sweep_82 : decode cX8_sweep 82 = .ok (.putfield 207, 3) := by decide +kernel
theorem dX8_sweep_85 : decode cX8_sweep 85 = .ok (.aload_n 0, 1) := by decide +kernel
theorem dX8_sweep_86 : decode cX8_sweep 86 = .ok (.invokevirtual 308, 3) := by decide +kernel
theorem dX8_sweep_89 : decode cX8_sweep 89 = .ok (.istore 7, 2) := by decide +kernel
theorem dX8_sweep_91 : decode cX8_sweep 91 = .ok (.lload 5, 2) := by decide +kernel
theorem dX8_sweep_93 : decode cX8_sweep 93 = .ok (.ldc2_w 131, 3) := by decide +kernel
theorem dX8_sweep_96 : decode cX8_sweep 96 = .ok (.lcmp, 1) := by decide +kernel
theorem dX8_sweep_97 : decode cX8_sweep 97 = .ok (.ifCond .le 15, 3) := by decide +kernel
theorem dX8_sweep_100 : decode cX8_sweep 100 = .ok (.iload 7, 2) := by decide +kernel
theorem dX8_sweep_102 : decode cX8_sweep 102 = .ok (.bipush (-2), 2) := by decide +kernel
theorem dX8_sweep_104 : decode cX8_sweep 104 = .ok (.if_icmp .eq 8, 3) := by decide +kernel
theorem dX8_sweep_107 : decode cX8_sweep 107 = .ok (.bipush (-3), 2) := by decide +kernel
theorem dX8_sweep_109 : decode cX8_sweep 109 = .ok (.goto 5, 3) := by decide +kernel
theorem dX8_sweep_112 : decode cX8_sweep 112 = .ok (.iload 7, 2) := by decide +kernel
theorem dX8_sweep_114 : decode cX8_sweep 114 = .ok (.istore 7, 2) := by decide +kernel
theorem dX8_sweep_116 : decode cX8_sweep 116 = .ok (.aload_n 0, 1) := by decide +kernel
theorem dX8_sweep_117 : decode cX8_sweep 117 = .ok (.iload 7, 2) := by decide +kernel
theorem dX8_sweep_119 : decode cX8_sweep 119 = .ok (.i2l, 1) := by decide +kernel
theorem dX8_sweep_120 : decode cX8_sweep 120 = .ok (.invokevirtual 299, 3) := by decide +kernel
theorem dX8_sweep_123 : decode cX8_sweep 123 = .ok (.iload_n 3, 1) := by decide +kernel
theorem dX8_sweep_124 : decode cX8_sweep 124 = .ok (.iload 7, 2) := by decide +kernel
theorem dX8_sweep_126 : decode cX8_sweep 126 = .ok (.ifCond .le 7, 3) := by decide +kernel
theorem dX8_sweep_129 : decode cX8_sweep 129 = .ok (.iconst 1, 1) := by decide +kernel
theorem dX8_sweep_130 : decode cX8_sweep 130 = .ok (.goto 4, 3) := by decide +kernel
theorem dX8_sweep_133 : decode cX8_sweep 133 = .ok (.iconst 0, 1) := by decide +kernel
theorem dX8_sweep_134 : decode cX8_sweep 134 = .ok (.iadd, 1) := by decide +kernel
theorem dX8_sweep_135 : decode cX8_sweep 135 = .ok (.istore_n 3, 1) := by decide +kernel
theorem dX8_sweep_136 : decode cX8_sweep 136 = .ok (.iinc 4 1, 3) := by decide +kernel
theorem dX8_sweep_139 : decode cX8_sweep 139 = .ok (.goto (-85), 3) := by decide +kernel
theorem dX8_sweep_142 : decode cX8_sweep 142 = .ok (.iload_n 3, 1) := by decide +kernel
theorem dX8_sweep_143 : decode cX8_sweep 143 = .ok (.ireturn, 1) := by decide +kernel
theorem dX8_isToldAlready_0 : decode cX8_isToldAlready 0 = .ok (.iconst 0, 1) := by decide +kernel
theorem dX8_isToldAlready_1 : decode cX8_isToldAlready 1 = .ok (.istore_n 2, 1) := by decide +kernel
theorem dX8_isToldAlready_2 : decode cX8_isToldAlready 2 = .ok (.iload_n 2, 1) := by decide +kernel
theorem dX8_isToldAlready_3 : decode cX8_isToldAlready 3 = .ok (.aload_n 0, 1) := by decide +kernel
theorem dX8_isToldAlready_4 : decode cX8_isToldAlready 4 = .ok (.getfield 52, 3) := by decide +kernel
theorem dX8_isToldAlready_7 : decode cX8_isToldAlready 7 = .ok (.if_icmp .ge 23, 3) := by decide +kernel
theorem dX8_isToldAlready_10 : decode cX8_isToldAlready 10 = .ok (.aload_n 0, 1) := by decide +kernel
theorem dX8_isToldAlready_11 : decode cX8_isToldAlready 11 = .ok (.getfield 23, 3) := by decide +kernel
theorem dX8_isToldAlready_14 : decode cX8_isToldAlready 14 = .ok (.iload_n 2, 1) := by decide +kernel
theorem dX8_isToldAlready_15 : decode cX8_isToldAlready 15 = .ok (.laload, 1) := by decide +kernel
theorem dX8_isToldAlready_16 : decode cX8_isToldAlready 16 = .ok (.iload_n 1, 1) := by decide +kernel
theorem dX8_isToldAlready_17 : decode cX8_isToldAlready 17 = .ok (.i2l, 1) := by decide +kernel
theorem dX8_isToldAlready_18 : decode cX8_isToldAlready 18 = .ok (.lcmp, 1) := by decide +kernel
theorem dX8_isToldAlready_19 : decode cX8_isToldAlready 19 = .ok (.ifCond .ne 5, 3) := by decide +kernel
theorem dX8_isToldAlready_22 : decode cX8_isToldAlready 22 = .ok (.iconst 1, 1) := by decide +kernel
theorem dX8_isToldAlready_23 : decode cX8_isToldAlready 23 = .ok (.ireturn, 1) := by decide +kernel
theorem dX8_isToldAlready_24 : decode cX8_isToldAlready 24 = .ok (.iinc 2 1, 3) := by decide +kernel
theorem dX8_isToldAlready_27 : decode cX8_isToldAlready 27 = .ok (.goto (-25), 3) := by decide +kernel
theorem dX8_isToldAlready_30 : decode cX8_isToldAlready 30 = .ok (.iconst 0, 1) := by decide +kernel
theorem dX8_isToldAlready_31 : decode cX8_isToldAlready 31 = .ok (.ireturn, 1) := by decide +kernel
theorem dX8_ratchets_0 : decode cX8_ratchets 0 = .ok (.aload_n 0, 1) := by decide +kernel
theorem dX8_ratchets_1 : decode cX8_ratchets 1 = .ok (.iconst 0, 1) := by decide +kernel
theorem dX8_ratchets_2 : decode cX8_ratchets 2 = .ok (.putfield 48, 3) := by decide +kernel
theorem dX8_ratchets_5 : decode cX8_ratchets 5 = .ok (.aload_n 0, 1) := by decide +kernel
theorem dX8_ratchets_6 : decode cX8_ratchets 6 = .ok (.invokevirtual 293, 3) := by decide +kernel
theorem dX8_ratchets_9 : decode cX8_ratchets 9 = .ok (.aload_n 0, 1) := by decide +kernel
theorem dX8_ratchets_10 : decode cX8_ratchets 10 = .ok (.getfield 105, 3) := by decide +kernel
theorem dX8_ratchets_13 : decode cX8_ratchets 13 = .ok (.iconst (-1), 1) := by decide +kernel
theorem dX8_ratchets_14 : decode cX8_ratchets 14 = .ok (.if_icmp .eq 11, 3) := by decide +kernel
theorem dX8_ratchets_17 : decode cX8_ratchets 17 = .ok (.bipush (-21), 2) := by decide +kernel
theorem dX8_ratchets_19 : decode cX8_ratchets 19 = .ok (.aload_n 0, 1) := by decide +kernel
theorem dX8_ratchets_20 : decode cX8_ratchets 20 = .ok (.getfield 105, 3) := by decide +kernel
theorem dX8_ratchets_23 : decode cX8_ratchets 23 = .ok (.isub, 1) := by decide +kernel
theorem dX8_ratchets_24 : decode cX8_ratchets 24 = .ok (.ireturn, 1) := by decide +kernel
theorem dX8_ratchets_25 : decode cX8_ratchets 25 = .ok (.iconst 0, 1) := by decide +kernel
theorem dX8_ratchets_26 : decode cX8_ratchets 26 = .ok (.istore_n 1, 1) := by decide +kernel
theorem dX8_ratchets_27 : decode cX8_ratchets 27 = .ok (.aload_n 0, 1) := by decide +kernel
theorem dX8_ratchets_28 : decode cX8_ratchets 28 = .ok (.iconst 0, 1) := by decide +kernel
theorem dX8_ratchets_29 : decode cX8_ratchets 29 = .ok (.putfield 52, 3) := by decide +kernel
theorem dX8_ratchets_32 : decode cX8_ratchets 32 = .ok (.iconst 0, 1) := by decide +kernel
theorem dX8_ratchets_33 : decode cX8_ratchets 33 = .ok (.istore_n 2, 1) := by decide +kernel
theorem dX8_ratchets_34 : decode cX8_ratchets 34 = .ok (.iload_n 2, 1) := by decide +kernel
theorem dX8_ratchets_35 : decode cX8_ratchets 35 = .ok (.iconst 4, 1) := by decide +kernel
theorem dX8_ratchets_36 : decode cX8_ratchets 36 = .ok (.if_icmp .ge 95, 3) := by decide +kernel
theorem dX8_ratchets_39 : decode cX8_ratchets 39 = .ok (.aload_n 0, 1) := by decide +kernel
theorem dX8_ratchets_40 : decode cX8_ratchets 40 = .ok (.invokevirtual 68, 3) := by decide +kernel
theorem dX8_ratchets_43 : decode cX8_ratchets 43 = .ok (.iconst 1, 1) := by decide +kernel
theorem dX8_ratchets_44 : decode cX8_ratchets 44 = .ok (.istore_n 3, 1) := by decide +kernel
theorem dX8_ratchets_45 : decode cX8_ratchets 45 = .ok (.iload_n 3, 1) := by decide +kernel
theorem dX8_ratchets_46 : decode cX8_ratchets 46 = .ok (.aload_n 0, 1) := by decide +kernel
theorem dX8_ratchets_47 : decode cX8_ratchets 47 = .ok (.getfield 7, 3) := by decide +kernel
theorem dX8_ratchets_50 : decode cX8_ratchets 50 = .ok (.bipush 57, 2) := by decide +kernel
theorem dX8_ratchets_52 : decode cX8_ratchets 52 = .ok (.iaload, 1) := by decide +kernel
theorem dX8_ratchets_53 : decode cX8_ratchets 53 = .ok (.if_icmp .ge 19, 3) := by decide +kernel
theorem dX8_ratchets_56 : decode cX8_ratchets 56 = .ok (.aload_n 0, 1) := by decide +kernel
theorem dX8_ratchets_57 : decode cX8_ratchets 57 = .ok (.getfield 7, 3) := by decide +kernel
theorem dX8_ratchets_60 : decode cX8_ratchets 60 = .ok (.bipush 70, 2) := by decide +kernel
theorem dX8_ratchets_62 : decode cX8_ratchets 62 = .ok (.iload_n 3, 1) := by decide +kernel
theorem dX8_ratchets_63 : decode cX8_ratchets 63 = .ok (.iadd, 1) := by decide +kernel
theorem dX8_ratchets_64 : decode cX8_ratchets 64 = .ok (.iload_n 2, 1) := by decide +kernel
theorem dX8_ratchets_65 : decode cX8_ratchets 65 = .ok (.iastore, 1) := by decide +kernel
theorem dX8_ratchets_66 : decode cX8_ratchets 66 = .ok (.iinc 3 1, 3) := by decide +kernel
theorem dX8_ratchets_69 : decode cX8_ratchets 69 = .ok (.goto (-24), 3) := by decide +kernel
theorem dX8_ratchets_72 : decode cX8_ratchets 72 = .ok (.aload_n 0, 1) := by decide +kernel
theorem dX8_ratchets_73 : decode cX8_ratchets 73 = .ok (.invokevirtual 296, 3) := by decide +kernel
theorem dX8_ratchets_76 : decode cX8_ratchets 76 = .ok (.istore_n 3, 1) := by decide +kernel
theorem dX8_ratchets_77 : decode cX8_ratchets 77 = .ok (.aload_n 0, 1) := by decide +kernel
theorem dX8_ratchets_78 : decode cX8_ratchets 78 = .ok (.invokevirtual 146, 3) := by decide +kernel
theorem dX8_ratchets_81 : decode cX8_ratchets 81 = .ok (.iload_n 3, 1) := by decide +kernel
theorem dX8_ratchets_82 : decode cX8_ratchets 82 = .ok (.ifCond .ge 7, 3) := by decide +kernel
theorem dX8_ratchets_85 : decode cX8_ratchets 85 = .ok (.iload_n 3, 1) := by decide +kernel
theorem dX8_ratchets_86 : decode cX8_ratchets 86 = .ok (.goto 8, 3) := by decide +kernel
theorem dX8_ratchets_89 : decode cX8_ratchets 89 = .ok (.aload_n 0, 1) := by decide +kernel
theorem dX8_ratchets_90 : decode cX8_ratchets 90 = .ok (.getfield 269, 3) := by decide +kernel
theorem dX8_ratchets_93 : decode cX8_ratchets 93 = .ok (.l2i, 1) := by decide +kernel
theorem dX8_ratchets_94 : decode cX8_ratchets 94 = .ok (.istore 4, 2) := by decide +kernel
theorem dX8_ratchets_96 : decode cX8_ratchets 96 = .ok (.iload_n 1, 1) := by decide +kernel
theorem dX8_ratchets_97 : decode cX8_ratchets 97 = .ok (.iload 4, 2) := by decide +kernel
theorem dX8_ratchets_99 : decode cX8_ratchets 99 = .ok (.ifCond .le 16, 3) := by decide +kernel
theorem dX8_ratchets_102 : decode cX8_ratchets 102 = .ok (.aload_n 0, 1) := by decide +kernel
theorem dX8_ratchets_103 : decode cX8_ratchets 103 = .ok (.iload 4, 2) := by decide +kernel
theorem dX8_ratchets_105 : decode cX8_ratchets 105 = .ok (.invokevirtual 311, 3) := by decide +kernel
theorem dX8_ratchets_108 : decode cX8_ratchets 108 = .ok (.ifCond .ne 7, 3) := by decide +kernel
theorem dX8_ratchets_111 : decode cX8_ratchets 111 = .ok (.iconst 1, 1) := by decide +kernel
theorem dX8_ratchets_112 : decode cX8_ratchets 112 = .ok (.goto 4, 3) := by decide +kernel
theorem dX8_ratchets_115 : decode cX8_ratchets 115 = .ok (.iconst 0, 1) := by decide +kernel
theorem dX8_ratchets_116 : decode cX8_ratchets 116 = .ok (.iadd, 1) := by decide +kernel
theorem dX8_ratchets_117 : decode cX8_ratchets 117 = .ok (.istore_n 1, 1) := by decide +kernel
theorem dX8_ratchets_118 : decode cX8_ratchets 118 = .ok (.aload_n 0, 1) := by decide +kernel
theorem dX8_ratchets_119 : decode cX8_ratchets 119 = .ok (.iload 4, 2) := by decide +kernel
theorem dX8_ratchets_121 : decode cX8_ratchets 121 = .ok (.i2l, 1) := by decide +kernel
theorem dX8_ratchets_122 : decode cX8_ratchets 122 = .ok (.invokevirtual 299, 3) := by decide +kernel
theorem dX8_ratchets_125 : decode cX8_ratchets 125 = .ok (.iinc 2 1, 3) := by decide +kernel
theorem dX8_ratchets_128 : decode cX8_ratchets 128 = .ok (.goto (-94), 3) := by decide +kernel
theorem dX8_ratchets_131 : decode cX8_ratchets 131 = .ok (.iload_n 1, 1) := by decide +kernel
theorem dX8_ratchets_132 : decode cX8_ratchets 132 = .ok (.ireturn, 1) := by decide +kernel
theorem dX8_ratchet_0 : decode cX8_ratchet 0 = .ok (.aload_n 0, 1) := by decide +kernel
theorem dX8_ratchet_1 : decode cX8_ratchet 1 = .ok (.iconst 0, 1) := by decide +kernel
theorem dX8_ratchet_2 : decode cX8_ratchet 2 = .ok (.putfield 48, 3) := by decide +kernel
theorem dX8_ratchet_5 : decode cX8_ratchet 5 = .ok (.aload_n 0, 1) := by decide +kernel
theorem dX8_ratchet_6 : decode cX8_ratchet 6 = .ok (.iload_n 1, 1) := by decide +kernel
theorem dX8_ratchet_7 : decode cX8_ratchet 7 = .ok (.invokevirtual 162, 3) := by decide +kernel
theorem dX8_ratchet_10 : decode cX8_ratchet 10 = .ok (.ifCond .eq 40, 3) := by decide +kernel
theorem dX8_ratchet_13 : decode cX8_ratchet 13 = .ok (.iload_n 2, 1) := by decide +kernel
theorem dX8_ratchet_14 : decode cX8_ratchet 14 = .ok (.i2l, 1) := by decide +kernel
theorem dX8_ratchet_15 : decode cX8_ratchet 15 = .ok (.lconst 1, 1) := by decide +kernel
theorem dX8_ratchet_16 : decode cX8_ratchet 16 = .ok (.ldc2_w 243, 3) := by decide +kernel
theorem dX8_ratchet_19 : decode cX8_ratchet 19 = .ok (.invokestatic 58, 3) := by decide +kernel
theorem dX8_ratchet_22 : decode cX8_ratchet 22 = .ok (.ifCond .eq 28, 3) := by decide +kernel
theorem dX8_ratchet_25 : decode cX8_ratchet 25 = .ok (.iload_n 3, 1) := by decide +kernel
theorem dX8_ratchet_26 : decode cX8_ratchet 26 = .ok (.i2l, 1) := by decide +kernel
theorem dX8_ratchet_27 : decode cX8_ratchet 27 = .ok (.lconst 1, 1) := by decide +kernel
theorem dX8_ratchet_28 : decode cX8_ratchet 28 = .ok (.ldc2_w 243, 3) := by decide +kernel
theorem dX8_ratchet_31 : decode cX8_ratchet 31 = .ok (.invokestatic 58, 3) := by decide +kernel
theorem dX8_ratchet_34 : decode cX8_ratchet 34 = .ok (.ifCond .eq 16, 3) := by decide +kernel
theorem dX8_ratchet_37 : decode cX8_ratchet 37 = .ok (.iload 4, 2) := by decide +kernel
theorem dX8_ratchet_39 : decode cX8_ratchet 39 = .ok (.i2l, 1) := by decide +kernel
theorem dX8_ratchet_40 : decode cX8_ratchet 40 = .ok (.lconst 1, 1) := by decide +kernel
theorem dX8_ratchet_41 : decode cX8_ratchet 41 = .ok (.ldc2_w 314, 3) := by decide +kernel
theorem dX8_ratchet_44 : decode cX8_ratchet 44 = .ok (.invokestatic 58, 3) := by decide +kernel
theorem dX8_ratchet_47 : decode cX8_ratchet 47 = .ok (.ifCond .ne 5, 3) := by decide +kernel
theorem dX8_ratchet_50 : decode cX8_ratchet 50 = .ok (.iconst (-1), 1) := by decide +kernel
theorem dX8_ratchet_51 : decode cX8_ratchet 51 = .ok (.ireturn, 1) := by decide +kernel
theorem dX8_ratchet_52 : decode cX8_ratchet 52 = .ok (.aload_n 0, 1) := by decide +kernel
theorem dX8_ratchet_53 : decode cX8_ratchet 53 = .ok (.aload_n 0, 1) := by decide +kernel
theorem dX8_ratchet_54 : decode cX8_ratchet 54 = .ok (.invokevirtual 143, 3) := by decide +kernel
theorem dX8_ratchet_57 : decode cX8_ratchet 57 = .ok (.putfield 254, 3) := by decide +kernel
theorem dX8_ratchet_60 : decode cX8_ratchet 60 = .ok (.aload_n 0, 1) := by decide +kernel
theorem dX8_ratchet_61 : decode cX8_ratchet 61 = .ok (.aload_n 0, 1) := by decide +kernel
theorem dX8_ratchet_62 : decode cX8_ratchet 62 = .ok (.invokevirtual 92, 3) := by decide +kernel
theorem dX8_ratchet_65 : decode cX8_ratchet 65 = .ok (.putfield 252, 3) := by decide +kernel
theorem dX8_ratchet_68 : decode cX8_ratchet 68 = .ok (.aload_n 0, 1) := by decide +kernel
theorem dX8_ratchet_69 : decode cX8_ratchet 69 = .ok (.getfield 30, 3) := by decide +kernel
theorem dX8_ratchet_72 : decode cX8_ratchet 72 = .ok (.iload_n 1, 1) := by decide +kernel
theorem dX8_ratchet_73 : decode cX8_ratchet 73 = .ok (.aload_n 0, 1) := by decide +kernel
theorem dX8_ratchet_74 : decode cX8_ratchet 74 = .ok (.getfield 7, 3) := by decide +kernel
theorem dX8_ratchet_77 : decode cX8_ratchet 77 = .ok (.bipush 64, 2) := by decide +kernel
theorem dX8_ratchet_79 : decode cX8_ratchet 79 = .ok (.iload_n 1, 1) := by decide +kernel
theorem dX8_ratchet_80 : decode cX8_ratchet 80 = .ok (.iadd, 1) := by decide +kernel
theorem dX8_ratchet_81 : decode cX8_ratchet 81 = .ok (.iaload, 1) := by decide +kernel
theorem dX8_ratchet_82 : decode cX8_ratchet 82 = .ok (.i2l, 1) := by decide +kernel
theorem dX8_ratchet_83 : decode cX8_ratchet 83 = .ok (.lastore, 1) := by decide +kernel
theorem dX8_ratchet_84 : decode cX8_ratchet 84 = .ok (.aload_n 0, 1) := by decide +kernel
theorem dX8_ratchet_85 : decode cX8_ratchet 85 = .ok (.iload_n 1, 1) := by decide +kernel
theorem dX8_ratchet_86 : decode cX8_ratchet 86 = .ok (.iload_n 2, 1) := by decide +kernel
theorem dX8_ratchet_87 : decode cX8_ratchet 87 = .ok (.i2l, 1) := by decide +kernel
theorem dX8_ratchet_88 : decode cX8_ratchet 88 = .ok (.iload_n 3, 1) := by decide +kernel
theorem dX8_ratchet_89 : decode cX8_ratchet 89 = .ok (.i2l, 1) := by decide +kernel
theorem dX8_ratchet_90 : decode cX8_ratchet 90 = .ok (.iload 4, 2) := by decide +kernel
theorem dX8_ratchet_92 : decode cX8_ratchet 92 = .ok (.i2l, 1) := by decide +kernel
theorem dX8_ratchet_93 : decode cX8_ratchet 93 = .ok (.invokevirtual 275, 3) := by decide +kernel
theorem dX8_ratchet_96 : decode cX8_ratchet 96 = .ok (.l2i, 1) := by decide +kernel
theorem dX8_ratchet_97 : decode cX8_ratchet 97 = .ok (.ireturn, 1) := by decide +kernel
theorem dX8_shares_0 : decode cX8_shares 0 = .ok (.aload_n 0, 1) := by decide +kernel
theorem dX8_shares_1 : decode cX8_shares 1 = .ok (.iconst 0, 1) := by decide +kernel
theorem dX8_shares_2 : decode cX8_shares 2 = .ok (.putfield 48, 3) := by decide +kernel
theorem dX8_shares_5 : decode cX8_shares 5 = .ok (.iload_n 1, 1) := by decide +kernel
theorem dX8_shares_6 : decode cX8_shares 6 = .ok (.invokestatic 140, 3) := by decide +kernel
theorem dX8_shares_9 : decode cX8_shares 9 = .ok (.ifCond .eq 20, 3) := by decide +kernel
theorem dX8_shares_12 : decode cX8_shares 12 = .ok (.aload_n 0, 1) := by decide +kernel
theorem dX8_shares_13 : decode cX8_shares 13 = .ok (.iload_n 2, 1) := by decide +kernel
theorem dX8_shares_14 : decode cX8_shares 14 = .ok (.invokevirtual 64, 3) := by decide +kernel
theorem dX8_shares_17 : decode cX8_shares 17 = .ok (.ifCond .eq 12, 3) := by decide +kernel
theorem dX8_shares_20 : decode cX8_shares 20 = .ok (.aload_n 0, 1) := by decide +kernel
theorem dX8_shares_21 : decode cX8_shares 21 = .ok (.iload_n 1, 1) := by decide +kernel
theorem dX8_shares_22 : decode cX8_shares 22 = .ok (.iload_n 2, 1) := by decide +kernel
theorem dX8_shares_23 : decode cX8_shares 23 = .ok (.invokevirtual 80, 3) := by decide +kernel
theorem dX8_shares_26 : decode cX8_shares 26 = .ok (.goto 4, 3) := by decide +kernel
theorem dX8_shares_29 : decode cX8_shares 29 = .ok (.iconst (-1), 1) := by decide +kernel
theorem dX8_shares_30 : decode cX8_shares 30 = .ok (.ireturn, 1) := by decide +kernel
theorem dX8_options_0 : decode cX8_options 0 = .ok (.aload_n 0, 1) := by decide +kernel
theorem dX8_options_1 : decode cX8_options 1 = .ok (.iconst 0, 1) := by decide +kernel
theorem dX8_options_2 : decode cX8_options 2 = .ok (.putfield 48, 3) := by decide +kernel
theorem dX8_options_5 : decode cX8_options 5 = .ok (.iload_n 1, 1) := by decide +kernel
theorem dX8_options_6 : decode cX8_options 6 = .ok (.invokestatic 140, 3) := by decide +kernel
theorem dX8_options_9 : decode cX8_options 9 = .ok (.ifCond .eq 15, 3) := by decide +kernel
theorem dX8_options_12 : decode cX8_options 12 = .ok (.aload_n 0, 1) := by decide +kernel
theorem dX8_options_13 : decode cX8_options 13 = .ok (.getfield 7, 3) := by decide +kernel
theorem dX8_options_16 : decode cX8_options 16 = .ok (.bipush 48, 2) := by decide +kernel
theorem dX8_options_18 : decode cX8_options 18 = .ok (.iload_n 1, 1) := by decide +kernel
theorem dX8_options_19 : decode cX8_options 19 = .ok (.iadd, 1) := by decide +kernel
theorem dX8_options_20 : decode cX8_options 20 = .ok (.iaload, 1) := by decide +kernel
theorem dX8_options_21 : decode cX8_options 21 = .ok (.goto 4, 3) := by decide +kernel
theorem dX8_options_24 : decode cX8_options 24 = .ok (.iconst (-1), 1) := by decide +kernel
theorem dX8_options_25 : decode cX8_options 25 = .ok (.ireturn, 1) := by decide +kernel
theorem dX8_stake_0 : decode cX8_stake 0 = .ok (.aload_n 0, 1) := by decide +kernel
theorem dX8_stake_1 : decode cX8_stake 1 = .ok (.iconst 0, 1) := by decide +kernel
theorem dX8_stake_2 : decode cX8_stake 2 = .ok (.putfield 48, 3) := by decide +kernel
theorem dX8_stake_5 : decode cX8_stake 5 = .ok (.iload_n 1, 1) := by decide +kernel
theorem dX8_stake_6 : decode cX8_stake 6 = .ok (.invokestatic 140, 3) := by decide +kernel
theorem dX8_stake_9 : decode cX8_stake 9 = .ok (.ifCond .ne 5, 3) := by decide +kernel
theorem dX8_stake_12 : decode cX8_stake 12 = .ok (.iconst (-1), 1) := by decide +kernel
theorem dX8_stake_13 : decode cX8_stake 13 = .ok (.ireturn, 1) := by decide +kernel
theorem dX8_stake_14 : decode cX8_stake 14 = .ok (.aload_n 0, 1) := by decide +kernel
theorem dX8_stake_15 : decode cX8_stake 15 = .ok (.iconst 0, 1) := by decide +kernel
theorem dX8_stake_16 : decode cX8_stake 16 = .ok (.putfield 52, 3) := by decide +kernel
theorem dX8_stake_19 : decode cX8_stake 19 = .ok (.aload_n 0, 1) := by decide +kernel
theorem dX8_stake_20 : decode cX8_stake 20 = .ok (.aload_n 0, 1) := by decide +kernel
theorem dX8_stake_21 : decode cX8_stake 21 = .ok (.iload_n 1, 1) := by decide +kernel
theorem dX8_stake_22 : decode cX8_stake 22 = .ok (.invokevirtual 149, 3) := by decide +kernel
theorem dX8_stake_25 : decode cX8_stake 25 = .ok (.aload_n 0, 1) := by decide +kernel
theorem dX8_stake_26 : decode cX8_stake 26 = .ok (.invokevirtual 143, 3) := by decide +kernel
theorem dX8_stake_29 : decode cX8_stake 29 = .ok (.invokestatic 305, 3) := by decide +kernel
theorem dX8_stake_32 : decode cX8_stake 32 = .ok (.invokevirtual 299, 3) := by decide +kernel
theorem dX8_stake_35 : decode cX8_stake 35 = .ok (.aload_n 0, 1) := by decide +kernel
theorem dX8_stake_36 : decode cX8_stake 36 = .ok (.aload_n 0, 1) := by decide +kernel
theorem dX8_stake_37 : decode cX8_stake 37 = .ok (.iload_n 1, 1) := by decide +kernel
theorem dX8_stake_38 : decode cX8_stake 38 = .ok (.invokevirtual 88, 3) := by decide +kernel
theorem dX8_stake_41 : decode cX8_stake 41 = .ok (.aload_n 0, 1) := by decide +kernel
theorem dX8_stake_42 : decode cX8_stake 42 = .ok (.invokevirtual 92, 3) := by decide +kernel
theorem dX8_stake_45 : decode cX8_stake 45 = .ok (.invokestatic 305, 3) := by decide +kernel
theorem dX8_stake_48 : decode cX8_stake 48 = .ok (.invokevirtual 299, 3) := by decide +kernel
theorem dX8_stake_51 : decode cX8_stake 51 = .ok (.aload_n 0, 1) := by decide +kernel
theorem dX8_stake_52 : decode cX8_stake 52 = .ok (.iload_n 1, 1) := by decide +kernel
theorem dX8_stake_53 : decode cX8_stake 53 = .ok (.invokevirtual 149, 3) := by decide +kernel
theorem dX8_stake_56 : decode cX8_stake 56 = .ok (.l2i, 1) := by decide +kernel
theorem dX8_stake_57 : decode cX8_stake 57 = .ok (.ireturn, 1) := by decide +kernel
theorem dX8_full_0 : decode cX8_full 0 = .ok (.aload_n 0, 1) := by decide +kernel
theorem dX8_full_1 : decode cX8_full 1 = .ok (.iconst 0, 1) := by decide +kernel
theorem dX8_full_2 : decode cX8_full 2 = .ok (.putfield 48, 3) := by decide +kernel
theorem dX8_full_5 : decode cX8_full 5 = .ok (.aload_n 0, 1) := by decide +kernel
theorem dX8_full_6 : decode cX8_full 6 = .ok (.iconst 0, 1) := by decide +kernel
theorem dX8_full_7 : decode cX8_full 7 = .ok (.putfield 52, 3) := by decide +kernel
theorem dX8_full_10 : decode cX8_full 10 = .ok (.iconst 0, 1) := by decide +kernel
theorem dX8_full_11 : decode cX8_full 11 = .ok (.istore_n 1, 1) := by decide +kernel
theorem dX8_full_12 : decode cX8_full 12 = .ok (.iload_n 1, 1) := by decide +kernel
theorem dX8_full_13 : decode cX8_full 13 = .ok (.aload_n 0, 1) := by decide +kernel
theorem dX8_full_14 : decode cX8_full 14 = .ok (.getfield 7, 3) := by decide +kernel
theorem dX8_full_17 : decode cX8_full 17 = .ok (.bipush 57, 2) := by decide +kernel
theorem dX8_full_19 : decode cX8_full 19 = .ok (.iaload, 1) := by decide +kernel
theorem dX8_full_20 : decode cX8_full 20 = .ok (.if_icmp .ge 18, 3) := by decide +kernel
theorem dX8_full_23 : decode cX8_full 23 = .ok (.aload_n 0, 1) := by decide +kernel
theorem dX8_full_24 : decode cX8_full 24 = .ok (.aload_n 0, 1) := by decide +kernel
theorem dX8_full_25 : decode cX8_full 25 = .ok (.iload_n 1, 1) := by decide +kernel
theorem dX8_full_26 : decode cX8_full 26 = .ok (.invokevirtual 316, 3) := by decide +kernel
theorem dX8_full_29 : decode cX8_full 29 = .ok (.invokevirtual 299, 3) := by decide +kernel
theorem dX8_full_32 : decode cX8_full 32 = .ok (.iinc 1 1, 3) := by decide +kernel
theorem dX8_full_35 : decode cX8_full 35 = .ok (.goto (-23), 3) := by decide +kernel
theorem dX8_full_38 : decode cX8_full 38 = .ok (.aload_n 0, 1) := by decide +kernel
theorem dX8_full_39 : decode cX8_full 39 = .ok (.aload_n 0, 1) := by decide +kernel
theorem dX8_full_40 : decode cX8_full 40 = .ok (.invokevirtual 96, 3) := by decide +kernel
theorem dX8_full_43 : decode cX8_full 43 = .ok (.invokevirtual 299, 3) := by decide +kernel
theorem dX8_full_46 : decode cX8_full 46 = .ok (.aload_n 0, 1) := by decide +kernel
theorem dX8_full_47 : decode cX8_full 47 = .ok (.aload_n 0, 1) := by decide +kernel
theorem dX8_full_48 : decode cX8_full 48 = .ok (.getfield 7, 3) := by decide +kernel
theorem dX8_full_51 : decode cX8_full 51 = .ok (.bipush 56, 2) := by decide +kernel
theorem dX8_full_53 : decode cX8_full 53 = .ok (.iaload, 1) := by decide +kernel
theorem dX8_full_54 : decode cX8_full 54 = .ok (.i2l, 1) := by decide +kernel
theorem dX8_full_55 : decode cX8_full 55 = .ok (.invokevirtual 299, 3) := by decide +kernel
theorem dX8_full_58 : decode cX8_full 58 = .ok (.aload_n 0, 1) := by decide +kernel
theorem dX8_full_59 : decode cX8_full 59 = .ok (.invokevirtual 143, 3) := by decide +kernel
theorem dX8_full_62 : decode cX8_full 62 = .ok (.l2i, 1) := by decide +kernel
theorem dX8_full_63 : decode cX8_full 63 = .ok (.ireturn, 1) := by decide +kernel
theorem dX8_holdersOf_0 : decode cX8_holdersOf 0 = .ok (.iconst 0, 1) := by decide +kernel
theorem dX8_holdersOf_1 : decode cX8_holdersOf 1 = .ok (.istore_n 2, 1) := by decide +kernel
theorem dX8_holdersOf_2 : decode cX8_holdersOf 2 = .ok (.iconst 0, 1) := by decide +kernel
theorem dX8_holdersOf_3 : decode cX8_holdersOf 3 = .ok (.istore_n 3, 1) := by decide +kernel
theorem dX8_holdersOf_4 : decode cX8_holdersOf 4 = .ok (.iload_n 3, 1) := by decide +kernel
theorem dX8_holdersOf_5 : decode cX8_holdersOf 5 = .ok (.bipush 8, 2) := by decide +kernel
theorem dX8_holdersOf_7 : decode cX8_holdersOf 7 = .ok (.if_icmp .ge 28, 3) := by decide +kernel
theorem dX8_holdersOf_10 : decode cX8_holdersOf 10 = .ok (.iload_n 2, 1) := by decide +kernel
theorem dX8_holdersOf_11 : decode cX8_holdersOf 11 = .ok (.aload_n 0, 1) := by decide +kernel
theorem dX8_holdersOf_12 : decode cX8_holdersOf 12 = .ok (.iload_n 3, 1) := by decide +kernel
theorem dX8_holdersOf_13 : decode cX8_holdersOf 13 = .ok (.iload_n 1, 1) := by decide +kernel
theorem dX8_holdersOf_14 : decode cX8_holdersOf 14 = .ok (.invokevirtual 80, 3) := by decide +kernel
theorem dX8_holdersOf_17 : decode cX8_holdersOf 17 = .ok (.ifCond .le 9, 3) := by decide +kernel
theorem dX8_holdersOf_20 : decode cX8_holdersOf 20 = .ok (.iconst 1, 1) := by decide +kernel
theorem dX8_holdersOf_21 : decode cX8_holdersOf 21 = .ok (.iload_n 3, 1) := by decide +kernel
theorem dX8_holdersOf_22 : decode cX8_holdersOf 22 = .ok (.ishl, 1) := by decide +kernel
theorem dX8_holdersOf_23 : decode cX8_holdersOf 23 = .ok (.goto 4, 3) := by decide +kernel
theorem dX8_holdersOf_26 : decode cX8_holdersOf 26 = .ok (.iconst 0, 1) := by decide +kernel
theorem dX8_holdersOf_27 : decode cX8_holdersOf 27 = .ok (.ior, 1) := by decide +kernel
theorem dX8_holdersOf_28 : decode cX8_holdersOf 28 = .ok (.istore_n 2, 1) := by decide +kernel
theorem dX8_holdersOf_29 : decode cX8_holdersOf 29 = .ok (.iinc 3 1, 3) := by decide +kernel
theorem dX8_holdersOf_32 : decode cX8_holdersOf 32 = .ok (.goto (-28), 3) := by decide +kernel
theorem dX8_holdersOf_35 : decode cX8_holdersOf 35 = .ok (.iload_n 2, 1) := by decide +kernel
theorem dX8_holdersOf_36 : decode cX8_holdersOf 36 = .ok (.ireturn, 1) := by decide +kernel
theorem dX8_type_0 : decode cX8_type 0 = .ok (.aload_n 0, 1) := by decide +kernel
theorem dX8_type_1 : decode cX8_type 1 = .ok (.iconst 0, 1) := by decide +kernel
theorem dX8_type_2 : decode cX8_type 2 = .ok (.putfield 48, 3) := by decide +kernel
theorem dX8_type_5 : decode cX8_type 5 = .ok (.aload_n 0, 1) := by decide +kernel
theorem dX8_type_6 : decode cX8_type 6 = .ok (.iload_n 1, 1) := by decide +kernel
theorem dX8_type_7 : decode cX8_type 7 = .ok (.invokevirtual 64, 3) := by decide +kernel
theorem dX8_type_10 : decode cX8_type 10 = .ok (.ifCond .eq 31, 3) := by decide +kernel
theorem dX8_type_13 : decode cX8_type 13 = .ok (.iload_n 2, 1) := by decide +kernel
theorem dX8_type_14 : decode cX8_type 14 = .ok (.i2l, 1) := by decide +kernel
theorem dX8_type_15 : decode cX8_type 15 = .ok (.lconst 0, 1) := by decide +kernel
theorem dX8_type_16 : decode cX8_type 16 = .ok (.ldc2_w 62, 3) := by decide +kernel
theorem dX8_type_19 : decode cX8_type 19 = .ok (.invokestatic 58, 3) := by decide +kernel
theorem dX8_type_22 : decode cX8_type 22 = .ok (.ifCond .eq 19, 3) := by decide +kernel
theorem dX8_type_25 : decode cX8_type 25 = .ok (.iload_n 1, 1) := by decide +kernel
theorem dX8_type_26 : decode cX8_type 26 = .ok (.ifCond .ne 17, 3) := by decide +kernel
theorem dX8_type_29 : decode cX8_type 29 = .ok (.iload_n 2, 1) := by decide +kernel
theorem dX8_type_30 : decode cX8_type 30 = .ok (.i2l, 1) := by decide +kernel
theorem dX8_type_31 : decode cX8_type 31 = .ok (.lconst 1, 1) := by decide +kernel
theorem dX8_type_32 : decode cX8_type 32 = .ok (.ldc2_w 319, 3) := by decide +kernel
theorem dX8_type_35 : decode cX8_type 35 = .ok (.invokestatic 58, 3) := by decide +kernel
theorem dX8_type_38 : decode cX8_type 38 = .ok (.ifCond .eq 5, 3) := by decide +kernel
theorem dX8_type_41 : decode cX8_type 41 = .ok (.iconst (-1), 1) := by decide +kernel
theorem dX8_type_42 : decode cX8_type 42 = .ok (.ireturn, 1) := by decide +kernel
theorem dX8_type_43 : decode cX8_type 43 = .ok (.iload_n 2, 1) := by decide +kernel
theorem dX8_type_44 : decode cX8_type 44 = .ok (.tableswitch 81 0 7 #[48, 55, 65, 81, 81, 81, 81, 75], 48) := by decide +kernel
theorem dX8_type_92 : decode cX8_type 92 = .ok (.aload_n 0, 1) := by decide +kernel
theorem dX8_type_93 : decode cX8_type 93 = .ok (.iload_n 1, 1) := by decide +kernel
theorem dX8_type_94 : decode cX8_type 94 = .ok (.invokevirtual 154, 3) := by decide +kernel
theorem dX8_type_97 : decode cX8_type 97 = .ok (.l2i, 1) := by decide +kernel
theorem dX8_type_98 : decode cX8_type 98 = .ok (.ireturn, 1) := by decide +kernel
theorem dX8_type_99 : decode cX8_type 99 = .ok (.aload_n 0, 1) := by decide +kernel
theorem dX8_type_100 : decode cX8_type 100 = .ok (.getfield 7, 3) := by decide +kernel
theorem dX8_type_103 : decode cX8_type 103 = .ok (.bipush 58, 2) := by decide +kernel
theorem dX8_type_105 : decode cX8_type 105 = .ok (.iload_n 1, 1) := by decide +kernel
theorem dX8_type_106 : decode cX8_type 106 = .ok (.iadd, 1) := by decide +kernel
theorem dX8_type_107 : decode cX8_type 107 = .ok (.iaload, 1) := by decide +kernel
theorem dX8_type_108 : decode cX8_type 108 = .ok (.ireturn, 1) := by decide +kernel
theorem dX8_type_109 : decode cX8_type 109 = .ok (.aload_n 0, 1) := by decide +kernel
theorem dX8_type_110 : decode cX8_type 110 = .ok (.getfield 7, 3) := by decide +kernel
theorem dX8_type_113 : decode cX8_type 113 = .ok (.bipush 64, 2) := by decide +kernel
theorem dX8_type_115 : decode cX8_type 115 = .ok (.iload_n 1, 1) := by decide +kernel
theorem dX8_type_116 : decode cX8_type 116 = .ok (.iadd, 1) := by decide +kernel
theorem dX8_type_117 : decode cX8_type 117 = .ok (.iaload, 1) := by decide +kernel
theorem dX8_type_118 : decode cX8_type 118 = .ok (.ireturn, 1) := by decide +kernel
theorem dX8_type_119 : decode cX8_type 119 = .ok (.aload_n 0, 1) := by decide +kernel
theorem dX8_type_120 : decode cX8_type 120 = .ok (.iload_n 1, 1) := by decide +kernel
theorem dX8_type_121 : decode cX8_type 121 = .ok (.invokevirtual 321, 3) := by decide +kernel
theorem dX8_type_124 : decode cX8_type 124 = .ok (.ireturn, 1) := by decide +kernel
theorem dX8_type_125 : decode cX8_type 125 = .ok (.aload_n 0, 1) := by decide +kernel
theorem dX8_type_126 : decode cX8_type 126 = .ok (.getfield 7, 3) := by decide +kernel
theorem dX8_type_129 : decode cX8_type 129 = .ok (.aload_n 0, 1) := by decide +kernel
theorem dX8_type_130 : decode cX8_type 130 = .ok (.iload_n 1, 1) := by decide +kernel
theorem dX8_type_131 : decode cX8_type 131 = .ok (.iload_n 2, 1) := by decide +kernel
theorem dX8_type_132 : decode cX8_type 132 = .ok (.iconst 3, 1) := by decide +kernel
theorem dX8_type_133 : decode cX8_type 133 = .ok (.isub, 1) := by decide +kernel
theorem dX8_type_134 : decode cX8_type 134 = .ok (.invokevirtual 169, 3) := by decide +kernel
theorem dX8_type_137 : decode cX8_type 137 = .ok (.iaload, 1) := by decide +kernel
theorem dX8_type_138 : decode cX8_type 138 = .ok (.ireturn, 1) := by decide +kernel
theorem dX8_needs_0 : decode cX8_needs 0 = .ok (.aload_n 0, 1) := by decide +kernel
theorem dX8_needs_1 : decode cX8_needs 1 = .ok (.iconst 0, 1) := by decide +kernel
theorem dX8_needs_2 : decode cX8_needs 2 = .ok (.putfield 48, 3) := by decide +kernel
theorem dX8_needs_5 : decode cX8_needs 5 = .ok (.iload_n 1, 1) := by decide +kernel
theorem dX8_needs_6 : decode cX8_needs 6 = .ok (.invokestatic 140, 3) := by decide +kernel
theorem dX8_needs_9 : decode cX8_needs 9 = .ok (.ifCond .eq 15, 3) := by decide +kernel
theorem dX8_needs_12 : decode cX8_needs 12 = .ok (.iload_n 2, 1) := by decide +kernel
theorem dX8_needs_13 : decode cX8_needs 13 = .ok (.i2l, 1) := by decide +kernel
theorem dX8_needs_14 : decode cX8_needs 14 = .ok (.lconst 1, 1) := by decide +kernel
theorem dX8_needs_15 : decode cX8_needs 15 = .ok (.ldc2_w 131, 3) := by decide +kernel
theorem dX8_needs_18 : decode cX8_needs 18 = .ok (.invokestatic 58, 3) := by decide +kernel
theorem dX8_needs_21 : decode cX8_needs 21 = .ok (.ifCond .ne 5, 3) := by decide +kernel
theorem dX8_needs_24 : decode cX8_needs 24 = .ok (.iconst (-1), 1) := by decide +kernel
theorem dX8_needs_25 : decode cX8_needs 25 = .ok (.ireturn, 1) := by decide +kernel
theorem dX8_needs_26 : decode cX8_needs 26 = .ok (.aload_n 0, 1) := by decide +kernel
theorem dX8_needs_27 : decode cX8_needs 27 = .ok (.invokevirtual 143, 3) := by decide +kernel
theorem dX8_needs_30 : decode cX8_needs 30 = .ok (.lstore_n 3, 1) := by decide +kernel
theorem dX8_needs_31 : decode cX8_needs 31 = .ok (.lload_n 3, 1) := by decide +kernel
theorem dX8_needs_32 : decode cX8_needs 32 = .ok (.lconst 0, 1) := by decide +kernel
theorem dX8_needs_33 : decode cX8_needs 33 = .ok (.lcmp, 1) := by decide +kernel
theorem dX8_needs_34 : decode cX8_needs 34 = .ok (.ifCond .ne 7, 3) := by decide +kernel
theorem dX8_needs_37 : decode cX8_needs 37 = .ok (.iconst 0, 1) := by decide +kernel
theorem dX8_needs_38 : decode cX8_needs 38 = .ok (.goto 18, 3) := by decide +kernel
theorem dX8_needs_41 : decode cX8_needs 41 = .ok (.iload_n 2, 1) := by decide +kernel
theorem dX8_needs_42 : decode cX8_needs 42 = .ok (.i2l, 1) := by decide +kernel
theorem dX8_needs_43 : decode cX8_needs 43 = .ok (.aload_n 0, 1) := by decide +kernel
theorem dX8_needs_44 : decode cX8_needs 44 = .ok (.iload_n 1, 1) := by decide +kernel
theorem dX8_needs_45 : decode cX8_needs 45 = .ok (.invokevirtual 149, 3) := by decide +kernel
theorem dX8_needs_48 : decode cX8_needs 48 = .ok (.lmul, 1) := by decide +kernel
theorem dX8_needs_49 : decode cX8_needs 49 = .ok (.lload_n 3, 1) := by decide +kernel
theorem dX8_needs_50 : decode cX8_needs 50 = .ok (.ladd, 1) := by decide +kernel
theorem dX8_needs_51 : decode cX8_needs 51 = .ok (.lconst 1, 1) := by decide +kernel
theorem dX8_needs_52 : decode cX8_needs 52 = .ok (.lsub, 1) := by decide +kernel
theorem dX8_needs_53 : decode cX8_needs 53 = .ok (.lload_n 3, 1) := by decide +kernel
theorem dX8_needs_54 : decode cX8_needs 54 = .ok (.ldiv, 1) := by decide +kernel
theorem dX8_needs_55 : decode cX8_needs 55 = .ok (.l2i, 1) := by decide +kernel
theorem dX8_needs_56 : decode cX8_needs 56 = .ok (.ireturn, 1) := by decide +kernel
theorem dX8_greatest_0 : decode cX8_greatest 0 = .ok (.aload_n 0, 1) := by decide +kernel
theorem dX8_greatest_1 : decode cX8_greatest 1 = .ok (.iconst 0, 1) := by decide +kernel
theorem dX8_greatest_2 : decode cX8_greatest 2 = .ok (.putfield 48, 3) := by decide +kernel
theorem dX8_greatest_5 : decode cX8_greatest 5 = .ok (.aload_n 0, 1) := by decide +kernel
theorem dX8_greatest_6 : decode cX8_greatest 6 = .ok (.iconst 0, 1) := by decide +kernel
theorem dX8_greatest_7 : decode cX8_greatest 7 = .ok (.putfield 52, 3) := by decide +kernel
theorem dX8_greatest_10 : decode cX8_greatest 10 = .ok (.iconst 0, 1) := by decide +kernel
theorem dX8_greatest_11 : decode cX8_greatest 11 = .ok (.istore_n 1, 1) := by decide +kernel
theorem dX8_greatest_12 : decode cX8_greatest 12 = .ok (.iconst 0, 1) := by decide +kernel
theorem dX8_greatest_13 : decode cX8_greatest 13 = .ok (.istore_n 2, 1) := by decide +kernel
theorem dX8_greatest_14 : decode cX8_greatest 14 = .ok (.iload_n 2, 1) := by decide +kernel
theorem dX8_greatest_15 : decode cX8_greatest 15 = .ok (.bipush 8, 2) := by decide +kernel
theorem dX8_greatest_17 : decode cX8_greatest 17 = .ok (.if_icmp .ge 71, 3) := by decide +kernel
theorem dX8_greatest_20 : decode cX8_greatest 20 = .ok (.iconst (-1), 1) := by decide +kernel
theorem dX8_greatest_21 : decode cX8_greatest 21 = .ok (.istore_n 3, 1) := by decide +kernel
theorem dX8_greatest_22 : decode cX8_greatest 22 = .ok (.iconst 0, 1) := by decide +kernel
theorem dX8_greatest_23 : decode cX8_greatest 23 = .ok (.istore 4, 2) := by decide +kernel
theorem dX8_greatest_25 : decode cX8_greatest 25 = .ok (.iload 4, 2) := by decide +kernel
theorem dX8_greatest_27 : decode cX8_greatest 27 = .ok (.bipush 8, 2) := by decide +kernel
theorem dX8_greatest_29 : decode cX8_greatest 29 = .ok (.if_icmp .ge 41, 3) := by decide +kernel
theorem dX8_greatest_32 : decode cX8_greatest 32 = .ok (.iload_n 1, 1) := by decide +kernel
theorem dX8_greatest_33 : decode cX8_greatest 33 = .ok (.iload 4, 2) := by decide +kernel
theorem dX8_greatest_35 : decode cX8_greatest 35 = .ok (.ishr, 1) := by decide +kernel
theorem dX8_greatest_36 : decode cX8_greatest 36 = .ok (.iconst 1, 1) := by decide +kernel
theorem dX8_greatest_37 : decode cX8_greatest 37 = .ok (.iand, 1) := by decide +kernel
theorem dX8_greatest_38 : decode cX8_greatest 38 = .ok (.ifCond .ne 26, 3) := by decide +kernel
theorem dX8_greatest_41 : decode cX8_greatest 41 = .ok (.iload_n 3, 1) := by decide +kernel
theorem dX8_greatest_42 : decode cX8_greatest 42 = .ok (.iconst (-1), 1) := by decide +kernel
theorem dX8_greatest_43 : decode cX8_greatest 43 = .ok (.if_icmp .eq 18, 3) := by decide +kernel
theorem dX8_greatest_46 : decode cX8_greatest 46 = .ok (.aload_n 0, 1) := by decide +kernel
theorem dX8_greatest_47 : decode cX8_greatest 47 = .ok (.iload 4, 2) := by decide +kernel
theorem dX8_greatest_49 : decode cX8_greatest 49 = .ok (.invokevirtual 149, 3) := by decide +kernel
theorem dX8_greatest_52 : decode cX8_greatest 52 = .ok (.aload_n 0, 1) := by decide +kernel
theorem dX8_greatest_53 : decode cX8_greatest 53 = .ok (.iload_n 3, 1) := by decide +kernel
theorem dX8_greatest_54 : decode cX8_greatest 54 = .ok (.invokevirtual 149, 3) := by decide +kernel
theorem dX8_greatest_57 : decode cX8_greatest 57 = .ok (.lcmp, 1) := by decide +kernel
theorem dX8_greatest_58 : decode cX8_greatest 58 = .ok (.ifCond .le 6, 3) := by decide +kernel
theorem dX8_greatest_61 : decode cX8_greatest 61 = .ok (.iload 4, 2) := by decide +kernel
theorem dX8_greatest_63 : decode cX8_greatest 63 = .ok (.istore_n 3, 1) := by decide +kernel
theorem dX8_greatest_64 : decode cX8_greatest 64 = .ok (.iinc 4 1, 3) := by decide +kernel
theorem dX8_greatest_67 : decode cX8_greatest 67 = .ok (.goto (-42), 3) := by decide +kernel
theorem dX8_greatest_70 : decode cX8_greatest 70 = .ok (.iload_n 1, 1) := by decide +kernel
theorem dX8_greatest_71 : decode cX8_greatest 71 = .ok (.iconst 1, 1) := by decide +kernel
theorem dX8_greatest_72 : decode cX8_greatest 72 = .ok (.iload_n 3, 1) := by decide +kernel
theorem dX8_greatest_73 : decode cX8_greatest 73 = .ok (.ishl, 1) := by decide +kernel
theorem dX8_greatest_74 : decode cX8_greatest 74 = .ok (.ior, 1) := by decide +kernel
theorem dX8_greatest_75 : decode cX8_greatest 75 = .ok (.istore_n 1, 1) := by decide +kernel
theorem dX8_greatest_76 : decode cX8_greatest 76 = .ok (.aload_n 0, 1) := by decide +kernel
theorem dX8_greatest_77 : decode cX8_greatest 77 = .ok (.iload_n 3, 1) := by decide +kernel
theorem dX8_greatest_78 : decode cX8_greatest 78 = .ok (.i2l, 1) := by decide +kernel
theorem dX8_greatest_79 : decode cX8_greatest 79 = .ok (.invokevirtual 299, 3) := by decide +kernel
theorem dX8_greatest_82 : decode cX8_greatest 82 = .ok (.iinc 2 1, 3) := by decide +kernel
theorem dX8_greatest_85 : decode cX8_greatest 85 = .ok (.goto (-71), 3) := by decide +kernel
theorem dX8_greatest_88 : decode cX8_greatest 88 = .ok (.aload_n 0, 1) := by decide +kernel
theorem dX8_greatest_89 : decode cX8_greatest 89 = .ok (.getfield 23, 3) := by decide +kernel
theorem dX8_greatest_92 : decode cX8_greatest 92 = .ok (.iconst 0, 1) := by decide +kernel
theorem dX8_greatest_93 : decode cX8_greatest 93 = .ok (.laload, 1) := by decide +kernel
theorem dX8_greatest_94 : decode cX8_greatest 94 = .ok (.l2i, 1) := by decide +kernel
theorem dX8_greatest_95 : decode cX8_greatest 95 = .ok (.ireturn, 1) := by decide +kernel
theorem dX8_ones_0 : decode cX8_ones 0 = .ok (.iconst 0, 1) := by decide +kernel
theorem dX8_ones_1 : decode cX8_ones 1 = .ok (.istore_n 1, 1) := by decide +kernel
theorem dX8_ones_2 : decode cX8_ones 2 = .ok (.iload_n 0, 1) := by decide +kernel
theorem dX8_ones_3 : decode cX8_ones 3 = .ok (.istore_n 2, 1) := by decide +kernel
theorem dX8_ones_4 : decode cX8_ones 4 = .ok (.iload_n 2, 1) := by decide +kernel
theorem dX8_ones_5 : decode cX8_ones 5 = .ok (.ifCond .eq 15, 3) := by decide +kernel
theorem dX8_ones_8 : decode cX8_ones 8 = .ok (.iinc 1 1, 3) := by decide +kernel
theorem dX8_ones_11 : decode cX8_ones 11 = .ok (.iload_n 2, 1) := by decide +kernel
theorem dX8_ones_12 : decode cX8_ones 12 = .ok (.iload_n 2, 1) := by decide +kernel
theorem dX8_ones_13 : decode cX8_ones 13 = .ok (.iconst 1, 1) := by decide +kernel
theorem dX8_ones_14 : decode cX8_ones 14 = .ok (.isub, 1) := by decide +kernel
theorem dX8_ones_15 : decode cX8_ones 15 = .ok (.iand, 1) := by decide +kernel
theorem dX8_ones_16 : decode cX8_ones 16 = .ok (.istore_n 2, 1) := by decide +kernel
theorem dX8_ones_17 : decode cX8_ones 17 = .ok (.goto (-13), 3) := by decide +kernel
theorem dX8_ones_20 : decode cX8_ones 20 = .ok (.iload_n 1, 1) := by decide +kernel
theorem dX8_ones_21 : decode cX8_ones 21 = .ok (.ireturn, 1) := by decide +kernel
theorem dX8_sharesOfSet_0 : decode cX8_sharesOfSet 0 = .ok (.lconst 0, 1) := by decide +kernel
theorem dX8_sharesOfSet_1 : decode cX8_sharesOfSet 1 = .ok (.lstore_n 2, 1) := by decide +kernel
theorem dX8_sharesOfSet_2 : decode cX8_sharesOfSet 2 = .ok (.iconst 0, 1) := by decide +kernel
theorem dX8_sharesOfSet_3 : decode cX8_sharesOfSet 3 = .ok (.istore 4, 2) := by decide +kernel
theorem dX8_sharesOfSet_5 : decode cX8_sharesOfSet 5 = .ok (.iload 4, 2) := by decide +kernel
theorem dX8_sharesOfSet_7 : decode cX8_sharesOfSet 7 = .ok (.bipush 8, 2) := by decide +kernel
theorem dX8_sharesOfSet_9 : decode cX8_sharesOfSet 9 = .ok (.if_icmp .ge 32, 3) := by decide +kernel
theorem dX8_sharesOfSet_12 : decode cX8_sharesOfSet 12 = .ok (.lload_n 2, 1) := by decide +kernel
theorem dX8_sharesOfSet_13 : decode cX8_sharesOfSet 13 = .ok (.iload_n 1, 1) := by decide +kernel
theorem dX8_sharesOfSet_14 : decode cX8_sharesOfSet 14 = .ok (.iload 4, 2) := by decide +kernel
theorem dX8_sharesOfSet_16 : decode cX8_sharesOfSet 16 = .ok (.ishr, 1) := by decide +kernel
theorem dX8_sharesOfSet_17 : decode cX8_sharesOfSet 17 = .ok (.iconst 1, 1) := by decide +kernel
theorem dX8_sharesOfSet_18 : decode cX8_sharesOfSet 18 = .ok (.iand, 1) := by decide +kernel
theorem dX8_sharesOfSet_19 : decode cX8_sharesOfSet 19 = .ok (.iconst 1, 1) := by decide +kernel
theorem dX8_sharesOfSet_20 : decode cX8_sharesOfSet 20 = .ok (.if_icmp .ne 12, 3) := by decide +kernel
theorem dX8_sharesOfSet_23 : decode cX8_sharesOfSet 23 = .ok (.aload_n 0, 1) := by decide +kernel
theorem dX8_sharesOfSet_24 : decode cX8_sharesOfSet 24 = .ok (.iload 4, 2) := by decide +kernel
theorem dX8_sharesOfSet_26 : decode cX8_sharesOfSet 26 = .ok (.invokevirtual 88, 3) := by decide +kernel
theorem dX8_sharesOfSet_29 : decode cX8_sharesOfSet 29 = .ok (.goto 4, 3) := by decide +kernel
theorem dX8_sharesOfSet_32 : decode cX8_sharesOfSet 32 = .ok (.lconst 0, 1) := by decide +kernel
theorem dX8_sharesOfSet_33 : decode cX8_sharesOfSet 33 = .ok (.ladd, 1) := by decide +kernel
theorem dX8_sharesOfSet_34 : decode cX8_sharesOfSet 34 = .ok (.lstore_n 2, 1) := by decide +kernel
theorem dX8_sharesOfSet_35 : decode cX8_sharesOfSet 35 = .ok (.iinc 4 1, 3) := by decide +kernel
theorem dX8_sharesOfSet_38 : decode cX8_sharesOfSet 38 = .ok (.goto (-33), 3) := by decide +kernel
theorem dX8_sharesOfSet_41 : decode cX8_sharesOfSet 41 = .ok (.lload_n 2, 1) := by decide +kernel
theorem dX8_sharesOfSet_42 : decode cX8_sharesOfSet 42 = .ok (.lreturn, 1) := by decide +kernel
theorem dX8_control_0 : decode cX8_control 0 = .ok (.aload_n 0, 1) := by decide +kernel
theorem dX8_control_1 : decode cX8_control 1 = .ok (.iconst 0, 1) := by decide +kernel
theorem dX8_control_2 : decode cX8_control 2 = .ok (.putfield 48, 3) := by decide +kernel
theorem dX8_control_5 : decode cX8_control 5 = .ok (.aload_n 0, 1) := by decide +kernel
theorem dX8_control_6 : decode cX8_control 6 = .ok (.invokevirtual 92, 3) := by decide +kernel
theorem dX8_control_9 : decode cX8_control 9 = .ok (.lstore_n 1, 1) := by decide +kernel
theorem dX8_control_10 : decode cX8_control 10 = .ok (.lload_n 1, 1) := by decide +kernel
theorem dX8_control_11 : decode cX8_control 11 = .ok (.lconst 0, 1) := by decide +kernel
theorem dX8_control_12 : decode cX8_control 12 = .ok (.lcmp, 1) := by decide +kernel
theorem dX8_control_13 : decode cX8_control 13 = .ok (.ifCond .ne 6, 3) := by decide +kernel
theorem dX8_control_16 : decode cX8_control 16 = .ok (.bipush (-2), 2) := by decide +kernel
theorem dX8_control_18 : decode cX8_control 18 = .ok (.ireturn, 1) := by decide +kernel
theorem dX8_control_19 : decode cX8_control 19 = .ok (.iconst 0, 1) := by decide +kernel
theorem dX8_control_20 : decode cX8_control 20 = .ok (.istore_n 3, 1) := by decide +kernel
theorem dX8_control_21 : decode cX8_control 21 = .ok (.iconst 1, 1) := by decide +kernel
theorem dX8_control_22 : decode cX8_control 22 = .ok (.istore 4, 2) := by decide +kernel
theorem dX8_control_24 : decode cX8_control 24 = .ok (.iload 4, 2) := by decide +kernel
theorem dX8_control_26 : decode cX8_control 26 = .ok (.sipush 256, 3) := by decide +kernel
theorem dX8_control_29 : decode cX8_control 29 = .ok (.if_icmp .ge 73, 3) := by decide +kernel
theorem dX8_control_32 : decode cX8_control 32 = .ok (.aload_n 0, 1) := by decide +kernel
theorem dX8_control_33 : decode cX8_control 33 = .ok (.iload 4, 2) := by decide +kernel
theorem dX8_control_35 : decode cX8_control 35 = .ok (.invokevirtual 324, 3) := by decide +kernel
theorem dX8_control_38 : decode cX8_control 38 = .ok (.lstore 5, 2) := by decide +kernel
theorem dX8_control_40 : decode cX8_control 40 = .ok (.ldc2_w 152, 3) := by decide +kernel
theorem dX8_control_43 : decode cX8_control 43 = .ok (.lload 5, 2) := by decide +kernel
theorem dX8_control_45 : decode cX8_control 45 = .ok (.lmul, 1) := by decide +kernel
theorem dX8_control_46 : decode cX8_control 46 = .ok (.lload_n 1, 1) := by decide +kernel
theorem dX8_control_47 : decode cX8_control 47 = .ok (.lcmp, 1) := by decide +kernel
theorem dX8_control_48 : decode cX8_control 48 = .ok (.ifCond .gt 6, 3) := by decide +kernel
theorem dX8_control_51 : decode cX8_control 51 = .ok (.goto 45, 3) := by decide +kernel
theorem dX8_control_54 : decode cX8_control 54 = .ok (.iload_n 3, 1) := by decide +kernel
theorem dX8_control_55 : decode cX8_control 55 = .ok (.ifCond .eq 38, 3) := by decide +kernel
theorem dX8_control_58 : decode cX8_control 58 = .ok (.iload 4, 2) := by decide +kernel
theorem dX8_control_60 : decode cX8_control 60 = .ok (.invokestatic 327, 3) := by decide +kernel
theorem dX8_control_63 : decode cX8_control 63 = .ok (.iload_n 3, 1) := by decide +kernel
theorem dX8_control_64 : decode cX8_control 64 = .ok (.invokestatic 327, 3) := by decide +kernel
theorem dX8_control_67 : decode cX8_control 67 = .ok (.if_icmp .lt 26, 3) := by decide +kernel
theorem dX8_control_70 : decode cX8_control 70 = .ok (.iload 4, 2) := by decide +kernel
theorem dX8_control_72 : decode cX8_control 72 = .ok (.invokestatic 327, 3) := by decide +kernel
theorem dX8_control_75 : decode cX8_control 75 = .ok (.iload_n 3, 1) := by decide +kernel
theorem dX8_control_76 : decode cX8_control 76 = .ok (.invokestatic 327, 3) := by decide +kernel
theorem dX8_control_79 : decode cX8_control 79 = .ok (.if_icmp .ne 17, 3) := by decide +kernel
theorem dX8_control_82 : decode cX8_control 82 = .ok (.lload 5, 2) := by decide +kernel
theorem dX8_control_84 : decode cX8_control 84 = .ok (.aload_n 0, 1) := by decide +kernel
theorem dX8_control_85 : decode cX8_control 85 = .ok (.iload_n 3, 1) := by decide +kernel
theorem dX8_control_86 : decode cX8_control 86 = .ok (.invokevirtual 324, 3) := by decide +kernel
theorem dX8_control_89 : decode cX8_control 89 = .ok (.lcmp, 1) := by decide +kernel
theorem dX8_control_90 : decode cX8_control 90 = .ok (.ifCond .le 6, 3) := by decide +kernel
theorem dX8_control_93 : decode cX8_control 93 = .ok (.iload 4, 2) := by decide +kernel
theorem dX8_control_95 : decode cX8_control 95 = .ok (.istore_n 3, 1) := by decide +kernel
theorem dX8_control_96 : decode cX8_control 96 = .ok (.iinc 4 1, 3) := by decide +kernel
theorem dX8_control_99 : decode cX8_control 99 = .ok (.goto (-75), 3) := by decide +kernel
theorem dX8_control_102 : decode cX8_control 102 = .ok (.aload_n 0, 1) := by decide +kernel
theorem dX8_control_103 : decode cX8_control 103 = .ok (.iconst 0, 1) := by decide +kernel
theorem dX8_control_104 : decode cX8_control 104 = .ok (.putfield 52, 3) := by decide +kernel
theorem dX8_control_107 : decode cX8_control 107 = .ok (.aload_n 0, 1) := by decide +kernel
theorem dX8_control_108 : decode cX8_control 108 = .ok (.iload_n 3, 1) := by decide +kernel
theorem dX8_control_109 : decode cX8_control 109 = .ok (.i2l, 1) := by decide +kernel
theorem dX8_control_110 : decode cX8_control 110 = .ok (.invokevirtual 299, 3) := by decide +kernel
theorem dX8_control_113 : decode cX8_control 113 = .ok (.iload_n 3, 1) := by decide +kernel
theorem dX8_control_114 : decode cX8_control 114 = .ok (.invokestatic 327, 3) := by decide +kernel
theorem dX8_control_117 : decode cX8_control 117 = .ok (.ireturn, 1) := by decide +kernel
theorem dX8_leads_0 : decode cX8_leads 0 = .ok (.aload_n 0, 1) := by decide +kernel
theorem dX8_leads_1 : decode cX8_leads 1 = .ok (.iconst 0, 1) := by decide +kernel
theorem dX8_leads_2 : decode cX8_leads 2 = .ok (.putfield 48, 3) := by decide +kernel
theorem dX8_leads_5 : decode cX8_leads 5 = .ok (.aload_n 0, 1) := by decide +kernel
theorem dX8_leads_6 : decode cX8_leads 6 = .ok (.iload_n 1, 1) := by decide +kernel
theorem dX8_leads_7 : decode cX8_leads 7 = .ok (.invokevirtual 64, 3) := by decide +kernel
theorem dX8_leads_10 : decode cX8_leads 10 = .ok (.ifCond .ne 5, 3) := by decide +kernel
theorem dX8_leads_13 : decode cX8_leads 13 = .ok (.iconst (-1), 1) := by decide +kernel
theorem dX8_leads_14 : decode cX8_leads 14 = .ok (.ireturn, 1) := by decide +kernel
theorem dX8_leads_15 : decode cX8_leads 15 = .ok (.aload_n 0, 1) := by decide +kernel
theorem dX8_leads_16 : decode cX8_leads 16 = .ok (.iload_n 1, 1) := by decide +kernel
theorem dX8_leads_17 : decode cX8_leads 17 = .ok (.invokevirtual 154, 3) := by decide +kernel
theorem dX8_leads_20 : decode cX8_leads 20 = .ok (.lstore_n 2, 1) := by decide +kernel
theorem dX8_leads_21 : decode cX8_leads 21 = .ok (.lload_n 2, 1) := by decide +kernel
theorem dX8_leads_22 : decode cX8_leads 22 = .ok (.lconst 0, 1) := by decide +kernel
theorem dX8_leads_23 : decode cX8_leads 23 = .ok (.lcmp, 1) := by decide +kernel
theorem dX8_leads_24 : decode cX8_leads 24 = .ok (.ifCond .ne 6, 3) := by decide +kernel
theorem dX8_leads_27 : decode cX8_leads 27 = .ok (.bipush (-2), 2) := by decide +kernel
theorem dX8_leads_29 : decode cX8_leads 29 = .ok (.ireturn, 1) := by decide +kernel
theorem dX8_leads_30 : decode cX8_leads 30 = .ok (.iconst 0, 1) := by decide +kernel
theorem dX8_leads_31 : decode cX8_leads 31 = .ok (.istore 4, 2) := by decide +kernel
theorem dX8_leads_33 : decode cX8_leads 33 = .ok (.iconst 1, 1) := by decide +kernel
theorem dX8_leads_34 : decode cX8_leads 34 = .ok (.istore 5, 2) := by decide +kernel
theorem dX8_leads_36 : decode cX8_leads 36 = .ok (.iload 5, 2) := by decide +kernel
theorem dX8_leads_38 : decode cX8_leads 38 = .ok (.bipush 8, 2) := by decide +kernel
theorem dX8_leads_40 : decode cX8_leads 40 = .ok (.if_icmp .ge 30, 3) := by decide +kernel
theorem dX8_leads_43 : decode cX8_leads 43 = .ok (.aload_n 0, 1) := by decide +kernel
theorem dX8_leads_44 : decode cX8_leads 44 = .ok (.iload 5, 2) := by decide +kernel
theorem dX8_leads_46 : decode cX8_leads 46 = .ok (.iload_n 1, 1) := by decide +kernel
theorem dX8_leads_47 : decode cX8_leads 47 = .ok (.invokevirtual 80, 3) := by decide +kernel
theorem dX8_leads_50 : decode cX8_leads 50 = .ok (.aload_n 0, 1) := by decide +kernel
theorem dX8_leads_51 : decode cX8_leads 51 = .ok (.iload 4, 2) := by decide +kernel
theorem dX8_leads_53 : decode cX8_leads 53 = .ok (.iload_n 1, 1) := by decide +kernel
theorem dX8_leads_54 : decode cX8_leads 54 = .ok (.invokevirtual 80, 3) := by decide +kernel
theorem dX8_leads_57 : decode cX8_leads 57 = .ok (.if_icmp .le 7, 3) := by decide +kernel
theorem dX8_leads_60 : decode cX8_leads 60 = .ok (.iload 5, 2) := by decide +kernel
theorem dX8_leads_62 : decode cX8_leads 62 = .ok (.istore 4, 2) := by decide +kernel
theorem dX8_leads_64 : decode cX8_leads 64 = .ok (.iinc 5 1, 3) := by decide +kernel
theorem dX8_leads_67 : decode cX8_leads 67 = .ok (.goto (-31), 3) := by decide +kernel
theorem dX8_leads_70 : decode cX8_leads 70 = .ok (.aload_n 0, 1) := by decide +kernel
theorem dX8_leads_71 : decode cX8_leads 71 = .ok (.iconst 0, 1) := by decide +kernel
theorem dX8_leads_72 : decode cX8_leads 72 = .ok (.putfield 52, 3) := by decide +kernel
theorem dX8_leads_75 : decode cX8_leads 75 = .ok (.aload_n 0, 1) := by decide +kernel
theorem dX8_leads_76 : decode cX8_leads 76 = .ok (.aload_n 0, 1) := by decide +kernel
theorem dX8_leads_77 : decode cX8_leads 77 = .ok (.iload 4, 2) := by decide +kernel
theorem dX8_leads_79 : decode cX8_leads 79 = .ok (.iload_n 1, 1) := by decide +kernel
theorem dX8_leads_80 : decode cX8_leads 80 = .ok (.invokevirtual 80, 3) := by decide +kernel
theorem dX8_leads_83 : decode cX8_leads 83 = .ok (.i2l, 1) := by decide +kernel
theorem dX8_leads_84 : decode cX8_leads 84 = .ok (.lload_n 2, 1) := by decide +kernel
theorem dX8_leads_85 : decode cX8_leads 85 = .ok (.invokestatic 305, 3) := by decide +kernel
theorem dX8_leads_88 : decode cX8_leads 88 = .ok (.invokevirtual 299, 3) := by decide +kernel
theorem dX8_leads_91 : decode cX8_leads 91 = .ok (.aload_n 0, 1) := by decide +kernel
theorem dX8_leads_92 : decode cX8_leads 92 = .ok (.ldc2_w 152, 3) := by decide +kernel
theorem dX8_leads_95 : decode cX8_leads 95 = .ok (.aload_n 0, 1) := by decide +kernel
theorem dX8_leads_96 : decode cX8_leads 96 = .ok (.iload 4, 2) := by decide +kernel
theorem dX8_leads_98 : decode cX8_leads 98 = .ok (.iload_n 1, 1) := by decide +kernel
theorem dX8_leads_99 : decode cX8_leads 99 = .ok (.invokevirtual 80, 3) := by decide +kernel
theorem dX8_leads_102 : decode cX8_leads 102 = .ok (.i2l, 1) := by decide +kernel
theorem dX8_leads_103 : decode cX8_leads 103 = .ok (.lmul, 1) := by decide +kernel
theorem dX8_leads_104 : decode cX8_leads 104 = .ok (.lload_n 2, 1) := by decide +kernel
theorem dX8_leads_105 : decode cX8_leads 105 = .ok (.lcmp, 1) := by decide +kernel
theorem dX8_leads_106 : decode cX8_leads 106 = .ok (.ifCond .le 7, 3) := by decide +kernel
theorem dX8_leads_109 : decode cX8_leads 109 = .ok (.lconst 1, 1) := by decide +kernel
theorem dX8_leads_110 : decode cX8_leads 110 = .ok (.goto 4, 3) := by decide +kernel
theorem dX8_leads_113 : decode cX8_leads 113 = .ok (.lconst 0, 1) := by decide +kernel
theorem dX8_leads_114 : decode cX8_leads 114 = .ok (.invokevirtual 299, 3) := by decide +kernel
theorem dX8_leads_117 : decode cX8_leads 117 = .ok (.iload 4, 2) := by decide +kernel
theorem dX8_leads_119 : decode cX8_leads 119 = .ok (.ireturn, 1) := by decide +kernel
theorem dX8_block_0 : decode cX8_block 0 = .ok (.aload_n 0, 1) := by decide +kernel
theorem dX8_block_1 : decode cX8_block 1 = .ok (.iconst 0, 1) := by decide +kernel
theorem dX8_block_2 : decode cX8_block 2 = .ok (.putfield 48, 3) := by decide +kernel
theorem dX8_block_5 : decode cX8_block 5 = .ok (.aload_n 0, 1) := by decide +kernel
theorem dX8_block_6 : decode cX8_block 6 = .ok (.iload_n 1, 1) := by decide +kernel
theorem dX8_block_7 : decode cX8_block 7 = .ok (.invokevirtual 64, 3) := by decide +kernel
theorem dX8_block_10 : decode cX8_block 10 = .ok (.ifCond .ne 5, 3) := by decide +kernel
theorem dX8_block_13 : decode cX8_block 13 = .ok (.iconst (-1), 1) := by decide +kernel
theorem dX8_block_14 : decode cX8_block 14 = .ok (.ireturn, 1) := by decide +kernel
theorem dX8_block_15 : decode cX8_block 15 = .ok (.aload_n 0, 1) := by decide +kernel
theorem dX8_block_16 : decode cX8_block 16 = .ok (.iload_n 1, 1) := by decide +kernel
theorem dX8_block_17 : decode cX8_block 17 = .ok (.invokevirtual 154, 3) := by decide +kernel
theorem dX8_block_20 : decode cX8_block 20 = .ok (.lstore_n 2, 1) := by decide +kernel
theorem dX8_block_21 : decode cX8_block 21 = .ok (.lload_n 2, 1) := by decide +kernel
theorem dX8_block_22 : decode cX8_block 22 = .ok (.lconst 0, 1) := by decide +kernel
theorem dX8_block_23 : decode cX8_block 23 = .ok (.lcmp, 1) := by decide +kernel
theorem dX8_block_24 : decode cX8_block 24 = .ok (.ifCond .ne 6, 3) := by decide +kernel
theorem dX8_block_27 : decode cX8_block 27 = .ok (.bipush (-2), 2) := by decide +kernel
theorem dX8_block_29 : decode cX8_block 29 = .ok (.ireturn, 1) := by decide +kernel
theorem dX8_block_30 : decode cX8_block 30 = .ok (.iconst 0, 1) := by decide +kernel
theorem dX8_block_31 : decode cX8_block 31 = .ok (.istore 4, 2) := by decide +kernel
theorem dX8_block_33 : decode cX8_block 33 = .ok (.lconst 0, 1) := by decide +kernel
theorem dX8_block_34 : decode cX8_block 34 = .ok (.lstore 5, 2) := by decide +kernel
theorem dX8_block_36 : decode cX8_block 36 = .ok (.ldc2_w 152, 3) := by decide +kernel
theorem dX8_block_39 : decode cX8_block 39 = .ok (.lload 5, 2) := by decide +kernel
theorem dX8_block_41 : decode cX8_block 41 = .ok (.lmul, 1) := by decide +kernel
theorem dX8_block_42 : decode cX8_block 42 = .ok (.lload_n 2, 1) := by decide +kernel
theorem dX8_block_43 : decode cX8_block 43 = .ok (.lcmp, 1) := by decide +kernel
theorem dX8_block_44 : decode cX8_block 44 = .ok (.ifCond .gt 84, 3) := by decide +kernel
theorem dX8_block_47 : decode cX8_block 47 = .ok (.iconst (-1), 1) := by decide +kernel
theorem dX8_block_48 : decode cX8_block 48 = .ok (.istore 7, 2) := by decide +kernel
theorem dX8_block_50 : decode cX8_block 50 = .ok (.iconst 0, 1) := by decide +kernel
theorem dX8_block_51 : decode cX8_block 51 = .ok (.istore 8, 2) := by decide +kernel
theorem dX8_block_53 : decode cX8_block 53 = .ok (.iload 8, 2) := by decide +kernel
theorem dX8_block_55 : decode cX8_block 55 = .ok (.bipush 8, 2) := by decide +kernel
theorem dX8_block_57 : decode cX8_block 57 = .ok (.if_icmp .ge 46, 3) := by decide +kernel
theorem dX8_block_60 : decode cX8_block 60 = .ok (.iload 4, 2) := by decide +kernel
theorem dX8_block_62 : decode cX8_block 62 = .ok (.iload 8, 2) := by decide +kernel
theorem dX8_block_64 : decode cX8_block 64 = .ok (.ishr, 1) := by decide +kernel
theorem dX8_block_65 : decode cX8_block 65 = .ok (.iconst 1, 1) := by decide +kernel
theorem dX8_block_66 : decode cX8_block 66 = .ok (.iand, 1) := by decide +kernel
theorem dX8_block_67 : decode cX8_block 67 = .ok (.ifCond .ne 30, 3) := by decide +kernel
theorem dX8_block_70 : decode cX8_block 70 = .ok (.iload 7, 2) := by decide +kernel
theorem dX8_block_72 : decode cX8_block 72 = .ok (.iconst (-1), 1) := by decide +kernel
theorem dX8_block_73 : decode cX8_block 73 = .ok (.if_icmp .eq 20, 3) := by decide +kernel
theorem dX8_block_76 : decode cX8_block 76 = .ok (.aload_n 0, 1) := by decide +kernel
theorem dX8_block_77 : decode cX8_block 77 = .ok (.iload 8, 2) := by decide +kernel
theorem dX8_block_79 : decode cX8_block 79 = .ok (.iload_n 1, 1) := by decide +kernel
theorem dX8_block_80 : decode cX8_block 80 = .ok (.invokevirtual 80, 3) := by decide +kernel
theorem dX8_block_83 : decode cX8_block 83 = .ok (.aload_n 0, 1) := by decide +kernel
theorem dX8_block_84 : decode cX8_block 84 = .ok (.iload 7, 2) := by decide +kernel
theorem dX8_block_86 : decode cX8_block 86 = .ok (.iload_n 1, 1) := by decide +kernel
theorem dX8_block_87 : decode cX8_block 87 = .ok (.invokevirtual 80, 3) := by decide +kernel
theorem dX8_block_90 : decode cX8_block 90 = .ok (.if_icmp .le 7, 3) := by decide +kernel
theorem dX8_block_93 : decode cX8_block 93 = .ok (.iload 8, 2) := by decide +kernel
theorem dX8_block_95 : decode cX8_block 95 = .ok (.istore 7, 2) := by decide +kernel
theorem dX8_block_97 : decode cX8_block 97 = .ok (.iinc 8 1, 3) := by decide +kernel
theorem dX8_block_100 : decode cX8_block 100 = .ok (.goto (-47), 3) := by decide +kernel
theorem dX8_block_103 : decode cX8_block 103 = .ok (.iload 4, 2) := by decide +kernel
theorem dX8_block_105 : decode cX8_block 105 = .ok (.iconst 1, 1) := by decide +kernel
theorem dX8_block_106 : decode cX8_block 106 = .ok (.iload 7, 2) := by decide +kernel
theorem dX8_block_108 : decode cX8_block 108 = .ok (.ishl, 1) := by decide +kernel
theorem dX8_block_109 : decode cX8_block 109 = .ok (.ior, 1) := by decide +kernel
theorem dX8_block_110 : decode cX8_block 110 = .ok (.istore 4, 2) := by decide +kernel
theorem dX8_block_112 : decode cX8_block 112 = .ok (.lload 5, 2) := by decide +kernel
theorem dX8_block_114 : decode cX8_block 114 = .ok (.aload_n 0, 1) := by decide +kernel
theorem dX8_block_115 : decode cX8_block 115 = .ok (.iload 7, 2) := by decide +kernel
theorem dX8_block_117 : decode cX8_block 117 = .ok (.iload_n 1, 1) := by decide +kernel
theorem dX8_block_118 : decode cX8_block 118 = .ok (.invokevirtual 80, 3) := by decide +kernel
theorem dX8_block_121 : decode cX8_block 121 = .ok (.i2l, 1) := by decide +kernel
theorem dX8_block_122 : decode cX8_block 122 = .ok (.ladd, 1) := by decide +kernel
theorem dX8_block_123 : decode cX8_block 123 = .ok (.lstore 5, 2) := by decide +kernel
theorem dX8_block_125 : decode cX8_block 125 = .ok (.goto (-89), 3) := by decide +kernel
theorem dX8_block_128 : decode cX8_block 128 = .ok (.aload_n 0, 1) := by decide +kernel
theorem dX8_block_129 : decode cX8_block 129 = .ok (.iconst 0, 1) := by decide +kernel
theorem dX8_block_130 : decode cX8_block 130 = .ok (.putfield 52, 3) := by decide +kernel
theorem dX8_block_133 : decode cX8_block 133 = .ok (.aload_n 0, 1) := by decide +kernel
theorem dX8_block_134 : decode cX8_block 134 = .ok (.iload 4, 2) := by decide +kernel
theorem dX8_block_136 : decode cX8_block 136 = .ok (.i2l, 1) := by decide +kernel
theorem dX8_block_137 : decode cX8_block 137 = .ok (.invokevirtual 299, 3) := by decide +kernel
theorem dX8_block_140 : decode cX8_block 140 = .ok (.iload 4, 2) := by decide +kernel
theorem dX8_block_142 : decode cX8_block 142 = .ok (.invokestatic 327, 3) := by decide +kernel
theorem dX8_block_145 : decode cX8_block 145 = .ok (.ireturn, 1) := by decide +kernel
theorem dX8_gave_0 : decode cX8_gave 0 = .ok (.lconst 0, 1) := by decide +kernel
theorem dX8_gave_1 : decode cX8_gave 1 = .ok (.lstore_n 2, 1) := by decide +kernel
theorem dX8_gave_2 : decode cX8_gave 2 = .ok (.iconst 1, 1) := by decide +kernel
theorem dX8_gave_3 : decode cX8_gave 3 = .ok (.istore 4, 2) := by decide +kernel
theorem dX8_gave_5 : decode cX8_gave 5 = .ok (.iload 4, 2) := by decide +kernel
theorem dX8_gave_7 : decode cX8_gave 7 = .ok (.aload_n 0, 1) := by decide +kernel
theorem dX8_gave_8 : decode cX8_gave 8 = .ok (.getfield 7, 3) := by decide +kernel
theorem dX8_gave_11 : decode cX8_gave 11 = .ok (.bipush 57, 2) := by decide +kernel
theorem dX8_gave_13 : decode cX8_gave 13 = .ok (.iaload, 1) := by decide +kernel
theorem dX8_gave_14 : decode cX8_gave 14 = .ok (.if_icmp .ge 28, 3) := by decide +kernel
theorem dX8_gave_17 : decode cX8_gave 17 = .ok (.lload_n 2, 1) := by decide +kernel
theorem dX8_gave_18 : decode cX8_gave 18 = .ok (.aload_n 0, 1) := by decide +kernel
theorem dX8_gave_19 : decode cX8_gave 19 = .ok (.getfield 7, 3) := by decide +kernel
theorem dX8_gave_22 : decode cX8_gave 22 = .ok (.bipush 124, 2) := by decide +kernel
theorem dX8_gave_24 : decode cX8_gave 24 = .ok (.bipush 6, 2) := by decide +kernel
theorem dX8_gave_26 : decode cX8_gave 26 = .ok (.iload_n 1, 1) := by decide +kernel
theorem dX8_gave_27 : decode cX8_gave 27 = .ok (.imul, 1) := by decide +kernel
theorem dX8_gave_28 : decode cX8_gave 28 = .ok (.iadd, 1) := by decide +kernel
theorem dX8_gave_29 : decode cX8_gave 29 = .ok (.iload 4, 2) := by decide +kernel
theorem dX8_gave_31 : decode cX8_gave 31 = .ok (.iadd, 1) := by decide +kernel
theorem dX8_gave_32 : decode cX8_gave 32 = .ok (.iaload, 1) := by decide +kernel
theorem dX8_gave_33 : decode cX8_gave 33 = .ok (.i2l, 1) := by decide +kernel
theorem dX8_gave_34 : decode cX8_gave 34 = .ok (.ladd, 1) := by decide +kernel
theorem dX8_gave_35 : decode cX8_gave 35 = .ok (.lstore_n 2, 1) := by decide +kernel
theorem dX8_gave_36 : decode cX8_gave 36 = .ok (.iinc 4 1, 3) := by decide +kernel
theorem dX8_gave_39 : decode cX8_gave 39 = .ok (.goto (-34), 3) := by decide +kernel
theorem dX8_gave_42 : decode cX8_gave 42 = .ok (.lload_n 2, 1) := by decide +kernel
theorem dX8_gave_43 : decode cX8_gave 43 = .ok (.lreturn, 1) := by decide +kernel
theorem dX8_paid_0 : decode cX8_paid 0 = .ok (.aload_n 0, 1) := by decide +kernel
theorem dX8_paid_1 : decode cX8_paid 1 = .ok (.iconst 0, 1) := by decide +kernel
theorem dX8_paid_2 : decode cX8_paid 2 = .ok (.putfield 48, 3) := by decide +kernel
theorem dX8_paid_5 : decode cX8_paid 5 = .ok (.iload_n 1, 1) := by decide +kernel
theorem dX8_paid_6 : decode cX8_paid 6 = .ok (.invokestatic 140, 3) := by decide +kernel
theorem dX8_paid_9 : decode cX8_paid 9 = .ok (.ifCond .ne 5, 3) := by decide +kernel
theorem dX8_paid_12 : decode cX8_paid 12 = .ok (.iconst (-1), 1) := by decide +kernel
theorem dX8_paid_13 : decode cX8_paid 13 = .ok (.ireturn, 1) := by decide +kernel
theorem dX8_paid_14 : decode cX8_paid 14 = .ok (.aload_n 0, 1) := by decide +kernel
theorem dX8_paid_15 : decode cX8_paid 15 = .ok (.iconst 0, 1) := by decide +kernel
theorem dX8_paid_16 : decode cX8_paid 16 = .ok (.putfield 52, 3) := by decide +kernel
theorem dX8_paid_19 : decode cX8_paid 19 = .ok (.iconst 1, 1) := by decide +kernel
theorem dX8_paid_20 : decode cX8_paid 20 = .ok (.istore_n 2, 1) := by decide +kernel
theorem dX8_paid_21 : decode cX8_paid 21 = .ok (.iload_n 2, 1) := by decide +kernel
theorem dX8_paid_22 : decode cX8_paid 22 = .ok (.aload_n 0, 1) := by decide +kernel
theorem dX8_paid_23 : decode cX8_paid 23 = .ok (.getfield 7, 3) := by decide +kernel
theorem dX8_paid_26 : decode cX8_paid 26 = .ok (.bipush 57, 2) := by decide +kernel
theorem dX8_paid_28 : decode cX8_paid 28 = .ok (.iaload, 1) := by decide +kernel
theorem dX8_paid_29 : decode cX8_paid 29 = .ok (.if_icmp .ge 28, 3) := by decide +kernel
theorem dX8_paid_32 : decode cX8_paid 32 = .ok (.aload_n 0, 1) := by decide +kernel
theorem dX8_paid_33 : decode cX8_paid 33 = .ok (.aload_n 0, 1) := by decide +kernel
theorem dX8_paid_34 : decode cX8_paid 34 = .ok (.getfield 7, 3) := by decide +kernel
theorem dX8_paid_37 : decode cX8_paid 37 = .ok (.bipush 124, 2) := by decide +kernel
theorem dX8_paid_39 : decode cX8_paid 39 = .ok (.bipush 6, 2) := by decide +kernel
theorem dX8_paid_41 : decode cX8_paid 41 = .ok (.iload_n 1, 1) := by decide +kernel
theorem dX8_paid_42 : decode cX8_paid 42 = .ok (.imul, 1) := by decide +kernel
theorem dX8_paid_43 : decode cX8_paid 43 = .ok (.iadd, 1) := by decide +kernel
theorem dX8_paid_44 : decode cX8_paid 44 = .ok (.iload_n 2, 1) := by decide +kernel
theorem dX8_paid_45 : decode cX8_paid 45 = .ok (.iadd, 1) := by decide +kernel
theorem dX8_paid_46 : decode cX8_paid 46 = .ok (.iaload, 1) := by decide +kernel
theorem dX8_paid_47 : decode cX8_paid 47 = .ok (.i2l, 1) := by decide +kernel
theorem dX8_paid_48 : decode cX8_paid 48 = .ok (.invokevirtual 299, 3) := by decide +kernel
theorem dX8_paid_51 : decode cX8_paid 51 = .ok (.iinc 2 1, 3) := by decide +kernel
theorem dX8_paid_54 : decode cX8_paid 54 = .ok (.goto (-33), 3) := by decide +kernel
theorem dX8_paid_57 : decode cX8_paid 57 = .ok (.aload_n 0, 1) := by decide +kernel
theorem dX8_paid_58 : decode cX8_paid 58 = .ok (.iload_n 1, 1) := by decide +kernel
theorem dX8_paid_59 : decode cX8_paid 59 = .ok (.invokevirtual 330, 3) := by decide +kernel
theorem dX8_paid_62 : decode cX8_paid 62 = .ok (.l2i, 1) := by decide +kernel
theorem dX8_paid_63 : decode cX8_paid 63 = .ok (.ireturn, 1) := by decide +kernel
theorem dX8_value_0 : decode cX8_value 0 = .ok (.aload_n 0, 1) := by decide +kernel
theorem dX8_value_1 : decode cX8_value 1 = .ok (.iconst 0, 1) := by decide +kernel
theorem dX8_value_2 : decode cX8_value 2 = .ok (.putfield 48, 3) := by decide +kernel
theorem dX8_value_5 : decode cX8_value 5 = .ok (.aload_n 0, 1) := by decide +kernel
theorem dX8_value_6 : decode cX8_value 6 = .ok (.getfield 7, 3) := by decide +kernel
theorem dX8_value_9 : decode cX8_value 9 = .ok (.bipush 57, 2) := by decide +kernel
theorem dX8_value_11 : decode cX8_value 11 = .ok (.iaload, 1) := by decide +kernel
theorem dX8_value_12 : decode cX8_value 12 = .ok (.iconst 1, 1) := by decide +kernel
theorem dX8_value_13 : decode cX8_value 13 = .ok (.isub, 1) := by decide +kernel
theorem dX8_value_14 : decode cX8_value 14 = .ok (.istore_n 1, 1) := by decide +kernel
theorem dX8_value_15 : decode cX8_value 15 = .ok (.iload_n 1, 1) := by decide +kernel
theorem dX8_value_16 : decode cX8_value 16 = .ok (.ifCond .ne 6, 3) := by decide +kernel
theorem dX8_value_19 : decode cX8_value 19 = .ok (.bipush (-2), 2) := by decide +kernel
theorem dX8_value_21 : decode cX8_value 21 = .ok (.ireturn, 1) := by decide +kernel
theorem dX8_value_22 : decode cX8_value 22 = .ok (.aload_n 0, 1) := by decide +kernel
theorem dX8_value_23 : decode cX8_value 23 = .ok (.iconst 0, 1) := by decide +kernel
theorem dX8_value_24 : decode cX8_value 24 = .ok (.putfield 52, 3) := by decide +kernel
theorem dX8_value_27 : decode cX8_value 27 = .ok (.aload_n 0, 1) := by decide +kernel
theorem dX8_value_28 : decode cX8_value 28 = .ok (.iload_n 1, 1) := by decide +kernel
theorem dX8_value_29 : decode cX8_value 29 = .ok (.i2l, 1) := by decide +kernel
theorem dX8_value_30 : decode cX8_value 30 = .ok (.invokevirtual 299, 3) := by decide +kernel
theorem dX8_value_33 : decode cX8_value 33 = .ok (.aload_n 0, 1) := by decide +kernel
theorem dX8_value_34 : decode cX8_value 34 = .ok (.aload_n 0, 1) := by decide +kernel
theorem dX8_value_35 : decode cX8_value 35 = .ok (.getfield 7, 3) := by decide +kernel
theorem dX8_value_38 : decode cX8_value 38 = .ok (.bipush 94, 2) := by decide +kernel
theorem dX8_value_40 : decode cX8_value 40 = .ok (.iconst 5, 1) := by decide +kernel
theorem dX8_value_41 : decode cX8_value 41 = .ok (.iload_n 1, 1) := by decide +kernel
theorem dX8_value_42 : decode cX8_value 42 = .ok (.imul, 1) := by decide +kernel
theorem dX8_value_43 : decode cX8_value 43 = .ok (.iadd, 1) := by decide +kernel
theorem dX8_value_44 : decode cX8_value 44 = .ok (.iaload, 1) := by decide +kernel
theorem dX8_value_45 : decode cX8_value 45 = .ok (.i2l, 1) := by decide +kernel
theorem dX8_value_46 : decode cX8_value 46 = .ok (.aload_n 0, 1) := by decide +kernel
theorem dX8_value_47 : decode cX8_value 47 = .ok (.getfield 7, 3) := by decide +kernel
theorem dX8_value_50 : decode cX8_value 50 = .ok (.bipush 94, 2) := by decide +kernel
theorem dX8_value_52 : decode cX8_value 52 = .ok (.iconst 5, 1) := by decide +kernel
theorem dX8_value_53 : decode cX8_value 53 = .ok (.iload_n 1, 1) := by decide +kernel
theorem dX8_value_54 : decode cX8_value 54 = .ok (.imul, 1) := by decide +kernel
theorem dX8_value_55 : decode cX8_value 55 = .ok (.iadd, 1) := by decide +kernel
theorem dX8_value_56 : decode cX8_value 56 = .ok (.iconst 1, 1) := by decide +kernel
theorem dX8_value_57 : decode cX8_value 57 = .ok (.iadd, 1) := by decide +kernel
theorem dX8_value_58 : decode cX8_value 58 = .ok (.iaload, 1) := by decide +kernel
theorem dX8_value_59 : decode cX8_value 59 = .ok (.i2l, 1) := by decide +kernel
theorem dX8_value_60 : decode cX8_value 60 = .ok (.ladd, 1) := by decide +kernel
theorem dX8_value_61 : decode cX8_value 61 = .ok (.invokevirtual 299, 3) := by decide +kernel
theorem dX8_value_64 : decode cX8_value 64 = .ok (.ldc2_w 333, 3) := by decide +kernel
theorem dX8_value_67 : decode cX8_value 67 = .ok (.aload_n 0, 1) := by decide +kernel
theorem dX8_value_68 : decode cX8_value 68 = .ok (.invokevirtual 143, 3) := by decide +kernel
theorem dX8_value_71 : decode cX8_value 71 = .ok (.aload_n 0, 1) := by decide +kernel
theorem dX8_value_72 : decode cX8_value 72 = .ok (.getfield 7, 3) := by decide +kernel
theorem dX8_value_75 : decode cX8_value 75 = .ok (.bipush 58, 2) := by decide +kernel
theorem dX8_value_77 : decode cX8_value 77 = .ok (.iload_n 1, 1) := by decide +kernel
theorem dX8_value_78 : decode cX8_value 78 = .ok (.iadd, 1) := by decide +kernel
theorem dX8_value_79 : decode cX8_value 79 = .ok (.iaload, 1) := by decide +kernel
theorem dX8_value_80 : decode cX8_value 80 = .ok (.i2l, 1) := by decide +kernel
theorem dX8_value_81 : decode cX8_value 81 = .ok (.lmul, 1) := by decide +kernel
theorem dX8_value_82 : decode cX8_value 82 = .ok (.ldc2_w 267, 3) := by decide +kernel
theorem dX8_value_85 : decode cX8_value 85 = .ok (.ldiv, 1) := by decide +kernel
theorem dX8_value_86 : decode cX8_value 86 = .ok (.invokestatic 261, 3) := by decide +kernel
theorem dX8_value_89 : decode cX8_value 89 = .ok (.l2i, 1) := by decide +kernel
theorem dX8_value_90 : decode cX8_value 90 = .ok (.ireturn, 1) := by decide +kernel
theorem dX8_majority_0 : decode cX8_majority 0 = .ok (.aload_n 0, 1) := by decide +kernel
theorem dX8_majority_1 : decode cX8_majority 1 = .ok (.iconst 0, 1) := by decide +kernel
theorem dX8_majority_2 : decode cX8_majority 2 = .ok (.putfield 48, 3) := by decide +kernel
theorem dX8_majority_5 : decode cX8_majority 5 = .ok (.iload_n 1, 1) := by decide +kernel
theorem dX8_majority_6 : decode cX8_majority 6 = .ok (.invokestatic 140, 3) := by decide +kernel
theorem dX8_majority_9 : decode cX8_majority 9 = .ok (.ifCond .ne 5, 3) := by decide +kernel
theorem dX8_majority_12 : decode cX8_majority 12 = .ok (.iconst (-1), 1) := by decide +kernel
theorem dX8_majority_13 : decode cX8_majority 13 = .ok (.ireturn, 1) := by decide +kernel
theorem dX8_majority_14 : decode cX8_majority 14 = .ok (.aload_n 0, 1) := by decide +kernel
theorem dX8_majority_15 : decode cX8_majority 15 = .ok (.invokevirtual 92, 3) := by decide +kernel
theorem dX8_majority_18 : decode cX8_majority 18 = .ok (.lstore_n 2, 1) := by decide +kernel
theorem dX8_majority_19 : decode cX8_majority 19 = .ok (.aload_n 0, 1) := by decide +kernel
theorem dX8_majority_20 : decode cX8_majority 20 = .ok (.iload_n 1, 1) := by decide +kernel
theorem dX8_majority_21 : decode cX8_majority 21 = .ok (.invokevirtual 88, 3) := by decide +kernel
theorem dX8_majority_24 : decode cX8_majority 24 = .ok (.lstore 4, 2) := by decide +kernel
theorem dX8_majority_26 : decode cX8_majority 26 = .ok (.lconst 0, 1) := by decide +kernel
theorem dX8_majority_27 : decode cX8_majority 27 = .ok (.lload_n 2, 1) := by decide +kernel
theorem dX8_majority_28 : decode cX8_majority 28 = .ok (.ldc2_w 152, 3) := by decide +kernel
theorem dX8_majority_31 : decode cX8_majority 31 = .ok (.lload 4, 2) := by decide +kernel
theorem dX8_majority_33 : decode cX8_majority 33 = .ok (.lmul, 1) := by decide +kernel
theorem dX8_majority_34 : decode cX8_majority 34 = .ok (.lsub, 1) := by decide +kernel
theorem dX8_majority_35 : decode cX8_majority 35 = .ok (.lconst 1, 1) := by decide +kernel
theorem dX8_majority_36 : decode cX8_majority 36 = .ok (.ladd, 1) := by decide +kernel
theorem dX8_majority_37 : decode cX8_majority 37 = .ok (.invokestatic 265, 3) := by decide +kernel
theorem dX8_majority_40 : decode cX8_majority 40 = .ok (.lstore 6, 2) := by decide +kernel
theorem dX8_majority_42 : decode cX8_majority 42 = .ok (.aload_n 0, 1) := by decide +kernel
theorem dX8_majority_43 : decode cX8_majority 43 = .ok (.iconst 0, 1) := by decide +kernel
theorem dX8_majority_44 : decode cX8_majority 44 = .ok (.putfield 52, 3) := by decide +kernel
theorem dX8_majority_47 : decode cX8_majority 47 = .ok (.aload_n 0, 1) := by decide +kernel
theorem dX8_majority_48 : decode cX8_majority 48 = .ok (.lload 4, 2) := by decide +kernel
theorem dX8_majority_50 : decode cX8_majority 50 = .ok (.lload 6, 2) := by decide +kernel
theorem dX8_majority_52 : decode cX8_majority 52 = .ok (.ladd, 1) := by decide +kernel
theorem dX8_majority_53 : decode cX8_majority 53 = .ok (.invokevirtual 299, 3) := by decide +kernel
theorem dX8_majority_56 : decode cX8_majority 56 = .ok (.aload_n 0, 1) := by decide +kernel
theorem dX8_majority_57 : decode cX8_majority 57 = .ok (.lload_n 2, 1) := by decide +kernel
theorem dX8_majority_58 : decode cX8_majority 58 = .ok (.lload 6, 2) := by decide +kernel
theorem dX8_majority_60 : decode cX8_majority 60 = .ok (.ladd, 1) := by decide +kernel
theorem dX8_majority_61 : decode cX8_majority 61 = .ok (.invokevirtual 299, 3) := by decide +kernel
theorem dX8_majority_64 : decode cX8_majority 64 = .ok (.lload 6, 2) := by decide +kernel
theorem dX8_majority_66 : decode cX8_majority 66 = .ok (.l2i, 1) := by decide +kernel
theorem dX8_majority_67 : decode cX8_majority 67 = .ok (.ireturn, 1) := by decide +kernel
theorem dX8_swings_0 : decode cX8_swings 0 = .ok (.aload_n 0, 1) := by decide +kernel
theorem dX8_swings_1 : decode cX8_swings 1 = .ok (.invokevirtual 92, 3) := by decide +kernel
theorem dX8_swings_4 : decode cX8_swings 4 = .ok (.lstore_n 2, 1) := by decide +kernel
theorem dX8_swings_5 : decode cX8_swings 5 = .ok (.aload_n 0, 1) := by decide +kernel
theorem dX8_swings_6 : decode cX8_swings 6 = .ok (.iload_n 1, 1) := by decide +kernel
theorem dX8_swings_7 : decode cX8_swings 7 = .ok (.invokevirtual 88, 3) := by decide +kernel
theorem dX8_swings_10 : decode cX8_swings 10 = .ok (.lstore 4, 2) := by decide +kernel
theorem dX8_swings_12 : decode cX8_swings 12 = .ok (.iconst 0, 1) := by decide +kernel
theorem dX8_swings_13 : decode cX8_swings 13 = .ok (.istore 6, 2) := by decide +kernel
theorem dX8_swings_15 : decode cX8_swings 15 = .ok (.iconst 0, 1) := by decide +kernel
theorem dX8_swings_16 : decode cX8_swings 16 = .ok (.istore 7, 2) := by decide +kernel
theorem dX8_swings_18 : decode cX8_swings 18 = .ok (.iload 7, 2) := by decide +kernel
theorem dX8_swings_20 : decode cX8_swings 20 = .ok (.sipush 256, 3) := by decide +kernel
theorem dX8_swings_23 : decode cX8_swings 23 = .ok (.if_icmp .ge 65, 3) := by decide +kernel
theorem dX8_swings_26 : decode cX8_swings 26 = .ok (.iload 7, 2) := by decide +kernel
theorem dX8_swings_28 : decode cX8_swings 28 = .ok (.iload_n 1, 1) := by decide +kernel
theorem dX8_swings_29 : decode cX8_swings 29 = .ok (.ishr, 1) := by decide +kernel
theorem dX8_swings_30 : decode cX8_swings 30 = .ok (.iconst 1, 1) := by decide +kernel
theorem dX8_swings_31 : decode cX8_swings 31 = .ok (.iand, 1) := by decide +kernel
theorem dX8_swings_32 : decode cX8_swings 32 = .ok (.iconst 1, 1) := by decide +kernel
theorem dX8_swings_33 : decode cX8_swings 33 = .ok (.if_icmp .ne 6, 3) := by decide +kernel
theorem dX8_swings_36 : decode cX8_swings 36 = .ok (.goto 46, 3) := by decide +kernel
theorem dX8_swings_39 : decode cX8_swings 39 = .ok (.aload_n 0, 1) := by decide +kernel
theorem dX8_swings_40 : decode cX8_swings 40 = .ok (.iload 7, 2) := by decide +kernel
theorem dX8_swings_42 : decode cX8_swings 42 = .ok (.invokevirtual 324, 3) := by decide +kernel
theorem dX8_swings_45 : decode cX8_swings 45 = .ok (.lstore 8, 2) := by decide +kernel
theorem dX8_swings_47 : decode cX8_swings 47 = .ok (.iload 6, 2) := by decide +kernel
theorem dX8_swings_49 : decode cX8_swings 49 = .ok (.ldc2_w 152, 3) := by decide +kernel
theorem dX8_swings_52 : decode cX8_swings 52 = .ok (.lload 8, 2) := by decide +kernel
theorem dX8_swings_54 : decode cX8_swings 54 = .ok (.lmul, 1) := by decide +kernel
theorem dX8_swings_55 : decode cX8_swings 55 = .ok (.lload_n 2, 1) := by decide +kernel
theorem dX8_swings_56 : decode cX8_swings 56 = .ok (.lcmp, 1) := by decide +kernel
theorem dX8_swings_57 : decode cX8_swings 57 = .ok (.ifCond .gt 21, 3) := by decide +kernel
theorem dX8_swings_60 : decode cX8_swings 60 = .ok (.ldc2_w 152, 3) := by decide +kernel
theorem dX8_swings_63 : decode cX8_swings 63 = .ok (.lload 8, 2) := by decide +kernel
theorem dX8_swings_65 : decode cX8_swings 65 = .ok (.lload 4, 2) := by decide +kernel
theorem dX8_swings_67 : decode cX8_swings 67 = .ok (.ladd, 1) := by decide +kernel
theorem dX8_swings_68 : decode cX8_swings 68 = .ok (.lmul, 1) := by decide +kernel
theorem dX8_swings_69 : decode cX8_swings 69 = .ok (.lload_n 2, 1) := by decide +kernel
theorem dX8_swings_70 : decode cX8_swings 70 = .ok (.lcmp, 1) := by decide +kernel
theorem dX8_swings_71 : decode cX8_swings 71 = .ok (.ifCond .le 7, 3) := by decide +kernel
theorem dX8_swings_74 : decode cX8_swings 74 = .ok (.iconst 1, 1) := by decide +kernel
theorem dX8_swings_75 : decode cX8_swings 75 = .ok (.goto 4, 3) := by decide +kernel
theorem dX8_swings_78 : decode cX8_swings 78 = .ok (.iconst 0, 1) := by decide +kernel
theorem dX8_swings_79 : decode cX8_swings 79 = .ok (.iadd, 1) := by decide +kernel
theorem dX8_swings_80 : decode cX8_swings 80 = .ok (.istore 6, 2) := by decide +kernel
theorem dX8_swings_82 : decode cX8_swings 82 = .ok (.iinc 7 1, 3) := by decide +kernel
theorem dX8_swings_85 : decode cX8_swings 85 = .ok (.goto (-67), 3) := by decide +kernel
theorem dX8_swings_88 : decode cX8_swings 88 = .ok (.iload 6, 2) := by decide +kernel
theorem dX8_swings_90 : decode cX8_swings 90 = .ok (.ireturn, 1) := by decide +kernel
theorem dX8_swing_0 : decode cX8_swing 0 = .ok (.aload_n 0, 1) := by decide +kernel
theorem dX8_swing_1 : decode cX8_swing 1 = .ok (.iconst 0, 1) := by decide +kernel
theorem dX8_swing_2 : decode cX8_swing 2 = .ok (.putfield 48, 3) := by decide +kernel
theorem dX8_swing_5 : decode cX8_swing 5 = .ok (.iload_n 1, 1) := by decide +kernel
theorem dX8_swing_6 : decode cX8_swing 6 = .ok (.invokestatic 140, 3) := by decide +kernel
theorem dX8_swing_9 : decode cX8_swing 9 = .ok (.ifCond .ne 5, 3) := by decide +kernel
theorem dX8_swing_12 : decode cX8_swing 12 = .ok (.iconst (-1), 1) := by decide +kernel
theorem dX8_swing_13 : decode cX8_swing 13 = .ok (.ireturn, 1) := by decide +kernel
theorem dX8_swing_14 : decode cX8_swing 14 = .ok (.aload_n 0, 1) := by decide +kernel
theorem dX8_swing_15 : decode cX8_swing 15 = .ok (.iconst 0, 1) := by decide +kernel
theorem dX8_swing_16 : decode cX8_swing 16 = .ok (.putfield 52, 3) := by decide +kernel
theorem dX8_swing_19 : decode cX8_swing 19 = .ok (.iconst 0, 1) := by decide +kernel
theorem dX8_swing_20 : decode cX8_swing 20 = .ok (.istore_n 2, 1) := by decide +kernel
theorem dX8_swing_21 : decode cX8_swing 21 = .ok (.iload_n 2, 1) := by decide +kernel
theorem dX8_swing_22 : decode cX8_swing 22 = .ok (.bipush 8, 2) := by decide +kernel
theorem dX8_swing_24 : decode cX8_swing 24 = .ok (.if_icmp .ge 19, 3) := by decide +kernel
theorem dX8_swing_27 : decode cX8_swing 27 = .ok (.aload_n 0, 1) := by decide +kernel
theorem dX8_swing_28 : decode cX8_swing 28 = .ok (.aload_n 0, 1) := by decide +kernel
theorem dX8_swing_29 : decode cX8_swing 29 = .ok (.iload_n 2, 1) := by decide +kernel
theorem dX8_swing_30 : decode cX8_swing 30 = .ok (.invokevirtual 335, 3) := by decide +kernel
theorem dX8_swing_33 : decode cX8_swing 33 = .ok (.i2l, 1) := by decide +kernel
theorem dX8_swing_34 : decode cX8_swing 34 = .ok (.invokevirtual 299, 3) := by decide +kernel
theorem dX8_swing_37 : decode cX8_swing 37 = .ok (.iinc 2 1, 3) := by decide +kernel
theorem dX8_swing_40 : decode cX8_swing 40 = .ok (.goto (-19), 3) := by decide +kernel
theorem dX8_swing_43 : decode cX8_swing 43 = .ok (.aload_n 0, 1) := by decide +kernel
theorem dX8_swing_44 : decode cX8_swing 44 = .ok (.getfield 23, 3) := by decide +kernel
theorem dX8_swing_47 : decode cX8_swing 47 = .ok (.iload_n 1, 1) := by decide +kernel
theorem dX8_swing_48 : decode cX8_swing 48 = .ok (.laload, 1) := by decide +kernel
theorem dX8_swing_49 : decode cX8_swing 49 = .ok (.l2i, 1) := by decide +kernel
theorem dX8_swing_50 : decode cX8_swing 50 = .ok (.ireturn, 1) := by decide +kernel
theorem dX8_preferenceOf_0 : decode cX8_preferenceOf 0 = .ok (.aload_n 0, 1) := by decide +kernel
theorem dX8_preferenceOf_1 : decode cX8_preferenceOf 1 = .ok (.iload_n 1, 1) := by decide +kernel
theorem dX8_preferenceOf_2 : decode cX8_preferenceOf 2 = .ok (.invokevirtual 154, 3) := by decide +kernel
theorem dX8_preferenceOf_5 : decode cX8_preferenceOf 5 = .ok (.aload_n 0, 1) := by decide +kernel
theorem dX8_preferenceOf_6 : decode cX8_preferenceOf 6 = .ok (.getfield 7, 3) := by decide +kernel
theorem dX8_preferenceOf_9 : decode cX8_preferenceOf 9 = .ok (.bipush 58, 2) := by decide +kernel
theorem dX8_preferenceOf_11 : decode cX8_preferenceOf 11 = .ok (.iload_n 1, 1) := by decide +kernel
theorem dX8_preferenceOf_12 : decode cX8_preferenceOf 12 = .ok (.iadd, 1) := by decide +kernel
theorem dX8_preferenceOf_13 : decode cX8_preferenceOf 13 = .ok (.iaload, 1) := by decide +kernel
theorem dX8_preferenceOf_14 : decode cX8_preferenceOf 14 = .ok (.i2l, 1) := by decide +kernel
theorem dX8_preferenceOf_15 : decode cX8_preferenceOf 15 = .ok (.lmul, 1) := by decide +kernel
theorem dX8_preferenceOf_16 : decode cX8_preferenceOf 16 = .ok (.aload_n 0, 1) := by decide +kernel
theorem dX8_preferenceOf_17 : decode cX8_preferenceOf 17 = .ok (.getfield 7, 3) := by decide +kernel
theorem dX8_preferenceOf_20 : decode cX8_preferenceOf 20 = .ok (.bipush 76, 2) := by decide +kernel
theorem dX8_preferenceOf_22 : decode cX8_preferenceOf 22 = .ok (.iload_n 1, 1) := by decide +kernel
theorem dX8_preferenceOf_23 : decode cX8_preferenceOf 23 = .ok (.iadd, 1) := by decide +kernel
theorem dX8_preferenceOf_24 : decode cX8_preferenceOf 24 = .ok (.iaload, 1) := by decide +kernel
theorem dX8_preferenceOf_25 : decode cX8_preferenceOf 25 = .ok (.i2l, 1) := by decide +kernel
theorem dX8_preferenceOf_26 : decode cX8_preferenceOf 26 = .ok (.lmul, 1) := by decide +kernel
theorem dX8_preferenceOf_27 : decode cX8_preferenceOf 27 = .ok (.ldc2_w 338, 3) := by decide +kernel
theorem dX8_preferenceOf_30 : decode cX8_preferenceOf 30 = .ok (.ldiv, 1) := by decide +kernel
theorem dX8_preferenceOf_31 : decode cX8_preferenceOf 31 = .ok (.lreturn, 1) := by decide +kernel
theorem dX8_shares1_0 : decode cX8_shares1 0 = .ok (.iload_n 1, 1) := by decide +kernel
theorem dX8_shares1_1 : decode cX8_shares1 1 = .ok (.ifCond .eq 25, 3) := by decide +kernel
theorem dX8_shares1_4 : decode cX8_shares1 4 = .ok (.iload_n 2, 1) := by decide +kernel
theorem dX8_shares1_5 : decode cX8_shares1 5 = .ok (.iload_n 1, 1) := by decide +kernel
theorem dX8_shares1_6 : decode cX8_shares1 6 = .ok (.ishr, 1) := by decide +kernel
theorem dX8_shares1_7 : decode cX8_shares1 7 = .ok (.iconst 1, 1) := by decide +kernel
theorem dX8_shares1_8 : decode cX8_shares1 8 = .ok (.iand, 1) := by decide +kernel
theorem dX8_shares1_9 : decode cX8_shares1 9 = .ok (.iconst 1, 1) := by decide +kernel
theorem dX8_shares1_10 : decode cX8_shares1 10 = .ok (.if_icmp .eq 16, 3) := by decide +kernel
theorem dX8_shares1_13 : decode cX8_shares1 13 = .ok (.aload_n 0, 1) := by decide +kernel
theorem dX8_shares1_14 : decode cX8_shares1 14 = .ok (.getfield 7, 3) := by decide +kernel
theorem dX8_shares1_17 : decode cX8_shares1 17 = .ok (.bipush 82, 2) := by decide +kernel
theorem dX8_shares1_19 : decode cX8_shares1 19 = .ok (.iload_n 1, 1) := by decide +kernel
theorem dX8_shares1_20 : decode cX8_shares1 20 = .ok (.iadd, 1) := by decide +kernel
theorem dX8_shares1_21 : decode cX8_shares1 21 = .ok (.iaload, 1) := by decide +kernel
theorem dX8_shares1_22 : decode cX8_shares1 22 = .ok (.iconst 1, 1) := by decide +kernel
theorem dX8_shares1_23 : decode cX8_shares1 23 = .ok (.if_icmp .ne 7, 3) := by decide +kernel
theorem dX8_shares1_26 : decode cX8_shares1 26 = .ok (.iconst 1, 1) := by decide +kernel
theorem dX8_shares1_27 : decode cX8_shares1 27 = .ok (.goto 4, 3) := by decide +kernel
theorem dX8_shares1_30 : decode cX8_shares1 30 = .ok (.iconst 0, 1) := by decide +kernel
theorem dX8_shares1_31 : decode cX8_shares1 31 = .ok (.ireturn, 1) := by decide +kernel
theorem dX8_pays_0 : decode cX8_pays 0 = .ok (.lload_n 1, 1) := by decide +kernel
theorem dX8_pays_1 : decode cX8_pays 1 = .ok (.lstore 4, 2) := by decide +kernel
theorem dX8_pays_3 : decode cX8_pays 3 = .ok (.aload_n 0, 1) := by decide +kernel
theorem dX8_pays_4 : decode cX8_pays 4 = .ok (.getfield 7, 3) := by decide +kernel
theorem dX8_pays_7 : decode cX8_pays 7 = .ok (.bipush 57, 2) := by decide +kernel
theorem dX8_pays_9 : decode cX8_pays 9 = .ok (.iaload, 1) := by decide +kernel
theorem dX8_pays_10 : decode cX8_pays 10 = .ok (.iconst 1, 1) := by decide +kernel
theorem dX8_pays_11 : decode cX8_pays 11 = .ok (.isub, 1) := by decide +kernel
theorem dX8_pays_12 : decode cX8_pays 12 = .ok (.istore 6, 2) := by decide +kernel
theorem dX8_pays_14 : decode cX8_pays 14 = .ok (.iload 6, 2) := by decide +kernel
theorem dX8_pays_16 : decode cX8_pays 16 = .ok (.ifCond .le 53, 3) := by decide +kernel
theorem dX8_pays_19 : decode cX8_pays 19 = .ok (.aload_n 0, 1) := by decide +kernel
theorem dX8_pays_20 : decode cX8_pays 20 = .ok (.getfield 42, 3) := by decide +kernel
theorem dX8_pays_23 : decode cX8_pays 23 = .ok (.iload 6, 2) := by decide +kernel
theorem dX8_pays_25 : decode cX8_pays 25 = .ok (.iload_n 3, 1) := by decide +kernel
theorem dX8_pays_26 : decode cX8_pays 26 = .ok (.iload 6, 2) := by decide +kernel
theorem dX8_pays_28 : decode cX8_pays 28 = .ok (.ishr, 1) := by decide +kernel
theorem dX8_pays_29 : decode cX8_pays 29 = .ok (.iconst 1, 1) := by decide +kernel
theorem dX8_pays_30 : decode cX8_pays 30 = .ok (.iand, 1) := by decide +kernel
theorem dX8_pays_31 : decode cX8_pays 31 = .ok (.iconst 1, 1) := by decide +kernel
theorem dX8_pays_32 : decode cX8_pays 32 = .ok (.if_icmp .ne 7, 3) := by decide +kernel
theorem dX8_pays_35 : decode cX8_pays 35 = .ok (.lconst 0, 1) := by decide +kernel
theorem dX8_pays_36 : decode cX8_pays 36 = .ok (.goto 14, 3) := by decide +kernel
theorem dX8_pays_39 : decode cX8_pays 39 = .ok (.lload 4, 2) := by decide +kernel
theorem dX8_pays_41 : decode cX8_pays 41 = .ok (.aload_n 0, 1) := by decide +kernel
theorem dX8_pays_42 : decode cX8_pays 42 = .ok (.iload 6, 2) := by decide +kernel
theorem dX8_pays_44 : decode cX8_pays 44 = .ok (.invokevirtual 340, 3) := by decide +kernel
theorem dX8_pays_47 : decode cX8_pays 47 = .ok (.invokestatic 261, 3) := by decide +kernel
theorem dX8_pays_50 : decode cX8_pays 50 = .ok (.lastore, 1) := by decide +kernel
theorem dX8_pays_51 : decode cX8_pays 51 = .ok (.lload 4, 2) := by decide +kernel
theorem dX8_pays_53 : decode cX8_pays 53 = .ok (.aload_n 0, 1) := by decide +kernel
theorem dX8_pays_54 : decode cX8_pays 54 = .ok (.getfield 42, 3) := by decide +kernel
theorem dX8_pays_57 : decode cX8_pays 57 = .ok (.iload 6, 2) := by decide +kernel
theorem dX8_pays_59 : decode cX8_pays 59 = .ok (.laload, 1) := by decide +kernel
theorem dX8_pays_60 : decode cX8_pays 60 = .ok (.lsub, 1) := by decide +kernel
theorem dX8_pays_61 : decode cX8_pays 61 = .ok (.lstore 4, 2) := by decide +kernel
theorem dX8_pays_63 : decode cX8_pays 63 = .ok (.iinc 6 (-1), 3) := by decide +kernel
theorem dX8_pays_66 : decode cX8_pays 66 = .ok (.goto (-52), 3) := by decide +kernel
theorem dX8_pays_69 : decode cX8_pays 69 = .ok (.aload_n 0, 1) := by decide +kernel
theorem dX8_pays_70 : decode cX8_pays 70 = .ok (.getfield 42, 3) := by decide +kernel
theorem dX8_pays_73 : decode cX8_pays 73 = .ok (.iconst 0, 1) := by decide +kernel
theorem dX8_pays_74 : decode cX8_pays 74 = .ok (.lconst 0, 1) := by decide +kernel
theorem dX8_pays_75 : decode cX8_pays 75 = .ok (.lastore, 1) := by decide +kernel
theorem dX8_pays_76 : decode cX8_pays 76 = .ok (.aload_n 0, 1) := by decide +kernel
theorem dX8_pays_77 : decode cX8_pays 77 = .ok (.lload 4, 2) := by decide +kernel
theorem dX8_pays_79 : decode cX8_pays 79 = .ok (.putfield 343, 3) := by decide +kernel
theorem dX8_pays_82 : decode cX8_pays 82 = .ok (.aload_n 0, 1) := by decide +kernel
theorem dX8_pays_83 : decode cX8_pays 83 = .ok (.aload_n 0, 1) := by decide +kernel
theorem dX8_pays_84 : decode cX8_pays 84 = .ok (.invokevirtual 96, 3) := by decide +kernel
theorem dX8_pays_87 : decode cX8_pays 87 = .ok (.putfield 346, 3) := by decide +kernel
theorem dX8_pays_90 : decode cX8_pays 90 = .ok (.iconst 0, 1) := by decide +kernel
theorem dX8_pays_91 : decode cX8_pays 91 = .ok (.istore 6, 2) := by decide +kernel
theorem dX8_pays_93 : decode cX8_pays 93 = .ok (.iload 6, 2) := by decide +kernel
theorem dX8_pays_95 : decode cX8_pays 95 = .ok (.aload_n 0, 1) := by decide +kernel
theorem dX8_pays_96 : decode cX8_pays 96 = .ok (.getfield 7, 3) := by decide +kernel
theorem dX8_pays_99 : decode cX8_pays 99 = .ok (.bipush 57, 2) := by decide +kernel
theorem dX8_pays_101 : decode cX8_pays 101 = .ok (.iaload, 1) := by decide +kernel
theorem dX8_pays_102 : decode cX8_pays 102 = .ok (.if_icmp .ge 38, 3) := by decide +kernel
theorem dX8_pays_105 : decode cX8_pays 105 = .ok (.aload_n 0, 1) := by decide +kernel
theorem dX8_pays_106 : decode cX8_pays 106 = .ok (.dup, 1) := by decide +kernel
theorem dX8_pays_107 : decode cX8_pays 107 = .ok (.getfield 346, 3) := by decide +kernel
theorem dX8_pays_110 : decode cX8_pays 110 = .ok (.aload_n 0, 1) := by decide +kernel
theorem dX8_pays_111 : decode cX8_pays 111 = .ok (.iload 6, 2) := by decide +kernel
theorem dX8_pays_113 : decode cX8_pays 113 = .ok (.iload_n 3, 1) := by decide +kernel
theorem dX8_pays_114 : decode cX8_pays 114 = .ok (.invokevirtual 349, 3) := by decide +kernel
theorem dX8_pays_117 : decode cX8_pays 117 = .ok (.ifCond .eq 12, 3) := by decide +kernel
theorem dX8_pays_120 : decode cX8_pays 120 = .ok (.aload_n 0, 1) := by decide +kernel
theorem dX8_pays_121 : decode cX8_pays 121 = .ok (.iload 6, 2) := by decide +kernel
theorem dX8_pays_123 : decode cX8_pays 123 = .ok (.invokevirtual 316, 3) := by decide +kernel
theorem dX8_pays_126 : decode cX8_pays 126 = .ok (.goto 4, 3) := by decide +kernel
theorem dX8_pays_129 : decode cX8_pays 129 = .ok (.lconst 0, 1) := by decide +kernel
theorem dX8_pays_130 : decode cX8_pays 130 = .ok (.ladd, 1) := by decide +kernel
theorem dX8_pays_131 : decode cX8_pays 131 = .ok (.putfield 346, 3) := by decide +kernel
theorem dX8_pays_134 : decode cX8_pays 134 = .ok (.iinc 6 1, 3) := by decide +kernel
theorem dX8_pays_137 : decode cX8_pays 137 = .ok (.goto (-44), 3) := by decide +kernel
theorem dX8_pays_140 : decode cX8_pays 140 = .ok (.iconst 0, 1) := by decide +kernel
theorem dX8_pays_141 : decode cX8_pays 141 = .ok (.istore 6, 2) := by decide +kernel
theorem dX8_pays_143 : decode cX8_pays 143 = .ok (.iload 6, 2) := by decide +kernel
theorem dX8_pays_145 : decode cX8_pays 145 = .ok (.aload_n 0, 1) := by decide +kernel
theorem dX8_pays_146 : decode cX8_pays 146 = .ok (.getfield 7, 3) := by decide +kernel
theorem dX8_pays_149 : decode cX8_pays 149 = .ok (.bipush 57, 2) := by decide +kernel
theorem dX8_pays_151 : decode cX8_pays 151 = .ok (.iaload, 1) := by decide +kernel
theorem dX8_pays_152 : decode cX8_pays 152 = .ok (.if_icmp .ge 48, 3) := by decide +kernel
theorem dX8_pays_155 : decode cX8_pays 155 = .ok (.aload_n 0, 1) := by decide +kernel
theorem dX8_pays_156 : decode cX8_pays 156 = .ok (.getfield 45, 3) := by decide +kernel
theorem dX8_pays_159 : decode cX8_pays 159 = .ok (.iload 6, 2) := by decide +kernel
theorem dX8_pays_161 : decode cX8_pays 161 = .ok (.aload_n 0, 1) := by decide +kernel
theorem dX8_pays_162 : decode cX8_pays 162 = .ok (.getfield 42, 3) := by decide +kernel
theorem dX8_pays_165 : decode cX8_pays 165 = .ok (.iload 6, 2) := by decide +kernel
theorem dX8_pays_167 : decode cX8_pays 167 = .ok (.laload, 1) := by decide +kernel
theorem dX8_pays_168 : decode cX8_pays 168 = .ok (.aload_n 0, 1) := by decide +kernel
theorem dX8_pays_169 : decode cX8_pays 169 = .ok (.iload 6, 2) := by decide +kernel
theorem dX8_pays_171 : decode cX8_pays 171 = .ok (.iload_n 3, 1) := by decide +kernel
theorem dX8_pays_172 : decode cX8_pays 172 = .ok (.invokevirtual 349, 3) := by decide +kernel
theorem dX8_pays_175 : decode cX8_pays 175 = .ok (.ifCond .eq 16, 3) := by decide +kernel
theorem dX8_pays_178 : decode cX8_pays 178 = .ok (.aload_n 0, 1) := by decide +kernel
theorem dX8_pays_179 : decode cX8_pays 179 = .ok (.aload_n 0, 1) := by decide +kernel
theorem dX8_pays_180 : decode cX8_pays 180 = .ok (.iload 6, 2) := by decide +kernel
theorem dX8_pays_182 : decode cX8_pays 182 = .ok (.invokevirtual 316, 3) := by decide +kernel
theorem dX8_pays_185 : decode cX8_pays 185 = .ok (.invokevirtual 353, 3) := by decide +kernel
theorem dX8_pays_188 : decode cX8_pays 188 = .ok (.goto 4, 3) := by decide +kernel
theorem dX8_pays_191 : decode cX8_pays 191 = .ok (.lconst 0, 1) := by decide +kernel
theorem dX8_pays_192 : decode cX8_pays 192 = .ok (.ladd, 1) := by decide +kernel
theorem dX8_pays_193 : decode cX8_pays 193 = .ok (.lastore, 1) := by decide +kernel
theorem dX8_pays_194 : decode cX8_pays 194 = .ok (.iinc 6 1, 3) := by decide +kernel
theorem dX8_pays_197 : decode cX8_pays 197 = .ok (.goto (-54), 3) := by decide +kernel
theorem dX8_pays_200 : decode cX8_pays 200 = .ok (.return_, 1) := by decide +kernel
theorem dX8_sharedBy_0 : decode cX8_sharedBy 0 = .ok (.aload_n 0, 1) := by decide +kernel
theorem dX8_sharedBy_1 : decode cX8_sharedBy 1 = .ok (.getfield 346, 3) := by decide +kernel
theorem dX8_sharedBy_4 : decode cX8_sharedBy 4 = .ok (.lconst 0, 1) := by decide +kernel
theorem dX8_sharedBy_5 : decode cX8_sharedBy 5 = .ok (.lcmp, 1) := by decide +kernel
theorem dX8_sharedBy_6 : decode cX8_sharedBy 6 = .ok (.ifCond .ne 7, 3) := by decide +kernel
theorem dX8_sharedBy_9 : decode cX8_sharedBy 9 = .ok (.lconst 0, 1) := by decide +kernel
theorem dX8_sharedBy_10 : decode cX8_sharedBy 10 = .ok (.goto 14, 3) := by decide +kernel
theorem dX8_sharedBy_13 : decode cX8_sharedBy 13 = .ok (.aload_n 0, 1) := by decide +kernel
theorem dX8_sharedBy_14 : decode cX8_sharedBy 14 = .ok (.getfield 343, 3) := by decide +kernel
theorem dX8_sharedBy_17 : decode cX8_sharedBy 17 = .ok (.lload_n 1, 1) := by decide +kernel
theorem dX8_sharedBy_18 : decode cX8_sharedBy 18 = .ok (.lmul, 1) := by decide +kernel
theorem dX8_sharedBy_19 : decode cX8_sharedBy 19 = .ok (.aload_n 0, 1) := by decide +kernel
theorem dX8_sharedBy_20 : decode cX8_sharedBy 20 = .ok (.getfield 346, 3) := by decide +kernel
theorem dX8_sharedBy_23 : decode cX8_sharedBy 23 = .ok (.ldiv, 1) := by decide +kernel
theorem dX8_sharedBy_24 : decode cX8_sharedBy 24 = .ok (.lreturn, 1) := by decide +kernel
theorem dX8_converting_0 : decode cX8_converting 0 = .ok (.iconst 0, 1) := by decide +kernel
theorem dX8_converting_1 : decode cX8_converting 1 = .ok (.istore_n 3, 1) := by decide +kernel
theorem dX8_converting_2 : decode cX8_converting 2 = .ok (.iconst 1, 1) := by decide +kernel
theorem dX8_converting_3 : decode cX8_converting 3 = .ok (.istore 4, 2) := by decide +kernel
theorem dX8_converting_5 : decode cX8_converting 5 = .ok (.iload 4, 2) := by decide +kernel
theorem dX8_converting_7 : decode cX8_converting 7 = .ok (.aload_n 0, 1) := by decide +kernel
theorem dX8_converting_8 : decode cX8_converting 8 = .ok (.getfield 7, 3) := by decide +kernel
theorem dX8_converting_11 : decode cX8_converting 11 = .ok (.bipush 57, 2) := by decide +kernel
theorem dX8_converting_13 : decode cX8_converting 13 = .ok (.iaload, 1) := by decide +kernel
theorem dX8_converting_14 : decode cX8_converting 14 = .ok (.if_icmp .ge 122, 3) := by decide +kernel
theorem dX8_converting_17 : decode cX8_converting 17 = .ok (.aload_n 0, 1) := by decide +kernel
theorem dX8_converting_18 : decode cX8_converting 18 = .ok (.lload_n 1, 1) := by decide +kernel
theorem dX8_converting_19 : decode cX8_converting 19 = .ok (.iload_n 3, 1) := by decide +kernel
theorem dX8_converting_20 : decode cX8_converting 20 = .ok (.invokevirtual 357, 3) := by decide +kernel
theorem dX8_converting_23 : decode cX8_converting 23 = .ok (.aload_n 0, 1) := by decide +kernel
theorem dX8_converting_24 : decode cX8_converting 24 = .ok (.getfield 45, 3) := by decide +kernel
theorem dX8_converting_27 : decode cX8_converting 27 = .ok (.iload 4, 2) := by decide +kernel
theorem dX8_converting_29 : decode cX8_converting 29 = .ok (.laload, 1) := by decide +kernel
theorem dX8_converting_30 : decode cX8_converting 30 = .ok (.lstore 5, 2) := by decide +kernel
theorem dX8_converting_32 : decode cX8_converting 32 = .ok (.iload_n 3, 1) := by decide +kernel
theorem dX8_converting_33 : decode cX8_converting 33 = .ok (.iload 4, 2) := by decide +kernel
theorem dX8_converting_35 : decode cX8_converting 35 = .ok (.ishr, 1) := by decide +kernel
theorem dX8_converting_36 : decode cX8_converting 36 = .ok (.iconst 1, 1) := by decide +kernel
theorem dX8_converting_37 : decode cX8_converting 37 = .ok (.iand, 1) := by decide +kernel
theorem dX8_converting_38 : decode cX8_converting 38 = .ok (.ifCond .ne 20, 3) := by decide +kernel
theorem dX8_converting_41 : decode cX8_converting 41 = .ok (.aload_n 0, 1) := by decide +kernel
theorem dX8_converting_42 : decode cX8_converting 42 = .ok (.getfield 7, 3) := by decide +kernel
theorem dX8_converting_45 : decode cX8_converting 45 = .ok (.bipush 82, 2) := by decide +kernel
theorem dX8_converting_47 : decode cX8_converting 47 = .ok (.iload 4, 2) := by decide +kernel
theorem dX8_converting_49 : decode cX8_converting 49 = .ok (.iadd, 1) := by decide +kernel
theorem dX8_converting_50 : decode cX8_converting 50 = .ok (.iaload, 1) := by decide +kernel
theorem dX8_converting_51 : decode cX8_converting 51 = .ok (.ifCond .ne 7, 3) := by decide +kernel
theorem dX8_converting_54 : decode cX8_converting 54 = .ok (.iconst 1, 1) := by decide +kernel
theorem dX8_converting_55 : decode cX8_converting 55 = .ok (.goto 4, 3) := by decide +kernel
theorem dX8_converting_58 : decode cX8_converting 58 = .ok (.iconst 0, 1) := by decide +kernel
theorem dX8_converting_59 : decode cX8_converting 59 = .ok (.istore 7, 2) := by decide +kernel
theorem dX8_converting_61 : decode cX8_converting 61 = .ok (.iload 7, 2) := by decide +kernel
theorem dX8_converting_63 : decode cX8_converting 63 = .ok (.ifCond .eq 14, 3) := by decide +kernel
theorem dX8_converting_66 : decode cX8_converting 66 = .ok (.aload_n 0, 1) := by decide +kernel
theorem dX8_converting_67 : decode cX8_converting 67 = .ok (.lload_n 1, 1) := by decide +kernel
theorem dX8_converting_68 : decode cX8_converting 68 = .ok (.iload_n 3, 1) := by decide +kernel
theorem dX8_converting_69 : decode cX8_converting 69 = .ok (.iconst 1, 1) := by decide +kernel
theorem dX8_converting_70 : decode cX8_converting 70 = .ok (.iload 4, 2) := by decide +kernel
theorem dX8_converting_72 : decode cX8_converting 72 = .ok (.ishl, 1) := by decide +kernel
theorem dX8_converting_73 : decode cX8_converting 73 = .ok (.ior, 1) := by decide +kernel
theorem dX8_converting_74 : decode cX8_converting 74 = .ok (.invokevirtual 357, 3) := by decide +kernel
theorem dX8_converting_77 : decode cX8_converting 77 = .ok (.iload 7, 2) := by decide +kernel
theorem dX8_converting_79 : decode cX8_converting 79 = .ok (.ifCond .eq 20, 3) := by decide +kernel
theorem dX8_converting_82 : decode cX8_converting 82 = .ok (.aload_n 0, 1) := by decide +kernel
theorem dX8_converting_83 : decode cX8_converting 83 = .ok (.getfield 45, 3) := by decide +kernel
theorem dX8_converting_86 : decode cX8_converting 86 = .ok (.iload 4, 2) := by decide +kernel
theorem dX8_converting_88 : decode cX8_converting 88 = .ok (.laload, 1) := by decide +kernel
theorem dX8_converting_89 : decode cX8_converting 89 = .ok (.lload 5, 2) := by decide +kernel
theorem dX8_converting_91 : decode cX8_converting 91 = .ok (.lcmp, 1) := by decide +kernel
theorem dX8_converting_92 : decode cX8_converting 92 = .ok (.ifCond .le 7, 3) := by decide +kernel
theorem dX8_converting_95 : decode cX8_converting 95 = .ok (.iconst 1, 1) := by decide +kernel
theorem dX8_converting_96 : decode cX8_converting 96 = .ok (.goto 4, 3) := by decide +kernel
theorem dX8_converting_99 : decode cX8_converting 99 = .ok (.iconst 0, 1) := by decide +kernel
theorem dX8_converting_100 : decode cX8_converting 100 = .ok (.istore 8, 2) := by decide +kernel
theorem dX8_converting_102 : decode cX8_converting 102 = .ok (.iload_n 3, 1) := by decide +kernel
theorem dX8_converting_103 : decode cX8_converting 103 = .ok (.iload 8, 2) := by decide +kernel
theorem dX8_converting_105 : decode cX8_converting 105 = .ok (.ifCond .eq 10, 3) := by decide +kernel
theorem dX8_converting_108 : decode cX8_converting 108 = .ok (.iconst 1, 1) := by decide +kernel
theorem dX8_converting_109 : decode cX8_converting 109 = .ok (.iload 4, 2) := by decide +kernel
theorem dX8_converting_111 : decode cX8_converting 111 = .ok (.ishl, 1) := by decide +kernel
theorem dX8_converting_112 : decode cX8_converting 112 = .ok (.goto 4, 3) := by decide +kernel
theorem dX8_converting_115 : decode cX8_converting 115 = .ok (.iconst 0, 1) := by decide +kernel
theorem dX8_converting_116 : decode cX8_converting 116 = .ok (.ior, 1) := by decide +kernel
theorem dX8_converting_117 : decode cX8_converting 117 = .ok (.istore_n 3, 1) := by decide +kernel
theorem dX8_converting_118 : decode cX8_converting 118 = .ok (.iload 8, 2) := by decide +kernel
theorem dX8_converting_120 : decode cX8_converting 120 = .ok (.ifCond .eq 7, 3) := by decide +kernel
theorem dX8_converting_123 : decode cX8_converting 123 = .ok (.iconst 1, 1) := by decide +kernel
theorem dX8_converting_124 : decode cX8_converting 124 = .ok (.goto 7, 3) := by decide +kernel
theorem dX8_converting_127 : decode cX8_converting 127 = .ok (.iload 4, 2) := by decide +kernel
theorem dX8_converting_129 : decode cX8_converting 129 = .ok (.iconst 1, 1) := by decide +kernel
theorem dX8_converting_130 : decode cX8_converting 130 = .ok (.iadd, 1) := by decide +kernel
theorem dX8_converting_131 : decode cX8_converting 131 = .ok (.istore 4, 2) := by decide +kernel
theorem dX8_converting_133 : decode cX8_converting 133 = .ok (.goto (-128), 3) := by decide +kernel
theorem dX8_converting_136 : decode cX8_converting 136 = .ok (.aload_n 0, 1) := by decide +kernel
theorem dX8_converting_137 : decode cX8_converting 137 = .ok (.lload_n 1, 1) := by decide +kernel
theorem dX8_converting_138 : decode cX8_converting 138 = .ok (.iload_n 3, 1) := by decide +kernel
theorem dX8_converting_139 : decode cX8_converting 139 = .ok (.invokevirtual 357, 3) := by decide +kernel
theorem dX8_converting_142 : decode cX8_converting 142 = .ok (.iload_n 3, 1) := by decide +kernel
theorem dX8_converting_143 : decode cX8_converting 143 = .ok (.ireturn, 1) := by decide +kernel
theorem dX8_isSum_0 : decode cX8_isSum 0 = .ok (.iload_n 0, 1) := by decide +kernel
theorem dX8_isSum_1 : decode cX8_isSum 1 = .ok (.i2l, 1) := by decide +kernel
theorem dX8_isSum_2 : decode cX8_isSum 2 = .ok (.lconst 0, 1) := by decide +kernel
theorem dX8_isSum_3 : decode cX8_isSum 3 = .ok (.ldc2_w 131, 3) := by decide +kernel
theorem dX8_isSum_6 : decode cX8_isSum 6 = .ok (.invokestatic 58, 3) := by decide +kernel
theorem dX8_isSum_9 : decode cX8_isSum 9 = .ok (.ireturn, 1) := by decide +kernel
theorem dX8_exit_0 : decode cX8_exit 0 = .ok (.aload_n 0, 1) := by decide +kernel
theorem dX8_exit_1 : decode cX8_exit 1 = .ok (.iconst 0, 1) := by decide +kernel
theorem dX8_exit_2 : decode cX8_exit 2 = .ok (.putfield 48, 3) := by decide +kernel
theorem dX8_exit_5 : decode cX8_exit 5 = .ok (.iload_n 1, 1) := by decide +kernel
theorem dX8_exit_6 : decode cX8_exit 6 = .ok (.invokestatic 361, 3) := by decide +kernel
theorem dX8_exit_9 : decode cX8_exit 9 = .ok (.ifCond .ne 5, 3) := by decide +kernel
theorem dX8_exit_12 : decode cX8_exit 12 = .ok (.iconst (-1), 1) := by decide +kernel
theorem dX8_exit_13 : decode cX8_exit 13 = .ok (.ireturn, 1) := by decide +kernel
theorem dX8_exit_14 : decode cX8_exit 14 = .ok (.aload_n 0, 1) := by decide +kernel
theorem dX8_exit_15 : decode cX8_exit 15 = .ok (.iload_n 1, 1) := by decide +kernel
theorem dX8_exit_16 : decode cX8_exit 16 = .ok (.i2l, 1) := by decide +kernel
theorem dX8_exit_17 : decode cX8_exit 17 = .ok (.invokevirtual 364, 3) := by decide +kernel
theorem dX8_exit_20 : decode cX8_exit 20 = .ok (.istore_n 2, 1) := by decide +kernel
theorem dX8_exit_21 : decode cX8_exit 21 = .ok (.aload_n 0, 1) := by decide +kernel
theorem dX8_exit_22 : decode cX8_exit 22 = .ok (.iconst 0, 1) := by decide +kernel
theorem dX8_exit_23 : decode cX8_exit 23 = .ok (.putfield 52, 3) := by decide +kernel
theorem dX8_exit_26 : decode cX8_exit 26 = .ok (.aload_n 0, 1) := by decide +kernel
theorem dX8_exit_27 : decode cX8_exit 27 = .ok (.iload_n 2, 1) := by decide +kernel
theorem dX8_exit_28 : decode cX8_exit 28 = .ok (.i2l, 1) := by decide +kernel
theorem dX8_exit_29 : decode cX8_exit 29 = .ok (.invokevirtual 299, 3) := by decide +kernel
theorem dX8_exit_32 : decode cX8_exit 32 = .ok (.iconst 1, 1) := by decide +kernel
theorem dX8_exit_33 : decode cX8_exit 33 = .ok (.istore_n 3, 1) := by decide +kernel
theorem dX8_exit_34 : decode cX8_exit 34 = .ok (.iload_n 3, 1) := by decide +kernel
theorem dX8_exit_35 : decode cX8_exit 35 = .ok (.aload_n 0, 1) := by decide +kernel
theorem dX8_exit_36 : decode cX8_exit 36 = .ok (.getfield 7, 3) := by decide +kernel
theorem dX8_exit_39 : decode cX8_exit 39 = .ok (.bipush 57, 2) := by decide +kernel
theorem dX8_exit_41 : decode cX8_exit 41 = .ok (.iaload, 1) := by decide +kernel
theorem dX8_exit_42 : decode cX8_exit 42 = .ok (.if_icmp .ge 19, 3) := by decide +kernel
theorem dX8_exit_45 : decode cX8_exit 45 = .ok (.aload_n 0, 1) := by decide +kernel
theorem dX8_exit_46 : decode cX8_exit 46 = .ok (.aload_n 0, 1) := by decide +kernel
theorem dX8_exit_47 : decode cX8_exit 47 = .ok (.getfield 45, 3) := by decide +kernel
theorem dX8_exit_50 : decode cX8_exit 50 = .ok (.iload_n 3, 1) := by decide +kernel
theorem dX8_exit_51 : decode cX8_exit 51 = .ok (.laload, 1) := by decide +kernel
theorem dX8_exit_52 : decode cX8_exit 52 = .ok (.invokevirtual 299, 3) := by decide +kernel
theorem dX8_exit_55 : decode cX8_exit 55 = .ok (.iinc 3 1, 3) := by decide +kernel
theorem dX8_exit_58 : decode cX8_exit 58 = .ok (.goto (-24), 3) := by decide +kernel
theorem dX8_exit_61 : decode cX8_exit 61 = .ok (.aload_n 0, 1) := by decide +kernel
theorem dX8_exit_62 : decode cX8_exit 62 = .ok (.getfield 45, 3) := by decide +kernel
theorem dX8_exit_65 : decode cX8_exit 65 = .ok (.iconst 0, 1) := by decide +kernel
theorem dX8_exit_66 : decode cX8_exit 66 = .ok (.laload, 1) := by decide +kernel
theorem dX8_exit_67 : decode cX8_exit 67 = .ok (.l2i, 1) := by decide +kernel
theorem dX8_exit_68 : decode cX8_exit 68 = .ok (.ireturn, 1) := by decide +kernel
theorem dX8_getsAhead_0 : decode cX8_getsAhead 0 = .ok (.lconst 0, 1) := by decide +kernel
theorem dX8_getsAhead_1 : decode cX8_getsAhead 1 = .ok (.lstore_n 2, 1) := by decide +kernel
theorem dX8_getsAhead_2 : decode cX8_getsAhead 2 = .ok (.iconst 1, 1) := by decide +kernel
theorem dX8_getsAhead_3 : decode cX8_getsAhead 3 = .ok (.istore 4, 2) := by decide +kernel
theorem dX8_getsAhead_5 : decode cX8_getsAhead 5 = .ok (.iload 4, 2) := by decide +kernel
theorem dX8_getsAhead_7 : decode cX8_getsAhead 7 = .ok (.aload_n 0, 1) := by decide +kernel
theorem dX8_getsAhead_8 : decode cX8_getsAhead 8 = .ok (.getfield 7, 3) := by decide +kernel
theorem dX8_getsAhead_11 : decode cX8_getsAhead 11 = .ok (.bipush 57, 2) := by decide +kernel
theorem dX8_getsAhead_13 : decode cX8_getsAhead 13 = .ok (.iaload, 1) := by decide +kernel
theorem dX8_getsAhead_14 : decode cX8_getsAhead 14 = .ok (.if_icmp .ge 62, 3) := by decide +kernel
theorem dX8_getsAhead_17 : decode cX8_getsAhead 17 = .ok (.lload_n 2, 1) := by decide +kernel
theorem dX8_getsAhead_18 : decode cX8_getsAhead 18 = .ok (.aload_n 0, 1) := by decide +kernel
theorem dX8_getsAhead_19 : decode cX8_getsAhead 19 = .ok (.getfield 42, 3) := by decide +kernel
theorem dX8_getsAhead_22 : decode cX8_getsAhead 22 = .ok (.iload 4, 2) := by decide +kernel
theorem dX8_getsAhead_24 : decode cX8_getsAhead 24 = .ok (.laload, 1) := by decide +kernel
theorem dX8_getsAhead_25 : decode cX8_getsAhead 25 = .ok (.lconst 0, 1) := by decide +kernel
theorem dX8_getsAhead_26 : decode cX8_getsAhead 26 = .ok (.lcmp, 1) := by decide +kernel
theorem dX8_getsAhead_27 : decode cX8_getsAhead 27 = .ok (.ifCond .le 40, 3) := by decide +kernel
theorem dX8_getsAhead_30 : decode cX8_getsAhead 30 = .ok (.aload_n 0, 1) := by decide +kernel
theorem dX8_getsAhead_31 : decode cX8_getsAhead 31 = .ok (.iload 4, 2) := by decide +kernel
theorem dX8_getsAhead_33 : decode cX8_getsAhead 33 = .ok (.invokevirtual 154, 3) := by decide +kernel
theorem dX8_getsAhead_36 : decode cX8_getsAhead 36 = .ok (.lconst 0, 1) := by decide +kernel
theorem dX8_getsAhead_37 : decode cX8_getsAhead 37 = .ok (.lcmp, 1) := by decide +kernel
theorem dX8_getsAhead_38 : decode cX8_getsAhead 38 = .ok (.ifCond .le 29, 3) := by decide +kernel
theorem dX8_getsAhead_41 : decode cX8_getsAhead 41 = .ok (.aload_n 0, 1) := by decide +kernel
theorem dX8_getsAhead_42 : decode cX8_getsAhead 42 = .ok (.getfield 42, 3) := by decide +kernel
theorem dX8_getsAhead_45 : decode cX8_getsAhead 45 = .ok (.iload 4, 2) := by decide +kernel
theorem dX8_getsAhead_47 : decode cX8_getsAhead 47 = .ok (.laload, 1) := by decide +kernel
theorem dX8_getsAhead_48 : decode cX8_getsAhead 48 = .ok (.aload_n 0, 1) := by decide +kernel
theorem dX8_getsAhead_49 : decode cX8_getsAhead 49 = .ok (.iload_n 1, 1) := by decide +kernel
theorem dX8_getsAhead_50 : decode cX8_getsAhead 50 = .ok (.iload 4, 2) := by decide +kernel
theorem dX8_getsAhead_52 : decode cX8_getsAhead 52 = .ok (.invokevirtual 80, 3) := by decide +kernel
theorem dX8_getsAhead_55 : decode cX8_getsAhead 55 = .ok (.i2l, 1) := by decide +kernel
theorem dX8_getsAhead_56 : decode cX8_getsAhead 56 = .ok (.lmul, 1) := by decide +kernel
theorem dX8_getsAhead_57 : decode cX8_getsAhead 57 = .ok (.aload_n 0, 1) := by decide +kernel
theorem dX8_getsAhead_58 : decode cX8_getsAhead 58 = .ok (.iload 4, 2) := by decide +kernel
theorem dX8_getsAhead_60 : decode cX8_getsAhead 60 = .ok (.invokevirtual 154, 3) := by decide +kernel
theorem dX8_getsAhead_63 : decode cX8_getsAhead 63 = .ok (.ldiv, 1) := by decide +kernel
theorem dX8_getsAhead_64 : decode cX8_getsAhead 64 = .ok (.goto 4, 3) := by decide +kernel
theorem dX8_getsAhead_67 : decode cX8_getsAhead 67 = .ok (.lconst 0, 1) := by decide +kernel
theorem dX8_getsAhead_68 : decode cX8_getsAhead 68 = .ok (.ladd, 1) := by decide +kernel
theorem dX8_getsAhead_69 : decode cX8_getsAhead 69 = .ok (.lstore_n 2, 1) := by decide +kernel
theorem dX8_getsAhead_70 : decode cX8_getsAhead 70 = .ok (.iinc 4 1, 3) := by decide +kernel
theorem dX8_getsAhead_73 : decode cX8_getsAhead 73 = .ok (.goto (-68), 3) := by decide +kernel
theorem dX8_getsAhead_76 : decode cX8_getsAhead 76 = .ok (.lload_n 2, 1) := by decide +kernel
theorem dX8_getsAhead_77 : decode cX8_getsAhead 77 = .ok (.lreturn, 1) := by decide +kernel
theorem dX8_getsShared_0 : decode cX8_getsShared 0 = .ok (.aload_n 0, 1) := by decide +kernel
theorem dX8_getsShared_1 : decode cX8_getsShared 1 = .ok (.aload_n 0, 1) := by decide +kernel
theorem dX8_getsShared_2 : decode cX8_getsShared 2 = .ok (.getfield 7, 3) := by decide +kernel
theorem dX8_getsShared_5 : decode cX8_getsShared 5 = .ok (.bipush 48, 2) := by decide +kernel
theorem dX8_getsShared_7 : decode cX8_getsShared 7 = .ok (.iload_n 1, 1) := by decide +kernel
theorem dX8_getsShared_8 : decode cX8_getsShared 8 = .ok (.iadd, 1) := by decide +kernel
theorem dX8_getsShared_9 : decode cX8_getsShared 9 = .ok (.iaload, 1) := by decide +kernel
theorem dX8_getsShared_10 : decode cX8_getsShared 10 = .ok (.i2l, 1) := by decide +kernel
theorem dX8_getsShared_11 : decode cX8_getsShared 11 = .ok (.invokevirtual 353, 3) := by decide +kernel
theorem dX8_getsShared_14 : decode cX8_getsShared 14 = .ok (.lstore_n 3, 1) := by decide +kernel
theorem dX8_getsShared_15 : decode cX8_getsShared 15 = .ok (.iconst 0, 1) := by decide +kernel
theorem dX8_getsShared_16 : decode cX8_getsShared 16 = .ok (.istore 5, 2) := by decide +kernel
theorem dX8_getsShared_18 : decode cX8_getsShared 18 = .ok (.iload 5, 2) := by decide +kernel
theorem dX8_getsShared_20 : decode cX8_getsShared 20 = .ok (.aload_n 0, 1) := by decide +kernel
theorem dX8_getsShared_21 : decode cX8_getsShared 21 = .ok (.getfield 7, 3) := by decide +kernel
theorem dX8_getsShared_24 : decode cX8_getsShared 24 = .ok (.bipush 57, 2) := by decide +kernel
theorem dX8_getsShared_26 : decode cX8_getsShared 26 = .ok (.iaload, 1) := by decide +kernel
theorem dX8_getsShared_27 : decode cX8_getsShared 27 = .ok (.if_icmp .ge 43, 3) := by decide +kernel
theorem dX8_getsShared_30 : decode cX8_getsShared 30 = .ok (.lload_n 3, 1) := by decide +kernel
theorem dX8_getsShared_31 : decode cX8_getsShared 31 = .ok (.aload_n 0, 1) := by decide +kernel
theorem dX8_getsShared_32 : decode cX8_getsShared 32 = .ok (.iload 5, 2) := by decide +kernel
theorem dX8_getsShared_34 : decode cX8_getsShared 34 = .ok (.iload_n 2, 1) := by decide +kernel
theorem dX8_getsShared_35 : decode cX8_getsShared 35 = .ok (.invokevirtual 349, 3) := by decide +kernel
theorem dX8_getsShared_38 : decode cX8_getsShared 38 = .ok (.ifCond .eq 23, 3) := by decide +kernel
theorem dX8_getsShared_41 : decode cX8_getsShared 41 = .ok (.aload_n 0, 1) := by decide +kernel
theorem dX8_getsShared_42 : decode cX8_getsShared 42 = .ok (.aload_n 0, 1) := by decide +kernel
theorem dX8_getsShared_43 : decode cX8_getsShared 43 = .ok (.aload_n 0, 1) := by decide +kernel
theorem dX8_getsShared_44 : decode cX8_getsShared 44 = .ok (.iload_n 1, 1) := by decide +kernel
theorem dX8_getsShared_45 : decode cX8_getsShared 45 = .ok (.iload 5, 2) := by decide +kernel
theorem dX8_getsShared_47 : decode cX8_getsShared 47 = .ok (.invokevirtual 80, 3) := by decide +kernel
theorem dX8_getsShared_50 : decode cX8_getsShared 50 = .ok (.iload 5, 2) := by decide +kernel
theorem dX8_getsShared_52 : decode cX8_getsShared 52 = .ok (.invokevirtual 84, 3) := by decide +kernel
theorem dX8_getsShared_55 : decode cX8_getsShared 55 = .ok (.invokevirtual 353, 3) := by decide +kernel
theorem dX8_getsShared_58 : decode cX8_getsShared 58 = .ok (.goto 4, 3) := by decide +kernel
theorem dX8_getsShared_61 : decode cX8_getsShared 61 = .ok (.lconst 0, 1) := by decide +kernel
theorem dX8_getsShared_62 : decode cX8_getsShared 62 = .ok (.ladd, 1) := by decide +kernel
theorem dX8_getsShared_63 : decode cX8_getsShared 63 = .ok (.lstore_n 3, 1) := by decide +kernel
theorem dX8_getsShared_64 : decode cX8_getsShared 64 = .ok (.iinc 5 1, 3) := by decide +kernel
theorem dX8_getsShared_67 : decode cX8_getsShared 67 = .ok (.goto (-49), 3) := by decide +kernel
theorem dX8_getsShared_70 : decode cX8_getsShared 70 = .ok (.lload_n 3, 1) := by decide +kernel
theorem dX8_getsShared_71 : decode cX8_getsShared 71 = .ok (.lreturn, 1) := by decide +kernel
theorem dX8_getsAll_0 : decode cX8_getsAll 0 = .ok (.aload_n 0, 1) := by decide +kernel
theorem dX8_getsAll_1 : decode cX8_getsAll 1 = .ok (.lload_n 2, 1) := by decide +kernel
theorem dX8_getsAll_2 : decode cX8_getsAll 2 = .ok (.invokevirtual 364, 3) := by decide +kernel
theorem dX8_getsAll_5 : decode cX8_getsAll 5 = .ok (.istore 4, 2) := by decide +kernel
theorem dX8_getsAll_7 : decode cX8_getsAll 7 = .ok (.aload_n 0, 1) := by decide +kernel
theorem dX8_getsAll_8 : decode cX8_getsAll 8 = .ok (.iload_n 1, 1) := by decide +kernel
theorem dX8_getsAll_9 : decode cX8_getsAll 9 = .ok (.invokevirtual 368, 3) := by decide +kernel
theorem dX8_getsAll_12 : decode cX8_getsAll 12 = .ok (.aload_n 0, 1) := by decide +kernel
theorem dX8_getsAll_13 : decode cX8_getsAll 13 = .ok (.iload_n 1, 1) := by decide +kernel
theorem dX8_getsAll_14 : decode cX8_getsAll 14 = .ok (.iload 4, 2) := by decide +kernel
theorem dX8_getsAll_16 : decode cX8_getsAll 16 = .ok (.invokevirtual 371, 3) := by decide +kernel
theorem dX8_getsAll_19 : decode cX8_getsAll 19 = .ok (.ladd, 1) := by decide +kernel
theorem dX8_getsAll_20 : decode cX8_getsAll 20 = .ok (.lreturn, 1) := by decide +kernel
theorem dX8_gets_0 : decode cX8_gets 0 = .ok (.aload_n 0, 1) := by decide +kernel
theorem dX8_gets_1 : decode cX8_gets 1 = .ok (.iconst 0, 1) := by decide +kernel
theorem dX8_gets_2 : decode cX8_gets 2 = .ok (.putfield 48, 3) := by decide +kernel
theorem dX8_gets_5 : decode cX8_gets 5 = .ok (.iload_n 1, 1) := by decide +kernel
theorem dX8_gets_6 : decode cX8_gets 6 = .ok (.invokestatic 140, 3) := by decide +kernel
theorem dX8_gets_9 : decode cX8_gets 9 = .ok (.ifCond .eq 10, 3) := by decide +kernel
theorem dX8_gets_12 : decode cX8_gets 12 = .ok (.iload_n 2, 1) := by decide +kernel
theorem dX8_gets_13 : decode cX8_gets 13 = .ok (.invokestatic 361, 3) := by decide +kernel
theorem dX8_gets_16 : decode cX8_gets 16 = .ok (.ifCond .ne 5, 3) := by decide +kernel
theorem dX8_gets_19 : decode cX8_gets 19 = .ok (.iconst (-1), 1) := by decide +kernel
theorem dX8_gets_20 : decode cX8_gets 20 = .ok (.ireturn, 1) := by decide +kernel
theorem dX8_gets_21 : decode cX8_gets 21 = .ok (.aload_n 0, 1) := by decide +kernel
theorem dX8_gets_22 : decode cX8_gets 22 = .ok (.iload_n 2, 1) := by decide +kernel
theorem dX8_gets_23 : decode cX8_gets 23 = .ok (.i2l, 1) := by decide +kernel
theorem dX8_gets_24 : decode cX8_gets 24 = .ok (.invokevirtual 364, 3) := by decide +kernel
theorem dX8_gets_27 : decode cX8_gets 27 = .ok (.istore_n 3, 1) := by decide +kernel
theorem dX8_gets_28 : decode cX8_gets 28 = .ok (.aload_n 0, 1) := by decide +kernel
theorem dX8_gets_29 : decode cX8_gets 29 = .ok (.iconst 0, 1) := by decide +kernel
theorem dX8_gets_30 : decode cX8_gets 30 = .ok (.putfield 52, 3) := by decide +kernel
theorem dX8_gets_33 : decode cX8_gets 33 = .ok (.aload_n 0, 1) := by decide +kernel
theorem dX8_gets_34 : decode cX8_gets 34 = .ok (.aload_n 0, 1) := by decide +kernel
theorem dX8_gets_35 : decode cX8_gets 35 = .ok (.iload_n 1, 1) := by decide +kernel
theorem dX8_gets_36 : decode cX8_gets 36 = .ok (.invokevirtual 368, 3) := by decide +kernel
theorem dX8_gets_39 : decode cX8_gets 39 = .ok (.invokevirtual 299, 3) := by decide +kernel
theorem dX8_gets_42 : decode cX8_gets 42 = .ok (.aload_n 0, 1) := by decide +kernel
theorem dX8_gets_43 : decode cX8_gets 43 = .ok (.aload_n 0, 1) := by decide +kernel
theorem dX8_gets_44 : decode cX8_gets 44 = .ok (.iload_n 1, 1) := by decide +kernel
theorem dX8_gets_45 : decode cX8_gets 45 = .ok (.iload_n 3, 1) := by decide +kernel
theorem dX8_gets_46 : decode cX8_gets 46 = .ok (.invokevirtual 371, 3) := by decide +kernel
theorem dX8_gets_49 : decode cX8_gets 49 = .ok (.invokevirtual 299, 3) := by decide +kernel
theorem dX8_gets_52 : decode cX8_gets 52 = .ok (.aload_n 0, 1) := by decide +kernel
theorem dX8_gets_53 : decode cX8_gets 53 = .ok (.getfield 23, 3) := by decide +kernel
theorem dX8_gets_56 : decode cX8_gets 56 = .ok (.iconst 0, 1) := by decide +kernel
theorem dX8_gets_57 : decode cX8_gets 57 = .ok (.laload, 1) := by decide +kernel
theorem dX8_gets_58 : decode cX8_gets 58 = .ok (.aload_n 0, 1) := by decide +kernel
theorem dX8_gets_59 : decode cX8_gets 59 = .ok (.getfield 23, 3) := by decide +kernel
theorem dX8_gets_62 : decode cX8_gets 62 = .ok (.iconst 1, 1) := by decide +kernel
theorem dX8_gets_63 : decode cX8_gets 63 = .ok (.laload, 1) := by decide +kernel
theorem dX8_gets_64 : decode cX8_gets 64 = .ok (.ladd, 1) := by decide +kernel
theorem dX8_gets_65 : decode cX8_gets 65 = .ok (.l2i, 1) := by decide +kernel
theorem dX8_gets_66 : decode cX8_gets 66 = .ok (.ireturn, 1) := by decide +kernel
theorem dX8_stage_0 : decode cX8_stage 0 = .ok (.aload_n 0, 1) := by decide +kernel
theorem dX8_stage_1 : decode cX8_stage 1 = .ok (.iconst 0, 1) := by decide +kernel
theorem dX8_stage_2 : decode cX8_stage 2 = .ok (.putfield 48, 3) := by decide +kernel
theorem dX8_stage_5 : decode cX8_stage 5 = .ok (.iload_n 1, 1) := by decide +kernel
theorem dX8_stage_6 : decode cX8_stage 6 = .ok (.invokestatic 361, 3) := by decide +kernel
theorem dX8_stage_9 : decode cX8_stage 9 = .ok (.ifCond .ne 5, 3) := by decide +kernel
theorem dX8_stage_12 : decode cX8_stage 12 = .ok (.iconst (-1), 1) := by decide +kernel
theorem dX8_stage_13 : decode cX8_stage 13 = .ok (.ireturn, 1) := by decide +kernel
theorem dX8_stage_14 : decode cX8_stage 14 = .ok (.aload_n 0, 1) := by decide +kernel
theorem dX8_stage_15 : decode cX8_stage 15 = .ok (.iload_n 1, 1) := by decide +kernel
theorem dX8_stage_16 : decode cX8_stage 16 = .ok (.i2l, 1) := by decide +kernel
theorem dX8_stage_17 : decode cX8_stage 17 = .ok (.invokevirtual 364, 3) := by decide +kernel
theorem dX8_stage_20 : decode cX8_stage 20 = .ok (.istore_n 2, 1) := by decide +kernel
theorem dX8_stage_21 : decode cX8_stage 21 = .ok (.iconst 0, 1) := by decide +kernel
theorem dX8_stage_22 : decode cX8_stage 22 = .ok (.istore_n 3, 1) := by decide +kernel
theorem dX8_stage_23 : decode cX8_stage 23 = .ok (.lconst 0, 1) := by decide +kernel
theorem dX8_stage_24 : decode cX8_stage 24 = .ok (.lstore 4, 2) := by decide +kernel
theorem dX8_stage_26 : decode cX8_stage 26 = .ok (.iconst 1, 1) := by decide +kernel
theorem dX8_stage_27 : decode cX8_stage 27 = .ok (.istore 6, 2) := by decide +kernel
theorem dX8_stage_29 : decode cX8_stage 29 = .ok (.iload 6, 2) := by decide +kernel
theorem dX8_stage_31 : decode cX8_stage 31 = .ok (.aload_n 0, 1) := by decide +kernel
theorem dX8_stage_32 : decode cX8_stage 32 = .ok (.getfield 7, 3) := by decide +kernel
theorem dX8_stage_35 : decode cX8_stage 35 = .ok (.bipush 57, 2) := by decide +kernel
theorem dX8_stage_37 : decode cX8_stage 37 = .ok (.iaload, 1) := by decide +kernel
theorem dX8_stage_38 : decode cX8_stage 38 = .ok (.if_icmp .ge 75, 3) := by decide +kernel
theorem dX8_stage_41 : decode cX8_stage 41 = .ok (.iload_n 2, 1) := by decide +kernel
theorem dX8_stage_42 : decode cX8_stage 42 = .ok (.iload 6, 2) := by decide +kernel
theorem dX8_stage_44 : decode cX8_stage 44 = .ok (.ishr, 1) := by decide +kernel
theorem dX8_stage_45 : decode cX8_stage 45 = .ok (.iconst 1, 1) := by decide +kernel
theorem dX8_stage_46 : decode cX8_stage 46 = .ok (.iand, 1) := by decide +kernel
theorem dX8_stage_47 : decode cX8_stage 47 = .ok (.iconst 1, 1) := by decide +kernel
theorem dX8_stage_48 : decode cX8_stage 48 = .ok (.if_icmp .ne 6, 3) := by decide +kernel
theorem dX8_stage_51 : decode cX8_stage 51 = .ok (.goto 56, 3) := by decide +kernel
theorem dX8_stage_54 : decode cX8_stage 54 = .ok (.aload_n 0, 1) := by decide +kernel
theorem dX8_stage_55 : decode cX8_stage 55 = .ok (.iload 6, 2) := by decide +kernel
theorem dX8_stage_57 : decode cX8_stage 57 = .ok (.invokevirtual 340, 3) := by decide +kernel
theorem dX8_stage_60 : decode cX8_stage 60 = .ok (.aload_n 0, 1) := by decide +kernel
theorem dX8_stage_61 : decode cX8_stage 61 = .ok (.getfield 42, 3) := by decide +kernel
theorem dX8_stage_64 : decode cX8_stage 64 = .ok (.iload 6, 2) := by decide +kernel
theorem dX8_stage_66 : decode cX8_stage 66 = .ok (.laload, 1) := by decide +kernel
theorem dX8_stage_67 : decode cX8_stage 67 = .ok (.lsub, 1) := by decide +kernel
theorem dX8_stage_68 : decode cX8_stage 68 = .ok (.lstore 7, 2) := by decide +kernel
theorem dX8_stage_70 : decode cX8_stage 70 = .ok (.iload_n 3, 1) := by decide +kernel
theorem dX8_stage_71 : decode cX8_stage 71 = .ok (.lload 7, 2) := by decide +kernel
theorem dX8_stage_73 : decode cX8_stage 73 = .ok (.lconst 0, 1) := by decide +kernel
theorem dX8_stage_74 : decode cX8_stage 74 = .ok (.lcmp, 1) := by decide +kernel
theorem dX8_stage_75 : decode cX8_stage 75 = .ok (.ifCond .ne 10, 3) := by decide +kernel
theorem dX8_stage_78 : decode cX8_stage 78 = .ok (.iconst 1, 1) := by decide +kernel
theorem dX8_stage_79 : decode cX8_stage 79 = .ok (.iload 6, 2) := by decide +kernel
theorem dX8_stage_81 : decode cX8_stage 81 = .ok (.ishl, 1) := by decide +kernel
theorem dX8_stage_82 : decode cX8_stage 82 = .ok (.goto 4, 3) := by decide +kernel
theorem dX8_stage_85 : decode cX8_stage 85 = .ok (.iconst 0, 1) := by decide +kernel
theorem dX8_stage_86 : decode cX8_stage 86 = .ok (.ior, 1) := by decide +kernel
theorem dX8_stage_87 : decode cX8_stage 87 = .ok (.istore_n 3, 1) := by decide +kernel
theorem dX8_stage_88 : decode cX8_stage 88 = .ok (.ldc2_w 333, 3) := by decide +kernel
theorem dX8_stage_91 : decode cX8_stage 91 = .ok (.lload 4, 2) := by decide +kernel
theorem dX8_stage_93 : decode cX8_stage 93 = .ok (.ldc2_w 333, 3) := by decide +kernel
theorem dX8_stage_96 : decode cX8_stage 96 = .ok (.lload 7, 2) := by decide +kernel
theorem dX8_stage_98 : decode cX8_stage 98 = .ok (.invokestatic 261, 3) := by decide +kernel
theorem dX8_stage_101 : decode cX8_stage 101 = .ok (.ladd, 1) := by decide +kernel
theorem dX8_stage_102 : decode cX8_stage 102 = .ok (.invokestatic 261, 3) := by decide +kernel
theorem dX8_stage_105 : decode cX8_stage 105 = .ok (.lstore 4, 2) := by decide +kernel
theorem dX8_stage_107 : decode cX8_stage 107 = .ok (.iinc 6 1, 3) := by decide +kernel
theorem dX8_stage_110 : decode cX8_stage 110 = .ok (.goto (-81), 3) := by decide +kernel
theorem dX8_stage_113 : decode cX8_stage 113 = .ok (.aload_n 0, 1) := by decide +kernel
theorem dX8_stage_114 : decode cX8_stage 114 = .ok (.iconst 0, 1) := by decide +kernel
theorem dX8_stage_115 : decode cX8_stage 115 = .ok (.putfield 52, 3) := by decide +kernel
theorem dX8_stage_118 : decode cX8_stage 118 = .ok (.aload_n 0, 1) := by decide +kernel
theorem dX8_stage_119 : decode cX8_stage 119 = .ok (.lload 4, 2) := by decide +kernel
theorem dX8_stage_121 : decode cX8_stage 121 = .ok (.invokevirtual 299, 3) := by decide +kernel
theorem dX8_stage_124 : decode cX8_stage 124 = .ok (.iload_n 3, 1) := by decide +kernel
theorem dX8_stage_125 : decode cX8_stage 125 = .ok (.ireturn, 1) := by decide +kernel
theorem dX8_reaches_0 : decode cX8_reaches 0 = .ok (.aload_n 0, 1) := by decide +kernel
theorem dX8_reaches_1 : decode cX8_reaches 1 = .ok (.iconst 0, 1) := by decide +kernel
theorem dX8_reaches_2 : decode cX8_reaches 2 = .ok (.putfield 48, 3) := by decide +kernel
theorem dX8_reaches_5 : decode cX8_reaches 5 = .ok (.iload_n 1, 1) := by decide +kernel
theorem dX8_reaches_6 : decode cX8_reaches 6 = .ok (.invokestatic 140, 3) := by decide +kernel
theorem dX8_reaches_9 : decode cX8_reaches 9 = .ok (.ifCond .eq 19, 3) := by decide +kernel
theorem dX8_reaches_12 : decode cX8_reaches 12 = .ok (.iload_n 2, 1) := by decide +kernel
theorem dX8_reaches_13 : decode cX8_reaches 13 = .ok (.ifCond .lt 15, 3) := by decide +kernel
theorem dX8_reaches_16 : decode cX8_reaches 16 = .ok (.iload_n 3, 1) := by decide +kernel
theorem dX8_reaches_17 : decode cX8_reaches 17 = .ok (.i2l, 1) := by decide +kernel
theorem dX8_reaches_18 : decode cX8_reaches 18 = .ok (.lconst 1, 1) := by decide +kernel
theorem dX8_reaches_19 : decode cX8_reaches 19 = .ok (.ldc2_w 374, 3) := by decide +kernel
theorem dX8_reaches_22 : decode cX8_reaches 22 = .ok (.invokestatic 58, 3) := by decide +kernel
theorem dX8_reaches_25 : decode cX8_reaches 25 = .ok (.ifCond .ne 5, 3) := by decide +kernel
theorem dX8_reaches_28 : decode cX8_reaches 28 = .ok (.iconst (-1), 1) := by decide +kernel
theorem dX8_reaches_29 : decode cX8_reaches 29 = .ok (.ireturn, 1) := by decide +kernel
theorem dX8_reaches_30 : decode cX8_reaches 30 = .ok (.iconst 0, 1) := by decide +kernel
theorem dX8_reaches_31 : decode cX8_reaches 31 = .ok (.istore 4, 2) := by decide +kernel
theorem dX8_reaches_33 : decode cX8_reaches 33 = .ok (.iload 4, 2) := by decide +kernel
theorem dX8_reaches_35 : decode cX8_reaches 35 = .ok (.bipush 100, 2) := by decide +kernel
theorem dX8_reaches_37 : decode cX8_reaches 37 = .ok (.if_icmp .gt 31, 3) := by decide +kernel
theorem dX8_reaches_40 : decode cX8_reaches 40 = .ok (.aload_n 0, 1) := by decide +kernel
theorem dX8_reaches_41 : decode cX8_reaches 41 = .ok (.iload_n 1, 1) := by decide +kernel
theorem dX8_reaches_42 : decode cX8_reaches 42 = .ok (.iload 4, 2) := by decide +kernel
theorem dX8_reaches_44 : decode cX8_reaches 44 = .ok (.i2l, 1) := by decide +kernel
theorem dX8_reaches_45 : decode cX8_reaches 45 = .ok (.iload_n 3, 1) := by decide +kernel
theorem dX8_reaches_46 : decode cX8_reaches 46 = .ok (.i2l, 1) := by decide +kernel
theorem dX8_reaches_47 : decode cX8_reaches 47 = .ok (.lmul, 1) := by decide +kernel
theorem dX8_reaches_48 : decode cX8_reaches 48 = .ok (.invokevirtual 376, 3) := by decide +kernel
theorem dX8_reaches_51 : decode cX8_reaches 51 = .ok (.iload_n 2, 1) := by decide +kernel
theorem dX8_reaches_52 : decode cX8_reaches 52 = .ok (.i2l, 1) := by decide +kernel
theorem dX8_reaches_53 : decode cX8_reaches 53 = .ok (.lcmp, 1) := by decide +kernel
theorem dX8_reaches_54 : decode cX8_reaches 54 = .ok (.ifCond .lt 8, 3) := by decide +kernel
theorem dX8_reaches_57 : decode cX8_reaches 57 = .ok (.iload 4, 2) := by decide +kernel
theorem dX8_reaches_59 : decode cX8_reaches 59 = .ok (.iload_n 3, 1) := by decide +kernel
theorem dX8_reaches_60 : decode cX8_reaches 60 = .ok (.imul, 1) := by decide +kernel
theorem dX8_reaches_61 : decode cX8_reaches 61 = .ok (.ireturn, 1) := by decide +kernel
theorem dX8_reaches_62 : decode cX8_reaches 62 = .ok (.iinc 4 1, 3) := by decide +kernel
theorem dX8_reaches_65 : decode cX8_reaches 65 = .ok (.goto (-32), 3) := by decide +kernel
theorem dX8_reaches_68 : decode cX8_reaches 68 = .ok (.bipush (-2), 2) := by decide +kernel
theorem dX8_reaches_70 : decode cX8_reaches 70 = .ok (.ireturn, 1) := by decide +kernel
theorem dX8_multiple_0 : decode cX8_multiple 0 = .ok (.aload_n 0, 1) := by decide +kernel
theorem dX8_multiple_1 : decode cX8_multiple 1 = .ok (.iconst 0, 1) := by decide +kernel
theorem dX8_multiple_2 : decode cX8_multiple 2 = .ok (.putfield 48, 3) := by decide +kernel
theorem dX8_multiple_5 : decode cX8_multiple 5 = .ok (.iload_n 1, 1) := by decide +kernel
theorem dX8_multiple_6 : decode cX8_multiple 6 = .ok (.invokestatic 140, 3) := by decide +kernel
theorem dX8_multiple_9 : decode cX8_multiple 9 = .ok (.ifCond .eq 10, 3) := by decide +kernel
theorem dX8_multiple_12 : decode cX8_multiple 12 = .ok (.iload_n 2, 1) := by decide +kernel
theorem dX8_multiple_13 : decode cX8_multiple 13 = .ok (.invokestatic 361, 3) := by decide +kernel
theorem dX8_multiple_16 : decode cX8_multiple 16 = .ok (.ifCond .ne 5, 3) := by decide +kernel
theorem dX8_multiple_19 : decode cX8_multiple 19 = .ok (.iconst (-1), 1) := by decide +kernel
theorem dX8_multiple_20 : decode cX8_multiple 20 = .ok (.ireturn, 1) := by decide +kernel
theorem dX8_multiple_21 : decode cX8_multiple 21 = .ok (.aload_n 0, 1) := by decide +kernel
theorem dX8_multiple_22 : decode cX8_multiple 22 = .ok (.iload_n 1, 1) := by decide +kernel
theorem dX8_multiple_23 : decode cX8_multiple 23 = .ok (.invokevirtual 330, 3) := by decide +kernel
theorem dX8_multiple_26 : decode cX8_multiple 26 = .ok (.lstore_n 3, 1) := by decide +kernel
theorem dX8_multiple_27 : decode cX8_multiple 27 = .ok (.lload_n 3, 1) := by decide +kernel
theorem dX8_multiple_28 : decode cX8_multiple 28 = .ok (.lconst 0, 1) := by decide +kernel
theorem dX8_multiple_29 : decode cX8_multiple 29 = .ok (.lcmp, 1) := by decide +kernel
theorem dX8_multiple_30 : decode cX8_multiple 30 = .ok (.ifCond .ne 8, 3) := by decide +kernel
theorem dX8_multiple_33 : decode cX8_multiple 33 = .ok (.bipush (-2), 2) := by decide +kernel
theorem dX8_multiple_35 : decode cX8_multiple 35 = .ok (.goto 23, 3) := by decide +kernel
theorem dX8_multiple_38 : decode cX8_multiple 38 = .ok (.ldc2_w 333, 3) := by decide +kernel
theorem dX8_multiple_41 : decode cX8_multiple 41 = .ok (.ldc2_w 380, 3) := by decide +kernel
theorem dX8_multiple_44 : decode cX8_multiple 44 = .ok (.aload_n 0, 1) := by decide +kernel
theorem dX8_multiple_45 : decode cX8_multiple 45 = .ok (.iload_n 1, 1) := by decide +kernel
theorem dX8_multiple_46 : decode cX8_multiple 46 = .ok (.iload_n 2, 1) := by decide +kernel
theorem dX8_multiple_47 : decode cX8_multiple 47 = .ok (.i2l, 1) := by decide +kernel
theorem dX8_multiple_48 : decode cX8_multiple 48 = .ok (.invokevirtual 376, 3) := by decide +kernel
theorem dX8_multiple_51 : decode cX8_multiple 51 = .ok (.lmul, 1) := by decide +kernel
theorem dX8_multiple_52 : decode cX8_multiple 52 = .ok (.lload_n 3, 1) := by decide +kernel
theorem dX8_multiple_53 : decode cX8_multiple 53 = .ok (.ldiv, 1) := by decide +kernel
theorem dX8_multiple_54 : decode cX8_multiple 54 = .ok (.invokestatic 261, 3) := by decide +kernel
theorem dX8_multiple_57 : decode cX8_multiple 57 = .ok (.l2i, 1) := by decide +kernel
theorem dX8_multiple_58 : decode cX8_multiple 58 = .ok (.ireturn, 1) := by decide +kernel
theorem dX8_over_0 : decode cX8_over 0 = .ok (.aload_n 0, 1) := by decide +kernel
theorem dX8_over_1 : decode cX8_over 1 = .ok (.iconst 0, 1) := by decide +kernel
theorem dX8_over_2 : decode cX8_over 2 = .ok (.putfield 48, 3) := by decide +kernel
theorem dX8_over_5 : decode cX8_over 5 = .ok (.iload_n 1, 1) := by decide +kernel
theorem dX8_over_6 : decode cX8_over 6 = .ok (.invokestatic 361, 3) := by decide +kernel
theorem dX8_over_9 : decode cX8_over 9 = .ok (.ifCond .ne 5, 3) := by decide +kernel
theorem dX8_over_12 : decode cX8_over 12 = .ok (.iconst (-1), 1) := by decide +kernel
theorem dX8_over_13 : decode cX8_over 13 = .ok (.ireturn, 1) := by decide +kernel
theorem dX8_over_14 : decode cX8_over 14 = .ok (.iload_n 1, 1) := by decide +kernel
theorem dX8_over_15 : decode cX8_over 15 = .ok (.i2l, 1) := by decide +kernel
theorem dX8_over_16 : decode cX8_over 16 = .ok (.lstore_n 2, 1) := by decide +kernel
theorem dX8_over_17 : decode cX8_over 17 = .ok (.aload_n 0, 1) := by decide +kernel
theorem dX8_over_18 : decode cX8_over 18 = .ok (.iconst 0, 1) := by decide +kernel
theorem dX8_over_19 : decode cX8_over 19 = .ok (.putfield 52, 3) := by decide +kernel
theorem dX8_over_22 : decode cX8_over 22 = .ok (.iconst 0, 1) := by decide +kernel
theorem dX8_over_23 : decode cX8_over 23 = .ok (.istore 4, 2) := by decide +kernel
theorem dX8_over_25 : decode cX8_over 25 = .ok (.iload 4, 2) := by decide +kernel
theorem dX8_over_27 : decode cX8_over 27 = .ok (.bipush 8, 2) := by decide +kernel
theorem dX8_over_29 : decode cX8_over 29 = .ok (.if_icmp .ge 30, 3) := by decide +kernel
theorem dX8_over_32 : decode cX8_over 32 = .ok (.aload_n 0, 1) := by decide +kernel
theorem dX8_over_33 : decode cX8_over 33 = .ok (.iload 4, 2) := by decide +kernel
theorem dX8_over_35 : decode cX8_over 35 = .ok (.iload_n 1, 1) := by decide +kernel
theorem dX8_over_36 : decode cX8_over 36 = .ok (.i2l, 1) := by decide +kernel
theorem dX8_over_37 : decode cX8_over 37 = .ok (.invokevirtual 376, 3) := by decide +kernel
theorem dX8_over_40 : decode cX8_over 40 = .ok (.lstore 5, 2) := by decide +kernel
theorem dX8_over_42 : decode cX8_over 42 = .ok (.aload_n 0, 1) := by decide +kernel
theorem dX8_over_43 : decode cX8_over 43 = .ok (.lload 5, 2) := by decide +kernel
theorem dX8_over_45 : decode cX8_over 45 = .ok (.invokevirtual 299, 3) := by decide +kernel
theorem dX8_over_48 : decode cX8_over 48 = .ok (.lload_n 2, 1) := by decide +kernel
theorem dX8_over_49 : decode cX8_over 49 = .ok (.lload 5, 2) := by decide +kernel
theorem dX8_over_51 : decode cX8_over 51 = .ok (.lsub, 1) := by decide +kernel
theorem dX8_over_52 : decode cX8_over 52 = .ok (.lstore_n 2, 1) := by decide +kernel
theorem dX8_over_53 : decode cX8_over 53 = .ok (.iinc 4 1, 3) := by decide +kernel
theorem dX8_over_56 : decode cX8_over 56 = .ok (.goto (-31), 3) := by decide +kernel
theorem dX8_over_59 : decode cX8_over 59 = .ok (.lload_n 2, 1) := by decide +kernel
theorem dX8_over_60 : decode cX8_over 60 = .ok (.l2i, 1) := by decide +kernel
theorem dX8_over_61 : decode cX8_over 61 = .ok (.ireturn, 1) := by decide +kernel
theorem dX8_worth_0 : decode cX8_worth 0 = .ok (.aload_n 0, 1) := by decide +kernel
theorem dX8_worth_1 : decode cX8_worth 1 = .ok (.iconst 0, 1) := by decide +kernel
theorem dX8_worth_2 : decode cX8_worth 2 = .ok (.putfield 48, 3) := by decide +kernel
theorem dX8_worth_5 : decode cX8_worth 5 = .ok (.aload_n 0, 1) := by decide +kernel
theorem dX8_worth_6 : decode cX8_worth 6 = .ok (.iload_n 1, 1) := by decide +kernel
theorem dX8_worth_7 : decode cX8_worth 7 = .ok (.invokevirtual 64, 3) := by decide +kernel
theorem dX8_worth_10 : decode cX8_worth 10 = .ok (.ifCond .eq 10, 3) := by decide +kernel
theorem dX8_worth_13 : decode cX8_worth 13 = .ok (.iload_n 2, 1) := by decide +kernel
theorem dX8_worth_14 : decode cX8_worth 14 = .ok (.invokestatic 361, 3) := by decide +kernel
theorem dX8_worth_17 : decode cX8_worth 17 = .ok (.ifCond .ne 5, 3) := by decide +kernel
theorem dX8_worth_20 : decode cX8_worth 20 = .ok (.iconst (-1), 1) := by decide +kernel
theorem dX8_worth_21 : decode cX8_worth 21 = .ok (.ireturn, 1) := by decide +kernel
theorem dX8_worth_22 : decode cX8_worth 22 = .ok (.aload_n 0, 1) := by decide +kernel
theorem dX8_worth_23 : decode cX8_worth 23 = .ok (.iload_n 1, 1) := by decide +kernel
theorem dX8_worth_24 : decode cX8_worth 24 = .ok (.invokevirtual 154, 3) := by decide +kernel
theorem dX8_worth_27 : decode cX8_worth 27 = .ok (.lconst 0, 1) := by decide +kernel
theorem dX8_worth_28 : decode cX8_worth 28 = .ok (.lcmp, 1) := by decide +kernel
theorem dX8_worth_29 : decode cX8_worth 29 = .ok (.ifCond .ne 6, 3) := by decide +kernel
theorem dX8_worth_32 : decode cX8_worth 32 = .ok (.bipush (-2), 2) := by decide +kernel
theorem dX8_worth_34 : decode cX8_worth 34 = .ok (.ireturn, 1) := by decide +kernel
theorem dX8_worth_35 : decode cX8_worth 35 = .ok (.aload_n 0, 1) := by decide +kernel
theorem dX8_worth_36 : decode cX8_worth 36 = .ok (.iload_n 2, 1) := by decide +kernel
theorem dX8_worth_37 : decode cX8_worth 37 = .ok (.i2l, 1) := by decide +kernel
theorem dX8_worth_38 : decode cX8_worth 38 = .ok (.invokevirtual 364, 3) := by decide +kernel
theorem dX8_worth_41 : decode cX8_worth 41 = .ok (.istore_n 3, 1) := by decide +kernel
theorem dX8_worth_42 : decode cX8_worth 42 = .ok (.ldc2_w 333, 3) := by decide +kernel
theorem dX8_worth_45 : decode cX8_worth 45 = .ok (.aload_n 0, 1) := by decide +kernel
theorem dX8_worth_46 : decode cX8_worth 46 = .ok (.getfield 45, 3) := by decide +kernel
theorem dX8_worth_49 : decode cX8_worth 49 = .ok (.iload_n 1, 1) := by decide +kernel
theorem dX8_worth_50 : decode cX8_worth 50 = .ok (.laload, 1) := by decide +kernel
theorem dX8_worth_51 : decode cX8_worth 51 = .ok (.ldc2_w 267, 3) := by decide +kernel
theorem dX8_worth_54 : decode cX8_worth 54 = .ok (.lmul, 1) := by decide +kernel
theorem dX8_worth_55 : decode cX8_worth 55 = .ok (.aload_n 0, 1) := by decide +kernel
theorem dX8_worth_56 : decode cX8_worth 56 = .ok (.iload_n 1, 1) := by decide +kernel
theorem dX8_worth_57 : decode cX8_worth 57 = .ok (.invokevirtual 154, 3) := by decide +kernel
theorem dX8_worth_60 : decode cX8_worth 60 = .ok (.ldiv, 1) := by decide +kernel
theorem dX8_worth_61 : decode cX8_worth 61 = .ok (.invokestatic 261, 3) := by decide +kernel
theorem dX8_worth_64 : decode cX8_worth 64 = .ok (.l2i, 1) := by decide +kernel
theorem dX8_worth_65 : decode cX8_worth 65 = .ok (.ireturn, 1) := by decide +kernel
theorem dX8_curve_0 : decode cX8_curve 0 = .ok (.aload_n 0, 1) := by decide +kernel
theorem dX8_curve_1 : decode cX8_curve 1 = .ok (.iconst 0, 1) := by decide +kernel
theorem dX8_curve_2 : decode cX8_curve 2 = .ok (.putfield 48, 3) := by decide +kernel
theorem dX8_curve_5 : decode cX8_curve 5 = .ok (.iload_n 1, 1) := by decide +kernel
theorem dX8_curve_6 : decode cX8_curve 6 = .ok (.invokestatic 140, 3) := by decide +kernel
theorem dX8_curve_9 : decode cX8_curve 9 = .ok (.ifCond .eq 15, 3) := by decide +kernel
theorem dX8_curve_12 : decode cX8_curve 12 = .ok (.iload_n 2, 1) := by decide +kernel
theorem dX8_curve_13 : decode cX8_curve 13 = .ok (.i2l, 1) := by decide +kernel
theorem dX8_curve_14 : decode cX8_curve 14 = .ok (.lconst 1, 1) := by decide +kernel
theorem dX8_curve_15 : decode cX8_curve 15 = .ok (.ldc2_w 382, 3) := by decide +kernel
theorem dX8_curve_18 : decode cX8_curve 18 = .ok (.invokestatic 58, 3) := by decide +kernel
theorem dX8_curve_21 : decode cX8_curve 21 = .ok (.ifCond .ne 7, 3) := by decide +kernel
theorem dX8_curve_24 : decode cX8_curve 24 = .ok (.ldc2_w 384, 3) := by decide +kernel
theorem dX8_curve_27 : decode cX8_curve 27 = .ok (.lreturn, 1) := by decide +kernel
theorem dX8_curve_28 : decode cX8_curve 28 = .ok (.lconst 0, 1) := by decide +kernel
theorem dX8_curve_29 : decode cX8_curve 29 = .ok (.lstore_n 3, 1) := by decide +kernel
theorem dX8_curve_30 : decode cX8_curve 30 = .ok (.aload_n 0, 1) := by decide +kernel
theorem dX8_curve_31 : decode cX8_curve 31 = .ok (.iconst 0, 1) := by decide +kernel
theorem dX8_curve_32 : decode cX8_curve 32 = .ok (.putfield 52, 3) := by decide +kernel
theorem dX8_curve_35 : decode cX8_curve 35 = .ok (.iconst 1, 1) := by decide +kernel
theorem dX8_curve_36 : decode cX8_curve 36 = .ok (.istore 5, 2) := by decide +kernel
theorem dX8_curve_38 : decode cX8_curve 38 = .ok (.iload 5, 2) := by decide +kernel
theorem dX8_curve_40 : decode cX8_curve 40 = .ok (.bipush 8, 2) := by decide +kernel
theorem dX8_curve_42 : decode cX8_curve 42 = .ok (.if_icmp .gt 33, 3) := by decide +kernel
theorem dX8_curve_45 : decode cX8_curve 45 = .ok (.aload_n 0, 1) := by decide +kernel
theorem dX8_curve_46 : decode cX8_curve 46 = .ok (.iload_n 1, 1) := by decide +kernel
theorem dX8_curve_47 : decode cX8_curve 47 = .ok (.iload 5, 2) := by decide +kernel
theorem dX8_curve_49 : decode cX8_curve 49 = .ok (.i2l, 1) := by decide +kernel
theorem dX8_curve_50 : decode cX8_curve 50 = .ok (.iload_n 2, 1) := by decide +kernel
theorem dX8_curve_51 : decode cX8_curve 51 = .ok (.i2l, 1) := by decide +kernel
theorem dX8_curve_52 : decode cX8_curve 52 = .ok (.lmul, 1) := by decide +kernel
theorem dX8_curve_53 : decode cX8_curve 53 = .ok (.invokevirtual 376, 3) := by decide +kernel
theorem dX8_curve_56 : decode cX8_curve 56 = .ok (.lstore 6, 2) := by decide +kernel
theorem dX8_curve_58 : decode cX8_curve 58 = .ok (.aload_n 0, 1) := by decide +kernel
theorem dX8_curve_59 : decode cX8_curve 59 = .ok (.lload 6, 2) := by decide +kernel
theorem dX8_curve_61 : decode cX8_curve 61 = .ok (.invokevirtual 299, 3) := by decide +kernel
theorem dX8_curve_64 : decode cX8_curve 64 = .ok (.lload_n 3, 1) := by decide +kernel
theorem dX8_curve_65 : decode cX8_curve 65 = .ok (.lload 6, 2) := by decide +kernel
theorem dX8_curve_67 : decode cX8_curve 67 = .ok (.ladd, 1) := by decide +kernel
theorem dX8_curve_68 : decode cX8_curve 68 = .ok (.lstore_n 3, 1) := by decide +kernel
theorem dX8_curve_69 : decode cX8_curve 69 = .ok (.iinc 5 1, 3) := by decide +kernel
theorem dX8_curve_72 : decode cX8_curve 72 = .ok (.goto (-34), 3) := by decide +kernel
theorem dX8_curve_75 : decode cX8_curve 75 = .ok (.lload_n 3, 1) := by decide +kernel
theorem dX8_curve_76 : decode cX8_curve 76 = .ok (.lreturn, 1) := by decide +kernel
theorem dX8_preference_0 : decode cX8_preference 0 = .ok (.aload_n 0, 1) := by decide +kernel
theorem dX8_preference_1 : decode cX8_preference 1 = .ok (.iconst 0, 1) := by decide +kernel
theorem dX8_preference_2 : decode cX8_preference 2 = .ok (.putfield 48, 3) := by decide +kernel
theorem dX8_preference_5 : decode cX8_preference 5 = .ok (.aload_n 0, 1) := by decide +kernel
theorem dX8_preference_6 : decode cX8_preference 6 = .ok (.iload_n 1, 1) := by decide +kernel
theorem dX8_preference_7 : decode cX8_preference 7 = .ok (.invokevirtual 162, 3) := by decide +kernel
theorem dX8_preference_10 : decode cX8_preference 10 = .ok (.ifCond .ne 5, 3) := by decide +kernel
theorem dX8_preference_13 : decode cX8_preference 13 = .ok (.iconst (-1), 1) := by decide +kernel
theorem dX8_preference_14 : decode cX8_preference 14 = .ok (.ireturn, 1) := by decide +kernel
theorem dX8_preference_15 : decode cX8_preference 15 = .ok (.lconst 0, 1) := by decide +kernel
theorem dX8_preference_16 : decode cX8_preference 16 = .ok (.lstore_n 2, 1) := by decide +kernel
theorem dX8_preference_17 : decode cX8_preference 17 = .ok (.aload_n 0, 1) := by decide +kernel
theorem dX8_preference_18 : decode cX8_preference 18 = .ok (.getfield 7, 3) := by decide +kernel
theorem dX8_preference_21 : decode cX8_preference 21 = .ok (.bipush 57, 2) := by decide +kernel
theorem dX8_preference_23 : decode cX8_preference 23 = .ok (.iaload, 1) := by decide +kernel
theorem dX8_preference_24 : decode cX8_preference 24 = .ok (.iconst 1, 1) := by decide +kernel
theorem dX8_preference_25 : decode cX8_preference 25 = .ok (.isub, 1) := by decide +kernel
theorem dX8_preference_26 : decode cX8_preference 26 = .ok (.istore 4, 2) := by decide +kernel
theorem dX8_preference_28 : decode cX8_preference 28 = .ok (.iload 4, 2) := by decide +kernel
theorem dX8_preference_30 : decode cX8_preference 30 = .ok (.iload_n 1, 1) := by decide +kernel
theorem dX8_preference_31 : decode cX8_preference 31 = .ok (.if_icmp .lt 30, 3) := by decide +kernel
theorem dX8_preference_34 : decode cX8_preference 34 = .ok (.ldc2_w 333, 3) := by decide +kernel
theorem dX8_preference_37 : decode cX8_preference 37 = .ok (.lload_n 2, 1) := by decide +kernel
theorem dX8_preference_38 : decode cX8_preference 38 = .ok (.ldc2_w 333, 3) := by decide +kernel
theorem dX8_preference_41 : decode cX8_preference 41 = .ok (.aload_n 0, 1) := by decide +kernel
theorem dX8_preference_42 : decode cX8_preference 42 = .ok (.iload 4, 2) := by decide +kernel
theorem dX8_preference_44 : decode cX8_preference 44 = .ok (.invokevirtual 340, 3) := by decide +kernel
theorem dX8_preference_47 : decode cX8_preference 47 = .ok (.invokestatic 261, 3) := by decide +kernel
theorem dX8_preference_50 : decode cX8_preference 50 = .ok (.ladd, 1) := by decide +kernel
theorem dX8_preference_51 : decode cX8_preference 51 = .ok (.invokestatic 261, 3) := by decide +kernel
theorem dX8_preference_54 : decode cX8_preference 54 = .ok (.lstore_n 2, 1) := by decide +kernel
theorem dX8_preference_55 : decode cX8_preference 55 = .ok (.iinc 4 (-1), 3) := by decide +kernel
theorem dX8_preference_58 : decode cX8_preference 58 = .ok (.goto (-30), 3) := by decide +kernel
theorem dX8_preference_61 : decode cX8_preference 61 = .ok (.aload_n 0, 1) := by decide +kernel
theorem dX8_preference_62 : decode cX8_preference 62 = .ok (.iconst 0, 1) := by decide +kernel
theorem dX8_preference_63 : decode cX8_preference 63 = .ok (.putfield 52, 3) := by decide +kernel
theorem dX8_preference_66 : decode cX8_preference 66 = .ok (.aload_n 0, 1) := by decide +kernel
theorem dX8_preference_67 : decode cX8_preference 67 = .ok (.lload_n 2, 1) := by decide +kernel
theorem dX8_preference_68 : decode cX8_preference 68 = .ok (.invokevirtual 299, 3) := by decide +kernel
theorem dX8_preference_71 : decode cX8_preference 71 = .ok (.ldc2_w 333, 3) := by decide +kernel
theorem dX8_preference_74 : decode cX8_preference 74 = .ok (.aload_n 0, 1) := by decide +kernel
theorem dX8_preference_75 : decode cX8_preference 75 = .ok (.iload_n 1, 1) := by decide +kernel
theorem dX8_preference_76 : decode cX8_preference 76 = .ok (.invokevirtual 340, 3) := by decide +kernel
theorem dX8_preference_79 : decode cX8_preference 79 = .ok (.invokestatic 261, 3) := by decide +kernel
theorem dX8_preference_82 : decode cX8_preference 82 = .ok (.l2i, 1) := by decide +kernel
theorem dX8_preference_83 : decode cX8_preference 83 = .ok (.ireturn, 1) := by decide +kernel
theorem dX8_flips_0 : decode cX8_flips 0 = .ok (.aload_n 0, 1) := by decide +kernel
theorem dX8_flips_1 : decode cX8_flips 1 = .ok (.iconst 0, 1) := by decide +kernel
theorem dX8_flips_2 : decode cX8_flips 2 = .ok (.putfield 48, 3) := by decide +kernel
theorem dX8_flips_5 : decode cX8_flips 5 = .ok (.aload_n 0, 1) := by decide +kernel
theorem dX8_flips_6 : decode cX8_flips 6 = .ok (.iload_n 1, 1) := by decide +kernel
theorem dX8_flips_7 : decode cX8_flips 7 = .ok (.invokevirtual 162, 3) := by decide +kernel
theorem dX8_flips_10 : decode cX8_flips 10 = .ok (.ifCond .eq 15, 3) := by decide +kernel
theorem dX8_flips_13 : decode cX8_flips 13 = .ok (.iload_n 2, 1) := by decide +kernel
theorem dX8_flips_14 : decode cX8_flips 14 = .ok (.i2l, 1) := by decide +kernel
theorem dX8_flips_15 : decode cX8_flips 15 = .ok (.lconst 1, 1) := by decide +kernel
theorem dX8_flips_16 : decode cX8_flips 16 = .ok (.ldc2_w 374, 3) := by decide +kernel
theorem dX8_flips_19 : decode cX8_flips 19 = .ok (.invokestatic 58, 3) := by decide +kernel
theorem dX8_flips_22 : decode cX8_flips 22 = .ok (.ifCond .ne 5, 3) := by decide +kernel
theorem dX8_flips_25 : decode cX8_flips 25 = .ok (.iconst (-1), 1) := by decide +kernel
theorem dX8_flips_26 : decode cX8_flips 26 = .ok (.ireturn, 1) := by decide +kernel
theorem dX8_flips_27 : decode cX8_flips 27 = .ok (.iconst 0, 1) := by decide +kernel
theorem dX8_flips_28 : decode cX8_flips 28 = .ok (.istore_n 3, 1) := by decide +kernel
theorem dX8_flips_29 : decode cX8_flips 29 = .ok (.iload_n 3, 1) := by decide +kernel
theorem dX8_flips_30 : decode cX8_flips 30 = .ok (.bipush 100, 2) := by decide +kernel
theorem dX8_flips_32 : decode cX8_flips 32 = .ok (.if_icmp .gt 30, 3) := by decide +kernel
theorem dX8_flips_35 : decode cX8_flips 35 = .ok (.aload_n 0, 1) := by decide +kernel
theorem dX8_flips_36 : decode cX8_flips 36 = .ok (.iload_n 3, 1) := by decide +kernel
theorem dX8_flips_37 : decode cX8_flips 37 = .ok (.i2l, 1) := by decide +kernel
theorem dX8_flips_38 : decode cX8_flips 38 = .ok (.iload_n 2, 1) := by decide +kernel
theorem dX8_flips_39 : decode cX8_flips 39 = .ok (.i2l, 1) := by decide +kernel
theorem dX8_flips_40 : decode cX8_flips 40 = .ok (.lmul, 1) := by decide +kernel
theorem dX8_flips_41 : decode cX8_flips 41 = .ok (.invokevirtual 364, 3) := by decide +kernel
theorem dX8_flips_44 : decode cX8_flips 44 = .ok (.iload_n 1, 1) := by decide +kernel
theorem dX8_flips_45 : decode cX8_flips 45 = .ok (.ishr, 1) := by decide +kernel
theorem dX8_flips_46 : decode cX8_flips 46 = .ok (.iconst 1, 1) := by decide +kernel
theorem dX8_flips_47 : decode cX8_flips 47 = .ok (.iand, 1) := by decide +kernel
theorem dX8_flips_48 : decode cX8_flips 48 = .ok (.iconst 1, 1) := by decide +kernel
theorem dX8_flips_49 : decode cX8_flips 49 = .ok (.if_icmp .ne 7, 3) := by decide +kernel
theorem dX8_flips_52 : decode cX8_flips 52 = .ok (.iload_n 3, 1) := by decide +kernel
theorem dX8_flips_53 : decode cX8_flips 53 = .ok (.iload_n 2, 1) := by decide +kernel
theorem dX8_flips_54 : decode cX8_flips 54 = .ok (.imul, 1) := by decide +kernel
theorem dX8_flips_55 : decode cX8_flips 55 = .ok (.ireturn, 1) := by decide +kernel
theorem dX8_flips_56 : decode cX8_flips 56 = .ok (.iinc 3 1, 3) := by decide +kernel
theorem dX8_flips_59 : decode cX8_flips 59 = .ok (.goto (-30), 3) := by decide +kernel
theorem dX8_flips_62 : decode cX8_flips 62 = .ok (.bipush (-2), 2) := by decide +kernel
theorem dX8_flips_64 : decode cX8_flips 64 = .ok (.ireturn, 1) := by decide +kernel
theorem dX8_keeps_0 : decode cX8_keeps 0 = .ok (.aload_n 0, 1) := by decide +kernel
theorem dX8_keeps_1 : decode cX8_keeps 1 = .ok (.iconst 0, 1) := by decide +kernel
theorem dX8_keeps_2 : decode cX8_keeps 2 = .ok (.putfield 48, 3) := by decide +kernel
theorem dX8_keeps_5 : decode cX8_keeps 5 = .ok (.iconst 0, 1) := by decide +kernel
theorem dX8_keeps_6 : decode cX8_keeps 6 = .ok (.istore_n 1, 1) := by decide +kernel
theorem dX8_keeps_7 : decode cX8_keeps 7 = .ok (.iload_n 1, 1) := by decide +kernel
theorem dX8_keeps_8 : decode cX8_keeps 8 = .ok (.sipush 172, 3) := by decide +kernel
theorem dX8_keeps_11 : decode cX8_keeps 11 = .ok (.if_icmp .ge 21, 3) := by decide +kernel
theorem dX8_keeps_14 : decode cX8_keeps 14 = .ok (.aload_n 0, 1) := by decide +kernel
theorem dX8_keeps_15 : decode cX8_keeps 15 = .ok (.getfield 13, 3) := by decide +kernel
theorem dX8_keeps_18 : decode cX8_keeps 18 = .ok (.iload_n 1, 1) := by decide +kernel
theorem dX8_keeps_19 : decode cX8_keeps 19 = .ok (.aload_n 0, 1) := by decide +kernel
theorem dX8_keeps_20 : decode cX8_keeps 20 = .ok (.getfield 7, 3) := by decide +kernel
theorem dX8_keeps_23 : decode cX8_keeps 23 = .ok (.iload_n 1, 1) := by decide +kernel
theorem dX8_keeps_24 : decode cX8_keeps 24 = .ok (.iaload, 1) := by decide +kernel
theorem dX8_keeps_25 : decode cX8_keeps 25 = .ok (.iastore, 1) := by decide +kernel
theorem dX8_keeps_26 : decode cX8_keeps 26 = .ok (.iinc 1 1, 3) := by decide +kernel
theorem dX8_keeps_29 : decode cX8_keeps 29 = .ok (.goto (-22), 3) := by decide +kernel
theorem dX8_keeps_32 : decode cX8_keeps 32 = .ok (.aload_n 0, 1) := by decide +kernel
theorem dX8_keeps_33 : decode cX8_keeps 33 = .ok (.iconst 1, 1) := by decide +kernel
theorem dX8_keeps_34 : decode cX8_keeps 34 = .ok (.putfield 386, 3) := by decide +kernel
theorem dX8_keeps_37 : decode cX8_keeps 37 = .ok (.aload_n 0, 1) := by decide +kernel
theorem dX8_keeps_38 : decode cX8_keeps 38 = .ok (.invokevirtual 143, 3) := by decide +kernel
theorem dX8_keeps_41 : decode cX8_keeps 41 = .ok (.l2i, 1) := by decide +kernel
theorem dX8_keeps_42 : decode cX8_keeps 42 = .ok (.ireturn, 1) := by decide +kernel
theorem dX8_back_0 : decode cX8_back 0 = .ok (.aload_n 0, 1) := by decide +kernel
theorem dX8_back_1 : decode cX8_back 1 = .ok (.iconst 0, 1) := by decide +kernel
theorem dX8_back_2 : decode cX8_back 2 = .ok (.putfield 48, 3) := by decide +kernel
theorem dX8_back_5 : decode cX8_back 5 = .ok (.aload_n 0, 1) := by decide +kernel
theorem dX8_back_6 : decode cX8_back 6 = .ok (.getfield 386, 3) := by decide +kernel
theorem dX8_back_9 : decode cX8_back 9 = .ok (.ifCond .ne 6, 3) := by decide +kernel
theorem dX8_back_12 : decode cX8_back 12 = .ok (.bipush (-2), 2) := by decide +kernel
theorem dX8_back_14 : decode cX8_back 14 = .ok (.ireturn, 1) := by decide +kernel
theorem dX8_back_15 : decode cX8_back 15 = .ok (.aload_n 0, 1) := by decide +kernel
theorem dX8_back_16 : decode cX8_back 16 = .ok (.invokevirtual 133, 3) := by decide +kernel
theorem dX8_back_19 : decode cX8_back 19 = .ok (.iconst 0, 1) := by decide +kernel
theorem dX8_back_20 : decode cX8_back 20 = .ok (.istore_n 1, 1) := by decide +kernel
theorem dX8_back_21 : decode cX8_back 21 = .ok (.iload_n 1, 1) := by decide +kernel
theorem dX8_back_22 : decode cX8_back 22 = .ok (.sipush 172, 3) := by decide +kernel
theorem dX8_back_25 : decode cX8_back 25 = .ok (.if_icmp .ge 21, 3) := by decide +kernel
theorem dX8_back_28 : decode cX8_back 28 = .ok (.aload_n 0, 1) := by decide +kernel
theorem dX8_back_29 : decode cX8_back 29 = .ok (.getfield 7, 3) := by decide +kernel
theorem dX8_back_32 : decode cX8_back 32 = .ok (.iload_n 1, 1) := by decide +kernel
theorem dX8_back_33 : decode cX8_back 33 = .ok (.aload_n 0, 1) := by decide +kernel
theorem dX8_back_34 : decode cX8_back 34 = .ok (.getfield 13, 3) := by decide +kernel
theorem dX8_back_37 : decode cX8_back 37 = .ok (.iload_n 1, 1) := by decide +kernel
theorem dX8_back_38 : decode cX8_back 38 = .ok (.iaload, 1) := by decide +kernel
theorem dX8_back_39 : decode cX8_back 39 = .ok (.iastore, 1) := by decide +kernel
theorem dX8_back_40 : decode cX8_back 40 = .ok (.iinc 1 1, 3) := by decide +kernel
theorem dX8_back_43 : decode cX8_back 43 = .ok (.goto (-22), 3) := by decide +kernel
theorem dX8_back_46 : decode cX8_back 46 = .ok (.aload_n 0, 1) := by decide +kernel
theorem dX8_back_47 : decode cX8_back 47 = .ok (.invokevirtual 143, 3) := by decide +kernel
theorem dX8_back_50 : decode cX8_back 50 = .ok (.l2i, 1) := by decide +kernel
theorem dX8_back_51 : decode cX8_back 51 = .ok (.ireturn, 1) := by decide +kernel
theorem dX8_undo_0 : decode cX8_undo 0 = .ok (.aload_n 0, 1) := by decide +kernel
theorem dX8_undo_1 : decode cX8_undo 1 = .ok (.iconst 0, 1) := by decide +kernel
theorem dX8_undo_2 : decode cX8_undo 2 = .ok (.putfield 48, 3) := by decide +kernel
theorem dX8_undo_5 : decode cX8_undo 5 = .ok (.aload_n 0, 1) := by decide +kernel
theorem dX8_undo_6 : decode cX8_undo 6 = .ok (.getfield 74, 3) := by decide +kernel
theorem dX8_undo_9 : decode cX8_undo 9 = .ok (.ifCond .ne 6, 3) := by decide +kernel
theorem dX8_undo_12 : decode cX8_undo 12 = .ok (.bipush (-2), 2) := by decide +kernel
theorem dX8_undo_14 : decode cX8_undo 14 = .ok (.ireturn, 1) := by decide +kernel
theorem dX8_undo_15 : decode cX8_undo 15 = .ok (.aload_n 0, 1) := by decide +kernel
theorem dX8_undo_16 : decode cX8_undo 16 = .ok (.invokevirtual 389, 3) := by decide +kernel
theorem dX8_undo_19 : decode cX8_undo 19 = .ok (.aload_n 0, 1) := by decide +kernel
theorem dX8_undo_20 : decode cX8_undo 20 = .ok (.getfield 74, 3) := by decide +kernel
theorem dX8_undo_23 : decode cX8_undo 23 = .ok (.ireturn, 1) := by decide +kernel
theorem dX8_staked_0 : decode cX8_staked 0 = .ok (.iconst 0, 1) := by decide +kernel
theorem dX8_staked_1 : decode cX8_staked 1 = .ok (.istore_n 1, 1) := by decide +kernel
theorem dX8_staked_2 : decode cX8_staked 2 = .ok (.iconst 0, 1) := by decide +kernel
theorem dX8_staked_3 : decode cX8_staked 3 = .ok (.istore_n 2, 1) := by decide +kernel
theorem dX8_staked_4 : decode cX8_staked 4 = .ok (.iload_n 2, 1) := by decide +kernel
theorem dX8_staked_5 : decode cX8_staked 5 = .ok (.bipush 8, 2) := by decide +kernel
theorem dX8_staked_7 : decode cX8_staked 7 = .ok (.if_icmp .ge 29, 3) := by decide +kernel
theorem dX8_staked_10 : decode cX8_staked 10 = .ok (.iload_n 1, 1) := by decide +kernel
theorem dX8_staked_11 : decode cX8_staked 11 = .ok (.aload_n 0, 1) := by decide +kernel
theorem dX8_staked_12 : decode cX8_staked 12 = .ok (.iload_n 2, 1) := by decide +kernel
theorem dX8_staked_13 : decode cX8_staked 13 = .ok (.invokevirtual 149, 3) := by decide +kernel
theorem dX8_staked_16 : decode cX8_staked 16 = .ok (.lconst 0, 1) := by decide +kernel
theorem dX8_staked_17 : decode cX8_staked 17 = .ok (.lcmp, 1) := by decide +kernel
theorem dX8_staked_18 : decode cX8_staked 18 = .ok (.ifCond .le 9, 3) := by decide +kernel
theorem dX8_staked_21 : decode cX8_staked 21 = .ok (.iconst 1, 1) := by decide +kernel
theorem dX8_staked_22 : decode cX8_staked 22 = .ok (.iload_n 2, 1) := by decide +kernel
theorem dX8_staked_23 : decode cX8_staked 23 = .ok (.ishl, 1) := by decide +kernel
theorem dX8_staked_24 : decode cX8_staked 24 = .ok (.goto 4, 3) := by decide +kernel
theorem dX8_staked_27 : decode cX8_staked 27 = .ok (.iconst 0, 1) := by decide +kernel
theorem dX8_staked_28 : decode cX8_staked 28 = .ok (.ior, 1) := by decide +kernel
theorem dX8_staked_29 : decode cX8_staked 29 = .ok (.istore_n 1, 1) := by decide +kernel
theorem dX8_staked_30 : decode cX8_staked 30 = .ok (.iinc 2 1, 3) := by decide +kernel
theorem dX8_staked_33 : decode cX8_staked 33 = .ok (.goto (-29), 3) := by decide +kernel
theorem dX8_staked_36 : decode cX8_staked 36 = .ok (.iload_n 1, 1) := by decide +kernel
theorem dX8_staked_37 : decode cX8_staked 37 = .ok (.ireturn, 1) := by decide +kernel
theorem dX8_optioned_0 : decode cX8_optioned 0 = .ok (.iconst 0, 1) := by decide +kernel
theorem dX8_optioned_1 : decode cX8_optioned 1 = .ok (.istore_n 1, 1) := by decide +kernel
theorem dX8_optioned_2 : decode cX8_optioned 2 = .ok (.iconst 0, 1) := by decide +kernel
theorem dX8_optioned_3 : decode cX8_optioned 3 = .ok (.istore_n 2, 1) := by decide +kernel
theorem dX8_optioned_4 : decode cX8_optioned 4 = .ok (.iload_n 2, 1) := by decide +kernel
theorem dX8_optioned_5 : decode cX8_optioned 5 = .ok (.bipush 8, 2) := by decide +kernel
theorem dX8_optioned_7 : decode cX8_optioned 7 = .ok (.if_icmp .ge 31, 3) := by decide +kernel
theorem dX8_optioned_10 : decode cX8_optioned 10 = .ok (.iload_n 1, 1) := by decide +kernel
theorem dX8_optioned_11 : decode cX8_optioned 11 = .ok (.aload_n 0, 1) := by decide +kernel
theorem dX8_optioned_12 : decode cX8_optioned 12 = .ok (.getfield 7, 3) := by decide +kernel
theorem dX8_optioned_15 : decode cX8_optioned 15 = .ok (.bipush 48, 2) := by decide +kernel
theorem dX8_optioned_17 : decode cX8_optioned 17 = .ok (.iload_n 2, 1) := by decide +kernel
theorem dX8_optioned_18 : decode cX8_optioned 18 = .ok (.iadd, 1) := by decide +kernel
theorem dX8_optioned_19 : decode cX8_optioned 19 = .ok (.iaload, 1) := by decide +kernel
theorem dX8_optioned_20 : decode cX8_optioned 20 = .ok (.ifCond .le 9, 3) := by decide +kernel
theorem dX8_optioned_23 : decode cX8_optioned 23 = .ok (.iconst 1, 1) := by decide +kernel
theorem dX8_optioned_24 : decode cX8_optioned 24 = .ok (.iload_n 2, 1) := by decide +kernel
theorem dX8_optioned_25 : decode cX8_optioned 25 = .ok (.ishl, 1) := by decide +kernel
theorem dX8_optioned_26 : decode cX8_optioned 26 = .ok (.goto 4, 3) := by decide +kernel
theorem dX8_optioned_29 : decode cX8_optioned 29 = .ok (.iconst 0, 1) := by decide +kernel
theorem dX8_optioned_30 : decode cX8_optioned 30 = .ok (.ior, 1) := by decide +kernel
theorem dX8_optioned_31 : decode cX8_optioned 31 = .ok (.istore_n 1, 1) := by decide +kernel
theorem dX8_optioned_32 : decode cX8_optioned 32 = .ok (.iinc 2 1, 3) := by decide +kernel
theorem dX8_optioned_35 : decode cX8_optioned 35 = .ok (.goto (-31), 3) := by decide +kernel
theorem dX8_optioned_38 : decode cX8_optioned 38 = .ok (.iload_n 1, 1) := by decide +kernel
theorem dX8_optioned_39 : decode cX8_optioned 39 = .ok (.ireturn, 1) := by decide +kernel
theorem dX8_typesWith_0 : decode cX8_typesWith 0 = .ok (.iconst 0, 1) := by decide +kernel
theorem dX8_typesWith_1 : decode cX8_typesWith 1 = .ok (.istore_n 2, 1) := by decide +kernel
theorem dX8_typesWith_2 : decode cX8_typesWith 2 = .ok (.iconst 1, 1) := by decide +kernel
theorem dX8_typesWith_3 : decode cX8_typesWith 3 = .ok (.istore_n 3, 1) := by decide +kernel
theorem dX8_typesWith_4 : decode cX8_typesWith 4 = .ok (.iload_n 3, 1) := by decide +kernel
theorem dX8_typesWith_5 : decode cX8_typesWith 5 = .ok (.aload_n 0, 1) := by decide +kernel
theorem dX8_typesWith_6 : decode cX8_typesWith 6 = .ok (.getfield 7, 3) := by decide +kernel
theorem dX8_typesWith_9 : decode cX8_typesWith 9 = .ok (.bipush 57, 2) := by decide +kernel
theorem dX8_typesWith_11 : decode cX8_typesWith 11 = .ok (.iaload, 1) := by decide +kernel
theorem dX8_typesWith_12 : decode cX8_typesWith 12 = .ok (.if_icmp .ge 30, 3) := by decide +kernel
theorem dX8_typesWith_15 : decode cX8_typesWith 15 = .ok (.iload_n 2, 1) := by decide +kernel
theorem dX8_typesWith_16 : decode cX8_typesWith 16 = .ok (.aload_n 0, 1) := by decide +kernel
theorem dX8_typesWith_17 : decode cX8_typesWith 17 = .ok (.getfield 7, 3) := by decide +kernel
theorem dX8_typesWith_20 : decode cX8_typesWith 20 = .ok (.iload_n 1, 1) := by decide +kernel
theorem dX8_typesWith_21 : decode cX8_typesWith 21 = .ok (.iload_n 3, 1) := by decide +kernel
theorem dX8_typesWith_22 : decode cX8_typesWith 22 = .ok (.iadd, 1) := by decide +kernel
theorem dX8_typesWith_23 : decode cX8_typesWith 23 = .ok (.iaload, 1) := by decide +kernel
theorem dX8_typesWith_24 : decode cX8_typesWith 24 = .ok (.ifCond .le 9, 3) := by decide +kernel
theorem dX8_typesWith_27 : decode cX8_typesWith 27 = .ok (.iconst 1, 1) := by decide +kernel
theorem dX8_typesWith_28 : decode cX8_typesWith 28 = .ok (.iload_n 3, 1) := by decide +kernel
theorem dX8_typesWith_29 : decode cX8_typesWith 29 = .ok (.ishl, 1) := by decide +kernel
theorem dX8_typesWith_30 : decode cX8_typesWith 30 = .ok (.goto 4, 3) := by decide +kernel
theorem dX8_typesWith_33 : decode cX8_typesWith 33 = .ok (.iconst 0, 1) := by decide +kernel
theorem dX8_typesWith_34 : decode cX8_typesWith 34 = .ok (.ior, 1) := by decide +kernel
theorem dX8_typesWith_35 : decode cX8_typesWith 35 = .ok (.istore_n 2, 1) := by decide +kernel
theorem dX8_typesWith_36 : decode cX8_typesWith 36 = .ok (.iinc 3 1, 3) := by decide +kernel
theorem dX8_typesWith_39 : decode cX8_typesWith 39 = .ok (.goto (-35), 3) := by decide +kernel
theorem dX8_typesWith_42 : decode cX8_typesWith 42 = .ok (.iload_n 2, 1) := by decide +kernel
theorem dX8_typesWith_43 : decode cX8_typesWith 43 = .ok (.ireturn, 1) := by decide +kernel
theorem dX8_count_0 : decode cX8_count 0 = .ok (.aload_n 0, 1) := by decide +kernel
theorem dX8_count_1 : decode cX8_count 1 = .ok (.iconst 0, 1) := by decide +kernel
theorem dX8_count_2 : decode cX8_count 2 = .ok (.putfield 48, 3) := by decide +kernel
theorem dX8_count_5 : decode cX8_count 5 = .ok (.iload_n 1, 1) := by decide +kernel
theorem dX8_count_6 : decode cX8_count 6 = .ok (.tableswitch 124 0 10 #[58, 66, 74, 80, 85, 90, 95, 100, 105, 110, 117], 58) := by decide +kernel
theorem dX8_count_64 : decode cX8_count 64 = .ok (.aload_n 0, 1) := by decide +kernel
theorem dX8_count_65 : decode cX8_count 65 = .ok (.getfield 7, 3) := by decide +kernel
theorem dX8_count_68 : decode cX8_count 68 = .ok (.bipush 57, 2) := by decide +kernel
theorem dX8_count_70 : decode cX8_count 70 = .ok (.iaload, 1) := by decide +kernel
theorem dX8_count_71 : decode cX8_count 71 = .ok (.ireturn, 1) := by decide +kernel
theorem dX8_count_72 : decode cX8_count 72 = .ok (.aload_n 0, 1) := by decide +kernel
theorem dX8_count_73 : decode cX8_count 73 = .ok (.getfield 7, 3) := by decide +kernel
theorem dX8_count_76 : decode cX8_count 76 = .ok (.bipush 56, 2) := by decide +kernel
theorem dX8_count_78 : decode cX8_count 78 = .ok (.iaload, 1) := by decide +kernel
theorem dX8_count_79 : decode cX8_count 79 = .ok (.ireturn, 1) := by decide +kernel
theorem dX8_count_80 : decode cX8_count 80 = .ok (.aload_n 0, 1) := by decide +kernel
theorem dX8_count_81 : decode cX8_count 81 = .ok (.invokevirtual 96, 3) := by decide +kernel
theorem dX8_count_84 : decode cX8_count 84 = .ok (.l2i, 1) := by decide +kernel
theorem dX8_count_85 : decode cX8_count 85 = .ok (.ireturn, 1) := by decide +kernel
theorem dX8_count_86 : decode cX8_count 86 = .ok (.aload_n 0, 1) := by decide +kernel
theorem dX8_count_87 : decode cX8_count 87 = .ok (.getfield 74, 3) := by decide +kernel
theorem dX8_count_90 : decode cX8_count 90 = .ok (.ireturn, 1) := by decide +kernel
theorem dX8_count_91 : decode cX8_count 91 = .ok (.aload_n 0, 1) := by decide +kernel
theorem dX8_count_92 : decode cX8_count 92 = .ok (.getfield 77, 3) := by decide +kernel
theorem dX8_count_95 : decode cX8_count 95 = .ok (.ireturn, 1) := by decide +kernel
theorem dX8_count_96 : decode cX8_count 96 = .ok (.aload_n 0, 1) := by decide +kernel
theorem dX8_count_97 : decode cX8_count 97 = .ok (.getfield 52, 3) := by decide +kernel
theorem dX8_count_100 : decode cX8_count 100 = .ok (.ireturn, 1) := by decide +kernel
theorem dX8_count_101 : decode cX8_count 101 = .ok (.aload_n 0, 1) := by decide +kernel
theorem dX8_count_102 : decode cX8_count 102 = .ok (.getfield 55, 3) := by decide +kernel
theorem dX8_count_105 : decode cX8_count 105 = .ok (.ireturn, 1) := by decide +kernel
theorem dX8_count_106 : decode cX8_count 106 = .ok (.aload_n 0, 1) := by decide +kernel
theorem dX8_count_107 : decode cX8_count 107 = .ok (.invokevirtual 392, 3) := by decide +kernel
theorem dX8_count_110 : decode cX8_count 110 = .ok (.ireturn, 1) := by decide +kernel
theorem dX8_count_111 : decode cX8_count 111 = .ok (.aload_n 0, 1) := by decide +kernel
theorem dX8_count_112 : decode cX8_count 112 = .ok (.invokevirtual 395, 3) := by decide +kernel
theorem dX8_count_115 : decode cX8_count 115 = .ok (.ireturn, 1) := by decide +kernel
theorem dX8_count_116 : decode cX8_count 116 = .ok (.aload_n 0, 1) := by decide +kernel
theorem dX8_count_117 : decode cX8_count 117 = .ok (.bipush 70, 2) := by decide +kernel
theorem dX8_count_119 : decode cX8_count 119 = .ok (.invokevirtual 398, 3) := by decide +kernel
theorem dX8_count_122 : decode cX8_count 122 = .ok (.ireturn, 1) := by decide +kernel
theorem dX8_count_123 : decode cX8_count 123 = .ok (.aload_n 0, 1) := by decide +kernel
theorem dX8_count_124 : decode cX8_count 124 = .ok (.bipush 88, 2) := by decide +kernel
theorem dX8_count_126 : decode cX8_count 126 = .ok (.invokevirtual 398, 3) := by decide +kernel
theorem dX8_count_129 : decode cX8_count 129 = .ok (.ireturn, 1) := by decide +kernel
theorem dX8_count_130 : decode cX8_count 130 = .ok (.iconst (-1), 1) := by decide +kernel
theorem dX8_count_131 : decode cX8_count 131 = .ok (.ireturn, 1) := by decide +kernel
theorem dX8_row_0 : decode cX8_row 0 = .ok (.aload_n 0, 1) := by decide +kernel
theorem dX8_row_1 : decode cX8_row 1 = .ok (.iconst 0, 1) := by decide +kernel
theorem dX8_row_2 : decode cX8_row 2 = .ok (.putfield 48, 3) := by decide +kernel
theorem dX8_row_5 : decode cX8_row 5 = .ok (.iload_n 1, 1) := by decide +kernel
theorem dX8_row_6 : decode cX8_row 6 = .ok (.i2l, 1) := by decide +kernel
theorem dX8_row_7 : decode cX8_row 7 = .ok (.lconst 0, 1) := by decide +kernel
theorem dX8_row_8 : decode cX8_row 8 = .ok (.aload_n 0, 1) := by decide +kernel
theorem dX8_row_9 : decode cX8_row 9 = .ok (.getfield 52, 3) := by decide +kernel
theorem dX8_row_12 : decode cX8_row 12 = .ok (.iconst 1, 1) := by decide +kernel
theorem dX8_row_13 : decode cX8_row 13 = .ok (.isub, 1) := by decide +kernel
theorem dX8_row_14 : decode cX8_row 14 = .ok (.i2l, 1) := by decide +kernel
theorem dX8_row_15 : decode cX8_row 15 = .ok (.invokestatic 58, 3) := by decide +kernel
theorem dX8_row_18 : decode cX8_row 18 = .ok (.ifCond .eq 12, 3) := by decide +kernel
theorem dX8_row_21 : decode cX8_row 21 = .ok (.aload_n 0, 1) := by decide +kernel
theorem dX8_row_22 : decode cX8_row 22 = .ok (.getfield 23, 3) := by decide +kernel
theorem dX8_row_25 : decode cX8_row 25 = .ok (.iload_n 1, 1) := by decide +kernel
theorem dX8_row_26 : decode cX8_row 26 = .ok (.laload, 1) := by decide +kernel
theorem dX8_row_27 : decode cX8_row 27 = .ok (.goto 8, 3) := by decide +kernel
theorem dX8_row_30 : decode cX8_row 30 = .ok (.aload_n 0, 1) := by decide +kernel
theorem dX8_row_31 : decode cX8_row 31 = .ok (.invokevirtual 401, 3) := by decide +kernel
theorem dX8_row_34 : decode cX8_row 34 = .ok (.i2l, 1) := by decide +kernel
theorem dX8_row_35 : decode cX8_row 35 = .ok (.lreturn, 1) := by decide +kernel
