theorem dX7_init_0 : decode cX7_init 0 = .ok (.aload_n 0, 1) := by decide +kernel
theorem dX7_init_1 : decode cX7_init 1 = .ok (.invokespecial 3, 3) := by decide +kernel
theorem dX7_init_4 : decode cX7_init 4 = .ok (.aload_n 0, 1) := by decide +kernel
theorem dX7_init_5 : decode cX7_init 5 = .ok (.new 9, 3) := by decide +kernel
theorem dX7_init_8 : decode cX7_init 8 = .ok (.dup, 1) := by decide +kernel
theorem dX7_init_9 : decode cX7_init 9 = .ok (.invokespecial 11, 3) := by decide +kernel
theorem dX7_init_12 : decode cX7_init 12 = .ok (.putfield 12, 3) := by decide +kernel
theorem dX7_init_15 : decode cX7_init 15 = .ok (.aload_n 0, 1) := by decide +kernel
theorem dX7_init_16 : decode cX7_init 16 = .ok (.new 9, 3) := by decide +kernel
theorem dX7_init_19 : decode cX7_init 19 = .ok (.dup, 1) := by decide +kernel
theorem dX7_init_20 : decode cX7_init 20 = .ok (.invokespecial 11, 3) := by decide +kernel
theorem dX7_init_23 : decode cX7_init 23 = .ok (.putfield 16, 3) := by decide +kernel
theorem dX7_init_26 : decode cX7_init 26 = .ok (.aload_n 0, 1) := by decide +kernel
theorem dX7_init_27 : decode cX7_init 27 = .ok (.sipush 172, 3) := by decide +kernel
theorem dX7_init_30 : decode cX7_init 30 = .ok (.newarray .long, 2) := by decide +kernel
theorem dX7_init_32 : decode cX7_init 32 = .ok (.putfield 19, 3) := by decide +kernel
theorem dX7_init_35 : decode cX7_init 35 = .ok (.aload_n 0, 1) := by decide +kernel
theorem dX7_init_36 : decode cX7_init 36 = .ok (.new 23, 3) := by decide +kernel
theorem dX7_init_39 : decode cX7_init 39 = .ok (.dup, 1) := by decide +kernel
theorem dX7_init_40 : decode cX7_init 40 = .ok (.invokespecial 25, 3) := by decide +kernel
theorem dX7_init_43 : decode cX7_init 43 = .ok (.putfield 26, 3) := by decide +kernel
theorem dX7_init_46 : decode cX7_init 46 = .ok (.aload_n 0, 1) := by decide +kernel
theorem dX7_init_47 : decode cX7_init 47 = .ok (.new 30, 3) := by decide +kernel
theorem dX7_init_50 : decode cX7_init 50 = .ok (.dup, 1) := by decide +kernel
theorem dX7_init_51 : decode cX7_init 51 = .ok (.invokespecial 32, 3) := by decide +kernel
theorem dX7_init_54 : decode cX7_init 54 = .ok (.putfield 33, 3) := by decide +kernel
theorem dX7_init_57 : decode cX7_init 57 = .ok (.aload_n 0, 1) := by decide +kernel
theorem dX7_init_58 : decode cX7_init 58 = .ok (.new 37, 3) := by decide +kernel
theorem dX7_init_61 : decode cX7_init 61 = .ok (.dup, 1) := by decide +kernel
theorem dX7_init_62 : decode cX7_init 62 = .ok (.invokespecial 39, 3) := by decide +kernel
theorem dX7_init_65 : decode cX7_init 65 = .ok (.putfield 40, 3) := by decide +kernel
theorem dX7_init_68 : decode cX7_init 68 = .ok (.aload_n 0, 1) := by decide +kernel
theorem dX7_init_69 : decode cX7_init 69 = .ok (.new 44, 3) := by decide +kernel
theorem dX7_init_72 : decode cX7_init 72 = .ok (.dup, 1) := by decide +kernel
theorem dX7_init_73 : decode cX7_init 73 = .ok (.invokespecial 46, 3) := by decide +kernel
theorem dX7_init_76 : decode cX7_init 76 = .ok (.putfield 47, 3) := by decide +kernel
theorem dX7_init_79 : decode cX7_init 79 = .ok (.aload_n 0, 1) := by decide +kernel
theorem dX7_init_80 : decode cX7_init 80 = .ok (.new 51, 3) := by decide +kernel
theorem dX7_init_83 : decode cX7_init 83 = .ok (.dup, 1) := by decide +kernel
theorem dX7_init_84 : decode cX7_init 84 = .ok (.invokespecial 53, 3) := by decide +kernel
theorem dX7_init_87 : decode cX7_init 87 = .ok (.putfield 54, 3) := by decide +kernel
theorem dX7_init_90 : decode cX7_init 90 = .ok (.aload_n 0, 1) := by decide +kernel
theorem dX7_init_91 : decode cX7_init 91 = .ok (.new 58, 3) := by decide +kernel
theorem dX7_init_94 : decode cX7_init 94 = .ok (.dup, 1) := by decide +kernel
theorem dX7_init_95 : decode cX7_init 95 = .ok (.invokespecial 60, 3) := by decide +kernel
theorem dX7_init_98 : decode cX7_init 98 = .ok (.putfield 61, 3) := by decide +kernel
theorem dX7_init_101 : decode cX7_init 101 = .ok (.aload_n 0, 1) := by decide +kernel
theorem dX7_init_102 : decode cX7_init 102 = .ok (.bipush 8, 2) := by decide +kernel
theorem dX7_init_104 : decode cX7_init 104 = .ok (.newarray .long, 2) := by decide +kernel
theorem dX7_init_106 : decode cX7_init 106 = .ok (.putfield 65, 3) := by decide +kernel
theorem dX7_init_109 : decode cX7_init 109 = .ok (.aload_n 0, 1) := by decide +kernel
theorem dX7_init_110 : decode cX7_init 110 = .ok (.bipush 8, 2) := by decide +kernel
theorem dX7_init_112 : decode cX7_init 112 = .ok (.newarray .int, 2) := by decide +kernel
theorem dX7_init_114 : decode cX7_init 114 = .ok (.putfield 68, 3) := by decide +kernel
theorem dX7_init_117 : decode cX7_init 117 = .ok (.return_, 1) := by decide +kernel
theorem dX7_sign_0 : decode cX7_sign 0 = .ok (.aload_n 0, 1) := by decide +kernel
theorem dX7_sign_1 : decode cX7_sign 1 = .ok (.getfield 33, 3) := by decide +kernel
theorem dX7_sign_4 : decode cX7_sign 4 = .ok (.iload_n 1, 1) := by decide +kernel
theorem dX7_sign_5 : decode cX7_sign 5 = .ok (.invokevirtual 72, 3) := by decide +kernel
theorem dX7_sign_8 : decode cX7_sign 8 = .ok (.ireturn, 1) := by decide +kernel
theorem dX7_end_0 : decode cX7_end 0 = .ok (.aload_n 0, 1) := by decide +kernel
theorem dX7_end_1 : decode cX7_end 1 = .ok (.getfield 33, 3) := by decide +kernel
theorem dX7_end_4 : decode cX7_end 4 = .ok (.iload_n 1, 1) := by decide +kernel
theorem dX7_end_5 : decode cX7_end 5 = .ok (.invokevirtual 76, 3) := by decide +kernel
theorem dX7_end_8 : decode cX7_end 8 = .ok (.ireturn, 1) := by decide +kernel
theorem dX7_founds_0 : decode cX7_founds 0 = .ok (.aload_n 0, 1) := by decide +kernel
theorem dX7_founds_1 : decode cX7_founds 1 = .ok (.getfield 33, 3) := by decide +kernel
theorem dX7_founds_4 : decode cX7_founds 4 = .ok (.aload_n 0, 1) := by decide +kernel
theorem dX7_founds_5 : decode cX7_founds 5 = .ok (.getfield 65, 3) := by decide +kernel
theorem dX7_founds_8 : decode cX7_founds 8 = .ok (.invokevirtual 80, 3) := by decide +kernel
theorem dX7_founds_11 : decode cX7_founds 11 = .ok (.istore_n 1, 1) := by decide +kernel
theorem dX7_founds_12 : decode cX7_founds 12 = .ok (.aload_n 0, 1) := by decide +kernel
theorem dX7_founds_13 : decode cX7_founds 13 = .ok (.getfield 33, 3) := by decide +kernel
theorem dX7_founds_16 : decode cX7_founds 16 = .ok (.invokevirtual 84, 3) := by decide +kernel
theorem dX7_founds_19 : decode cX7_founds 19 = .ok (.istore_n 2, 1) := by decide +kernel
theorem dX7_founds_20 : decode cX7_founds 20 = .ok (.aload_n 0, 1) := by decide +kernel
theorem dX7_founds_21 : decode cX7_founds 21 = .ok (.getfield 33, 3) := by decide +kernel
theorem dX7_founds_24 : decode cX7_founds 24 = .ok (.invokevirtual 88, 3) := by decide +kernel
theorem dX7_founds_27 : decode cX7_founds 27 = .ok (.iload_n 1, 1) := by decide +kernel
theorem dX7_founds_28 : decode cX7_founds 28 = .ok (.ifCond .ne 8, 3) := by decide +kernel
theorem dX7_founds_31 : decode cX7_founds 31 = .ok (.bipush (-21), 2) := by decide +kernel
theorem dX7_founds_33 : decode cX7_founds 33 = .ok (.iload_n 2, 1) := by decide +kernel
theorem dX7_founds_34 : decode cX7_founds 34 = .ok (.isub, 1) := by decide +kernel
theorem dX7_founds_35 : decode cX7_founds 35 = .ok (.ireturn, 1) := by decide +kernel
theorem dX7_founds_36 : decode cX7_founds 36 = .ok (.aload_n 0, 1) := by decide +kernel
theorem dX7_founds_37 : decode cX7_founds 37 = .ok (.getfield 16, 3) := by decide +kernel
theorem dX7_founds_40 : decode cX7_founds 40 = .ok (.invokevirtual 91, 3) := by decide +kernel
theorem dX7_founds_43 : decode cX7_founds 43 = .ok (.iconst 0, 1) := by decide +kernel
theorem dX7_founds_44 : decode cX7_founds 44 = .ok (.istore_n 3, 1) := by decide +kernel
theorem dX7_founds_45 : decode cX7_founds 45 = .ok (.iload_n 3, 1) := by decide +kernel
theorem dX7_founds_46 : decode cX7_founds 46 = .ok (.bipush 8, 2) := by decide +kernel
theorem dX7_founds_48 : decode cX7_founds 48 = .ok (.if_icmp .ge 24, 3) := by decide +kernel
theorem dX7_founds_51 : decode cX7_founds 51 = .ok (.aload_n 0, 1) := by decide +kernel
theorem dX7_founds_52 : decode cX7_founds 52 = .ok (.getfield 16, 3) := by decide +kernel
theorem dX7_founds_55 : decode cX7_founds 55 = .ok (.iload_n 3, 1) := by decide +kernel
theorem dX7_founds_56 : decode cX7_founds 56 = .ok (.iconst 0, 1) := by decide +kernel
theorem dX7_founds_57 : decode cX7_founds 57 = .ok (.aload_n 0, 1) := by decide +kernel
theorem dX7_founds_58 : decode cX7_founds 58 = .ok (.getfield 65, 3) := by decide +kernel
theorem dX7_founds_61 : decode cX7_founds 61 = .ok (.iload_n 3, 1) := by decide +kernel
theorem dX7_founds_62 : decode cX7_founds 62 = .ok (.laload, 1) := by decide +kernel
theorem dX7_founds_63 : decode cX7_founds 63 = .ok (.invokevirtual 92, 3) := by decide +kernel
theorem dX7_founds_66 : decode cX7_founds 66 = .ok (.iinc 3 1, 3) := by decide +kernel
theorem dX7_founds_69 : decode cX7_founds 69 = .ok (.goto (-24), 3) := by decide +kernel
theorem dX7_founds_72 : decode cX7_founds 72 = .ok (.aload_n 0, 1) := by decide +kernel
theorem dX7_founds_73 : decode cX7_founds 73 = .ok (.invokevirtual 96, 3) := by decide +kernel
theorem dX7_founds_76 : decode cX7_founds 76 = .ok (.ifCond .eq 14, 3) := by decide +kernel
theorem dX7_founds_79 : decode cX7_founds 79 = .ok (.aload_n 0, 1) := by decide +kernel
theorem dX7_founds_80 : decode cX7_founds 80 = .ok (.getfield 12, 3) := by decide +kernel
theorem dX7_founds_83 : decode cX7_founds 83 = .ok (.invokevirtual 100, 3) := by decide +kernel
theorem dX7_founds_86 : decode cX7_founds 86 = .ok (.l2i, 1) := by decide +kernel
theorem dX7_founds_87 : decode cX7_founds 87 = .ok (.goto 5, 3) := by decide +kernel
theorem dX7_founds_90 : decode cX7_founds 90 = .ok (.bipush (-9), 2) := by decide +kernel
theorem dX7_founds_92 : decode cX7_founds 92 = .ok (.ireturn, 1) := by decide +kernel
theorem dX7_issues_0 : decode cX7_issues 0 = .ok (.iload_n 1, 1) := by decide +kernel
theorem dX7_issues_1 : decode cX7_issues 1 = .ok (.invokestatic 104, 3) := by decide +kernel
theorem dX7_issues_4 : decode cX7_issues 4 = .ok (.ifCond .eq 8, 3) := by decide +kernel
theorem dX7_issues_7 : decode cX7_issues 7 = .ok (.iload_n 2, 1) := by decide +kernel
theorem dX7_issues_8 : decode cX7_issues 8 = .ok (.iconst 1, 1) := by decide +kernel
theorem dX7_issues_9 : decode cX7_issues 9 = .ok (.if_icmp .ge 5, 3) := by decide +kernel
theorem dX7_issues_12 : decode cX7_issues 12 = .ok (.iconst (-1), 1) := by decide +kernel
theorem dX7_issues_13 : decode cX7_issues 13 = .ok (.ireturn, 1) := by decide +kernel
theorem dX7_issues_14 : decode cX7_issues 14 = .ok (.aload_n 0, 1) := by decide +kernel
theorem dX7_issues_15 : decode cX7_issues 15 = .ok (.invokevirtual 107, 3) := by decide +kernel
theorem dX7_issues_18 : decode cX7_issues 18 = .ok (.aload_n 0, 1) := by decide +kernel
theorem dX7_issues_19 : decode cX7_issues 19 = .ok (.getfield 16, 3) := by decide +kernel
theorem dX7_issues_22 : decode cX7_issues 22 = .ok (.iload_n 1, 1) := by decide +kernel
theorem dX7_issues_23 : decode cX7_issues 23 = .ok (.iconst 0, 1) := by decide +kernel
theorem dX7_issues_24 : decode cX7_issues 24 = .ok (.iload_n 2, 1) := by decide +kernel
theorem dX7_issues_25 : decode cX7_issues 25 = .ok (.i2l, 1) := by decide +kernel
theorem dX7_issues_26 : decode cX7_issues 26 = .ok (.invokevirtual 92, 3) := by decide +kernel
theorem dX7_issues_29 : decode cX7_issues 29 = .ok (.aload_n 0, 1) := by decide +kernel
theorem dX7_issues_30 : decode cX7_issues 30 = .ok (.invokevirtual 96, 3) := by decide +kernel
theorem dX7_issues_33 : decode cX7_issues 33 = .ok (.ifCond .eq 14, 3) := by decide +kernel
theorem dX7_issues_36 : decode cX7_issues 36 = .ok (.aload_n 0, 1) := by decide +kernel
theorem dX7_issues_37 : decode cX7_issues 37 = .ok (.getfield 12, 3) := by decide +kernel
theorem dX7_issues_40 : decode cX7_issues 40 = .ok (.invokevirtual 100, 3) := by decide +kernel
theorem dX7_issues_43 : decode cX7_issues 43 = .ok (.l2i, 1) := by decide +kernel
theorem dX7_issues_44 : decode cX7_issues 44 = .ok (.goto 5, 3) := by decide +kernel
theorem dX7_issues_47 : decode cX7_issues 47 = .ok (.bipush (-9), 2) := by decide +kernel
theorem dX7_issues_49 : decode cX7_issues 49 = .ok (.ireturn, 1) := by decide +kernel
theorem dX7_cancels_0 : decode cX7_cancels 0 = .ok (.iload_n 1, 1) := by decide +kernel
theorem dX7_cancels_1 : decode cX7_cancels 1 = .ok (.invokestatic 104, 3) := by decide +kernel
theorem dX7_cancels_4 : decode cX7_cancels 4 = .ok (.ifCond .eq 16, 3) := by decide +kernel
theorem dX7_cancels_7 : decode cX7_cancels 7 = .ok (.aload_n 0, 1) := by decide +kernel
theorem dX7_cancels_8 : decode cX7_cancels 8 = .ok (.iload_n 2, 1) := by decide +kernel
theorem dX7_cancels_9 : decode cX7_cancels 9 = .ok (.invokevirtual 110, 3) := by decide +kernel
theorem dX7_cancels_12 : decode cX7_cancels 12 = .ok (.ifCond .eq 8, 3) := by decide +kernel
theorem dX7_cancels_15 : decode cX7_cancels 15 = .ok (.iload_n 3, 1) := by decide +kernel
theorem dX7_cancels_16 : decode cX7_cancels 16 = .ok (.iconst 1, 1) := by decide +kernel
theorem dX7_cancels_17 : decode cX7_cancels 17 = .ok (.if_icmp .ge 5, 3) := by decide +kernel
theorem dX7_cancels_20 : decode cX7_cancels 20 = .ok (.iconst (-1), 1) := by decide +kernel
theorem dX7_cancels_21 : decode cX7_cancels 21 = .ok (.ireturn, 1) := by decide +kernel
theorem dX7_cancels_22 : decode cX7_cancels 22 = .ok (.aload_n 0, 1) := by decide +kernel
theorem dX7_cancels_23 : decode cX7_cancels 23 = .ok (.getfield 12, 3) := by decide +kernel
theorem dX7_cancels_26 : decode cX7_cancels 26 = .ok (.iload_n 1, 1) := by decide +kernel
theorem dX7_cancels_27 : decode cX7_cancels 27 = .ok (.iload_n 2, 1) := by decide +kernel
theorem dX7_cancels_28 : decode cX7_cancels 28 = .ok (.invokevirtual 113, 3) := by decide +kernel
theorem dX7_cancels_31 : decode cX7_cancels 31 = .ok (.iload_n 3, 1) := by decide +kernel
theorem dX7_cancels_32 : decode cX7_cancels 32 = .ok (.i2l, 1) := by decide +kernel
theorem dX7_cancels_33 : decode cX7_cancels 33 = .ok (.lcmp, 1) := by decide +kernel
theorem dX7_cancels_34 : decode cX7_cancels 34 = .ok (.ifCond .ge 6, 3) := by decide +kernel
theorem dX7_cancels_37 : decode cX7_cancels 37 = .ok (.bipush (-2), 2) := by decide +kernel
theorem dX7_cancels_39 : decode cX7_cancels 39 = .ok (.ireturn, 1) := by decide +kernel
theorem dX7_cancels_40 : decode cX7_cancels 40 = .ok (.aload_n 0, 1) := by decide +kernel
theorem dX7_cancels_41 : decode cX7_cancels 41 = .ok (.invokevirtual 107, 3) := by decide +kernel
theorem dX7_cancels_44 : decode cX7_cancels 44 = .ok (.aload_n 0, 1) := by decide +kernel
theorem dX7_cancels_45 : decode cX7_cancels 45 = .ok (.getfield 16, 3) := by decide +kernel
theorem dX7_cancels_48 : decode cX7_cancels 48 = .ok (.iload_n 1, 1) := by decide +kernel
theorem dX7_cancels_49 : decode cX7_cancels 49 = .ok (.iload_n 2, 1) := by decide +kernel
theorem dX7_cancels_50 : decode cX7_cancels 50 = .ok (.iload_n 3, 1) := by decide +kernel
theorem dX7_cancels_51 : decode cX7_cancels 51 = .ok (.ineg, 1) := by decide +kernel
theorem dX7_cancels_52 : decode cX7_cancels 52 = .ok (.i2l, 1) := by decide +kernel
theorem dX7_cancels_53 : decode cX7_cancels 53 = .ok (.invokevirtual 92, 3) := by decide +kernel
theorem dX7_cancels_56 : decode cX7_cancels 56 = .ok (.aload_n 0, 1) := by decide +kernel
theorem dX7_cancels_57 : decode cX7_cancels 57 = .ok (.invokevirtual 96, 3) := by decide +kernel
theorem dX7_cancels_60 : decode cX7_cancels 60 = .ok (.ifCond .eq 14, 3) := by decide +kernel
theorem dX7_cancels_63 : decode cX7_cancels 63 = .ok (.aload_n 0, 1) := by decide +kernel
theorem dX7_cancels_64 : decode cX7_cancels 64 = .ok (.getfield 12, 3) := by decide +kernel
theorem dX7_cancels_67 : decode cX7_cancels 67 = .ok (.invokevirtual 100, 3) := by decide +kernel
theorem dX7_cancels_70 : decode cX7_cancels 70 = .ok (.l2i, 1) := by decide +kernel
theorem dX7_cancels_71 : decode cX7_cancels 71 = .ok (.goto 5, 3) := by decide +kernel
theorem dX7_cancels_74 : decode cX7_cancels 74 = .ok (.bipush (-9), 2) := by decide +kernel
theorem dX7_cancels_76 : decode cX7_cancels 76 = .ok (.ireturn, 1) := by decide +kernel
theorem dX7_pool_0 : decode cX7_pool 0 = .ok (.iload_n 1, 1) := by decide +kernel
theorem dX7_pool_1 : decode cX7_pool 1 = .ok (.ifCond .ge 5, 3) := by decide +kernel
theorem dX7_pool_4 : decode cX7_pool 4 = .ok (.iconst (-1), 1) := by decide +kernel
theorem dX7_pool_5 : decode cX7_pool 5 = .ok (.ireturn, 1) := by decide +kernel
theorem dX7_pool_6 : decode cX7_pool 6 = .ok (.aload_n 0, 1) := by decide +kernel
theorem dX7_pool_7 : decode cX7_pool 7 = .ok (.getfield 12, 3) := by decide +kernel
theorem dX7_pool_10 : decode cX7_pool 10 = .ok (.invokevirtual 117, 3) := by decide +kernel
theorem dX7_pool_13 : decode cX7_pool 13 = .ok (.l2i, 1) := by decide +kernel
theorem dX7_pool_14 : decode cX7_pool 14 = .ok (.istore_n 2, 1) := by decide +kernel
theorem dX7_pool_15 : decode cX7_pool 15 = .ok (.aload_n 0, 1) := by decide +kernel
theorem dX7_pool_16 : decode cX7_pool 16 = .ok (.invokevirtual 107, 3) := by decide +kernel
theorem dX7_pool_19 : decode cX7_pool 19 = .ok (.aload_n 0, 1) := by decide +kernel
theorem dX7_pool_20 : decode cX7_pool 20 = .ok (.getfield 16, 3) := by decide +kernel
theorem dX7_pool_23 : decode cX7_pool 23 = .ok (.iload_n 1, 1) := by decide +kernel
theorem dX7_pool_24 : decode cX7_pool 24 = .ok (.i2l, 1) := by decide +kernel
theorem dX7_pool_25 : decode cX7_pool 25 = .ok (.invokevirtual 120, 3) := by decide +kernel
theorem dX7_pool_28 : decode cX7_pool 28 = .ok (.aload_n 0, 1) := by decide +kernel
theorem dX7_pool_29 : decode cX7_pool 29 = .ok (.invokevirtual 96, 3) := by decide +kernel
theorem dX7_pool_32 : decode cX7_pool 32 = .ok (.ifCond .eq 7, 3) := by decide +kernel
theorem dX7_pool_35 : decode cX7_pool 35 = .ok (.iload_n 2, 1) := by decide +kernel
theorem dX7_pool_36 : decode cX7_pool 36 = .ok (.goto 5, 3) := by decide +kernel
theorem dX7_pool_39 : decode cX7_pool 39 = .ok (.bipush (-9), 2) := by decide +kernel
theorem dX7_pool_41 : decode cX7_pool 41 = .ok (.ireturn, 1) := by decide +kernel
theorem dX7_grant_0 : decode cX7_grant 0 = .ok (.iload_n 1, 1) := by decide +kernel
theorem dX7_grant_1 : decode cX7_grant 1 = .ok (.invokestatic 104, 3) := by decide +kernel
theorem dX7_grant_4 : decode cX7_grant 4 = .ok (.ifCond .eq 8, 3) := by decide +kernel
theorem dX7_grant_7 : decode cX7_grant 7 = .ok (.iload_n 2, 1) := by decide +kernel
theorem dX7_grant_8 : decode cX7_grant 8 = .ok (.iconst 1, 1) := by decide +kernel
theorem dX7_grant_9 : decode cX7_grant 9 = .ok (.if_icmp .ge 5, 3) := by decide +kernel
theorem dX7_grant_12 : decode cX7_grant 12 = .ok (.iconst (-1), 1) := by decide +kernel
theorem dX7_grant_13 : decode cX7_grant 13 = .ok (.ireturn, 1) := by decide +kernel
theorem dX7_grant_14 : decode cX7_grant 14 = .ok (.aload_n 0, 1) := by decide +kernel
theorem dX7_grant_15 : decode cX7_grant 15 = .ok (.getfield 12, 3) := by decide +kernel
theorem dX7_grant_18 : decode cX7_grant 18 = .ok (.invokevirtual 117, 3) := by decide +kernel
theorem dX7_grant_21 : decode cX7_grant 21 = .ok (.iload_n 2, 1) := by decide +kernel
theorem dX7_grant_22 : decode cX7_grant 22 = .ok (.i2l, 1) := by decide +kernel
theorem dX7_grant_23 : decode cX7_grant 23 = .ok (.lcmp, 1) := by decide +kernel
theorem dX7_grant_24 : decode cX7_grant 24 = .ok (.ifCond .ge 6, 3) := by decide +kernel
theorem dX7_grant_27 : decode cX7_grant 27 = .ok (.bipush (-2), 2) := by decide +kernel
theorem dX7_grant_29 : decode cX7_grant 29 = .ok (.ireturn, 1) := by decide +kernel
theorem dX7_grant_30 : decode cX7_grant 30 = .ok (.aload_n 0, 1) := by decide +kernel
theorem dX7_grant_31 : decode cX7_grant 31 = .ok (.invokevirtual 107, 3) := by decide +kernel
theorem dX7_grant_34 : decode cX7_grant 34 = .ok (.aload_n 0, 1) := by decide +kernel
theorem dX7_grant_35 : decode cX7_grant 35 = .ok (.getfield 16, 3) := by decide +kernel
theorem dX7_grant_38 : decode cX7_grant 38 = .ok (.aload_n 0, 1) := by decide +kernel
theorem dX7_grant_39 : decode cX7_grant 39 = .ok (.getfield 16, 3) := by decide +kernel
theorem dX7_grant_42 : decode cX7_grant 42 = .ok (.invokevirtual 117, 3) := by decide +kernel
theorem dX7_grant_45 : decode cX7_grant 45 = .ok (.iload_n 2, 1) := by decide +kernel
theorem dX7_grant_46 : decode cX7_grant 46 = .ok (.i2l, 1) := by decide +kernel
theorem dX7_grant_47 : decode cX7_grant 47 = .ok (.lsub, 1) := by decide +kernel
theorem dX7_grant_48 : decode cX7_grant 48 = .ok (.invokevirtual 120, 3) := by decide +kernel
theorem dX7_grant_51 : decode cX7_grant 51 = .ok (.aload_n 0, 1) := by decide +kernel
theorem dX7_grant_52 : decode cX7_grant 52 = .ok (.getfield 16, 3) := by decide +kernel
theorem dX7_grant_55 : decode cX7_grant 55 = .ok (.iload_n 1, 1) := by decide +kernel
theorem dX7_grant_56 : decode cX7_grant 56 = .ok (.iload_n 2, 1) := by decide +kernel
theorem dX7_grant_57 : decode cX7_grant 57 = .ok (.i2l, 1) := by decide +kernel
theorem dX7_grant_58 : decode cX7_grant 58 = .ok (.invokevirtual 124, 3) := by decide +kernel
theorem dX7_grant_61 : decode cX7_grant 61 = .ok (.aload_n 0, 1) := by decide +kernel
theorem dX7_grant_62 : decode cX7_grant 62 = .ok (.invokevirtual 96, 3) := by decide +kernel
theorem dX7_grant_65 : decode cX7_grant 65 = .ok (.ifCond .eq 14, 3) := by decide +kernel
theorem dX7_grant_68 : decode cX7_grant 68 = .ok (.aload_n 0, 1) := by decide +kernel
theorem dX7_grant_69 : decode cX7_grant 69 = .ok (.getfield 12, 3) := by decide +kernel
theorem dX7_grant_72 : decode cX7_grant 72 = .ok (.invokevirtual 117, 3) := by decide +kernel
theorem dX7_grant_75 : decode cX7_grant 75 = .ok (.l2i, 1) := by decide +kernel
theorem dX7_grant_76 : decode cX7_grant 76 = .ok (.goto 5, 3) := by decide +kernel
theorem dX7_grant_79 : decode cX7_grant 79 = .ok (.bipush (-9), 2) := by decide +kernel
theorem dX7_grant_81 : decode cX7_grant 81 = .ok (.ireturn, 1) := by decide +kernel
theorem dX7_exercise_0 : decode cX7_exercise 0 = .ok (.iload_n 1, 1) := by decide +kernel
theorem dX7_exercise_1 : decode cX7_exercise 1 = .ok (.invokestatic 104, 3) := by decide +kernel
theorem dX7_exercise_4 : decode cX7_exercise 4 = .ok (.ifCond .eq 8, 3) := by decide +kernel
theorem dX7_exercise_7 : decode cX7_exercise 7 = .ok (.iload_n 2, 1) := by decide +kernel
theorem dX7_exercise_8 : decode cX7_exercise 8 = .ok (.iconst 1, 1) := by decide +kernel
theorem dX7_exercise_9 : decode cX7_exercise 9 = .ok (.if_icmp .ge 5, 3) := by decide +kernel
theorem dX7_exercise_12 : decode cX7_exercise 12 = .ok (.iconst (-1), 1) := by decide +kernel
theorem dX7_exercise_13 : decode cX7_exercise 13 = .ok (.ireturn, 1) := by decide +kernel
theorem dX7_exercise_14 : decode cX7_exercise 14 = .ok (.aload_n 0, 1) := by decide +kernel
theorem dX7_exercise_15 : decode cX7_exercise 15 = .ok (.getfield 12, 3) := by decide +kernel
theorem dX7_exercise_18 : decode cX7_exercise 18 = .ok (.iload_n 1, 1) := by decide +kernel
theorem dX7_exercise_19 : decode cX7_exercise 19 = .ok (.invokevirtual 128, 3) := by decide +kernel
theorem dX7_exercise_22 : decode cX7_exercise 22 = .ok (.iload_n 2, 1) := by decide +kernel
theorem dX7_exercise_23 : decode cX7_exercise 23 = .ok (.i2l, 1) := by decide +kernel
theorem dX7_exercise_24 : decode cX7_exercise 24 = .ok (.lcmp, 1) := by decide +kernel
theorem dX7_exercise_25 : decode cX7_exercise 25 = .ok (.ifCond .ge 6, 3) := by decide +kernel
theorem dX7_exercise_28 : decode cX7_exercise 28 = .ok (.bipush (-2), 2) := by decide +kernel
theorem dX7_exercise_30 : decode cX7_exercise 30 = .ok (.ireturn, 1) := by decide +kernel
theorem dX7_exercise_31 : decode cX7_exercise 31 = .ok (.aload_n 0, 1) := by decide +kernel
theorem dX7_exercise_32 : decode cX7_exercise 32 = .ok (.invokevirtual 107, 3) := by decide +kernel
theorem dX7_exercise_35 : decode cX7_exercise 35 = .ok (.aload_n 0, 1) := by decide +kernel
theorem dX7_exercise_36 : decode cX7_exercise 36 = .ok (.getfield 16, 3) := by decide +kernel
theorem dX7_exercise_39 : decode cX7_exercise 39 = .ok (.iload_n 1, 1) := by decide +kernel
theorem dX7_exercise_40 : decode cX7_exercise 40 = .ok (.iload_n 2, 1) := by decide +kernel
theorem dX7_exercise_41 : decode cX7_exercise 41 = .ok (.ineg, 1) := by decide +kernel
theorem dX7_exercise_42 : decode cX7_exercise 42 = .ok (.i2l, 1) := by decide +kernel
theorem dX7_exercise_43 : decode cX7_exercise 43 = .ok (.invokevirtual 124, 3) := by decide +kernel
theorem dX7_exercise_46 : decode cX7_exercise 46 = .ok (.aload_n 0, 1) := by decide +kernel
theorem dX7_exercise_47 : decode cX7_exercise 47 = .ok (.getfield 16, 3) := by decide +kernel
theorem dX7_exercise_50 : decode cX7_exercise 50 = .ok (.iload_n 1, 1) := by decide +kernel
theorem dX7_exercise_51 : decode cX7_exercise 51 = .ok (.iconst 0, 1) := by decide +kernel
theorem dX7_exercise_52 : decode cX7_exercise 52 = .ok (.iload_n 2, 1) := by decide +kernel
theorem dX7_exercise_53 : decode cX7_exercise 53 = .ok (.i2l, 1) := by decide +kernel
theorem dX7_exercise_54 : decode cX7_exercise 54 = .ok (.invokevirtual 92, 3) := by decide +kernel
theorem dX7_exercise_57 : decode cX7_exercise 57 = .ok (.aload_n 0, 1) := by decide +kernel
theorem dX7_exercise_58 : decode cX7_exercise 58 = .ok (.invokevirtual 96, 3) := by decide +kernel
theorem dX7_exercise_61 : decode cX7_exercise 61 = .ok (.ifCond .eq 15, 3) := by decide +kernel
theorem dX7_exercise_64 : decode cX7_exercise 64 = .ok (.aload_n 0, 1) := by decide +kernel
theorem dX7_exercise_65 : decode cX7_exercise 65 = .ok (.getfield 12, 3) := by decide +kernel
theorem dX7_exercise_68 : decode cX7_exercise 68 = .ok (.iload_n 1, 1) := by decide +kernel
theorem dX7_exercise_69 : decode cX7_exercise 69 = .ok (.invokevirtual 128, 3) := by decide +kernel
theorem dX7_exercise_72 : decode cX7_exercise 72 = .ok (.l2i, 1) := by decide +kernel
theorem dX7_exercise_73 : decode cX7_exercise 73 = .ok (.goto 5, 3) := by decide +kernel
theorem dX7_exercise_76 : decode cX7_exercise 76 = .ok (.bipush (-9), 2) := by decide +kernel
theorem dX7_exercise_78 : decode cX7_exercise 78 = .ok (.ireturn, 1) := by decide +kernel
theorem dX7_lapses_0 : decode cX7_lapses 0 = .ok (.iload_n 1, 1) := by decide +kernel
theorem dX7_lapses_1 : decode cX7_lapses 1 = .ok (.invokestatic 104, 3) := by decide +kernel
theorem dX7_lapses_4 : decode cX7_lapses 4 = .ok (.ifCond .eq 8, 3) := by decide +kernel
theorem dX7_lapses_7 : decode cX7_lapses 7 = .ok (.iload_n 2, 1) := by decide +kernel
theorem dX7_lapses_8 : decode cX7_lapses 8 = .ok (.iconst 1, 1) := by decide +kernel
theorem dX7_lapses_9 : decode cX7_lapses 9 = .ok (.if_icmp .ge 5, 3) := by decide +kernel
theorem dX7_lapses_12 : decode cX7_lapses 12 = .ok (.iconst (-1), 1) := by decide +kernel
theorem dX7_lapses_13 : decode cX7_lapses 13 = .ok (.ireturn, 1) := by decide +kernel
theorem dX7_lapses_14 : decode cX7_lapses 14 = .ok (.aload_n 0, 1) := by decide +kernel
theorem dX7_lapses_15 : decode cX7_lapses 15 = .ok (.getfield 12, 3) := by decide +kernel
theorem dX7_lapses_18 : decode cX7_lapses 18 = .ok (.iload_n 1, 1) := by decide +kernel
theorem dX7_lapses_19 : decode cX7_lapses 19 = .ok (.invokevirtual 128, 3) := by decide +kernel
theorem dX7_lapses_22 : decode cX7_lapses 22 = .ok (.iload_n 2, 1) := by decide +kernel
theorem dX7_lapses_23 : decode cX7_lapses 23 = .ok (.i2l, 1) := by decide +kernel
theorem dX7_lapses_24 : decode cX7_lapses 24 = .ok (.lcmp, 1) := by decide +kernel
theorem dX7_lapses_25 : decode cX7_lapses 25 = .ok (.ifCond .ge 6, 3) := by decide +kernel
theorem dX7_lapses_28 : decode cX7_lapses 28 = .ok (.bipush (-2), 2) := by decide +kernel
theorem dX7_lapses_30 : decode cX7_lapses 30 = .ok (.ireturn, 1) := by decide +kernel
theorem dX7_lapses_31 : decode cX7_lapses 31 = .ok (.aload_n 0, 1) := by decide +kernel
theorem dX7_lapses_32 : decode cX7_lapses 32 = .ok (.invokevirtual 107, 3) := by decide +kernel
theorem dX7_lapses_35 : decode cX7_lapses 35 = .ok (.aload_n 0, 1) := by decide +kernel
theorem dX7_lapses_36 : decode cX7_lapses 36 = .ok (.getfield 16, 3) := by decide +kernel
theorem dX7_lapses_39 : decode cX7_lapses 39 = .ok (.iload_n 1, 1) := by decide +kernel
theorem dX7_lapses_40 : decode cX7_lapses 40 = .ok (.iload_n 2, 1) := by decide +kernel
theorem dX7_lapses_41 : decode cX7_lapses 41 = .ok (.ineg, 1) := by decide +kernel
theorem dX7_lapses_42 : decode cX7_lapses 42 = .ok (.i2l, 1) := by decide +kernel
theorem dX7_lapses_43 : decode cX7_lapses 43 = .ok (.invokevirtual 124, 3) := by decide +kernel
theorem dX7_lapses_46 : decode cX7_lapses 46 = .ok (.aload_n 0, 1) := by decide +kernel
theorem dX7_lapses_47 : decode cX7_lapses 47 = .ok (.getfield 16, 3) := by decide +kernel
theorem dX7_lapses_50 : decode cX7_lapses 50 = .ok (.aload_n 0, 1) := by decide +kernel
theorem dX7_lapses_51 : decode cX7_lapses 51 = .ok (.getfield 16, 3) := by decide +kernel
theorem dX7_lapses_54 : decode cX7_lapses 54 = .ok (.invokevirtual 117, 3) := by decide +kernel
theorem dX7_lapses_57 : decode cX7_lapses 57 = .ok (.iload_n 2, 1) := by decide +kernel
theorem dX7_lapses_58 : decode cX7_lapses 58 = .ok (.i2l, 1) := by decide +kernel
theorem dX7_lapses_59 : decode cX7_lapses 59 = .ok (.ladd, 1) := by decide +kernel
theorem dX7_lapses_60 : decode cX7_lapses 60 = .ok (.invokevirtual 120, 3) := by decide +kernel
theorem dX7_lapses_63 : decode cX7_lapses 63 = .ok (.aload_n 0, 1) := by decide +kernel
theorem dX7_lapses_64 : decode cX7_lapses 64 = .ok (.invokevirtual 96, 3) := by decide +kernel
theorem dX7_lapses_67 : decode cX7_lapses 67 = .ok (.ifCond .eq 14, 3) := by decide +kernel
theorem dX7_lapses_70 : decode cX7_lapses 70 = .ok (.aload_n 0, 1) := by decide +kernel
theorem dX7_lapses_71 : decode cX7_lapses 71 = .ok (.getfield 12, 3) := by decide +kernel
theorem dX7_lapses_74 : decode cX7_lapses 74 = .ok (.invokevirtual 117, 3) := by decide +kernel
theorem dX7_lapses_77 : decode cX7_lapses 77 = .ok (.l2i, 1) := by decide +kernel
theorem dX7_lapses_78 : decode cX7_lapses 78 = .ok (.goto 5, 3) := by decide +kernel
theorem dX7_lapses_81 : decode cX7_lapses 81 = .ok (.bipush (-9), 2) := by decide +kernel
theorem dX7_lapses_83 : decode cX7_lapses 83 = .ok (.ireturn, 1) := by decide +kernel
theorem dX7_sells_0 : decode cX7_sells 0 = .ok (.iload_n 1, 1) := by decide +kernel
theorem dX7_sells_1 : decode cX7_sells 1 = .ok (.invokestatic 104, 3) := by decide +kernel
theorem dX7_sells_4 : decode cX7_sells 4 = .ok (.ifCond .eq 24, 3) := by decide +kernel
theorem dX7_sells_7 : decode cX7_sells 7 = .ok (.iload_n 2, 1) := by decide +kernel
theorem dX7_sells_8 : decode cX7_sells 8 = .ok (.invokestatic 104, 3) := by decide +kernel
theorem dX7_sells_11 : decode cX7_sells 11 = .ok (.ifCond .eq 17, 3) := by decide +kernel
theorem dX7_sells_14 : decode cX7_sells 14 = .ok (.aload_n 0, 1) := by decide +kernel
theorem dX7_sells_15 : decode cX7_sells 15 = .ok (.iload_n 3, 1) := by decide +kernel
theorem dX7_sells_16 : decode cX7_sells 16 = .ok (.invokevirtual 110, 3) := by decide +kernel
theorem dX7_sells_19 : decode cX7_sells 19 = .ok (.ifCond .eq 9, 3) := by decide +kernel
theorem dX7_sells_22 : decode cX7_sells 22 = .ok (.iload 4, 2) := by decide +kernel
theorem dX7_sells_24 : decode cX7_sells 24 = .ok (.iconst 1, 1) := by decide +kernel
theorem dX7_sells_25 : decode cX7_sells 25 = .ok (.if_icmp .ge 5, 3) := by decide +kernel
theorem dX7_sells_28 : decode cX7_sells 28 = .ok (.iconst (-1), 1) := by decide +kernel
theorem dX7_sells_29 : decode cX7_sells 29 = .ok (.ireturn, 1) := by decide +kernel
theorem dX7_sells_30 : decode cX7_sells 30 = .ok (.iload_n 1, 1) := by decide +kernel
theorem dX7_sells_31 : decode cX7_sells 31 = .ok (.iload_n 2, 1) := by decide +kernel
theorem dX7_sells_32 : decode cX7_sells 32 = .ok (.if_icmp .eq 19, 3) := by decide +kernel
theorem dX7_sells_35 : decode cX7_sells 35 = .ok (.aload_n 0, 1) := by decide +kernel
theorem dX7_sells_36 : decode cX7_sells 36 = .ok (.getfield 12, 3) := by decide +kernel
theorem dX7_sells_39 : decode cX7_sells 39 = .ok (.iload_n 1, 1) := by decide +kernel
theorem dX7_sells_40 : decode cX7_sells 40 = .ok (.iload_n 3, 1) := by decide +kernel
theorem dX7_sells_41 : decode cX7_sells 41 = .ok (.invokevirtual 113, 3) := by decide +kernel
theorem dX7_sells_44 : decode cX7_sells 44 = .ok (.iload 4, 2) := by decide +kernel
theorem dX7_sells_46 : decode cX7_sells 46 = .ok (.i2l, 1) := by decide +kernel
theorem dX7_sells_47 : decode cX7_sells 47 = .ok (.lcmp, 1) := by decide +kernel
theorem dX7_sells_48 : decode cX7_sells 48 = .ok (.ifCond .ge 6, 3) := by decide +kernel
theorem dX7_sells_51 : decode cX7_sells 51 = .ok (.bipush (-2), 2) := by decide +kernel
theorem dX7_sells_53 : decode cX7_sells 53 = .ok (.ireturn, 1) := by decide +kernel
theorem dX7_sells_54 : decode cX7_sells 54 = .ok (.aload_n 0, 1) := by decide +kernel
theorem dX7_sells_55 : decode cX7_sells 55 = .ok (.invokevirtual 107, 3) := by decide +kernel
theorem dX7_sells_58 : decode cX7_sells 58 = .ok (.aload_n 0, 1) := by decide +kernel
theorem dX7_sells_59 : decode cX7_sells 59 = .ok (.getfield 16, 3) := by decide +kernel
theorem dX7_sells_62 : decode cX7_sells 62 = .ok (.iload_n 1, 1) := by decide +kernel
theorem dX7_sells_63 : decode cX7_sells 63 = .ok (.iload_n 3, 1) := by decide +kernel
theorem dX7_sells_64 : decode cX7_sells 64 = .ok (.iload 4, 2) := by decide +kernel
theorem dX7_sells_66 : decode cX7_sells 66 = .ok (.ineg, 1) := by decide +kernel
theorem dX7_sells_67 : decode cX7_sells 67 = .ok (.i2l, 1) := by decide +kernel
theorem dX7_sells_68 : decode cX7_sells 68 = .ok (.invokevirtual 92, 3) := by decide +kernel
theorem dX7_sells_71 : decode cX7_sells 71 = .ok (.aload_n 0, 1) := by decide +kernel
theorem dX7_sells_72 : decode cX7_sells 72 = .ok (.getfield 16, 3) := by decide +kernel
theorem dX7_sells_75 : decode cX7_sells 75 = .ok (.iload_n 2, 1) := by decide +kernel
theorem dX7_sells_76 : decode cX7_sells 76 = .ok (.iload_n 3, 1) := by decide +kernel
theorem dX7_sells_77 : decode cX7_sells 77 = .ok (.iload 4, 2) := by decide +kernel
theorem dX7_sells_79 : decode cX7_sells 79 = .ok (.i2l, 1) := by decide +kernel
theorem dX7_sells_80 : decode cX7_sells 80 = .ok (.invokevirtual 92, 3) := by decide +kernel
theorem dX7_sells_83 : decode cX7_sells 83 = .ok (.aload_n 0, 1) := by decide +kernel
theorem dX7_sells_84 : decode cX7_sells 84 = .ok (.invokevirtual 96, 3) := by decide +kernel
theorem dX7_sells_87 : decode cX7_sells 87 = .ok (.ifCond .eq 16, 3) := by decide +kernel
theorem dX7_sells_90 : decode cX7_sells 90 = .ok (.aload_n 0, 1) := by decide +kernel
theorem dX7_sells_91 : decode cX7_sells 91 = .ok (.getfield 12, 3) := by decide +kernel
theorem dX7_sells_94 : decode cX7_sells 94 = .ok (.iload_n 1, 1) := by decide +kernel
theorem dX7_sells_95 : decode cX7_sells 95 = .ok (.iload_n 3, 1) := by decide +kernel
theorem dX7_sells_96 : decode cX7_sells 96 = .ok (.invokevirtual 113, 3) := by decide +kernel
theorem dX7_sells_99 : decode cX7_sells 99 = .ok (.l2i, 1) := by decide +kernel
theorem dX7_sells_100 : decode cX7_sells 100 = .ok (.goto 5, 3) := by decide +kernel
theorem dX7_sells_103 : decode cX7_sells 103 = .ok (.bipush (-9), 2) := by decide +kernel
theorem dX7_sells_105 : decode cX7_sells 105 = .ok (.ireturn, 1) := by decide +kernel
theorem dX7_gives_0 : decode cX7_gives 0 = .ok (.iload_n 1, 1) := by decide +kernel
theorem dX7_gives_1 : decode cX7_gives 1 = .ok (.invokestatic 104, 3) := by decide +kernel
theorem dX7_gives_4 : decode cX7_gives 4 = .ok (.ifCond .eq 10, 3) := by decide +kernel
theorem dX7_gives_7 : decode cX7_gives 7 = .ok (.iload_n 2, 1) := by decide +kernel
theorem dX7_gives_8 : decode cX7_gives 8 = .ok (.invokestatic 104, 3) := by decide +kernel
theorem dX7_gives_11 : decode cX7_gives 11 = .ok (.ifCond .ne 5, 3) := by decide +kernel
theorem dX7_gives_14 : decode cX7_gives 14 = .ok (.iconst (-1), 1) := by decide +kernel
theorem dX7_gives_15 : decode cX7_gives 15 = .ok (.ireturn, 1) := by decide +kernel
theorem dX7_gives_16 : decode cX7_gives 16 = .ok (.iload_n 1, 1) := by decide +kernel
theorem dX7_gives_17 : decode cX7_gives 17 = .ok (.iload_n 2, 1) := by decide +kernel
theorem dX7_gives_18 : decode cX7_gives 18 = .ok (.if_icmp .eq 14, 3) := by decide +kernel
theorem dX7_gives_21 : decode cX7_gives 21 = .ok (.aload_n 0, 1) := by decide +kernel
theorem dX7_gives_22 : decode cX7_gives 22 = .ok (.getfield 12, 3) := by decide +kernel
theorem dX7_gives_25 : decode cX7_gives 25 = .ok (.iload_n 1, 1) := by decide +kernel
theorem dX7_gives_26 : decode cX7_gives 26 = .ok (.invokevirtual 132, 3) := by decide +kernel
theorem dX7_gives_29 : decode cX7_gives 29 = .ok (.ifCond .ne 6, 3) := by decide +kernel
theorem dX7_gives_32 : decode cX7_gives 32 = .ok (.bipush (-2), 2) := by decide +kernel
theorem dX7_gives_34 : decode cX7_gives 34 = .ok (.ireturn, 1) := by decide +kernel
theorem dX7_gives_35 : decode cX7_gives 35 = .ok (.aload_n 0, 1) := by decide +kernel
theorem dX7_gives_36 : decode cX7_gives 36 = .ok (.invokevirtual 107, 3) := by decide +kernel
theorem dX7_gives_39 : decode cX7_gives 39 = .ok (.iconst 0, 1) := by decide +kernel
theorem dX7_gives_40 : decode cX7_gives 40 = .ok (.istore_n 3, 1) := by decide +kernel
theorem dX7_gives_41 : decode cX7_gives 41 = .ok (.iload_n 3, 1) := by decide +kernel
theorem dX7_gives_42 : decode cX7_gives 42 = .ok (.aload_n 0, 1) := by decide +kernel
theorem dX7_gives_43 : decode cX7_gives 43 = .ok (.getfield 16, 3) := by decide +kernel
theorem dX7_gives_46 : decode cX7_gives 46 = .ok (.invokevirtual 135, 3) := by decide +kernel
theorem dX7_gives_49 : decode cX7_gives 49 = .ok (.if_icmp .ge 43, 3) := by decide +kernel
theorem dX7_gives_52 : decode cX7_gives 52 = .ok (.aload_n 0, 1) := by decide +kernel
theorem dX7_gives_53 : decode cX7_gives 53 = .ok (.getfield 16, 3) := by decide +kernel
theorem dX7_gives_56 : decode cX7_gives 56 = .ok (.iload_n 1, 1) := by decide +kernel
theorem dX7_gives_57 : decode cX7_gives 57 = .ok (.iload_n 3, 1) := by decide +kernel
theorem dX7_gives_58 : decode cX7_gives 58 = .ok (.invokevirtual 113, 3) := by decide +kernel
theorem dX7_gives_61 : decode cX7_gives 61 = .ok (.lstore 4, 2) := by decide +kernel
theorem dX7_gives_63 : decode cX7_gives 63 = .ok (.aload_n 0, 1) := by decide +kernel
theorem dX7_gives_64 : decode cX7_gives 64 = .ok (.getfield 16, 3) := by decide +kernel
theorem dX7_gives_67 : decode cX7_gives 67 = .ok (.iload_n 1, 1) := by decide +kernel
theorem dX7_gives_68 : decode cX7_gives 68 = .ok (.iload_n 3, 1) := by decide +kernel
theorem dX7_gives_69 : decode cX7_gives 69 = .ok (.lload 4, 2) := by decide +kernel
theorem dX7_gives_71 : decode cX7_gives 71 = .ok (.lneg, 1) := by decide +kernel
theorem dX7_gives_72 : decode cX7_gives 72 = .ok (.invokevirtual 92, 3) := by decide +kernel
theorem dX7_gives_75 : decode cX7_gives 75 = .ok (.aload_n 0, 1) := by decide +kernel
theorem dX7_gives_76 : decode cX7_gives 76 = .ok (.getfield 16, 3) := by decide +kernel
theorem dX7_gives_79 : decode cX7_gives 79 = .ok (.iload_n 2, 1) := by decide +kernel
theorem dX7_gives_80 : decode cX7_gives 80 = .ok (.iload_n 3, 1) := by decide +kernel
theorem dX7_gives_81 : decode cX7_gives 81 = .ok (.lload 4, 2) := by decide +kernel
theorem dX7_gives_83 : decode cX7_gives 83 = .ok (.invokevirtual 92, 3) := by decide +kernel
theorem dX7_gives_86 : decode cX7_gives 86 = .ok (.iinc 3 1, 3) := by decide +kernel
theorem dX7_gives_89 : decode cX7_gives 89 = .ok (.goto (-48), 3) := by decide +kernel
theorem dX7_gives_92 : decode cX7_gives 92 = .ok (.aload_n 0, 1) := by decide +kernel
theorem dX7_gives_93 : decode cX7_gives 93 = .ok (.getfield 16, 3) := by decide +kernel
theorem dX7_gives_96 : decode cX7_gives 96 = .ok (.iload_n 1, 1) := by decide +kernel
theorem dX7_gives_97 : decode cX7_gives 97 = .ok (.invokevirtual 128, 3) := by decide +kernel
theorem dX7_gives_100 : decode cX7_gives 100 = .ok (.lstore_n 3, 1) := by decide +kernel
theorem dX7_gives_101 : decode cX7_gives 101 = .ok (.aload_n 0, 1) := by decide +kernel
theorem dX7_gives_102 : decode cX7_gives 102 = .ok (.getfield 16, 3) := by decide +kernel
theorem dX7_gives_105 : decode cX7_gives 105 = .ok (.iload_n 1, 1) := by decide +kernel
theorem dX7_gives_106 : decode cX7_gives 106 = .ok (.lload_n 3, 1) := by decide +kernel
theorem dX7_gives_107 : decode cX7_gives 107 = .ok (.lneg, 1) := by decide +kernel
theorem dX7_gives_108 : decode cX7_gives 108 = .ok (.invokevirtual 124, 3) := by decide +kernel
theorem dX7_gives_111 : decode cX7_gives 111 = .ok (.aload_n 0, 1) := by decide +kernel
theorem dX7_gives_112 : decode cX7_gives 112 = .ok (.getfield 16, 3) := by decide +kernel
theorem dX7_gives_115 : decode cX7_gives 115 = .ok (.iload_n 2, 1) := by decide +kernel
theorem dX7_gives_116 : decode cX7_gives 116 = .ok (.lload_n 3, 1) := by decide +kernel
theorem dX7_gives_117 : decode cX7_gives 117 = .ok (.invokevirtual 124, 3) := by decide +kernel
theorem dX7_gives_120 : decode cX7_gives 120 = .ok (.aload_n 0, 1) := by decide +kernel
theorem dX7_gives_121 : decode cX7_gives 121 = .ok (.invokevirtual 96, 3) := by decide +kernel
theorem dX7_gives_124 : decode cX7_gives 124 = .ok (.ifCond .eq 15, 3) := by decide +kernel
theorem dX7_gives_127 : decode cX7_gives 127 = .ok (.aload_n 0, 1) := by decide +kernel
theorem dX7_gives_128 : decode cX7_gives 128 = .ok (.getfield 12, 3) := by decide +kernel
theorem dX7_gives_131 : decode cX7_gives 131 = .ok (.iload_n 2, 1) := by decide +kernel
theorem dX7_gives_132 : decode cX7_gives 132 = .ok (.invokevirtual 138, 3) := by decide +kernel
theorem dX7_gives_135 : decode cX7_gives 135 = .ok (.l2i, 1) := by decide +kernel
theorem dX7_gives_136 : decode cX7_gives 136 = .ok (.goto 5, 3) := by decide +kernel
theorem dX7_gives_139 : decode cX7_gives 139 = .ok (.bipush (-9), 2) := by decide +kernel
theorem dX7_gives_141 : decode cX7_gives 141 = .ok (.ireturn, 1) := by decide +kernel
theorem dX7_splits_0 : decode cX7_splits 0 = .ok (.iload_n 1, 1) := by decide +kernel
theorem dX7_splits_1 : decode cX7_splits 1 = .ok (.iconst 2, 1) := by decide +kernel
theorem dX7_splits_2 : decode cX7_splits 2 = .ok (.if_icmp .lt 9, 3) := by decide +kernel
theorem dX7_splits_5 : decode cX7_splits 5 = .ok (.iload_n 1, 1) := by decide +kernel
theorem dX7_splits_6 : decode cX7_splits 6 = .ok (.bipush 10, 2) := by decide +kernel
theorem dX7_splits_8 : decode cX7_splits 8 = .ok (.if_icmp .le 5, 3) := by decide +kernel
theorem dX7_splits_11 : decode cX7_splits 11 = .ok (.iconst (-1), 1) := by decide +kernel
theorem dX7_splits_12 : decode cX7_splits 12 = .ok (.ireturn, 1) := by decide +kernel
theorem dX7_splits_13 : decode cX7_splits 13 = .ok (.aload_n 0, 1) := by decide +kernel
theorem dX7_splits_14 : decode cX7_splits 14 = .ok (.invokevirtual 107, 3) := by decide +kernel
theorem dX7_splits_17 : decode cX7_splits 17 = .ok (.aload_n 0, 1) := by decide +kernel
theorem dX7_splits_18 : decode cX7_splits 18 = .ok (.getfield 16, 3) := by decide +kernel
theorem dX7_splits_21 : decode cX7_splits 21 = .ok (.iload_n 1, 1) := by decide +kernel
theorem dX7_splits_22 : decode cX7_splits 22 = .ok (.invokevirtual 141, 3) := by decide +kernel
theorem dX7_splits_25 : decode cX7_splits 25 = .ok (.aload_n 0, 1) := by decide +kernel
theorem dX7_splits_26 : decode cX7_splits 26 = .ok (.invokevirtual 96, 3) := by decide +kernel
theorem dX7_splits_29 : decode cX7_splits 29 = .ok (.ifCond .eq 14, 3) := by decide +kernel
theorem dX7_splits_32 : decode cX7_splits 32 = .ok (.aload_n 0, 1) := by decide +kernel
theorem dX7_splits_33 : decode cX7_splits 33 = .ok (.getfield 12, 3) := by decide +kernel
theorem dX7_splits_36 : decode cX7_splits 36 = .ok (.invokevirtual 100, 3) := by decide +kernel
theorem dX7_splits_39 : decode cX7_splits 39 = .ok (.l2i, 1) := by decide +kernel
theorem dX7_splits_40 : decode cX7_splits 40 = .ok (.goto 5, 3) := by decide +kernel
theorem dX7_splits_43 : decode cX7_splits 43 = .ok (.bipush (-9), 2) := by decide +kernel
theorem dX7_splits_45 : decode cX7_splits 45 = .ok (.ireturn, 1) := by decide +kernel
theorem dX7_converts_0 : decode cX7_converts 0 = .ok (.iload_n 1, 1) := by decide +kernel
theorem dX7_converts_1 : decode cX7_converts 1 = .ok (.invokestatic 104, 3) := by decide +kernel
theorem dX7_converts_4 : decode cX7_converts 4 = .ok (.ifCond .eq 16, 3) := by decide +kernel
theorem dX7_converts_7 : decode cX7_converts 7 = .ok (.aload_n 0, 1) := by decide +kernel
theorem dX7_converts_8 : decode cX7_converts 8 = .ok (.iload_n 2, 1) := by decide +kernel
theorem dX7_converts_9 : decode cX7_converts 9 = .ok (.invokevirtual 145, 3) := by decide +kernel
theorem dX7_converts_12 : decode cX7_converts 12 = .ok (.ifCond .eq 8, 3) := by decide +kernel
theorem dX7_converts_15 : decode cX7_converts 15 = .ok (.iload_n 3, 1) := by decide +kernel
theorem dX7_converts_16 : decode cX7_converts 16 = .ok (.iconst 1, 1) := by decide +kernel
theorem dX7_converts_17 : decode cX7_converts 17 = .ok (.if_icmp .ge 5, 3) := by decide +kernel
theorem dX7_converts_20 : decode cX7_converts 20 = .ok (.iconst (-1), 1) := by decide +kernel
theorem dX7_converts_21 : decode cX7_converts 21 = .ok (.ireturn, 1) := by decide +kernel
theorem dX7_converts_22 : decode cX7_converts 22 = .ok (.aload_n 0, 1) := by decide +kernel
theorem dX7_converts_23 : decode cX7_converts 23 = .ok (.getfield 12, 3) := by decide +kernel
theorem dX7_converts_26 : decode cX7_converts 26 = .ok (.iload_n 1, 1) := by decide +kernel
theorem dX7_converts_27 : decode cX7_converts 27 = .ok (.iload_n 2, 1) := by decide +kernel
theorem dX7_converts_28 : decode cX7_converts 28 = .ok (.invokevirtual 113, 3) := by decide +kernel
theorem dX7_converts_31 : decode cX7_converts 31 = .ok (.iload_n 3, 1) := by decide +kernel
theorem dX7_converts_32 : decode cX7_converts 32 = .ok (.i2l, 1) := by decide +kernel
theorem dX7_converts_33 : decode cX7_converts 33 = .ok (.lcmp, 1) := by decide +kernel
theorem dX7_converts_34 : decode cX7_converts 34 = .ok (.ifCond .ge 6, 3) := by decide +kernel
theorem dX7_converts_37 : decode cX7_converts 37 = .ok (.bipush (-2), 2) := by decide +kernel
theorem dX7_converts_39 : decode cX7_converts 39 = .ok (.ireturn, 1) := by decide +kernel
theorem dX7_converts_40 : decode cX7_converts 40 = .ok (.aload_n 0, 1) := by decide +kernel
theorem dX7_converts_41 : decode cX7_converts 41 = .ok (.getfield 12, 3) := by decide +kernel
theorem dX7_converts_44 : decode cX7_converts 44 = .ok (.iload_n 2, 1) := by decide +kernel
theorem dX7_converts_45 : decode cX7_converts 45 = .ok (.iload_n 3, 1) := by decide +kernel
theorem dX7_converts_46 : decode cX7_converts 46 = .ok (.i2l, 1) := by decide +kernel
theorem dX7_converts_47 : decode cX7_converts 47 = .ok (.invokevirtual 148, 3) := by decide +kernel
theorem dX7_converts_50 : decode cX7_converts 50 = .ok (.lstore 4, 2) := by decide +kernel
theorem dX7_converts_52 : decode cX7_converts 52 = .ok (.aload_n 0, 1) := by decide +kernel
theorem dX7_converts_53 : decode cX7_converts 53 = .ok (.invokevirtual 107, 3) := by decide +kernel
theorem dX7_converts_56 : decode cX7_converts 56 = .ok (.aload_n 0, 1) := by decide +kernel
theorem dX7_converts_57 : decode cX7_converts 57 = .ok (.getfield 16, 3) := by decide +kernel
theorem dX7_converts_60 : decode cX7_converts 60 = .ok (.iload_n 1, 1) := by decide +kernel
theorem dX7_converts_61 : decode cX7_converts 61 = .ok (.iload_n 2, 1) := by decide +kernel
theorem dX7_converts_62 : decode cX7_converts 62 = .ok (.iload_n 3, 1) := by decide +kernel
theorem dX7_converts_63 : decode cX7_converts 63 = .ok (.ineg, 1) := by decide +kernel
theorem dX7_converts_64 : decode cX7_converts 64 = .ok (.i2l, 1) := by decide +kernel
theorem dX7_converts_65 : decode cX7_converts 65 = .ok (.invokevirtual 92, 3) := by decide +kernel
theorem dX7_converts_68 : decode cX7_converts 68 = .ok (.aload_n 0, 1) := by decide +kernel
theorem dX7_converts_69 : decode cX7_converts 69 = .ok (.getfield 16, 3) := by decide +kernel
theorem dX7_converts_72 : decode cX7_converts 72 = .ok (.iload_n 1, 1) := by decide +kernel
theorem dX7_converts_73 : decode cX7_converts 73 = .ok (.iconst 0, 1) := by decide +kernel
theorem dX7_converts_74 : decode cX7_converts 74 = .ok (.lload 4, 2) := by decide +kernel
theorem dX7_converts_76 : decode cX7_converts 76 = .ok (.invokevirtual 92, 3) := by decide +kernel
theorem dX7_converts_79 : decode cX7_converts 79 = .ok (.aload_n 0, 1) := by decide +kernel
theorem dX7_converts_80 : decode cX7_converts 80 = .ok (.invokevirtual 96, 3) := by decide +kernel
theorem dX7_converts_83 : decode cX7_converts 83 = .ok (.ifCond .eq 9, 3) := by decide +kernel
theorem dX7_converts_86 : decode cX7_converts 86 = .ok (.lload 4, 2) := by decide +kernel
theorem dX7_converts_88 : decode cX7_converts 88 = .ok (.l2i, 1) := by decide +kernel
theorem dX7_converts_89 : decode cX7_converts 89 = .ok (.goto 5, 3) := by decide +kernel
theorem dX7_converts_92 : decode cX7_converts 92 = .ok (.bipush (-9), 2) := by decide +kernel
theorem dX7_converts_94 : decode cX7_converts 94 = .ok (.ireturn, 1) := by decide +kernel
theorem dX7_term_0 : decode cX7_term 0 = .ok (.aload_n 0, 1) := by decide +kernel
theorem dX7_term_1 : decode cX7_term 1 = .ok (.iload_n 1, 1) := by decide +kernel
theorem dX7_term_2 : decode cX7_term 2 = .ok (.invokevirtual 145, 3) := by decide +kernel
theorem dX7_term_5 : decode cX7_term 5 = .ok (.ifCond .eq 24, 3) := by decide +kernel
theorem dX7_term_8 : decode cX7_term 8 = .ok (.iload_n 2, 1) := by decide +kernel
theorem dX7_term_9 : decode cX7_term 9 = .ok (.ifCond .lt 20, 3) := by decide +kernel
theorem dX7_term_12 : decode cX7_term 12 = .ok (.iload_n 2, 1) := by decide +kernel
theorem dX7_term_13 : decode cX7_term 13 = .ok (.iconst 3, 1) := by decide +kernel
theorem dX7_term_14 : decode cX7_term 14 = .ok (.if_icmp .gt 15, 3) := by decide +kernel
theorem dX7_term_17 : decode cX7_term 17 = .ok (.iload_n 3, 1) := by decide +kernel
theorem dX7_term_18 : decode cX7_term 18 = .ok (.ifCond .lt 11, 3) := by decide +kernel
theorem dX7_term_21 : decode cX7_term 21 = .ok (.iload_n 3, 1) := by decide +kernel
theorem dX7_term_22 : decode cX7_term 22 = .ok (.iload_n 2, 1) := by decide +kernel
theorem dX7_term_23 : decode cX7_term 23 = .ok (.invokestatic 152, 3) := by decide +kernel
theorem dX7_term_26 : decode cX7_term 26 = .ok (.if_icmp .le 5, 3) := by decide +kernel
theorem dX7_term_29 : decode cX7_term 29 = .ok (.iconst (-1), 1) := by decide +kernel
theorem dX7_term_30 : decode cX7_term 30 = .ok (.ireturn, 1) := by decide +kernel
theorem dX7_term_31 : decode cX7_term 31 = .ok (.aload_n 0, 1) := by decide +kernel
theorem dX7_term_32 : decode cX7_term 32 = .ok (.getfield 12, 3) := by decide +kernel
theorem dX7_term_35 : decode cX7_term 35 = .ok (.iload_n 1, 1) := by decide +kernel
theorem dX7_term_36 : decode cX7_term 36 = .ok (.iconst 2, 1) := by decide +kernel
theorem dX7_term_37 : decode cX7_term 37 = .ok (.iload_n 2, 1) := by decide +kernel
theorem dX7_term_38 : decode cX7_term 38 = .ok (.iadd, 1) := by decide +kernel
theorem dX7_term_39 : decode cX7_term 39 = .ok (.invokevirtual 155, 3) := by decide +kernel
theorem dX7_term_42 : decode cX7_term 42 = .ok (.l2i, 1) := by decide +kernel
theorem dX7_term_43 : decode cX7_term 43 = .ok (.istore 4, 2) := by decide +kernel
theorem dX7_term_45 : decode cX7_term 45 = .ok (.aload_n 0, 1) := by decide +kernel
theorem dX7_term_46 : decode cX7_term 46 = .ok (.invokevirtual 107, 3) := by decide +kernel
theorem dX7_term_49 : decode cX7_term 49 = .ok (.aload_n 0, 1) := by decide +kernel
theorem dX7_term_50 : decode cX7_term 50 = .ok (.getfield 16, 3) := by decide +kernel
theorem dX7_term_53 : decode cX7_term 53 = .ok (.iload_n 1, 1) := by decide +kernel
theorem dX7_term_54 : decode cX7_term 54 = .ok (.iconst 2, 1) := by decide +kernel
theorem dX7_term_55 : decode cX7_term 55 = .ok (.iload_n 2, 1) := by decide +kernel
theorem dX7_term_56 : decode cX7_term 56 = .ok (.iadd, 1) := by decide +kernel
theorem dX7_term_57 : decode cX7_term 57 = .ok (.iload_n 3, 1) := by decide +kernel
theorem dX7_term_58 : decode cX7_term 58 = .ok (.i2l, 1) := by decide +kernel
theorem dX7_term_59 : decode cX7_term 59 = .ok (.invokevirtual 158, 3) := by decide +kernel
theorem dX7_term_62 : decode cX7_term 62 = .ok (.aload_n 0, 1) := by decide +kernel
theorem dX7_term_63 : decode cX7_term 63 = .ok (.invokevirtual 96, 3) := by decide +kernel
theorem dX7_term_66 : decode cX7_term 66 = .ok (.ifCond .eq 8, 3) := by decide +kernel
theorem dX7_term_69 : decode cX7_term 69 = .ok (.iload 4, 2) := by decide +kernel
theorem dX7_term_71 : decode cX7_term 71 = .ok (.goto 5, 3) := by decide +kernel
theorem dX7_term_74 : decode cX7_term 74 = .ok (.bipush (-9), 2) := by decide +kernel
theorem dX7_term_76 : decode cX7_term 76 = .ok (.ireturn, 1) := by decide +kernel
theorem dX7_round_0 : decode cX7_round 0 = .ok (.aload_n 0, 1) := by decide +kernel
theorem dX7_round_1 : decode cX7_round 1 = .ok (.invokevirtual 161, 3) := by decide +kernel
theorem dX7_round_4 : decode cX7_round 4 = .ok (.istore_n 1, 1) := by decide +kernel
theorem dX7_round_5 : decode cX7_round 5 = .ok (.iload_n 1, 1) := by decide +kernel
theorem dX7_round_6 : decode cX7_round 6 = .ok (.ifCond .ge 5, 3) := by decide +kernel
theorem dX7_round_9 : decode cX7_round 9 = .ok (.iload_n 1, 1) := by decide +kernel
theorem dX7_round_10 : decode cX7_round 10 = .ok (.ireturn, 1) := by decide +kernel
theorem dX7_round_11 : decode cX7_round 11 = .ok (.aload_n 0, 1) := by decide +kernel
theorem dX7_round_12 : decode cX7_round 12 = .ok (.getfield 54, 3) := by decide +kernel
theorem dX7_round_15 : decode cX7_round 15 = .ok (.aload_n 0, 1) := by decide +kernel
theorem dX7_round_16 : decode cX7_round 16 = .ok (.getfield 12, 3) := by decide +kernel
theorem dX7_round_19 : decode cX7_round 19 = .ok (.aload_n 0, 1) := by decide +kernel
theorem dX7_round_20 : decode cX7_round 20 = .ok (.getfield 47, 3) := by decide +kernel
theorem dX7_round_23 : decode cX7_round 23 = .ok (.invokevirtual 164, 3) := by decide +kernel
theorem dX7_round_26 : decode cX7_round 26 = .ok (.istore_n 2, 1) := by decide +kernel
theorem dX7_round_27 : decode cX7_round 27 = .ok (.iload_n 2, 1) := by decide +kernel
theorem dX7_round_28 : decode cX7_round 28 = .ok (.ifCond .ge 5, 3) := by decide +kernel
theorem dX7_round_31 : decode cX7_round 31 = .ok (.iload_n 2, 1) := by decide +kernel
theorem dX7_round_32 : decode cX7_round 32 = .ok (.ireturn, 1) := by decide +kernel
theorem dX7_round_33 : decode cX7_round 33 = .ok (.aload_n 0, 1) := by decide +kernel
theorem dX7_round_34 : decode cX7_round 34 = .ok (.getfield 16, 3) := by decide +kernel
theorem dX7_round_37 : decode cX7_round 37 = .ok (.aload_n 0, 1) := by decide +kernel
theorem dX7_round_38 : decode cX7_round 38 = .ok (.getfield 54, 3) := by decide +kernel
theorem dX7_round_41 : decode cX7_round 41 = .ok (.getfield 168, 3) := by decide +kernel
theorem dX7_round_44 : decode cX7_round 44 = .ok (.getfield 171, 3) := by decide +kernel
theorem dX7_round_47 : decode cX7_round 47 = .ok (.invokevirtual 174, 3) := by decide +kernel
theorem dX7_round_50 : decode cX7_round 50 = .ok (.aload_n 0, 1) := by decide +kernel
theorem dX7_round_51 : decode cX7_round 51 = .ok (.invokevirtual 96, 3) := by decide +kernel
theorem dX7_round_54 : decode cX7_round 54 = .ok (.ifCond .ne 6, 3) := by decide +kernel
theorem dX7_round_57 : decode cX7_round 57 = .ok (.bipush (-9), 2) := by decide +kernel
theorem dX7_round_59 : decode cX7_round 59 = .ok (.ireturn, 1) := by decide +kernel
theorem dX7_round_60 : decode cX7_round 60 = .ok (.aload_n 0, 1) := by decide +kernel
theorem dX7_round_61 : decode cX7_round 61 = .ok (.invokevirtual 178, 3) := by decide +kernel
theorem dX7_round_64 : decode cX7_round 64 = .ok (.iload_n 2, 1) := by decide +kernel
theorem dX7_round_65 : decode cX7_round 65 = .ok (.ireturn, 1) := by decide +kernel
theorem dX7_thought_0 : decode cX7_thought 0 = .ok (.aload_n 0, 1) := by decide +kernel
theorem dX7_thought_1 : decode cX7_thought 1 = .ok (.invokevirtual 161, 3) := by decide +kernel
theorem dX7_thought_4 : decode cX7_thought 4 = .ok (.istore_n 1, 1) := by decide +kernel
theorem dX7_thought_5 : decode cX7_thought 5 = .ok (.iload_n 1, 1) := by decide +kernel
theorem dX7_thought_6 : decode cX7_thought 6 = .ok (.ifCond .ge 5, 3) := by decide +kernel
theorem dX7_thought_9 : decode cX7_thought 9 = .ok (.iload_n 1, 1) := by decide +kernel
theorem dX7_thought_10 : decode cX7_thought 10 = .ok (.ireturn, 1) := by decide +kernel
theorem dX7_thought_11 : decode cX7_thought 11 = .ok (.aload_n 0, 1) := by decide +kernel
theorem dX7_thought_12 : decode cX7_thought 12 = .ok (.getfield 54, 3) := by decide +kernel
theorem dX7_thought_15 : decode cX7_thought 15 = .ok (.aload_n 0, 1) := by decide +kernel
theorem dX7_thought_16 : decode cX7_thought 16 = .ok (.getfield 12, 3) := by decide +kernel
theorem dX7_thought_19 : decode cX7_thought 19 = .ok (.aload_n 0, 1) := by decide +kernel
theorem dX7_thought_20 : decode cX7_thought 20 = .ok (.getfield 47, 3) := by decide +kernel
theorem dX7_thought_23 : decode cX7_thought 23 = .ok (.invokevirtual 164, 3) := by decide +kernel
theorem dX7_thought_26 : decode cX7_thought 26 = .ok (.istore_n 2, 1) := by decide +kernel
theorem dX7_thought_27 : decode cX7_thought 27 = .ok (.iload_n 2, 1) := by decide +kernel
theorem dX7_thought_28 : decode cX7_thought 28 = .ok (.ifCond .ge 5, 3) := by decide +kernel
theorem dX7_thought_31 : decode cX7_thought 31 = .ok (.iload_n 2, 1) := by decide +kernel
theorem dX7_thought_32 : decode cX7_thought 32 = .ok (.ireturn, 1) := by decide +kernel
theorem dX7_thought_33 : decode cX7_thought 33 = .ok (.aload_n 0, 1) := by decide +kernel
theorem dX7_thought_34 : decode cX7_thought 34 = .ok (.invokevirtual 178, 3) := by decide +kernel
theorem dX7_thought_37 : decode cX7_thought 37 = .ok (.aload_n 0, 1) := by decide +kernel
theorem dX7_thought_38 : decode cX7_thought 38 = .ok (.getfield 40, 3) := by decide +kernel
theorem dX7_thought_41 : decode cX7_thought 41 = .ok (.aload_n 0, 1) := by decide +kernel
theorem dX7_thought_42 : decode cX7_thought 42 = .ok (.getfield 54, 3) := by decide +kernel
theorem dX7_thought_45 : decode cX7_thought 45 = .ok (.getfield 168, 3) := by decide +kernel
theorem dX7_thought_48 : decode cX7_thought 48 = .ok (.invokevirtual 117, 3) := by decide +kernel
theorem dX7_thought_51 : decode cX7_thought 51 = .ok (.invokevirtual 181, 3) := by decide +kernel
theorem dX7_thought_54 : decode cX7_thought 54 = .ok (.iconst 1, 1) := by decide +kernel
theorem dX7_thought_55 : decode cX7_thought 55 = .ok (.istore_n 3, 1) := by decide +kernel
theorem dX7_thought_56 : decode cX7_thought 56 = .ok (.iload_n 3, 1) := by decide +kernel
theorem dX7_thought_57 : decode cX7_thought 57 = .ok (.aload_n 0, 1) := by decide +kernel
theorem dX7_thought_58 : decode cX7_thought 58 = .ok (.getfield 54, 3) := by decide +kernel
theorem dX7_thought_61 : decode cX7_thought 61 = .ok (.getfield 168, 3) := by decide +kernel
theorem dX7_thought_64 : decode cX7_thought 64 = .ok (.invokevirtual 135, 3) := by decide +kernel
theorem dX7_thought_67 : decode cX7_thought 67 = .ok (.if_icmp .ge 28, 3) := by decide +kernel
theorem dX7_thought_70 : decode cX7_thought 70 = .ok (.aload_n 0, 1) := by decide +kernel
theorem dX7_thought_71 : decode cX7_thought 71 = .ok (.getfield 40, 3) := by decide +kernel
theorem dX7_thought_74 : decode cX7_thought 74 = .ok (.aload_n 0, 1) := by decide +kernel
theorem dX7_thought_75 : decode cX7_thought 75 = .ok (.getfield 54, 3) := by decide +kernel
theorem dX7_thought_78 : decode cX7_thought 78 = .ok (.getfield 168, 3) := by decide +kernel
theorem dX7_thought_81 : decode cX7_thought 81 = .ok (.iload_n 3, 1) := by decide +kernel
theorem dX7_thought_82 : decode cX7_thought 82 = .ok (.iconst 1, 1) := by decide +kernel
theorem dX7_thought_83 : decode cX7_thought 83 = .ok (.invokevirtual 155, 3) := by decide +kernel
theorem dX7_thought_86 : decode cX7_thought 86 = .ok (.invokevirtual 181, 3) := by decide +kernel
theorem dX7_thought_89 : decode cX7_thought 89 = .ok (.iinc 3 1, 3) := by decide +kernel
theorem dX7_thought_92 : decode cX7_thought 92 = .ok (.goto (-36), 3) := by decide +kernel
theorem dX7_thought_95 : decode cX7_thought 95 = .ok (.iload_n 2, 1) := by decide +kernel
theorem dX7_thought_96 : decode cX7_thought 96 = .ok (.ireturn, 1) := by decide +kernel
theorem dX7_told_0 : decode cX7_told 0 = .ok (.aload_n 0, 1) := by decide +kernel
theorem dX7_told_1 : decode cX7_told 1 = .ok (.iload_n 1, 1) := by decide +kernel
theorem dX7_told_2 : decode cX7_told 2 = .ok (.invokevirtual 145, 3) := by decide +kernel
theorem dX7_told_5 : decode cX7_told 5 = .ok (.ifCond .eq 12, 3) := by decide +kernel
theorem dX7_told_8 : decode cX7_told 8 = .ok (.iload_n 2, 1) := by decide +kernel
theorem dX7_told_9 : decode cX7_told 9 = .ok (.ifCond .lt 8, 3) := by decide +kernel
theorem dX7_told_12 : decode cX7_told 12 = .ok (.iload_n 2, 1) := by decide +kernel
theorem dX7_told_13 : decode cX7_told 13 = .ok (.iconst 4, 1) := by decide +kernel
theorem dX7_told_14 : decode cX7_told 14 = .ok (.if_icmp .le 5, 3) := by decide +kernel
theorem dX7_told_17 : decode cX7_told 17 = .ok (.iconst (-1), 1) := by decide +kernel
theorem dX7_told_18 : decode cX7_told 18 = .ok (.ireturn, 1) := by decide +kernel
theorem dX7_told_19 : decode cX7_told 19 = .ok (.aload_n 0, 1) := by decide +kernel
theorem dX7_told_20 : decode cX7_told 20 = .ok (.getfield 12, 3) := by decide +kernel
theorem dX7_told_23 : decode cX7_told 23 = .ok (.iload_n 1, 1) := by decide +kernel
theorem dX7_told_24 : decode cX7_told 24 = .ok (.bipush 6, 2) := by decide +kernel
theorem dX7_told_26 : decode cX7_told 26 = .ok (.iload_n 2, 1) := by decide +kernel
theorem dX7_told_27 : decode cX7_told 27 = .ok (.iadd, 1) := by decide +kernel
theorem dX7_told_28 : decode cX7_told 28 = .ok (.invokevirtual 155, 3) := by decide +kernel
theorem dX7_told_31 : decode cX7_told 31 = .ok (.l2i, 1) := by decide +kernel
theorem dX7_told_32 : decode cX7_told 32 = .ok (.ireturn, 1) := by decide +kernel
theorem dX7_diluted_0 : decode cX7_diluted 0 = .ok (.aload_n 0, 1) := by decide +kernel
theorem dX7_diluted_1 : decode cX7_diluted 1 = .ok (.invokevirtual 161, 3) := by decide +kernel
theorem dX7_diluted_4 : decode cX7_diluted 4 = .ok (.istore_n 2, 1) := by decide +kernel
theorem dX7_diluted_5 : decode cX7_diluted 5 = .ok (.iload_n 2, 1) := by decide +kernel
theorem dX7_diluted_6 : decode cX7_diluted 6 = .ok (.ifCond .ge 5, 3) := by decide +kernel
theorem dX7_diluted_9 : decode cX7_diluted 9 = .ok (.iload_n 2, 1) := by decide +kernel
theorem dX7_diluted_10 : decode cX7_diluted 10 = .ok (.ireturn, 1) := by decide +kernel
theorem dX7_diluted_11 : decode cX7_diluted 11 = .ok (.iload_n 1, 1) := by decide +kernel
theorem dX7_diluted_12 : decode cX7_diluted 12 = .ok (.invokestatic 104, 3) := by decide +kernel
theorem dX7_diluted_15 : decode cX7_diluted 15 = .ok (.ifCond .ne 5, 3) := by decide +kernel
theorem dX7_diluted_18 : decode cX7_diluted 18 = .ok (.iconst (-1), 1) := by decide +kernel
theorem dX7_diluted_19 : decode cX7_diluted 19 = .ok (.ireturn, 1) := by decide +kernel
theorem dX7_diluted_20 : decode cX7_diluted 20 = .ok (.aload_n 0, 1) := by decide +kernel
theorem dX7_diluted_21 : decode cX7_diluted 21 = .ok (.getfield 54, 3) := by decide +kernel
theorem dX7_diluted_24 : decode cX7_diluted 24 = .ok (.aload_n 0, 1) := by decide +kernel
theorem dX7_diluted_25 : decode cX7_diluted 25 = .ok (.getfield 12, 3) := by decide +kernel
theorem dX7_diluted_28 : decode cX7_diluted 28 = .ok (.aload_n 0, 1) := by decide +kernel
theorem dX7_diluted_29 : decode cX7_diluted 29 = .ok (.getfield 47, 3) := by decide +kernel
theorem dX7_diluted_32 : decode cX7_diluted 32 = .ok (.invokevirtual 164, 3) := by decide +kernel
theorem dX7_diluted_35 : decode cX7_diluted 35 = .ok (.istore_n 3, 1) := by decide +kernel
theorem dX7_diluted_36 : decode cX7_diluted 36 = .ok (.iload_n 3, 1) := by decide +kernel
theorem dX7_diluted_37 : decode cX7_diluted 37 = .ok (.ifCond .ge 5, 3) := by decide +kernel
theorem dX7_diluted_40 : decode cX7_diluted 40 = .ok (.iload_n 3, 1) := by decide +kernel
theorem dX7_diluted_41 : decode cX7_diluted 41 = .ok (.ireturn, 1) := by decide +kernel
theorem dX7_diluted_42 : decode cX7_diluted 42 = .ok (.aload_n 0, 1) := by decide +kernel
theorem dX7_diluted_43 : decode cX7_diluted 43 = .ok (.getfield 54, 3) := by decide +kernel
theorem dX7_diluted_46 : decode cX7_diluted 46 = .ok (.getfield 168, 3) := by decide +kernel
theorem dX7_diluted_49 : decode cX7_diluted 49 = .ok (.iload_n 1, 1) := by decide +kernel
theorem dX7_diluted_50 : decode cX7_diluted 50 = .ok (.invokevirtual 138, 3) := by decide +kernel
theorem dX7_diluted_53 : decode cX7_diluted 53 = .ok (.lstore 4, 2) := by decide +kernel
theorem dX7_diluted_55 : decode cX7_diluted 55 = .ok (.aload_n 0, 1) := by decide +kernel
theorem dX7_diluted_56 : decode cX7_diluted 56 = .ok (.getfield 40, 3) := by decide +kernel
theorem dX7_diluted_59 : decode cX7_diluted 59 = .ok (.invokevirtual 184, 3) := by decide +kernel
theorem dX7_diluted_62 : decode cX7_diluted 62 = .ok (.aload_n 0, 1) := by decide +kernel
theorem dX7_diluted_63 : decode cX7_diluted 63 = .ok (.getfield 40, 3) := by decide +kernel
theorem dX7_diluted_66 : decode cX7_diluted 66 = .ok (.ldc2_w 185, 3) := by decide +kernel
theorem dX7_diluted_69 : decode cX7_diluted 69 = .ok (.aload_n 0, 1) := by decide +kernel
theorem dX7_diluted_70 : decode cX7_diluted 70 = .ok (.getfield 12, 3) := by decide +kernel
theorem dX7_diluted_73 : decode cX7_diluted 73 = .ok (.iload_n 1, 1) := by decide +kernel
theorem dX7_diluted_74 : decode cX7_diluted 74 = .ok (.invokevirtual 138, 3) := by decide +kernel
theorem dX7_diluted_77 : decode cX7_diluted 77 = .ok (.lmul, 1) := by decide +kernel
theorem dX7_diluted_78 : decode cX7_diluted 78 = .ok (.aload_n 0, 1) := by decide +kernel
theorem dX7_diluted_79 : decode cX7_diluted 79 = .ok (.getfield 12, 3) := by decide +kernel
theorem dX7_diluted_82 : decode cX7_diluted 82 = .ok (.invokevirtual 100, 3) := by decide +kernel
theorem dX7_diluted_85 : decode cX7_diluted 85 = .ok (.invokestatic 187, 3) := by decide +kernel
theorem dX7_diluted_88 : decode cX7_diluted 88 = .ok (.invokevirtual 181, 3) := by decide +kernel
theorem dX7_diluted_91 : decode cX7_diluted 91 = .ok (.aload_n 0, 1) := by decide +kernel
theorem dX7_diluted_92 : decode cX7_diluted 92 = .ok (.getfield 40, 3) := by decide +kernel
theorem dX7_diluted_95 : decode cX7_diluted 95 = .ok (.lload 4, 2) := by decide +kernel
theorem dX7_diluted_97 : decode cX7_diluted 97 = .ok (.invokevirtual 181, 3) := by decide +kernel
theorem dX7_diluted_100 : decode cX7_diluted 100 = .ok (.ldc2_w 185, 3) := by decide +kernel
theorem dX7_diluted_103 : decode cX7_diluted 103 = .ok (.lload 4, 2) := by decide +kernel
theorem dX7_diluted_105 : decode cX7_diluted 105 = .ok (.lmul, 1) := by decide +kernel
theorem dX7_diluted_106 : decode cX7_diluted 106 = .ok (.aload_n 0, 1) := by decide +kernel
theorem dX7_diluted_107 : decode cX7_diluted 107 = .ok (.getfield 54, 3) := by decide +kernel
theorem dX7_diluted_110 : decode cX7_diluted 110 = .ok (.getfield 191, 3) := by decide +kernel
theorem dX7_diluted_113 : decode cX7_diluted 113 = .ok (.invokestatic 187, 3) := by decide +kernel
theorem dX7_diluted_116 : decode cX7_diluted 116 = .ok (.l2i, 1) := by decide +kernel
theorem dX7_diluted_117 : decode cX7_diluted 117 = .ok (.ireturn, 1) := by decide +kernel
theorem dX7_threatens_0 : decode cX7_threatens 0 = .ok (.aload_n 0, 1) := by decide +kernel
theorem dX7_threatens_1 : decode cX7_threatens 1 = .ok (.invokevirtual 161, 3) := by decide +kernel
theorem dX7_threatens_4 : decode cX7_threatens 4 = .ok (.istore_n 1, 1) := by decide +kernel
theorem dX7_threatens_5 : decode cX7_threatens 5 = .ok (.iload_n 1, 1) := by decide +kernel
theorem dX7_threatens_6 : decode cX7_threatens 6 = .ok (.ifCond .ge 5, 3) := by decide +kernel
theorem dX7_threatens_9 : decode cX7_threatens 9 = .ok (.iload_n 1, 1) := by decide +kernel
theorem dX7_threatens_10 : decode cX7_threatens 10 = .ok (.ireturn, 1) := by decide +kernel
theorem dX7_threatens_11 : decode cX7_threatens 11 = .ok (.aload_n 0, 1) := by decide +kernel
theorem dX7_threatens_12 : decode cX7_threatens 12 = .ok (.getfield 54, 3) := by decide +kernel
theorem dX7_threatens_15 : decode cX7_threatens 15 = .ok (.aload_n 0, 1) := by decide +kernel
theorem dX7_threatens_16 : decode cX7_threatens 16 = .ok (.getfield 12, 3) := by decide +kernel
theorem dX7_threatens_19 : decode cX7_threatens 19 = .ok (.aload_n 0, 1) := by decide +kernel
theorem dX7_threatens_20 : decode cX7_threatens 20 = .ok (.getfield 47, 3) := by decide +kernel
theorem dX7_threatens_23 : decode cX7_threatens 23 = .ok (.invokevirtual 195, 3) := by decide +kernel
theorem dX7_threatens_26 : decode cX7_threatens 26 = .ok (.aload_n 0, 1) := by decide +kernel
theorem dX7_threatens_27 : decode cX7_threatens 27 = .ok (.getfield 40, 3) := by decide +kernel
theorem dX7_threatens_30 : decode cX7_threatens 30 = .ok (.invokevirtual 184, 3) := by decide +kernel
theorem dX7_threatens_33 : decode cX7_threatens 33 = .ok (.iconst 1, 1) := by decide +kernel
theorem dX7_threatens_34 : decode cX7_threatens 34 = .ok (.istore_n 2, 1) := by decide +kernel
theorem dX7_threatens_35 : decode cX7_threatens 35 = .ok (.iload_n 2, 1) := by decide +kernel
theorem dX7_threatens_36 : decode cX7_threatens 36 = .ok (.aload_n 0, 1) := by decide +kernel
theorem dX7_threatens_37 : decode cX7_threatens 37 = .ok (.getfield 12, 3) := by decide +kernel
theorem dX7_threatens_40 : decode cX7_threatens 40 = .ok (.invokevirtual 135, 3) := by decide +kernel
theorem dX7_threatens_43 : decode cX7_threatens 43 = .ok (.if_icmp .ge 25, 3) := by decide +kernel
theorem dX7_threatens_46 : decode cX7_threatens 46 = .ok (.aload_n 0, 1) := by decide +kernel
theorem dX7_threatens_47 : decode cX7_threatens 47 = .ok (.getfield 40, 3) := by decide +kernel
theorem dX7_threatens_50 : decode cX7_threatens 50 = .ok (.aload_n 0, 1) := by decide +kernel
theorem dX7_threatens_51 : decode cX7_threatens 51 = .ok (.getfield 54, 3) := by decide +kernel
theorem dX7_threatens_54 : decode cX7_threatens 54 = .ok (.getfield 199, 3) := by decide +kernel
theorem dX7_threatens_57 : decode cX7_threatens 57 = .ok (.iload_n 2, 1) := by decide +kernel
theorem dX7_threatens_58 : decode cX7_threatens 58 = .ok (.laload, 1) := by decide +kernel
theorem dX7_threatens_59 : decode cX7_threatens 59 = .ok (.invokevirtual 181, 3) := by decide +kernel
theorem dX7_threatens_62 : decode cX7_threatens 62 = .ok (.iinc 2 1, 3) := by decide +kernel
theorem dX7_threatens_65 : decode cX7_threatens 65 = .ok (.goto (-30), 3) := by decide +kernel
theorem dX7_threatens_68 : decode cX7_threatens 68 = .ok (.aload_n 0, 1) := by decide +kernel
theorem dX7_threatens_69 : decode cX7_threatens 69 = .ok (.getfield 54, 3) := by decide +kernel
theorem dX7_threatens_72 : decode cX7_threatens 72 = .ok (.getfield 202, 3) := by decide +kernel
theorem dX7_threatens_75 : decode cX7_threatens 75 = .ok (.ireturn, 1) := by decide +kernel
theorem dX7_sweep_0 : decode cX7_sweep 0 = .ok (.aload_n 0, 1) := by decide +kernel
theorem dX7_sweep_1 : decode cX7_sweep 1 = .ok (.invokevirtual 161, 3) := by decide +kernel
theorem dX7_sweep_4 : decode cX7_sweep 4 = .ok (.istore_n 2, 1) := by decide +kernel
theorem dX7_sweep_5 : decode cX7_sweep 5 = .ok (.iload_n 2, 1) := by decide +kernel
theorem dX7_sweep_6 : decode cX7_sweep 6 = .ok (.ifCond .ge 5, 3) := by decide +kernel
theorem dX7_sweep_9 : decode cX7_sweep 9 = .ok (.iload_n 2, 1) := by decide +kernel
theorem dX7_sweep_10 : decode cX7_sweep 10 = .ok (.ireturn, 1) := by decide +kernel
theorem dX7_sweep_11 : decode cX7_sweep 11 = .ok (.iload_n 1, 1) := by decide +kernel
theorem dX7_sweep_12 : decode cX7_sweep 12 = .ok (.ldc2_w 206, 3) := by decide +kernel
theorem dX7_sweep_15 : decode cX7_sweep 15 = .ok (.invokestatic 208, 3) := by decide +kernel
theorem dX7_sweep_18 : decode cX7_sweep 18 = .ok (.ifCond .ne 5, 3) := by decide +kernel
theorem dX7_sweep_21 : decode cX7_sweep 21 = .ok (.iconst (-1), 1) := by decide +kernel
theorem dX7_sweep_22 : decode cX7_sweep 22 = .ok (.ireturn, 1) := by decide +kernel
theorem dX7_sweep_23 : decode cX7_sweep 23 = .ok (.aload_n 0, 1) := by decide +kernel
theorem dX7_sweep_24 : decode cX7_sweep 24 = .ok (.getfield 47, 3) := by decide +kernel
theorem dX7_sweep_27 : decode cX7_sweep 27 = .ok (.getfield 212, 3) := by decide +kernel
theorem dX7_sweep_30 : decode cX7_sweep 30 = .ok (.lstore_n 3, 1) := by decide +kernel
theorem dX7_sweep_31 : decode cX7_sweep 31 = .ok (.iconst 0, 1) := by decide +kernel
theorem dX7_sweep_32 : decode cX7_sweep 32 = .ok (.istore 5, 2) := by decide +kernel
theorem dX7_sweep_34 : decode cX7_sweep 34 = .ok (.aload_n 0, 1) := by decide +kernel
theorem dX7_sweep_35 : decode cX7_sweep 35 = .ok (.getfield 40, 3) := by decide +kernel
theorem dX7_sweep_38 : decode cX7_sweep 38 = .ok (.invokevirtual 184, 3) := by decide +kernel
theorem dX7_sweep_41 : decode cX7_sweep 41 = .ok (.iconst 0, 1) := by decide +kernel
theorem dX7_sweep_42 : decode cX7_sweep 42 = .ok (.istore 6, 2) := by decide +kernel
theorem dX7_sweep_44 : decode cX7_sweep 44 = .ok (.iload 6, 2) := by decide +kernel
theorem dX7_sweep_46 : decode cX7_sweep 46 = .ok (.bipush 8, 2) := by decide +kernel
theorem dX7_sweep_48 : decode cX7_sweep 48 = .ok (.if_icmp .ge 59, 3) := by decide +kernel
theorem dX7_sweep_51 : decode cX7_sweep 51 = .ok (.aload_n 0, 1) := by decide +kernel
theorem dX7_sweep_52 : decode cX7_sweep 52 = .ok (.getfield 47, 3) := by decide +kernel
theorem dX7_sweep_55 : decode cX7_sweep 55 = .ok (.lload_n 3, 1) := by decide +kernel
theorem dX7_sweep_56 : decode cX7_sweep 56 = .ok (.iload 6, 2) := by decide +kernel
theorem dX7_sweep_58 : decode cX7_sweep 58 = .ok (.i2l, 1) := by decide +kernel
theorem dX7_sweep_59 : decode cX7_sweep 59 = .ok (.iload_n 1, 1) := by decide +kernel
theorem dX7_sweep_60 : decode cX7_sweep 60 = .ok (.i2l, 1) := by decide +kernel
theorem dX7_sweep_61 : decode cX7_sweep 61 = .ok (.lmul, 1) := by decide +kernel
theorem dX7_sweep_62 : decode cX7_sweep 62 = .ok (.ladd, 1) := by decide +kernel
theorem dX7_sweep_63 : decode cX7_sweep 63 = .ok (.putfield 212, 3) := by decide +kernel
theorem dX7_sweep_66 : decode cX7_sweep 66 = .ok (.aload_n 0, 1) := by decide +kernel
theorem dX7_sweep_67 : decode cX7_sweep 67 = .ok (.getfield 54, 3) := by decide +kernel
theorem dX7_sweep_70 : decode cX7_sweep 70 = .ok (.aload_n 0, 1) := by decide +kernel
theorem dX7_sweep_71 : decode cX7_sweep 71 = .ok (.getfield 12, 3) := by decide +kernel
theorem dX7_sweep_74 : decode cX7_sweep 74 = .ok (.aload_n 0, 1) := by decide +kernel
theorem dX7_sweep_75 : decode cX7_sweep 75 = .ok (.getfield 47, 3) := by decide +kernel
theorem dX7_sweep_78 : decode cX7_sweep 78 = .ok (.invokevirtual 164, 3) := by decide +kernel
theorem dX7_sweep_81 : decode cX7_sweep 81 = .ok (.istore 7, 2) := by decide +kernel
theorem dX7_sweep_83 : decode cX7_sweep 83 = .ok (.aload_n 0, 1) := by decide +kernel
theorem dX7_sweep_84 : decode cX7_sweep 84 = .ok (.getfield 40, 3) := by decide +kernel
theorem dX7_sweep_87 : decode cX7_sweep 87 = .ok (.iload 7, 2) := by decide +kernel
theorem dX7_sweep_89 : decode cX7_sweep 89 = .ok (.i2l, 1) := by decide +kernel
theorem dX7_sweep_90 : decode cX7_sweep 90 = .ok (.invokevirtual 181, 3) := by decide +kernel
theorem dX7_sweep_93 : decode cX7_sweep 93 = .ok (.iload 7, 2) := by decide +kernel
theorem dX7_sweep_95 : decode cX7_sweep 95 = .ok (.ifCond .le 6, 3) := by decide +kernel
theorem dX7_sweep_98 : decode cX7_sweep 98 = .ok (.iinc 5 1, 3) := by decide +kernel
theorem dX7_sweep_101 : decode cX7_sweep 101 = .ok (.iinc 6 1, 3) := by decide +kernel
theorem dX7_sweep_104 : decode cX7_sweep 104 = .ok (.goto (-60), 3) := by decide +kernel
theorem dX7_sweep_107 : decode cX7_sweep 107 = .ok (.iload 5, 2) := by decide +kernel
theorem dX7_sweep_109 : decode cX7_sweep 109 = .ok (.ireturn, 1) := by decide +kernel
theorem dX7_ratchets_0 : decode cX7_ratchets 0 = .ok (.aload_n 0, 1) := by decide +kernel
theorem dX7_ratchets_1 : decode cX7_ratchets 1 = .ok (.invokevirtual 161, 3) := by decide +kernel
theorem dX7_ratchets_4 : decode cX7_ratchets 4 = .ok (.istore_n 1, 1) := by decide +kernel
theorem dX7_ratchets_5 : decode cX7_ratchets 5 = .ok (.iload_n 1, 1) := by decide +kernel
theorem dX7_ratchets_6 : decode cX7_ratchets 6 = .ok (.ifCond .ge 5, 3) := by decide +kernel
theorem dX7_ratchets_9 : decode cX7_ratchets 9 = .ok (.iload_n 1, 1) := by decide +kernel
theorem dX7_ratchets_10 : decode cX7_ratchets 10 = .ok (.ireturn, 1) := by decide +kernel
theorem dX7_ratchets_11 : decode cX7_ratchets 11 = .ok (.iconst 0, 1) := by decide +kernel
theorem dX7_ratchets_12 : decode cX7_ratchets 12 = .ok (.istore_n 2, 1) := by decide +kernel
theorem dX7_ratchets_13 : decode cX7_ratchets 13 = .ok (.aload_n 0, 1) := by decide +kernel
theorem dX7_ratchets_14 : decode cX7_ratchets 14 = .ok (.getfield 40, 3) := by decide +kernel
theorem dX7_ratchets_17 : decode cX7_ratchets 17 = .ok (.invokevirtual 184, 3) := by decide +kernel
theorem dX7_ratchets_20 : decode cX7_ratchets 20 = .ok (.iconst 0, 1) := by decide +kernel
theorem dX7_ratchets_21 : decode cX7_ratchets 21 = .ok (.istore_n 3, 1) := by decide +kernel
theorem dX7_ratchets_22 : decode cX7_ratchets 22 = .ok (.iload_n 3, 1) := by decide +kernel
theorem dX7_ratchets_23 : decode cX7_ratchets 23 = .ok (.iconst 3, 1) := by decide +kernel
theorem dX7_ratchets_24 : decode cX7_ratchets 24 = .ok (.if_icmp .gt 76, 3) := by decide +kernel
theorem dX7_ratchets_27 : decode cX7_ratchets 27 = .ok (.aload_n 0, 1) := by decide +kernel
theorem dX7_ratchets_28 : decode cX7_ratchets 28 = .ok (.getfield 54, 3) := by decide +kernel
theorem dX7_ratchets_31 : decode cX7_ratchets 31 = .ok (.aload_n 0, 1) := by decide +kernel
theorem dX7_ratchets_32 : decode cX7_ratchets 32 = .ok (.getfield 12, 3) := by decide +kernel
theorem dX7_ratchets_35 : decode cX7_ratchets 35 = .ok (.aload_n 0, 1) := by decide +kernel
theorem dX7_ratchets_36 : decode cX7_ratchets 36 = .ok (.getfield 47, 3) := by decide +kernel
theorem dX7_ratchets_39 : decode cX7_ratchets 39 = .ok (.invokevirtual 195, 3) := by decide +kernel
theorem dX7_ratchets_42 : decode cX7_ratchets 42 = .ok (.aload_n 0, 1) := by decide +kernel
theorem dX7_ratchets_43 : decode cX7_ratchets 43 = .ok (.getfield 54, 3) := by decide +kernel
theorem dX7_ratchets_46 : decode cX7_ratchets 46 = .ok (.iload_n 3, 1) := by decide +kernel
theorem dX7_ratchets_47 : decode cX7_ratchets 47 = .ok (.invokevirtual 215, 3) := by decide +kernel
theorem dX7_ratchets_50 : decode cX7_ratchets 50 = .ok (.aload_n 0, 1) := by decide +kernel
theorem dX7_ratchets_51 : decode cX7_ratchets 51 = .ok (.getfield 54, 3) := by decide +kernel
theorem dX7_ratchets_54 : decode cX7_ratchets 54 = .ok (.aload_n 0, 1) := by decide +kernel
theorem dX7_ratchets_55 : decode cX7_ratchets 55 = .ok (.getfield 47, 3) := by decide +kernel
theorem dX7_ratchets_58 : decode cX7_ratchets 58 = .ok (.invokevirtual 218, 3) := by decide +kernel
theorem dX7_ratchets_61 : decode cX7_ratchets 61 = .ok (.istore 4, 2) := by decide +kernel
theorem dX7_ratchets_63 : decode cX7_ratchets 63 = .ok (.iload 4, 2) := by decide +kernel
theorem dX7_ratchets_65 : decode cX7_ratchets 65 = .ok (.ifCond .le 19, 3) := by decide +kernel
theorem dX7_ratchets_68 : decode cX7_ratchets 68 = .ok (.aload_n 0, 1) := by decide +kernel
theorem dX7_ratchets_69 : decode cX7_ratchets 69 = .ok (.getfield 40, 3) := by decide +kernel
theorem dX7_ratchets_72 : decode cX7_ratchets 72 = .ok (.iload 4, 2) := by decide +kernel
theorem dX7_ratchets_74 : decode cX7_ratchets 74 = .ok (.i2l, 1) := by decide +kernel
theorem dX7_ratchets_75 : decode cX7_ratchets 75 = .ok (.invokevirtual 222, 3) := by decide +kernel
theorem dX7_ratchets_78 : decode cX7_ratchets 78 = .ok (.ifCond .ne 6, 3) := by decide +kernel
theorem dX7_ratchets_81 : decode cX7_ratchets 81 = .ok (.iinc 2 1, 3) := by decide +kernel
theorem dX7_ratchets_84 : decode cX7_ratchets 84 = .ok (.aload_n 0, 1) := by decide +kernel
theorem dX7_ratchets_85 : decode cX7_ratchets 85 = .ok (.getfield 40, 3) := by decide +kernel
theorem dX7_ratchets_88 : decode cX7_ratchets 88 = .ok (.iload 4, 2) := by decide +kernel
theorem dX7_ratchets_90 : decode cX7_ratchets 90 = .ok (.i2l, 1) := by decide +kernel
theorem dX7_ratchets_91 : decode cX7_ratchets 91 = .ok (.invokevirtual 181, 3) := by decide +kernel
theorem dX7_ratchets_94 : decode cX7_ratchets 94 = .ok (.iinc 3 1, 3) := by decide +kernel
theorem dX7_ratchets_97 : decode cX7_ratchets 97 = .ok (.goto (-75), 3) := by decide +kernel
theorem dX7_ratchets_100 : decode cX7_ratchets 100 = .ok (.iload_n 2, 1) := by decide +kernel
theorem dX7_ratchets_101 : decode cX7_ratchets 101 = .ok (.ireturn, 1) := by decide +kernel
theorem dX7_ratchet_0 : decode cX7_ratchet 0 = .ok (.aload_n 0, 1) := by decide +kernel
theorem dX7_ratchet_1 : decode cX7_ratchet 1 = .ok (.iload_n 1, 1) := by decide +kernel
theorem dX7_ratchet_2 : decode cX7_ratchet 2 = .ok (.invokevirtual 145, 3) := by decide +kernel
theorem dX7_ratchet_5 : decode cX7_ratchet 5 = .ok (.ifCond .eq 34, 3) := by decide +kernel
theorem dX7_ratchet_8 : decode cX7_ratchet 8 = .ok (.iload_n 2, 1) := by decide +kernel
theorem dX7_ratchet_9 : decode cX7_ratchet 9 = .ok (.ldc2_w 206, 3) := by decide +kernel
theorem dX7_ratchet_12 : decode cX7_ratchet 12 = .ok (.invokestatic 208, 3) := by decide +kernel
theorem dX7_ratchet_15 : decode cX7_ratchet 15 = .ok (.ifCond .eq 24, 3) := by decide +kernel
theorem dX7_ratchet_18 : decode cX7_ratchet 18 = .ok (.iload_n 3, 1) := by decide +kernel
theorem dX7_ratchet_19 : decode cX7_ratchet 19 = .ok (.ldc2_w 206, 3) := by decide +kernel
theorem dX7_ratchet_22 : decode cX7_ratchet 22 = .ok (.invokestatic 208, 3) := by decide +kernel
theorem dX7_ratchet_25 : decode cX7_ratchet 25 = .ok (.ifCond .eq 14, 3) := by decide +kernel
theorem dX7_ratchet_28 : decode cX7_ratchet 28 = .ok (.iload 4, 2) := by decide +kernel
theorem dX7_ratchet_30 : decode cX7_ratchet 30 = .ok (.ldc2_w 226, 3) := by decide +kernel
theorem dX7_ratchet_33 : decode cX7_ratchet 33 = .ok (.invokestatic 208, 3) := by decide +kernel
theorem dX7_ratchet_36 : decode cX7_ratchet 36 = .ok (.ifCond .ne 5, 3) := by decide +kernel
theorem dX7_ratchet_39 : decode cX7_ratchet 39 = .ok (.iconst (-1), 1) := by decide +kernel
theorem dX7_ratchet_40 : decode cX7_ratchet 40 = .ok (.ireturn, 1) := by decide +kernel
theorem dX7_ratchet_41 : decode cX7_ratchet 41 = .ok (.aload_n 0, 1) := by decide +kernel
theorem dX7_ratchet_42 : decode cX7_ratchet 42 = .ok (.getfield 12, 3) := by decide +kernel
theorem dX7_ratchet_45 : decode cX7_ratchet 45 = .ok (.iload_n 1, 1) := by decide +kernel
theorem dX7_ratchet_46 : decode cX7_ratchet 46 = .ok (.iconst 2, 1) := by decide +kernel
theorem dX7_ratchet_47 : decode cX7_ratchet 47 = .ok (.invokevirtual 155, 3) := by decide +kernel
theorem dX7_ratchet_50 : decode cX7_ratchet 50 = .ok (.lstore 5, 2) := by decide +kernel
theorem dX7_ratchet_52 : decode cX7_ratchet 52 = .ok (.lload 5, 2) := by decide +kernel
theorem dX7_ratchet_54 : decode cX7_ratchet 54 = .ok (.ldc2_w 228, 3) := by decide +kernel
theorem dX7_ratchet_57 : decode cX7_ratchet 57 = .ok (.lcmp, 1) := by decide +kernel
theorem dX7_ratchet_58 : decode cX7_ratchet 58 = .ok (.ifCond .ne 13, 3) := by decide +kernel
theorem dX7_ratchet_61 : decode cX7_ratchet 61 = .ok (.aload_n 0, 1) := by decide +kernel
theorem dX7_ratchet_62 : decode cX7_ratchet 62 = .ok (.getfield 12, 3) := by decide +kernel
theorem dX7_ratchet_65 : decode cX7_ratchet 65 = .ok (.invokevirtual 230, 3) := by decide +kernel
theorem dX7_ratchet_68 : decode cX7_ratchet 68 = .ok (.goto 10, 3) := by decide +kernel
theorem dX7_ratchet_71 : decode cX7_ratchet 71 = .ok (.aload_n 0, 1) := by decide +kernel
theorem dX7_ratchet_72 : decode cX7_ratchet 72 = .ok (.getfield 12, 3) := by decide +kernel
theorem dX7_ratchet_75 : decode cX7_ratchet 75 = .ok (.invokevirtual 100, 3) := by decide +kernel
theorem dX7_ratchet_78 : decode cX7_ratchet 78 = .ok (.lstore 7, 2) := by decide +kernel
theorem dX7_ratchet_80 : decode cX7_ratchet 80 = .ok (.aload_n 0, 1) := by decide +kernel
theorem dX7_ratchet_81 : decode cX7_ratchet 81 = .ok (.getfield 12, 3) := by decide +kernel
theorem dX7_ratchet_84 : decode cX7_ratchet 84 = .ok (.iload_n 1, 1) := by decide +kernel
theorem dX7_ratchet_85 : decode cX7_ratchet 85 = .ok (.iconst 1, 1) := by decide +kernel
theorem dX7_ratchet_86 : decode cX7_ratchet 86 = .ok (.invokevirtual 155, 3) := by decide +kernel
theorem dX7_ratchet_89 : decode cX7_ratchet 89 = .ok (.lload 5, 2) := by decide +kernel
theorem dX7_ratchet_91 : decode cX7_ratchet 91 = .ok (.iload_n 2, 1) := by decide +kernel
theorem dX7_ratchet_92 : decode cX7_ratchet 92 = .ok (.i2l, 1) := by decide +kernel
theorem dX7_ratchet_93 : decode cX7_ratchet 93 = .ok (.iload_n 3, 1) := by decide +kernel
theorem dX7_ratchet_94 : decode cX7_ratchet 94 = .ok (.i2l, 1) := by decide +kernel
theorem dX7_ratchet_95 : decode cX7_ratchet 95 = .ok (.iload 4, 2) := by decide +kernel
theorem dX7_ratchet_97 : decode cX7_ratchet 97 = .ok (.i2l, 1) := by decide +kernel
theorem dX7_ratchet_98 : decode cX7_ratchet 98 = .ok (.lload 7, 2) := by decide +kernel
theorem dX7_ratchet_100 : decode cX7_ratchet 100 = .ok (.invokestatic 233, 3) := by decide +kernel
theorem dX7_ratchet_103 : decode cX7_ratchet 103 = .ok (.l2i, 1) := by decide +kernel
theorem dX7_ratchet_104 : decode cX7_ratchet 104 = .ok (.ireturn, 1) := by decide +kernel
theorem dX7_shares_0 : decode cX7_shares 0 = .ok (.iload_n 1, 1) := by decide +kernel
theorem dX7_shares_1 : decode cX7_shares 1 = .ok (.invokestatic 104, 3) := by decide +kernel
theorem dX7_shares_4 : decode cX7_shares 4 = .ok (.ifCond .eq 11, 3) := by decide +kernel
theorem dX7_shares_7 : decode cX7_shares 7 = .ok (.aload_n 0, 1) := by decide +kernel
theorem dX7_shares_8 : decode cX7_shares 8 = .ok (.iload_n 2, 1) := by decide +kernel
theorem dX7_shares_9 : decode cX7_shares 9 = .ok (.invokevirtual 110, 3) := by decide +kernel
theorem dX7_shares_12 : decode cX7_shares 12 = .ok (.ifCond .ne 5, 3) := by decide +kernel
theorem dX7_shares_15 : decode cX7_shares 15 = .ok (.iconst (-1), 1) := by decide +kernel
theorem dX7_shares_16 : decode cX7_shares 16 = .ok (.ireturn, 1) := by decide +kernel
theorem dX7_shares_17 : decode cX7_shares 17 = .ok (.aload_n 0, 1) := by decide +kernel
theorem dX7_shares_18 : decode cX7_shares 18 = .ok (.getfield 12, 3) := by decide +kernel
theorem dX7_shares_21 : decode cX7_shares 21 = .ok (.iload_n 1, 1) := by decide +kernel
theorem dX7_shares_22 : decode cX7_shares 22 = .ok (.iload_n 2, 1) := by decide +kernel
theorem dX7_shares_23 : decode cX7_shares 23 = .ok (.invokevirtual 113, 3) := by decide +kernel
theorem dX7_shares_26 : decode cX7_shares 26 = .ok (.l2i, 1) := by decide +kernel
theorem dX7_shares_27 : decode cX7_shares 27 = .ok (.ireturn, 1) := by decide +kernel
theorem dX7_options_0 : decode cX7_options 0 = .ok (.iload_n 1, 1) := by decide +kernel
theorem dX7_options_1 : decode cX7_options 1 = .ok (.invokestatic 104, 3) := by decide +kernel
theorem dX7_options_4 : decode cX7_options 4 = .ok (.ifCond .ne 5, 3) := by decide +kernel
theorem dX7_options_7 : decode cX7_options 7 = .ok (.iconst (-1), 1) := by decide +kernel
theorem dX7_options_8 : decode cX7_options 8 = .ok (.ireturn, 1) := by decide +kernel
theorem dX7_options_9 : decode cX7_options 9 = .ok (.aload_n 0, 1) := by decide +kernel
theorem dX7_options_10 : decode cX7_options 10 = .ok (.getfield 12, 3) := by decide +kernel
theorem dX7_options_13 : decode cX7_options 13 = .ok (.iload_n 1, 1) := by decide +kernel
theorem dX7_options_14 : decode cX7_options 14 = .ok (.invokevirtual 128, 3) := by decide +kernel
theorem dX7_options_17 : decode cX7_options 17 = .ok (.l2i, 1) := by decide +kernel
theorem dX7_options_18 : decode cX7_options 18 = .ok (.ireturn, 1) := by decide +kernel
theorem dX7_stake_0 : decode cX7_stake 0 = .ok (.iload_n 1, 1) := by decide +kernel
theorem dX7_stake_1 : decode cX7_stake 1 = .ok (.invokestatic 104, 3) := by decide +kernel
theorem dX7_stake_4 : decode cX7_stake 4 = .ok (.ifCond .ne 5, 3) := by decide +kernel
theorem dX7_stake_7 : decode cX7_stake 7 = .ok (.iconst (-1), 1) := by decide +kernel
theorem dX7_stake_8 : decode cX7_stake 8 = .ok (.ireturn, 1) := by decide +kernel
theorem dX7_stake_9 : decode cX7_stake 9 = .ok (.aload_n 0, 1) := by decide +kernel
theorem dX7_stake_10 : decode cX7_stake 10 = .ok (.getfield 12, 3) := by decide +kernel
theorem dX7_stake_13 : decode cX7_stake 13 = .ok (.iload_n 1, 1) := by decide +kernel
theorem dX7_stake_14 : decode cX7_stake 14 = .ok (.invokevirtual 138, 3) := by decide +kernel
theorem dX7_stake_17 : decode cX7_stake 17 = .ok (.lstore_n 2, 1) := by decide +kernel
theorem dX7_stake_18 : decode cX7_stake 18 = .ok (.aload_n 0, 1) := by decide +kernel
theorem dX7_stake_19 : decode cX7_stake 19 = .ok (.getfield 40, 3) := by decide +kernel
theorem dX7_stake_22 : decode cX7_stake 22 = .ok (.invokevirtual 184, 3) := by decide +kernel
theorem dX7_stake_25 : decode cX7_stake 25 = .ok (.aload_n 0, 1) := by decide +kernel
theorem dX7_stake_26 : decode cX7_stake 26 = .ok (.getfield 40, 3) := by decide +kernel
theorem dX7_stake_29 : decode cX7_stake 29 = .ok (.ldc2_w 185, 3) := by decide +kernel
theorem dX7_stake_32 : decode cX7_stake 32 = .ok (.lload_n 2, 1) := by decide +kernel
theorem dX7_stake_33 : decode cX7_stake 33 = .ok (.lmul, 1) := by decide +kernel
theorem dX7_stake_34 : decode cX7_stake 34 = .ok (.aload_n 0, 1) := by decide +kernel
theorem dX7_stake_35 : decode cX7_stake 35 = .ok (.getfield 12, 3) := by decide +kernel
theorem dX7_stake_38 : decode cX7_stake 38 = .ok (.invokevirtual 100, 3) := by decide +kernel
theorem dX7_stake_41 : decode cX7_stake 41 = .ok (.invokestatic 187, 3) := by decide +kernel
theorem dX7_stake_44 : decode cX7_stake 44 = .ok (.invokevirtual 181, 3) := by decide +kernel
theorem dX7_stake_47 : decode cX7_stake 47 = .ok (.aload_n 0, 1) := by decide +kernel
theorem dX7_stake_48 : decode cX7_stake 48 = .ok (.getfield 40, 3) := by decide +kernel
theorem dX7_stake_51 : decode cX7_stake 51 = .ok (.ldc2_w 185, 3) := by decide +kernel
theorem dX7_stake_54 : decode cX7_stake 54 = .ok (.aload_n 0, 1) := by decide +kernel
theorem dX7_stake_55 : decode cX7_stake 55 = .ok (.getfield 12, 3) := by decide +kernel
theorem dX7_stake_58 : decode cX7_stake 58 = .ok (.iload_n 1, 1) := by decide +kernel
theorem dX7_stake_59 : decode cX7_stake 59 = .ok (.invokevirtual 237, 3) := by decide +kernel
theorem dX7_stake_62 : decode cX7_stake 62 = .ok (.lmul, 1) := by decide +kernel
theorem dX7_stake_63 : decode cX7_stake 63 = .ok (.aload_n 0, 1) := by decide +kernel
theorem dX7_stake_64 : decode cX7_stake 64 = .ok (.getfield 12, 3) := by decide +kernel
theorem dX7_stake_67 : decode cX7_stake 67 = .ok (.invokevirtual 230, 3) := by decide +kernel
theorem dX7_stake_70 : decode cX7_stake 70 = .ok (.invokestatic 187, 3) := by decide +kernel
theorem dX7_stake_73 : decode cX7_stake 73 = .ok (.invokevirtual 181, 3) := by decide +kernel
theorem dX7_stake_76 : decode cX7_stake 76 = .ok (.lload_n 2, 1) := by decide +kernel
theorem dX7_stake_77 : decode cX7_stake 77 = .ok (.l2i, 1) := by decide +kernel
theorem dX7_stake_78 : decode cX7_stake 78 = .ok (.ireturn, 1) := by decide +kernel
theorem dX7_full_0 : decode cX7_full 0 = .ok (.aload_n 0, 1) := by decide +kernel
theorem dX7_full_1 : decode cX7_full 1 = .ok (.getfield 40, 3) := by decide +kernel
theorem dX7_full_4 : decode cX7_full 4 = .ok (.invokevirtual 184, 3) := by decide +kernel
theorem dX7_full_7 : decode cX7_full 7 = .ok (.iconst 0, 1) := by decide +kernel
theorem dX7_full_8 : decode cX7_full 8 = .ok (.istore_n 1, 1) := by decide +kernel
theorem dX7_full_9 : decode cX7_full 9 = .ok (.iload_n 1, 1) := by decide +kernel
theorem dX7_full_10 : decode cX7_full 10 = .ok (.aload_n 0, 1) := by decide +kernel
theorem dX7_full_11 : decode cX7_full 11 = .ok (.getfield 12, 3) := by decide +kernel
theorem dX7_full_14 : decode cX7_full 14 = .ok (.invokevirtual 135, 3) := by decide +kernel
theorem dX7_full_17 : decode cX7_full 17 = .ok (.if_icmp .ge 24, 3) := by decide +kernel
theorem dX7_full_20 : decode cX7_full 20 = .ok (.aload_n 0, 1) := by decide +kernel
theorem dX7_full_21 : decode cX7_full 21 = .ok (.getfield 40, 3) := by decide +kernel
theorem dX7_full_24 : decode cX7_full 24 = .ok (.aload_n 0, 1) := by decide +kernel
theorem dX7_full_25 : decode cX7_full 25 = .ok (.getfield 12, 3) := by decide +kernel
theorem dX7_full_28 : decode cX7_full 28 = .ok (.iload_n 1, 1) := by decide +kernel
theorem dX7_full_29 : decode cX7_full 29 = .ok (.invokevirtual 240, 3) := by decide +kernel
theorem dX7_full_32 : decode cX7_full 32 = .ok (.invokevirtual 181, 3) := by decide +kernel
theorem dX7_full_35 : decode cX7_full 35 = .ok (.iinc 1 1, 3) := by decide +kernel
theorem dX7_full_38 : decode cX7_full 38 = .ok (.goto (-29), 3) := by decide +kernel
theorem dX7_full_41 : decode cX7_full 41 = .ok (.aload_n 0, 1) := by decide +kernel
theorem dX7_full_42 : decode cX7_full 42 = .ok (.getfield 40, 3) := by decide +kernel
theorem dX7_full_45 : decode cX7_full 45 = .ok (.aload_n 0, 1) := by decide +kernel
theorem dX7_full_46 : decode cX7_full 46 = .ok (.getfield 12, 3) := by decide +kernel
theorem dX7_full_49 : decode cX7_full 49 = .ok (.invokevirtual 243, 3) := by decide +kernel
theorem dX7_full_52 : decode cX7_full 52 = .ok (.invokevirtual 181, 3) := by decide +kernel
theorem dX7_full_55 : decode cX7_full 55 = .ok (.aload_n 0, 1) := by decide +kernel
theorem dX7_full_56 : decode cX7_full 56 = .ok (.getfield 40, 3) := by decide +kernel
theorem dX7_full_59 : decode cX7_full 59 = .ok (.aload_n 0, 1) := by decide +kernel
theorem dX7_full_60 : decode cX7_full 60 = .ok (.getfield 12, 3) := by decide +kernel
theorem dX7_full_63 : decode cX7_full 63 = .ok (.invokevirtual 117, 3) := by decide +kernel
theorem dX7_full_66 : decode cX7_full 66 = .ok (.invokevirtual 181, 3) := by decide +kernel
theorem dX7_full_69 : decode cX7_full 69 = .ok (.aload_n 0, 1) := by decide +kernel
theorem dX7_full_70 : decode cX7_full 70 = .ok (.getfield 12, 3) := by decide +kernel
theorem dX7_full_73 : decode cX7_full 73 = .ok (.invokevirtual 100, 3) := by decide +kernel
theorem dX7_full_76 : decode cX7_full 76 = .ok (.l2i, 1) := by decide +kernel
theorem dX7_full_77 : decode cX7_full 77 = .ok (.ireturn, 1) := by decide +kernel
theorem dX7_type_0 : decode cX7_type 0 = .ok (.aload_n 0, 1) := by decide +kernel
theorem dX7_type_1 : decode cX7_type 1 = .ok (.iload_n 1, 1) := by decide +kernel
theorem dX7_type_2 : decode cX7_type 2 = .ok (.invokevirtual 110, 3) := by decide +kernel
theorem dX7_type_5 : decode cX7_type 5 = .ok (.ifCond .eq 13, 3) := by decide +kernel
theorem dX7_type_8 : decode cX7_type 8 = .ok (.iload_n 2, 1) := by decide +kernel
theorem dX7_type_9 : decode cX7_type 9 = .ok (.ifCond .lt 9, 3) := by decide +kernel
theorem dX7_type_12 : decode cX7_type 12 = .ok (.iload_n 2, 1) := by decide +kernel
theorem dX7_type_13 : decode cX7_type 13 = .ok (.bipush 7, 2) := by decide +kernel
theorem dX7_type_15 : decode cX7_type 15 = .ok (.if_icmp .le 5, 3) := by decide +kernel
theorem dX7_type_18 : decode cX7_type 18 = .ok (.iconst (-1), 1) := by decide +kernel
theorem dX7_type_19 : decode cX7_type 19 = .ok (.ireturn, 1) := by decide +kernel
theorem dX7_type_20 : decode cX7_type 20 = .ok (.iload_n 2, 1) := by decide +kernel
theorem dX7_type_21 : decode cX7_type 21 = .ok (.ifCond .ne 13, 3) := by decide +kernel
theorem dX7_type_24 : decode cX7_type 24 = .ok (.aload_n 0, 1) := by decide +kernel
theorem dX7_type_25 : decode cX7_type 25 = .ok (.getfield 12, 3) := by decide +kernel
theorem dX7_type_28 : decode cX7_type 28 = .ok (.iload_n 1, 1) := by decide +kernel
theorem dX7_type_29 : decode cX7_type 29 = .ok (.invokevirtual 246, 3) := by decide +kernel
theorem dX7_type_32 : decode cX7_type 32 = .ok (.l2i, 1) := by decide +kernel
theorem dX7_type_33 : decode cX7_type 33 = .ok (.ireturn, 1) := by decide +kernel
theorem dX7_type_34 : decode cX7_type 34 = .ok (.iload_n 2, 1) := by decide +kernel
theorem dX7_type_35 : decode cX7_type 35 = .ok (.bipush 7, 2) := by decide +kernel
theorem dX7_type_37 : decode cX7_type 37 = .ok (.if_icmp .ne 12, 3) := by decide +kernel
theorem dX7_type_40 : decode cX7_type 40 = .ok (.aload_n 0, 1) := by decide +kernel
theorem dX7_type_41 : decode cX7_type 41 = .ok (.getfield 12, 3) := by decide +kernel
theorem dX7_type_44 : decode cX7_type 44 = .ok (.iload_n 1, 1) := by decide +kernel
theorem dX7_type_45 : decode cX7_type 45 = .ok (.invokevirtual 249, 3) := by decide +kernel
theorem dX7_type_48 : decode cX7_type 48 = .ok (.ireturn, 1) := by decide +kernel
theorem dX7_type_49 : decode cX7_type 49 = .ok (.iload_n 1, 1) := by decide +kernel
theorem dX7_type_50 : decode cX7_type 50 = .ok (.ifCond .ne 7, 3) := by decide +kernel
theorem dX7_type_53 : decode cX7_type 53 = .ok (.iconst (-1), 1) := by decide +kernel
theorem dX7_type_54 : decode cX7_type 54 = .ok (.goto 15, 3) := by decide +kernel
theorem dX7_type_57 : decode cX7_type 57 = .ok (.aload_n 0, 1) := by decide +kernel
theorem dX7_type_58 : decode cX7_type 58 = .ok (.getfield 12, 3) := by decide +kernel
theorem dX7_type_61 : decode cX7_type 61 = .ok (.iload_n 1, 1) := by decide +kernel
theorem dX7_type_62 : decode cX7_type 62 = .ok (.iload_n 2, 1) := by decide +kernel
theorem dX7_type_63 : decode cX7_type 63 = .ok (.iconst 1, 1) := by decide +kernel
theorem dX7_type_64 : decode cX7_type 64 = .ok (.isub, 1) := by decide +kernel
theorem dX7_type_65 : decode cX7_type 65 = .ok (.invokevirtual 155, 3) := by decide +kernel
theorem dX7_type_68 : decode cX7_type 68 = .ok (.l2i, 1) := by decide +kernel
theorem dX7_type_69 : decode cX7_type 69 = .ok (.ireturn, 1) := by decide +kernel
theorem dX7_needs_0 : decode cX7_needs 0 = .ok (.iload_n 1, 1) := by decide +kernel
theorem dX7_needs_1 : decode cX7_needs 1 = .ok (.invokestatic 104, 3) := by decide +kernel
theorem dX7_needs_4 : decode cX7_needs 4 = .ok (.ifCond .eq 13, 3) := by decide +kernel
theorem dX7_needs_7 : decode cX7_needs 7 = .ok (.iload_n 2, 1) := by decide +kernel
theorem dX7_needs_8 : decode cX7_needs 8 = .ok (.ldc2_w 252, 3) := by decide +kernel
theorem dX7_needs_11 : decode cX7_needs 11 = .ok (.invokestatic 208, 3) := by decide +kernel
theorem dX7_needs_14 : decode cX7_needs 14 = .ok (.ifCond .ne 5, 3) := by decide +kernel
theorem dX7_needs_17 : decode cX7_needs 17 = .ok (.iconst (-1), 1) := by decide +kernel
theorem dX7_needs_18 : decode cX7_needs 18 = .ok (.ireturn, 1) := by decide +kernel
theorem dX7_needs_19 : decode cX7_needs 19 = .ok (.aload_n 0, 1) := by decide +kernel
theorem dX7_needs_20 : decode cX7_needs 20 = .ok (.getfield 12, 3) := by decide +kernel
theorem dX7_needs_23 : decode cX7_needs 23 = .ok (.invokevirtual 100, 3) := by decide +kernel
theorem dX7_needs_26 : decode cX7_needs 26 = .ok (.lstore_n 3, 1) := by decide +kernel
theorem dX7_needs_27 : decode cX7_needs 27 = .ok (.iload_n 2, 1) := by decide +kernel
theorem dX7_needs_28 : decode cX7_needs 28 = .ok (.i2l, 1) := by decide +kernel
theorem dX7_needs_29 : decode cX7_needs 29 = .ok (.aload_n 0, 1) := by decide +kernel
theorem dX7_needs_30 : decode cX7_needs 30 = .ok (.getfield 12, 3) := by decide +kernel
theorem dX7_needs_33 : decode cX7_needs 33 = .ok (.iload_n 1, 1) := by decide +kernel
theorem dX7_needs_34 : decode cX7_needs 34 = .ok (.invokevirtual 138, 3) := by decide +kernel
theorem dX7_needs_37 : decode cX7_needs 37 = .ok (.lmul, 1) := by decide +kernel
theorem dX7_needs_38 : decode cX7_needs 38 = .ok (.lload_n 3, 1) := by decide +kernel
theorem dX7_needs_39 : decode cX7_needs 39 = .ok (.ladd, 1) := by decide +kernel
theorem dX7_needs_40 : decode cX7_needs 40 = .ok (.lconst 1, 1) := by decide +kernel
theorem dX7_needs_41 : decode cX7_needs 41 = .ok (.lsub, 1) := by decide +kernel
theorem dX7_needs_42 : decode cX7_needs 42 = .ok (.lload_n 3, 1) := by decide +kernel
theorem dX7_needs_43 : decode cX7_needs 43 = .ok (.invokestatic 187, 3) := by decide +kernel
theorem dX7_needs_46 : decode cX7_needs 46 = .ok (.l2i, 1) := by decide +kernel
theorem dX7_needs_47 : decode cX7_needs 47 = .ok (.ireturn, 1) := by decide +kernel
theorem dX7_greatest_0 : decode cX7_greatest 0 = .ok (.iconst 0, 1) := by decide +kernel
theorem dX7_greatest_1 : decode cX7_greatest 1 = .ok (.istore_n 1, 1) := by decide +kernel
theorem dX7_greatest_2 : decode cX7_greatest 2 = .ok (.iload_n 1, 1) := by decide +kernel
theorem dX7_greatest_3 : decode cX7_greatest 3 = .ok (.bipush 8, 2) := by decide +kernel
theorem dX7_greatest_5 : decode cX7_greatest 5 = .ok (.if_icmp .ge 23, 3) := by decide +kernel
theorem dX7_greatest_8 : decode cX7_greatest 8 = .ok (.aload_n 0, 1) := by decide +kernel
theorem dX7_greatest_9 : decode cX7_greatest 9 = .ok (.getfield 65, 3) := by decide +kernel
theorem dX7_greatest_12 : decode cX7_greatest 12 = .ok (.iload_n 1, 1) := by decide +kernel
theorem dX7_greatest_13 : decode cX7_greatest 13 = .ok (.aload_n 0, 1) := by decide +kernel
theorem dX7_greatest_14 : decode cX7_greatest 14 = .ok (.getfield 12, 3) := by decide +kernel
theorem dX7_greatest_17 : decode cX7_greatest 17 = .ok (.iload_n 1, 1) := by decide +kernel
theorem dX7_greatest_18 : decode cX7_greatest 18 = .ok (.invokevirtual 138, 3) := by decide +kernel
theorem dX7_greatest_21 : decode cX7_greatest 21 = .ok (.lastore, 1) := by decide +kernel
theorem dX7_greatest_22 : decode cX7_greatest 22 = .ok (.iinc 1 1, 3) := by decide +kernel
theorem dX7_greatest_25 : decode cX7_greatest 25 = .ok (.goto (-23), 3) := by decide +kernel
theorem dX7_greatest_28 : decode cX7_greatest 28 = .ok (.aload_n 0, 1) := by decide +kernel
theorem dX7_greatest_29 : decode cX7_greatest 29 = .ok (.invokevirtual 254, 3) := by decide +kernel
theorem dX7_greatest_32 : decode cX7_greatest 32 = .ok (.aload_n 0, 1) := by decide +kernel
theorem dX7_greatest_33 : decode cX7_greatest 33 = .ok (.getfield 40, 3) := by decide +kernel
theorem dX7_greatest_36 : decode cX7_greatest 36 = .ok (.invokevirtual 184, 3) := by decide +kernel
theorem dX7_greatest_39 : decode cX7_greatest 39 = .ok (.iconst 0, 1) := by decide +kernel
theorem dX7_greatest_40 : decode cX7_greatest 40 = .ok (.istore_n 1, 1) := by decide +kernel
theorem dX7_greatest_41 : decode cX7_greatest 41 = .ok (.iload_n 1, 1) := by decide +kernel
theorem dX7_greatest_42 : decode cX7_greatest 42 = .ok (.bipush 8, 2) := by decide +kernel
theorem dX7_greatest_44 : decode cX7_greatest 44 = .ok (.if_icmp .ge 23, 3) := by decide +kernel
theorem dX7_greatest_47 : decode cX7_greatest 47 = .ok (.aload_n 0, 1) := by decide +kernel
theorem dX7_greatest_48 : decode cX7_greatest 48 = .ok (.getfield 40, 3) := by decide +kernel
theorem dX7_greatest_51 : decode cX7_greatest 51 = .ok (.aload_n 0, 1) := by decide +kernel
theorem dX7_greatest_52 : decode cX7_greatest 52 = .ok (.getfield 68, 3) := by decide +kernel
theorem dX7_greatest_55 : decode cX7_greatest 55 = .ok (.iload_n 1, 1) := by decide +kernel
theorem dX7_greatest_56 : decode cX7_greatest 56 = .ok (.iaload, 1) := by decide +kernel
theorem dX7_greatest_57 : decode cX7_greatest 57 = .ok (.i2l, 1) := by decide +kernel
theorem dX7_greatest_58 : decode cX7_greatest 58 = .ok (.invokevirtual 181, 3) := by decide +kernel
theorem dX7_greatest_61 : decode cX7_greatest 61 = .ok (.iinc 1 1, 3) := by decide +kernel
theorem dX7_greatest_64 : decode cX7_greatest 64 = .ok (.goto (-23), 3) := by decide +kernel
theorem dX7_greatest_67 : decode cX7_greatest 67 = .ok (.aload_n 0, 1) := by decide +kernel
theorem dX7_greatest_68 : decode cX7_greatest 68 = .ok (.getfield 68, 3) := by decide +kernel
theorem dX7_greatest_71 : decode cX7_greatest 71 = .ok (.iconst 0, 1) := by decide +kernel
theorem dX7_greatest_72 : decode cX7_greatest 72 = .ok (.iaload, 1) := by decide +kernel
theorem dX7_greatest_73 : decode cX7_greatest 73 = .ok (.ireturn, 1) := by decide +kernel
theorem dX7_control_0 : decode cX7_control 0 = .ok (.aload_n 0, 1) := by decide +kernel
theorem dX7_control_1 : decode cX7_control 1 = .ok (.invokevirtual 257, 3) := by decide +kernel
theorem dX7_control_4 : decode cX7_control 4 = .ok (.aload_n 0, 1) := by decide +kernel
theorem dX7_control_5 : decode cX7_control 5 = .ok (.invokevirtual 260, 3) := by decide +kernel
theorem dX7_control_8 : decode cX7_control 8 = .ok (.ireturn, 1) := by decide +kernel
theorem dX7_leads_0 : decode cX7_leads 0 = .ok (.aload_n 0, 1) := by decide +kernel
theorem dX7_leads_1 : decode cX7_leads 1 = .ok (.iload_n 1, 1) := by decide +kernel
theorem dX7_leads_2 : decode cX7_leads 2 = .ok (.invokevirtual 110, 3) := by decide +kernel
theorem dX7_leads_5 : decode cX7_leads 5 = .ok (.ifCond .ne 5, 3) := by decide +kernel
theorem dX7_leads_8 : decode cX7_leads 8 = .ok (.iconst (-1), 1) := by decide +kernel
theorem dX7_leads_9 : decode cX7_leads 9 = .ok (.ireturn, 1) := by decide +kernel
theorem dX7_leads_10 : decode cX7_leads 10 = .ok (.aload_n 0, 1) := by decide +kernel
theorem dX7_leads_11 : decode cX7_leads 11 = .ok (.getfield 12, 3) := by decide +kernel
theorem dX7_leads_14 : decode cX7_leads 14 = .ok (.iload_n 1, 1) := by decide +kernel
theorem dX7_leads_15 : decode cX7_leads 15 = .ok (.invokevirtual 246, 3) := by decide +kernel
theorem dX7_leads_18 : decode cX7_leads 18 = .ok (.lstore_n 2, 1) := by decide +kernel
theorem dX7_leads_19 : decode cX7_leads 19 = .ok (.lload_n 2, 1) := by decide +kernel
theorem dX7_leads_20 : decode cX7_leads 20 = .ok (.lconst 0, 1) := by decide +kernel
theorem dX7_leads_21 : decode cX7_leads 21 = .ok (.lcmp, 1) := by decide +kernel
theorem dX7_leads_22 : decode cX7_leads 22 = .ok (.ifCond .ne 6, 3) := by decide +kernel
theorem dX7_leads_25 : decode cX7_leads 25 = .ok (.bipush (-2), 2) := by decide +kernel
theorem dX7_leads_27 : decode cX7_leads 27 = .ok (.ireturn, 1) := by decide +kernel
theorem dX7_leads_28 : decode cX7_leads 28 = .ok (.aload_n 0, 1) := by decide +kernel
theorem dX7_leads_29 : decode cX7_leads 29 = .ok (.iload_n 1, 1) := by decide +kernel
theorem dX7_leads_30 : decode cX7_leads 30 = .ok (.invokevirtual 263, 3) := by decide +kernel
theorem dX7_leads_33 : decode cX7_leads 33 = .ok (.aload_n 0, 1) := by decide +kernel
theorem dX7_leads_34 : decode cX7_leads 34 = .ok (.invokevirtual 254, 3) := by decide +kernel
theorem dX7_leads_37 : decode cX7_leads 37 = .ok (.aload_n 0, 1) := by decide +kernel
theorem dX7_leads_38 : decode cX7_leads 38 = .ok (.getfield 68, 3) := by decide +kernel
theorem dX7_leads_41 : decode cX7_leads 41 = .ok (.iconst 0, 1) := by decide +kernel
theorem dX7_leads_42 : decode cX7_leads 42 = .ok (.iaload, 1) := by decide +kernel
theorem dX7_leads_43 : decode cX7_leads 43 = .ok (.istore 4, 2) := by decide +kernel
theorem dX7_leads_45 : decode cX7_leads 45 = .ok (.aload_n 0, 1) := by decide +kernel
theorem dX7_leads_46 : decode cX7_leads 46 = .ok (.getfield 12, 3) := by decide +kernel
theorem dX7_leads_49 : decode cX7_leads 49 = .ok (.iload 4, 2) := by decide +kernel
theorem dX7_leads_51 : decode cX7_leads 51 = .ok (.iload_n 1, 1) := by decide +kernel
theorem dX7_leads_52 : decode cX7_leads 52 = .ok (.invokevirtual 113, 3) := by decide +kernel
theorem dX7_leads_55 : decode cX7_leads 55 = .ok (.lstore 5, 2) := by decide +kernel
theorem dX7_leads_57 : decode cX7_leads 57 = .ok (.aload_n 0, 1) := by decide +kernel
theorem dX7_leads_58 : decode cX7_leads 58 = .ok (.getfield 40, 3) := by decide +kernel
theorem dX7_leads_61 : decode cX7_leads 61 = .ok (.invokevirtual 184, 3) := by decide +kernel
theorem dX7_leads_64 : decode cX7_leads 64 = .ok (.aload_n 0, 1) := by decide +kernel
theorem dX7_leads_65 : decode cX7_leads 65 = .ok (.getfield 40, 3) := by decide +kernel
theorem dX7_leads_68 : decode cX7_leads 68 = .ok (.ldc2_w 185, 3) := by decide +kernel
theorem dX7_leads_71 : decode cX7_leads 71 = .ok (.lload 5, 2) := by decide +kernel
theorem dX7_leads_73 : decode cX7_leads 73 = .ok (.lmul, 1) := by decide +kernel
theorem dX7_leads_74 : decode cX7_leads 74 = .ok (.lload_n 2, 1) := by decide +kernel
theorem dX7_leads_75 : decode cX7_leads 75 = .ok (.invokestatic 187, 3) := by decide +kernel
theorem dX7_leads_78 : decode cX7_leads 78 = .ok (.invokevirtual 181, 3) := by decide +kernel
theorem dX7_leads_81 : decode cX7_leads 81 = .ok (.aload_n 0, 1) := by decide +kernel
theorem dX7_leads_82 : decode cX7_leads 82 = .ok (.getfield 40, 3) := by decide +kernel
theorem dX7_leads_85 : decode cX7_leads 85 = .ok (.ldc2_w 266, 3) := by decide +kernel
theorem dX7_leads_88 : decode cX7_leads 88 = .ok (.lload 5, 2) := by decide +kernel
theorem dX7_leads_90 : decode cX7_leads 90 = .ok (.lmul, 1) := by decide +kernel
theorem dX7_leads_91 : decode cX7_leads 91 = .ok (.lload_n 2, 1) := by decide +kernel
theorem dX7_leads_92 : decode cX7_leads 92 = .ok (.lcmp, 1) := by decide +kernel
theorem dX7_leads_93 : decode cX7_leads 93 = .ok (.ifCond .le 7, 3) := by decide +kernel
theorem dX7_leads_96 : decode cX7_leads 96 = .ok (.lconst 1, 1) := by decide +kernel
theorem dX7_leads_97 : decode cX7_leads 97 = .ok (.goto 4, 3) := by decide +kernel
theorem dX7_leads_100 : decode cX7_leads 100 = .ok (.lconst 0, 1) := by decide +kernel
theorem dX7_leads_101 : decode cX7_leads 101 = .ok (.invokevirtual 181, 3) := by decide +kernel
theorem dX7_leads_104 : decode cX7_leads 104 = .ok (.iload 4, 2) := by decide +kernel
theorem dX7_leads_106 : decode cX7_leads 106 = .ok (.ireturn, 1) := by decide +kernel
theorem dX7_block_0 : decode cX7_block 0 = .ok (.aload_n 0, 1) := by decide +kernel
theorem dX7_block_1 : decode cX7_block 1 = .ok (.iload_n 1, 1) := by decide +kernel
theorem dX7_block_2 : decode cX7_block 2 = .ok (.invokevirtual 110, 3) := by decide +kernel
theorem dX7_block_5 : decode cX7_block 5 = .ok (.ifCond .ne 5, 3) := by decide +kernel
theorem dX7_block_8 : decode cX7_block 8 = .ok (.iconst (-1), 1) := by decide +kernel
theorem dX7_block_9 : decode cX7_block 9 = .ok (.ireturn, 1) := by decide +kernel
theorem dX7_block_10 : decode cX7_block 10 = .ok (.aload_n 0, 1) := by decide +kernel
theorem dX7_block_11 : decode cX7_block 11 = .ok (.iload_n 1, 1) := by decide +kernel
theorem dX7_block_12 : decode cX7_block 12 = .ok (.invokevirtual 263, 3) := by decide +kernel
theorem dX7_block_15 : decode cX7_block 15 = .ok (.aload_n 0, 1) := by decide +kernel
theorem dX7_block_16 : decode cX7_block 16 = .ok (.invokevirtual 260, 3) := by decide +kernel
theorem dX7_block_19 : decode cX7_block 19 = .ok (.ireturn, 1) := by decide +kernel
theorem dX7_paid_0 : decode cX7_paid 0 = .ok (.iload_n 1, 1) := by decide +kernel
theorem dX7_paid_1 : decode cX7_paid 1 = .ok (.invokestatic 104, 3) := by decide +kernel
theorem dX7_paid_4 : decode cX7_paid 4 = .ok (.ifCond .ne 5, 3) := by decide +kernel
theorem dX7_paid_7 : decode cX7_paid 7 = .ok (.iconst (-1), 1) := by decide +kernel
theorem dX7_paid_8 : decode cX7_paid 8 = .ok (.ireturn, 1) := by decide +kernel
theorem dX7_paid_9 : decode cX7_paid 9 = .ok (.aload_n 0, 1) := by decide +kernel
theorem dX7_paid_10 : decode cX7_paid 10 = .ok (.getfield 40, 3) := by decide +kernel
theorem dX7_paid_13 : decode cX7_paid 13 = .ok (.invokevirtual 184, 3) := by decide +kernel
theorem dX7_paid_16 : decode cX7_paid 16 = .ok (.iconst 1, 1) := by decide +kernel
theorem dX7_paid_17 : decode cX7_paid 17 = .ok (.istore_n 2, 1) := by decide +kernel
theorem dX7_paid_18 : decode cX7_paid 18 = .ok (.iload_n 2, 1) := by decide +kernel
theorem dX7_paid_19 : decode cX7_paid 19 = .ok (.aload_n 0, 1) := by decide +kernel
theorem dX7_paid_20 : decode cX7_paid 20 = .ok (.getfield 12, 3) := by decide +kernel
theorem dX7_paid_23 : decode cX7_paid 23 = .ok (.invokevirtual 135, 3) := by decide +kernel
theorem dX7_paid_26 : decode cX7_paid 26 = .ok (.if_icmp .ge 25, 3) := by decide +kernel
theorem dX7_paid_29 : decode cX7_paid 29 = .ok (.aload_n 0, 1) := by decide +kernel
theorem dX7_paid_30 : decode cX7_paid 30 = .ok (.getfield 40, 3) := by decide +kernel
theorem dX7_paid_33 : decode cX7_paid 33 = .ok (.aload_n 0, 1) := by decide +kernel
theorem dX7_paid_34 : decode cX7_paid 34 = .ok (.getfield 12, 3) := by decide +kernel
theorem dX7_paid_37 : decode cX7_paid 37 = .ok (.iload_n 1, 1) := by decide +kernel
theorem dX7_paid_38 : decode cX7_paid 38 = .ok (.iload_n 2, 1) := by decide +kernel
theorem dX7_paid_39 : decode cX7_paid 39 = .ok (.invokevirtual 268, 3) := by decide +kernel
theorem dX7_paid_42 : decode cX7_paid 42 = .ok (.invokevirtual 181, 3) := by decide +kernel
theorem dX7_paid_45 : decode cX7_paid 45 = .ok (.iinc 2 1, 3) := by decide +kernel
theorem dX7_paid_48 : decode cX7_paid 48 = .ok (.goto (-30), 3) := by decide +kernel
theorem dX7_paid_51 : decode cX7_paid 51 = .ok (.aload_n 0, 1) := by decide +kernel
theorem dX7_paid_52 : decode cX7_paid 52 = .ok (.getfield 12, 3) := by decide +kernel
theorem dX7_paid_55 : decode cX7_paid 55 = .ok (.iload_n 1, 1) := by decide +kernel
theorem dX7_paid_56 : decode cX7_paid 56 = .ok (.invokevirtual 271, 3) := by decide +kernel
theorem dX7_paid_59 : decode cX7_paid 59 = .ok (.l2i, 1) := by decide +kernel
theorem dX7_paid_60 : decode cX7_paid 60 = .ok (.ireturn, 1) := by decide +kernel
theorem dX7_value_0 : decode cX7_value 0 = .ok (.aload_n 0, 1) := by decide +kernel
theorem dX7_value_1 : decode cX7_value 1 = .ok (.getfield 12, 3) := by decide +kernel
theorem dX7_value_4 : decode cX7_value 4 = .ok (.invokevirtual 135, 3) := by decide +kernel
theorem dX7_value_7 : decode cX7_value 7 = .ok (.iconst 1, 1) := by decide +kernel
theorem dX7_value_8 : decode cX7_value 8 = .ok (.isub, 1) := by decide +kernel
theorem dX7_value_9 : decode cX7_value 9 = .ok (.istore_n 1, 1) := by decide +kernel
theorem dX7_value_10 : decode cX7_value 10 = .ok (.iload_n 1, 1) := by decide +kernel
theorem dX7_value_11 : decode cX7_value 11 = .ok (.iconst 1, 1) := by decide +kernel
theorem dX7_value_12 : decode cX7_value 12 = .ok (.if_icmp .ge 6, 3) := by decide +kernel
theorem dX7_value_15 : decode cX7_value 15 = .ok (.bipush (-2), 2) := by decide +kernel
theorem dX7_value_17 : decode cX7_value 17 = .ok (.ireturn, 1) := by decide +kernel
theorem dX7_value_18 : decode cX7_value 18 = .ok (.aload_n 0, 1) := by decide +kernel
theorem dX7_value_19 : decode cX7_value 19 = .ok (.getfield 40, 3) := by decide +kernel
theorem dX7_value_22 : decode cX7_value 22 = .ok (.invokevirtual 184, 3) := by decide +kernel
theorem dX7_value_25 : decode cX7_value 25 = .ok (.aload_n 0, 1) := by decide +kernel
theorem dX7_value_26 : decode cX7_value 26 = .ok (.getfield 40, 3) := by decide +kernel
theorem dX7_value_29 : decode cX7_value 29 = .ok (.iload_n 1, 1) := by decide +kernel
theorem dX7_value_30 : decode cX7_value 30 = .ok (.i2l, 1) := by decide +kernel
theorem dX7_value_31 : decode cX7_value 31 = .ok (.invokevirtual 181, 3) := by decide +kernel
theorem dX7_value_34 : decode cX7_value 34 = .ok (.aload_n 0, 1) := by decide +kernel
theorem dX7_value_35 : decode cX7_value 35 = .ok (.getfield 40, 3) := by decide +kernel
theorem dX7_value_38 : decode cX7_value 38 = .ok (.aload_n 0, 1) := by decide +kernel
theorem dX7_value_39 : decode cX7_value 39 = .ok (.getfield 12, 3) := by decide +kernel
theorem dX7_value_42 : decode cX7_value 42 = .ok (.iload_n 1, 1) := by decide +kernel
theorem dX7_value_43 : decode cX7_value 43 = .ok (.bipush 6, 2) := by decide +kernel
theorem dX7_value_45 : decode cX7_value 45 = .ok (.invokevirtual 155, 3) := by decide +kernel
theorem dX7_value_48 : decode cX7_value 48 = .ok (.aload_n 0, 1) := by decide +kernel
theorem dX7_value_49 : decode cX7_value 49 = .ok (.getfield 12, 3) := by decide +kernel
theorem dX7_value_52 : decode cX7_value 52 = .ok (.iload_n 1, 1) := by decide +kernel
theorem dX7_value_53 : decode cX7_value 53 = .ok (.bipush 7, 2) := by decide +kernel
theorem dX7_value_55 : decode cX7_value 55 = .ok (.invokevirtual 155, 3) := by decide +kernel
theorem dX7_value_58 : decode cX7_value 58 = .ok (.ladd, 1) := by decide +kernel
theorem dX7_value_59 : decode cX7_value 59 = .ok (.invokevirtual 181, 3) := by decide +kernel
theorem dX7_value_62 : decode cX7_value 62 = .ok (.aload_n 0, 1) := by decide +kernel
theorem dX7_value_63 : decode cX7_value 63 = .ok (.getfield 12, 3) := by decide +kernel
theorem dX7_value_66 : decode cX7_value 66 = .ok (.invokevirtual 100, 3) := by decide +kernel
theorem dX7_value_69 : decode cX7_value 69 = .ok (.aload_n 0, 1) := by decide +kernel
theorem dX7_value_70 : decode cX7_value 70 = .ok (.getfield 12, 3) := by decide +kernel
theorem dX7_value_73 : decode cX7_value 73 = .ok (.iload_n 1, 1) := by decide +kernel
theorem dX7_value_74 : decode cX7_value 74 = .ok (.iconst 0, 1) := by decide +kernel
theorem dX7_value_75 : decode cX7_value 75 = .ok (.invokevirtual 155, 3) := by decide +kernel
theorem dX7_value_78 : decode cX7_value 78 = .ok (.lmul, 1) := by decide +kernel
theorem dX7_value_79 : decode cX7_value 79 = .ok (.ldc2_w 274, 3) := by decide +kernel
theorem dX7_value_82 : decode cX7_value 82 = .ok (.ldiv, 1) := by decide +kernel
theorem dX7_value_83 : decode cX7_value 83 = .ok (.invokestatic 276, 3) := by decide +kernel
theorem dX7_value_86 : decode cX7_value 86 = .ok (.ireturn, 1) := by decide +kernel
theorem dX7_majority_0 : decode cX7_majority 0 = .ok (.iload_n 1, 1) := by decide +kernel
theorem dX7_majority_1 : decode cX7_majority 1 = .ok (.invokestatic 104, 3) := by decide +kernel
theorem dX7_majority_4 : decode cX7_majority 4 = .ok (.ifCond .ne 5, 3) := by decide +kernel
theorem dX7_majority_7 : decode cX7_majority 7 = .ok (.iconst (-1), 1) := by decide +kernel
theorem dX7_majority_8 : decode cX7_majority 8 = .ok (.ireturn, 1) := by decide +kernel
theorem dX7_majority_9 : decode cX7_majority 9 = .ok (.aload_n 0, 1) := by decide +kernel
theorem dX7_majority_10 : decode cX7_majority 10 = .ok (.getfield 12, 3) := by decide +kernel
theorem dX7_majority_13 : decode cX7_majority 13 = .ok (.iload_n 1, 1) := by decide +kernel
theorem dX7_majority_14 : decode cX7_majority 14 = .ok (.invokevirtual 237, 3) := by decide +kernel
theorem dX7_majority_17 : decode cX7_majority 17 = .ok (.lstore_n 2, 1) := by decide +kernel
theorem dX7_majority_18 : decode cX7_majority 18 = .ok (.aload_n 0, 1) := by decide +kernel
theorem dX7_majority_19 : decode cX7_majority 19 = .ok (.getfield 12, 3) := by decide +kernel
theorem dX7_majority_22 : decode cX7_majority 22 = .ok (.invokevirtual 230, 3) := by decide +kernel
theorem dX7_majority_25 : decode cX7_majority 25 = .ok (.lstore 4, 2) := by decide +kernel
theorem dX7_majority_27 : decode cX7_majority 27 = .ok (.lconst 0, 1) := by decide +kernel
theorem dX7_majority_28 : decode cX7_majority 28 = .ok (.lload 4, 2) := by decide +kernel
theorem dX7_majority_30 : decode cX7_majority 30 = .ok (.ldc2_w 266, 3) := by decide +kernel
theorem dX7_majority_33 : decode cX7_majority 33 = .ok (.lload_n 2, 1) := by decide +kernel
theorem dX7_majority_34 : decode cX7_majority 34 = .ok (.lmul, 1) := by decide +kernel
theorem dX7_majority_35 : decode cX7_majority 35 = .ok (.lsub, 1) := by decide +kernel
theorem dX7_majority_36 : decode cX7_majority 36 = .ok (.lconst 1, 1) := by decide +kernel
theorem dX7_majority_37 : decode cX7_majority 37 = .ok (.ladd, 1) := by decide +kernel
theorem dX7_majority_38 : decode cX7_majority 38 = .ok (.invokestatic 280, 3) := by decide +kernel
theorem dX7_majority_41 : decode cX7_majority 41 = .ok (.lstore 6, 2) := by decide +kernel
theorem dX7_majority_43 : decode cX7_majority 43 = .ok (.aload_n 0, 1) := by decide +kernel
theorem dX7_majority_44 : decode cX7_majority 44 = .ok (.getfield 40, 3) := by decide +kernel
theorem dX7_majority_47 : decode cX7_majority 47 = .ok (.invokevirtual 184, 3) := by decide +kernel
theorem dX7_majority_50 : decode cX7_majority 50 = .ok (.aload_n 0, 1) := by decide +kernel
theorem dX7_majority_51 : decode cX7_majority 51 = .ok (.getfield 40, 3) := by decide +kernel
theorem dX7_majority_54 : decode cX7_majority 54 = .ok (.lload_n 2, 1) := by decide +kernel
theorem dX7_majority_55 : decode cX7_majority 55 = .ok (.lload 6, 2) := by decide +kernel
theorem dX7_majority_57 : decode cX7_majority 57 = .ok (.ladd, 1) := by decide +kernel
theorem dX7_majority_58 : decode cX7_majority 58 = .ok (.invokevirtual 181, 3) := by decide +kernel
theorem dX7_majority_61 : decode cX7_majority 61 = .ok (.aload_n 0, 1) := by decide +kernel
theorem dX7_majority_62 : decode cX7_majority 62 = .ok (.getfield 40, 3) := by decide +kernel
theorem dX7_majority_65 : decode cX7_majority 65 = .ok (.lload 4, 2) := by decide +kernel
theorem dX7_majority_67 : decode cX7_majority 67 = .ok (.lload 6, 2) := by decide +kernel
theorem dX7_majority_69 : decode cX7_majority 69 = .ok (.ladd, 1) := by decide +kernel
theorem dX7_majority_70 : decode cX7_majority 70 = .ok (.invokevirtual 181, 3) := by decide +kernel
theorem dX7_majority_73 : decode cX7_majority 73 = .ok (.lload 6, 2) := by decide +kernel
theorem dX7_majority_75 : decode cX7_majority 75 = .ok (.l2i, 1) := by decide +kernel
theorem dX7_majority_76 : decode cX7_majority 76 = .ok (.ireturn, 1) := by decide +kernel
theorem dX7_swing_0 : decode cX7_swing 0 = .ok (.iload_n 1, 1) := by decide +kernel
theorem dX7_swing_1 : decode cX7_swing 1 = .ok (.invokestatic 104, 3) := by decide +kernel
theorem dX7_swing_4 : decode cX7_swing 4 = .ok (.ifCond .ne 5, 3) := by decide +kernel
theorem dX7_swing_7 : decode cX7_swing 7 = .ok (.iconst (-1), 1) := by decide +kernel
theorem dX7_swing_8 : decode cX7_swing 8 = .ok (.ireturn, 1) := by decide +kernel
theorem dX7_swing_9 : decode cX7_swing 9 = .ok (.aload_n 0, 1) := by decide +kernel
theorem dX7_swing_10 : decode cX7_swing 10 = .ok (.invokevirtual 257, 3) := by decide +kernel
theorem dX7_swing_13 : decode cX7_swing 13 = .ok (.aload_n 0, 1) := by decide +kernel
theorem dX7_swing_14 : decode cX7_swing 14 = .ok (.getfield 12, 3) := by decide +kernel
theorem dX7_swing_17 : decode cX7_swing 17 = .ok (.invokevirtual 230, 3) := by decide +kernel
theorem dX7_swing_20 : decode cX7_swing 20 = .ok (.lstore_n 2, 1) := by decide +kernel
theorem dX7_swing_21 : decode cX7_swing 21 = .ok (.iconst 0, 1) := by decide +kernel
theorem dX7_swing_22 : decode cX7_swing 22 = .ok (.istore 4, 2) := by decide +kernel
theorem dX7_swing_24 : decode cX7_swing 24 = .ok (.aload_n 0, 1) := by decide +kernel
theorem dX7_swing_25 : decode cX7_swing 25 = .ok (.getfield 40, 3) := by decide +kernel
theorem dX7_swing_28 : decode cX7_swing 28 = .ok (.invokevirtual 184, 3) := by decide +kernel
theorem dX7_swing_31 : decode cX7_swing 31 = .ok (.iconst 0, 1) := by decide +kernel
theorem dX7_swing_32 : decode cX7_swing 32 = .ok (.istore 5, 2) := by decide +kernel
theorem dX7_swing_34 : decode cX7_swing 34 = .ok (.iload 5, 2) := by decide +kernel
theorem dX7_swing_36 : decode cX7_swing 36 = .ok (.bipush 8, 2) := by decide +kernel
theorem dX7_swing_38 : decode cX7_swing 38 = .ok (.if_icmp .ge 38, 3) := by decide +kernel
theorem dX7_swing_41 : decode cX7_swing 41 = .ok (.aload_n 0, 1) := by decide +kernel
theorem dX7_swing_42 : decode cX7_swing 42 = .ok (.iload 5, 2) := by decide +kernel
theorem dX7_swing_44 : decode cX7_swing 44 = .ok (.lload_n 2, 1) := by decide +kernel
theorem dX7_swing_45 : decode cX7_swing 45 = .ok (.invokevirtual 285, 3) := by decide +kernel
theorem dX7_swing_48 : decode cX7_swing 48 = .ok (.istore 6, 2) := by decide +kernel
theorem dX7_swing_50 : decode cX7_swing 50 = .ok (.aload_n 0, 1) := by decide +kernel
theorem dX7_swing_51 : decode cX7_swing 51 = .ok (.getfield 40, 3) := by decide +kernel
theorem dX7_swing_54 : decode cX7_swing 54 = .ok (.iload 6, 2) := by decide +kernel
theorem dX7_swing_56 : decode cX7_swing 56 = .ok (.i2l, 1) := by decide +kernel
theorem dX7_swing_57 : decode cX7_swing 57 = .ok (.invokevirtual 181, 3) := by decide +kernel
theorem dX7_swing_60 : decode cX7_swing 60 = .ok (.iload 5, 2) := by decide +kernel
theorem dX7_swing_62 : decode cX7_swing 62 = .ok (.iload_n 1, 1) := by decide +kernel
theorem dX7_swing_63 : decode cX7_swing 63 = .ok (.if_icmp .ne 7, 3) := by decide +kernel
theorem dX7_swing_66 : decode cX7_swing 66 = .ok (.iload 6, 2) := by decide +kernel
theorem dX7_swing_68 : decode cX7_swing 68 = .ok (.istore 4, 2) := by decide +kernel
theorem dX7_swing_70 : decode cX7_swing 70 = .ok (.iinc 5 1, 3) := by decide +kernel
theorem dX7_swing_73 : decode cX7_swing 73 = .ok (.goto (-39), 3) := by decide +kernel
theorem dX7_swing_76 : decode cX7_swing 76 = .ok (.iload 4, 2) := by decide +kernel
theorem dX7_swing_78 : decode cX7_swing 78 = .ok (.ireturn, 1) := by decide +kernel
theorem dX7_exit_0 : decode cX7_exit 0 = .ok (.iload_n 1, 1) := by decide +kernel
theorem dX7_exit_1 : decode cX7_exit 1 = .ok (.invokestatic 289, 3) := by decide +kernel
theorem dX7_exit_4 : decode cX7_exit 4 = .ok (.ifCond .ne 5, 3) := by decide +kernel
theorem dX7_exit_7 : decode cX7_exit 7 = .ok (.iconst (-1), 1) := by decide +kernel
theorem dX7_exit_8 : decode cX7_exit 8 = .ok (.ireturn, 1) := by decide +kernel
theorem dX7_exit_9 : decode cX7_exit 9 = .ok (.aload_n 0, 1) := by decide +kernel
theorem dX7_exit_10 : decode cX7_exit 10 = .ok (.getfield 61, 3) := by decide +kernel
theorem dX7_exit_13 : decode cX7_exit 13 = .ok (.aload_n 0, 1) := by decide +kernel
theorem dX7_exit_14 : decode cX7_exit 14 = .ok (.getfield 12, 3) := by decide +kernel
theorem dX7_exit_17 : decode cX7_exit 17 = .ok (.invokevirtual 292, 3) := by decide +kernel
theorem dX7_exit_20 : decode cX7_exit 20 = .ok (.aload_n 0, 1) := by decide +kernel
theorem dX7_exit_21 : decode cX7_exit 21 = .ok (.getfield 61, 3) := by decide +kernel
theorem dX7_exit_24 : decode cX7_exit 24 = .ok (.iload_n 1, 1) := by decide +kernel
theorem dX7_exit_25 : decode cX7_exit 25 = .ok (.i2l, 1) := by decide +kernel
theorem dX7_exit_26 : decode cX7_exit 26 = .ok (.invokevirtual 296, 3) := by decide +kernel
theorem dX7_exit_29 : decode cX7_exit 29 = .ok (.aload_n 0, 1) := by decide +kernel
theorem dX7_exit_30 : decode cX7_exit 30 = .ok (.getfield 40, 3) := by decide +kernel
theorem dX7_exit_33 : decode cX7_exit 33 = .ok (.invokevirtual 184, 3) := by decide +kernel
theorem dX7_exit_36 : decode cX7_exit 36 = .ok (.aload_n 0, 1) := by decide +kernel
theorem dX7_exit_37 : decode cX7_exit 37 = .ok (.getfield 40, 3) := by decide +kernel
theorem dX7_exit_40 : decode cX7_exit 40 = .ok (.aload_n 0, 1) := by decide +kernel
theorem dX7_exit_41 : decode cX7_exit 41 = .ok (.getfield 61, 3) := by decide +kernel
theorem dX7_exit_44 : decode cX7_exit 44 = .ok (.getfield 298, 3) := by decide +kernel
theorem dX7_exit_47 : decode cX7_exit 47 = .ok (.i2l, 1) := by decide +kernel
theorem dX7_exit_48 : decode cX7_exit 48 = .ok (.invokevirtual 181, 3) := by decide +kernel
theorem dX7_exit_51 : decode cX7_exit 51 = .ok (.iconst 1, 1) := by decide +kernel
theorem dX7_exit_52 : decode cX7_exit 52 = .ok (.istore_n 2, 1) := by decide +kernel
theorem dX7_exit_53 : decode cX7_exit 53 = .ok (.iload_n 2, 1) := by decide +kernel
theorem dX7_exit_54 : decode cX7_exit 54 = .ok (.aload_n 0, 1) := by decide +kernel
theorem dX7_exit_55 : decode cX7_exit 55 = .ok (.getfield 12, 3) := by decide +kernel
theorem dX7_exit_58 : decode cX7_exit 58 = .ok (.invokevirtual 135, 3) := by decide +kernel
theorem dX7_exit_61 : decode cX7_exit 61 = .ok (.if_icmp .ge 24, 3) := by decide +kernel
theorem dX7_exit_64 : decode cX7_exit 64 = .ok (.aload_n 0, 1) := by decide +kernel
theorem dX7_exit_65 : decode cX7_exit 65 = .ok (.getfield 40, 3) := by decide +kernel
theorem dX7_exit_68 : decode cX7_exit 68 = .ok (.aload_n 0, 1) := by decide +kernel
theorem dX7_exit_69 : decode cX7_exit 69 = .ok (.getfield 61, 3) := by decide +kernel
theorem dX7_exit_72 : decode cX7_exit 72 = .ok (.iload_n 2, 1) := by decide +kernel
theorem dX7_exit_73 : decode cX7_exit 73 = .ok (.invokevirtual 301, 3) := by decide +kernel
theorem dX7_exit_76 : decode cX7_exit 76 = .ok (.invokevirtual 181, 3) := by decide +kernel
theorem dX7_exit_79 : decode cX7_exit 79 = .ok (.iinc 2 1, 3) := by decide +kernel
theorem dX7_exit_82 : decode cX7_exit 82 = .ok (.goto (-29), 3) := by decide +kernel
theorem dX7_exit_85 : decode cX7_exit 85 = .ok (.aload_n 0, 1) := by decide +kernel
theorem dX7_exit_86 : decode cX7_exit 86 = .ok (.getfield 61, 3) := by decide +kernel
theorem dX7_exit_89 : decode cX7_exit 89 = .ok (.iconst 0, 1) := by decide +kernel
theorem dX7_exit_90 : decode cX7_exit 90 = .ok (.invokevirtual 301, 3) := by decide +kernel
theorem dX7_exit_93 : decode cX7_exit 93 = .ok (.l2i, 1) := by decide +kernel
theorem dX7_exit_94 : decode cX7_exit 94 = .ok (.ireturn, 1) := by decide +kernel
theorem dX7_gets_0 : decode cX7_gets 0 = .ok (.iload_n 1, 1) := by decide +kernel
theorem dX7_gets_1 : decode cX7_gets 1 = .ok (.invokestatic 104, 3) := by decide +kernel
theorem dX7_gets_4 : decode cX7_gets 4 = .ok (.ifCond .eq 10, 3) := by decide +kernel
theorem dX7_gets_7 : decode cX7_gets 7 = .ok (.iload_n 2, 1) := by decide +kernel
theorem dX7_gets_8 : decode cX7_gets 8 = .ok (.invokestatic 289, 3) := by decide +kernel
theorem dX7_gets_11 : decode cX7_gets 11 = .ok (.ifCond .ne 5, 3) := by decide +kernel
theorem dX7_gets_14 : decode cX7_gets 14 = .ok (.iconst (-1), 1) := by decide +kernel
theorem dX7_gets_15 : decode cX7_gets 15 = .ok (.ireturn, 1) := by decide +kernel
theorem dX7_gets_16 : decode cX7_gets 16 = .ok (.aload_n 0, 1) := by decide +kernel
theorem dX7_gets_17 : decode cX7_gets 17 = .ok (.getfield 61, 3) := by decide +kernel
theorem dX7_gets_20 : decode cX7_gets 20 = .ok (.aload_n 0, 1) := by decide +kernel
theorem dX7_gets_21 : decode cX7_gets 21 = .ok (.getfield 12, 3) := by decide +kernel
theorem dX7_gets_24 : decode cX7_gets 24 = .ok (.invokevirtual 292, 3) := by decide +kernel
theorem dX7_gets_27 : decode cX7_gets 27 = .ok (.aload_n 0, 1) := by decide +kernel
theorem dX7_gets_28 : decode cX7_gets 28 = .ok (.getfield 61, 3) := by decide +kernel
theorem dX7_gets_31 : decode cX7_gets 31 = .ok (.iload_n 2, 1) := by decide +kernel
theorem dX7_gets_32 : decode cX7_gets 32 = .ok (.i2l, 1) := by decide +kernel
theorem dX7_gets_33 : decode cX7_gets 33 = .ok (.invokevirtual 296, 3) := by decide +kernel
theorem dX7_gets_36 : decode cX7_gets 36 = .ok (.aload_n 0, 1) := by decide +kernel
theorem dX7_gets_37 : decode cX7_gets 37 = .ok (.getfield 61, 3) := by decide +kernel
theorem dX7_gets_40 : decode cX7_gets 40 = .ok (.aload_n 0, 1) := by decide +kernel
theorem dX7_gets_41 : decode cX7_gets 41 = .ok (.getfield 12, 3) := by decide +kernel
theorem dX7_gets_44 : decode cX7_gets 44 = .ok (.iload_n 1, 1) := by decide +kernel
theorem dX7_gets_45 : decode cX7_gets 45 = .ok (.invokevirtual 304, 3) := by decide +kernel
theorem dX7_gets_48 : decode cX7_gets 48 = .ok (.lstore_n 3, 1) := by decide +kernel
theorem dX7_gets_49 : decode cX7_gets 49 = .ok (.aload_n 0, 1) := by decide +kernel
theorem dX7_gets_50 : decode cX7_gets 50 = .ok (.getfield 61, 3) := by decide +kernel
theorem dX7_gets_53 : decode cX7_gets 53 = .ok (.aload_n 0, 1) := by decide +kernel
theorem dX7_gets_54 : decode cX7_gets 54 = .ok (.getfield 12, 3) := by decide +kernel
theorem dX7_gets_57 : decode cX7_gets 57 = .ok (.iload_n 1, 1) := by decide +kernel
theorem dX7_gets_58 : decode cX7_gets 58 = .ok (.invokevirtual 308, 3) := by decide +kernel
theorem dX7_gets_61 : decode cX7_gets 61 = .ok (.lstore 5, 2) := by decide +kernel
theorem dX7_gets_63 : decode cX7_gets 63 = .ok (.aload_n 0, 1) := by decide +kernel
theorem dX7_gets_64 : decode cX7_gets 64 = .ok (.getfield 40, 3) := by decide +kernel
theorem dX7_gets_67 : decode cX7_gets 67 = .ok (.invokevirtual 184, 3) := by decide +kernel
theorem dX7_gets_70 : decode cX7_gets 70 = .ok (.aload_n 0, 1) := by decide +kernel
theorem dX7_gets_71 : decode cX7_gets 71 = .ok (.getfield 40, 3) := by decide +kernel
theorem dX7_gets_74 : decode cX7_gets 74 = .ok (.lload_n 3, 1) := by decide +kernel
theorem dX7_gets_75 : decode cX7_gets 75 = .ok (.invokevirtual 181, 3) := by decide +kernel
theorem dX7_gets_78 : decode cX7_gets 78 = .ok (.aload_n 0, 1) := by decide +kernel
theorem dX7_gets_79 : decode cX7_gets 79 = .ok (.getfield 40, 3) := by decide +kernel
theorem dX7_gets_82 : decode cX7_gets 82 = .ok (.lload 5, 2) := by decide +kernel
theorem dX7_gets_84 : decode cX7_gets 84 = .ok (.invokevirtual 181, 3) := by decide +kernel
theorem dX7_gets_87 : decode cX7_gets 87 = .ok (.lload_n 3, 1) := by decide +kernel
theorem dX7_gets_88 : decode cX7_gets 88 = .ok (.lload 5, 2) := by decide +kernel
theorem dX7_gets_90 : decode cX7_gets 90 = .ok (.ladd, 1) := by decide +kernel
theorem dX7_gets_91 : decode cX7_gets 91 = .ok (.l2i, 1) := by decide +kernel
theorem dX7_gets_92 : decode cX7_gets 92 = .ok (.ireturn, 1) := by decide +kernel
theorem dX7_over_0 : decode cX7_over 0 = .ok (.iload_n 1, 1) := by decide +kernel
theorem dX7_over_1 : decode cX7_over 1 = .ok (.invokestatic 289, 3) := by decide +kernel
theorem dX7_over_4 : decode cX7_over 4 = .ok (.ifCond .ne 5, 3) := by decide +kernel
theorem dX7_over_7 : decode cX7_over 7 = .ok (.iconst (-1), 1) := by decide +kernel
theorem dX7_over_8 : decode cX7_over 8 = .ok (.ireturn, 1) := by decide +kernel
theorem dX7_over_9 : decode cX7_over 9 = .ok (.aload_n 0, 1) := by decide +kernel
theorem dX7_over_10 : decode cX7_over 10 = .ok (.getfield 61, 3) := by decide +kernel
theorem dX7_over_13 : decode cX7_over 13 = .ok (.aload_n 0, 1) := by decide +kernel
theorem dX7_over_14 : decode cX7_over 14 = .ok (.getfield 12, 3) := by decide +kernel
theorem dX7_over_17 : decode cX7_over 17 = .ok (.invokevirtual 292, 3) := by decide +kernel
theorem dX7_over_20 : decode cX7_over 20 = .ok (.aload_n 0, 1) := by decide +kernel
theorem dX7_over_21 : decode cX7_over 21 = .ok (.getfield 61, 3) := by decide +kernel
theorem dX7_over_24 : decode cX7_over 24 = .ok (.iload_n 1, 1) := by decide +kernel
theorem dX7_over_25 : decode cX7_over 25 = .ok (.i2l, 1) := by decide +kernel
theorem dX7_over_26 : decode cX7_over 26 = .ok (.invokevirtual 296, 3) := by decide +kernel
theorem dX7_over_29 : decode cX7_over 29 = .ok (.iload_n 1, 1) := by decide +kernel
theorem dX7_over_30 : decode cX7_over 30 = .ok (.i2l, 1) := by decide +kernel
theorem dX7_over_31 : decode cX7_over 31 = .ok (.lstore_n 2, 1) := by decide +kernel
theorem dX7_over_32 : decode cX7_over 32 = .ok (.aload_n 0, 1) := by decide +kernel
theorem dX7_over_33 : decode cX7_over 33 = .ok (.getfield 40, 3) := by decide +kernel
theorem dX7_over_36 : decode cX7_over 36 = .ok (.invokevirtual 184, 3) := by decide +kernel
theorem dX7_over_39 : decode cX7_over 39 = .ok (.iconst 0, 1) := by decide +kernel
theorem dX7_over_40 : decode cX7_over 40 = .ok (.istore 4, 2) := by decide +kernel
theorem dX7_over_42 : decode cX7_over 42 = .ok (.iload 4, 2) := by decide +kernel
theorem dX7_over_44 : decode cX7_over 44 = .ok (.bipush 8, 2) := by decide +kernel
theorem dX7_over_46 : decode cX7_over 46 = .ok (.if_icmp .ge 38, 3) := by decide +kernel
theorem dX7_over_49 : decode cX7_over 49 = .ok (.aload_n 0, 1) := by decide +kernel
theorem dX7_over_50 : decode cX7_over 50 = .ok (.getfield 61, 3) := by decide +kernel
theorem dX7_over_53 : decode cX7_over 53 = .ok (.aload_n 0, 1) := by decide +kernel
theorem dX7_over_54 : decode cX7_over 54 = .ok (.getfield 12, 3) := by decide +kernel
theorem dX7_over_57 : decode cX7_over 57 = .ok (.iload 4, 2) := by decide +kernel
theorem dX7_over_59 : decode cX7_over 59 = .ok (.invokevirtual 311, 3) := by decide +kernel
theorem dX7_over_62 : decode cX7_over 62 = .ok (.lstore 5, 2) := by decide +kernel
theorem dX7_over_64 : decode cX7_over 64 = .ok (.aload_n 0, 1) := by decide +kernel
theorem dX7_over_65 : decode cX7_over 65 = .ok (.getfield 40, 3) := by decide +kernel
theorem dX7_over_68 : decode cX7_over 68 = .ok (.lload 5, 2) := by decide +kernel
theorem dX7_over_70 : decode cX7_over 70 = .ok (.invokevirtual 181, 3) := by decide +kernel
theorem dX7_over_73 : decode cX7_over 73 = .ok (.lload_n 2, 1) := by decide +kernel
theorem dX7_over_74 : decode cX7_over 74 = .ok (.lload 5, 2) := by decide +kernel
theorem dX7_over_76 : decode cX7_over 76 = .ok (.lsub, 1) := by decide +kernel
theorem dX7_over_77 : decode cX7_over 77 = .ok (.lstore_n 2, 1) := by decide +kernel
theorem dX7_over_78 : decode cX7_over 78 = .ok (.iinc 4 1, 3) := by decide +kernel
theorem dX7_over_81 : decode cX7_over 81 = .ok (.goto (-39), 3) := by decide +kernel
theorem dX7_over_84 : decode cX7_over 84 = .ok (.lload_n 2, 1) := by decide +kernel
theorem dX7_over_85 : decode cX7_over 85 = .ok (.l2i, 1) := by decide +kernel
theorem dX7_over_86 : decode cX7_over 86 = .ok (.ireturn, 1) := by decide +kernel
theorem dX7_worth_0 : decode cX7_worth 0 = .ok (.aload_n 0, 1) := by decide +kernel
theorem dX7_worth_1 : decode cX7_worth 1 = .ok (.iload_n 1, 1) := by decide +kernel
theorem dX7_worth_2 : decode cX7_worth 2 = .ok (.invokevirtual 110, 3) := by decide +kernel
theorem dX7_worth_5 : decode cX7_worth 5 = .ok (.ifCond .eq 10, 3) := by decide +kernel
theorem dX7_worth_8 : decode cX7_worth 8 = .ok (.iload_n 2, 1) := by decide +kernel
theorem dX7_worth_9 : decode cX7_worth 9 = .ok (.invokestatic 289, 3) := by decide +kernel
theorem dX7_worth_12 : decode cX7_worth 12 = .ok (.ifCond .ne 5, 3) := by decide +kernel
theorem dX7_worth_15 : decode cX7_worth 15 = .ok (.iconst (-1), 1) := by decide +kernel
theorem dX7_worth_16 : decode cX7_worth 16 = .ok (.ireturn, 1) := by decide +kernel
theorem dX7_worth_17 : decode cX7_worth 17 = .ok (.aload_n 0, 1) := by decide +kernel
theorem dX7_worth_18 : decode cX7_worth 18 = .ok (.getfield 12, 3) := by decide +kernel
theorem dX7_worth_21 : decode cX7_worth 21 = .ok (.iload_n 1, 1) := by decide +kernel
theorem dX7_worth_22 : decode cX7_worth 22 = .ok (.invokevirtual 246, 3) := by decide +kernel
theorem dX7_worth_25 : decode cX7_worth 25 = .ok (.lstore_n 3, 1) := by decide +kernel
theorem dX7_worth_26 : decode cX7_worth 26 = .ok (.lload_n 3, 1) := by decide +kernel
theorem dX7_worth_27 : decode cX7_worth 27 = .ok (.lconst 0, 1) := by decide +kernel
theorem dX7_worth_28 : decode cX7_worth 28 = .ok (.lcmp, 1) := by decide +kernel
theorem dX7_worth_29 : decode cX7_worth 29 = .ok (.ifCond .ne 6, 3) := by decide +kernel
theorem dX7_worth_32 : decode cX7_worth 32 = .ok (.bipush (-2), 2) := by decide +kernel
theorem dX7_worth_34 : decode cX7_worth 34 = .ok (.ireturn, 1) := by decide +kernel
theorem dX7_worth_35 : decode cX7_worth 35 = .ok (.aload_n 0, 1) := by decide +kernel
theorem dX7_worth_36 : decode cX7_worth 36 = .ok (.getfield 61, 3) := by decide +kernel
theorem dX7_worth_39 : decode cX7_worth 39 = .ok (.aload_n 0, 1) := by decide +kernel
theorem dX7_worth_40 : decode cX7_worth 40 = .ok (.getfield 12, 3) := by decide +kernel
theorem dX7_worth_43 : decode cX7_worth 43 = .ok (.invokevirtual 292, 3) := by decide +kernel
theorem dX7_worth_46 : decode cX7_worth 46 = .ok (.aload_n 0, 1) := by decide +kernel
theorem dX7_worth_47 : decode cX7_worth 47 = .ok (.getfield 61, 3) := by decide +kernel
theorem dX7_worth_50 : decode cX7_worth 50 = .ok (.iload_n 2, 1) := by decide +kernel
theorem dX7_worth_51 : decode cX7_worth 51 = .ok (.i2l, 1) := by decide +kernel
theorem dX7_worth_52 : decode cX7_worth 52 = .ok (.invokevirtual 296, 3) := by decide +kernel
theorem dX7_worth_55 : decode cX7_worth 55 = .ok (.ldc2_w 274, 3) := by decide +kernel
theorem dX7_worth_58 : decode cX7_worth 58 = .ok (.aload_n 0, 1) := by decide +kernel
theorem dX7_worth_59 : decode cX7_worth 59 = .ok (.getfield 61, 3) := by decide +kernel
theorem dX7_worth_62 : decode cX7_worth 62 = .ok (.iload_n 1, 1) := by decide +kernel
theorem dX7_worth_63 : decode cX7_worth 63 = .ok (.invokevirtual 301, 3) := by decide +kernel
theorem dX7_worth_66 : decode cX7_worth 66 = .ok (.lmul, 1) := by decide +kernel
theorem dX7_worth_67 : decode cX7_worth 67 = .ok (.lload_n 3, 1) := by decide +kernel
theorem dX7_worth_68 : decode cX7_worth 68 = .ok (.invokestatic 187, 3) := by decide +kernel
theorem dX7_worth_71 : decode cX7_worth 71 = .ok (.invokestatic 276, 3) := by decide +kernel
theorem dX7_worth_74 : decode cX7_worth 74 = .ok (.ireturn, 1) := by decide +kernel
theorem dX7_curve_0 : decode cX7_curve 0 = .ok (.iload_n 1, 1) := by decide +kernel
theorem dX7_curve_1 : decode cX7_curve 1 = .ok (.invokestatic 104, 3) := by decide +kernel
theorem dX7_curve_4 : decode cX7_curve 4 = .ok (.ifCond .eq 13, 3) := by decide +kernel
theorem dX7_curve_7 : decode cX7_curve 7 = .ok (.iload_n 2, 1) := by decide +kernel
theorem dX7_curve_8 : decode cX7_curve 8 = .ok (.ldc2_w 314, 3) := by decide +kernel
theorem dX7_curve_11 : decode cX7_curve 11 = .ok (.invokestatic 208, 3) := by decide +kernel
theorem dX7_curve_14 : decode cX7_curve 14 = .ok (.ifCond .ne 7, 3) := by decide +kernel
theorem dX7_curve_17 : decode cX7_curve 17 = .ok (.ldc2_w 316, 3) := by decide +kernel
theorem dX7_curve_20 : decode cX7_curve 20 = .ok (.lreturn, 1) := by decide +kernel
theorem dX7_curve_21 : decode cX7_curve 21 = .ok (.aload_n 0, 1) := by decide +kernel
theorem dX7_curve_22 : decode cX7_curve 22 = .ok (.getfield 61, 3) := by decide +kernel
theorem dX7_curve_25 : decode cX7_curve 25 = .ok (.aload_n 0, 1) := by decide +kernel
theorem dX7_curve_26 : decode cX7_curve 26 = .ok (.getfield 12, 3) := by decide +kernel
theorem dX7_curve_29 : decode cX7_curve 29 = .ok (.invokevirtual 292, 3) := by decide +kernel
theorem dX7_curve_32 : decode cX7_curve 32 = .ok (.lconst 0, 1) := by decide +kernel
theorem dX7_curve_33 : decode cX7_curve 33 = .ok (.lstore_n 3, 1) := by decide +kernel
theorem dX7_curve_34 : decode cX7_curve 34 = .ok (.aload_n 0, 1) := by decide +kernel
theorem dX7_curve_35 : decode cX7_curve 35 = .ok (.getfield 40, 3) := by decide +kernel
theorem dX7_curve_38 : decode cX7_curve 38 = .ok (.invokevirtual 184, 3) := by decide +kernel
theorem dX7_curve_41 : decode cX7_curve 41 = .ok (.iconst 1, 1) := by decide +kernel
theorem dX7_curve_42 : decode cX7_curve 42 = .ok (.istore 5, 2) := by decide +kernel
theorem dX7_curve_44 : decode cX7_curve 44 = .ok (.iload 5, 2) := by decide +kernel
theorem dX7_curve_46 : decode cX7_curve 46 = .ok (.bipush 8, 2) := by decide +kernel
theorem dX7_curve_48 : decode cX7_curve 48 = .ok (.if_icmp .gt 50, 3) := by decide +kernel
theorem dX7_curve_51 : decode cX7_curve 51 = .ok (.aload_n 0, 1) := by decide +kernel
theorem dX7_curve_52 : decode cX7_curve 52 = .ok (.getfield 61, 3) := by decide +kernel
theorem dX7_curve_55 : decode cX7_curve 55 = .ok (.iload 5, 2) := by decide +kernel
theorem dX7_curve_57 : decode cX7_curve 57 = .ok (.i2l, 1) := by decide +kernel
theorem dX7_curve_58 : decode cX7_curve 58 = .ok (.iload_n 2, 1) := by decide +kernel
theorem dX7_curve_59 : decode cX7_curve 59 = .ok (.i2l, 1) := by decide +kernel
theorem dX7_curve_60 : decode cX7_curve 60 = .ok (.lmul, 1) := by decide +kernel
theorem dX7_curve_61 : decode cX7_curve 61 = .ok (.invokevirtual 296, 3) := by decide +kernel
theorem dX7_curve_64 : decode cX7_curve 64 = .ok (.aload_n 0, 1) := by decide +kernel
theorem dX7_curve_65 : decode cX7_curve 65 = .ok (.getfield 61, 3) := by decide +kernel
theorem dX7_curve_68 : decode cX7_curve 68 = .ok (.aload_n 0, 1) := by decide +kernel
theorem dX7_curve_69 : decode cX7_curve 69 = .ok (.getfield 12, 3) := by decide +kernel
theorem dX7_curve_72 : decode cX7_curve 72 = .ok (.iload_n 1, 1) := by decide +kernel
theorem dX7_curve_73 : decode cX7_curve 73 = .ok (.invokevirtual 311, 3) := by decide +kernel
theorem dX7_curve_76 : decode cX7_curve 76 = .ok (.lstore 6, 2) := by decide +kernel
theorem dX7_curve_78 : decode cX7_curve 78 = .ok (.aload_n 0, 1) := by decide +kernel
theorem dX7_curve_79 : decode cX7_curve 79 = .ok (.getfield 40, 3) := by decide +kernel
theorem dX7_curve_82 : decode cX7_curve 82 = .ok (.lload 6, 2) := by decide +kernel
theorem dX7_curve_84 : decode cX7_curve 84 = .ok (.invokevirtual 181, 3) := by decide +kernel
theorem dX7_curve_87 : decode cX7_curve 87 = .ok (.lload_n 3, 1) := by decide +kernel
theorem dX7_curve_88 : decode cX7_curve 88 = .ok (.lload 6, 2) := by decide +kernel
theorem dX7_curve_90 : decode cX7_curve 90 = .ok (.ladd, 1) := by decide +kernel
theorem dX7_curve_91 : decode cX7_curve 91 = .ok (.lstore_n 3, 1) := by decide +kernel
theorem dX7_curve_92 : decode cX7_curve 92 = .ok (.iinc 5 1, 3) := by decide +kernel
theorem dX7_curve_95 : decode cX7_curve 95 = .ok (.goto (-51), 3) := by decide +kernel
theorem dX7_curve_98 : decode cX7_curve 98 = .ok (.lload_n 3, 1) := by decide +kernel
theorem dX7_curve_99 : decode cX7_curve 99 = .ok (.lreturn, 1) := by decide +kernel
theorem dX7_stage_0 : decode cX7_stage 0 = .ok (.iload_n 1, 1) := by decide +kernel
theorem dX7_stage_1 : decode cX7_stage 1 = .ok (.invokestatic 289, 3) := by decide +kernel
theorem dX7_stage_4 : decode cX7_stage 4 = .ok (.ifCond .ne 5, 3) := by decide +kernel
theorem dX7_stage_7 : decode cX7_stage 7 = .ok (.iconst (-1), 1) := by decide +kernel
theorem dX7_stage_8 : decode cX7_stage 8 = .ok (.ireturn, 1) := by decide +kernel
theorem dX7_stage_9 : decode cX7_stage 9 = .ok (.aload_n 0, 1) := by decide +kernel
theorem dX7_stage_10 : decode cX7_stage 10 = .ok (.getfield 61, 3) := by decide +kernel
theorem dX7_stage_13 : decode cX7_stage 13 = .ok (.aload_n 0, 1) := by decide +kernel
theorem dX7_stage_14 : decode cX7_stage 14 = .ok (.getfield 12, 3) := by decide +kernel
theorem dX7_stage_17 : decode cX7_stage 17 = .ok (.invokevirtual 292, 3) := by decide +kernel
theorem dX7_stage_20 : decode cX7_stage 20 = .ok (.aload_n 0, 1) := by decide +kernel
theorem dX7_stage_21 : decode cX7_stage 21 = .ok (.getfield 61, 3) := by decide +kernel
theorem dX7_stage_24 : decode cX7_stage 24 = .ok (.iload_n 1, 1) := by decide +kernel
theorem dX7_stage_25 : decode cX7_stage 25 = .ok (.i2l, 1) := by decide +kernel
theorem dX7_stage_26 : decode cX7_stage 26 = .ok (.invokevirtual 296, 3) := by decide +kernel
theorem dX7_stage_29 : decode cX7_stage 29 = .ok (.iconst 0, 1) := by decide +kernel
theorem dX7_stage_30 : decode cX7_stage 30 = .ok (.istore_n 2, 1) := by decide +kernel
theorem dX7_stage_31 : decode cX7_stage 31 = .ok (.lconst 0, 1) := by decide +kernel
theorem dX7_stage_32 : decode cX7_stage 32 = .ok (.lstore_n 3, 1) := by decide +kernel
theorem dX7_stage_33 : decode cX7_stage 33 = .ok (.iconst 1, 1) := by decide +kernel
theorem dX7_stage_34 : decode cX7_stage 34 = .ok (.istore 5, 2) := by decide +kernel
theorem dX7_stage_36 : decode cX7_stage 36 = .ok (.iload 5, 2) := by decide +kernel
theorem dX7_stage_38 : decode cX7_stage 38 = .ok (.aload_n 0, 1) := by decide +kernel
theorem dX7_stage_39 : decode cX7_stage 39 = .ok (.getfield 12, 3) := by decide +kernel
theorem dX7_stage_42 : decode cX7_stage 42 = .ok (.invokevirtual 135, 3) := by decide +kernel
theorem dX7_stage_45 : decode cX7_stage 45 = .ok (.if_icmp .ge 55, 3) := by decide +kernel
theorem dX7_stage_48 : decode cX7_stage 48 = .ok (.aload_n 0, 1) := by decide +kernel
theorem dX7_stage_49 : decode cX7_stage 49 = .ok (.getfield 61, 3) := by decide +kernel
theorem dX7_stage_52 : decode cX7_stage 52 = .ok (.iload 5, 2) := by decide +kernel
theorem dX7_stage_54 : decode cX7_stage 54 = .ok (.invokevirtual 318, 3) := by decide +kernel
theorem dX7_stage_57 : decode cX7_stage 57 = .ok (.ifCond .ne 37, 3) := by decide +kernel
theorem dX7_stage_60 : decode cX7_stage 60 = .ok (.aload_n 0, 1) := by decide +kernel
theorem dX7_stage_61 : decode cX7_stage 61 = .ok (.getfield 61, 3) := by decide +kernel
theorem dX7_stage_64 : decode cX7_stage 64 = .ok (.iload 5, 2) := by decide +kernel
theorem dX7_stage_66 : decode cX7_stage 66 = .ok (.invokevirtual 321, 3) := by decide +kernel
theorem dX7_stage_69 : decode cX7_stage 69 = .ok (.lstore 6, 2) := by decide +kernel
theorem dX7_stage_71 : decode cX7_stage 71 = .ok (.lload_n 3, 1) := by decide +kernel
theorem dX7_stage_72 : decode cX7_stage 72 = .ok (.lload 6, 2) := by decide +kernel
theorem dX7_stage_74 : decode cX7_stage 74 = .ok (.ladd, 1) := by decide +kernel
theorem dX7_stage_75 : decode cX7_stage 75 = .ok (.lstore_n 3, 1) := by decide +kernel
theorem dX7_stage_76 : decode cX7_stage 76 = .ok (.iload_n 2, 1) := by decide +kernel
theorem dX7_stage_77 : decode cX7_stage 77 = .ok (.lload 6, 2) := by decide +kernel
theorem dX7_stage_79 : decode cX7_stage 79 = .ok (.lconst 0, 1) := by decide +kernel
theorem dX7_stage_80 : decode cX7_stage 80 = .ok (.lcmp, 1) := by decide +kernel
theorem dX7_stage_81 : decode cX7_stage 81 = .ok (.ifCond .ne 10, 3) := by decide +kernel
theorem dX7_stage_84 : decode cX7_stage 84 = .ok (.iconst 1, 1) := by decide +kernel
theorem dX7_stage_85 : decode cX7_stage 85 = .ok (.iload 5, 2) := by decide +kernel
theorem dX7_stage_87 : decode cX7_stage 87 = .ok (.ishl, 1) := by decide +kernel
theorem dX7_stage_88 : decode cX7_stage 88 = .ok (.goto 4, 3) := by decide +kernel
theorem dX7_stage_91 : decode cX7_stage 91 = .ok (.iconst 0, 1) := by decide +kernel
theorem dX7_stage_92 : decode cX7_stage 92 = .ok (.ior, 1) := by decide +kernel
theorem dX7_stage_93 : decode cX7_stage 93 = .ok (.istore_n 2, 1) := by decide +kernel
theorem dX7_stage_94 : decode cX7_stage 94 = .ok (.iinc 5 1, 3) := by decide +kernel
theorem dX7_stage_97 : decode cX7_stage 97 = .ok (.goto (-61), 3) := by decide +kernel
theorem dX7_stage_100 : decode cX7_stage 100 = .ok (.aload_n 0, 1) := by decide +kernel
theorem dX7_stage_101 : decode cX7_stage 101 = .ok (.getfield 40, 3) := by decide +kernel
theorem dX7_stage_104 : decode cX7_stage 104 = .ok (.invokevirtual 184, 3) := by decide +kernel
theorem dX7_stage_107 : decode cX7_stage 107 = .ok (.aload_n 0, 1) := by decide +kernel
theorem dX7_stage_108 : decode cX7_stage 108 = .ok (.getfield 40, 3) := by decide +kernel
theorem dX7_stage_111 : decode cX7_stage 111 = .ok (.lload_n 3, 1) := by decide +kernel
theorem dX7_stage_112 : decode cX7_stage 112 = .ok (.invokestatic 276, 3) := by decide +kernel
theorem dX7_stage_115 : decode cX7_stage 115 = .ok (.i2l, 1) := by decide +kernel
theorem dX7_stage_116 : decode cX7_stage 116 = .ok (.invokevirtual 181, 3) := by decide +kernel
theorem dX7_stage_119 : decode cX7_stage 119 = .ok (.iload_n 2, 1) := by decide +kernel
theorem dX7_stage_120 : decode cX7_stage 120 = .ok (.ireturn, 1) := by decide +kernel
theorem dX7_reaches_0 : decode cX7_reaches 0 = .ok (.iload_n 1, 1) := by decide +kernel
theorem dX7_reaches_1 : decode cX7_reaches 1 = .ok (.invokestatic 104, 3) := by decide +kernel
theorem dX7_reaches_4 : decode cX7_reaches 4 = .ok (.ifCond .eq 17, 3) := by decide +kernel
theorem dX7_reaches_7 : decode cX7_reaches 7 = .ok (.iload_n 2, 1) := by decide +kernel
theorem dX7_reaches_8 : decode cX7_reaches 8 = .ok (.ifCond .lt 13, 3) := by decide +kernel
theorem dX7_reaches_11 : decode cX7_reaches 11 = .ok (.iload_n 3, 1) := by decide +kernel
theorem dX7_reaches_12 : decode cX7_reaches 12 = .ok (.ldc2_w 324, 3) := by decide +kernel
theorem dX7_reaches_15 : decode cX7_reaches 15 = .ok (.invokestatic 208, 3) := by decide +kernel
theorem dX7_reaches_18 : decode cX7_reaches 18 = .ok (.ifCond .ne 5, 3) := by decide +kernel
theorem dX7_reaches_21 : decode cX7_reaches 21 = .ok (.iconst (-1), 1) := by decide +kernel
theorem dX7_reaches_22 : decode cX7_reaches 22 = .ok (.ireturn, 1) := by decide +kernel
theorem dX7_reaches_23 : decode cX7_reaches 23 = .ok (.aload_n 0, 1) := by decide +kernel
theorem dX7_reaches_24 : decode cX7_reaches 24 = .ok (.getfield 61, 3) := by decide +kernel
theorem dX7_reaches_27 : decode cX7_reaches 27 = .ok (.aload_n 0, 1) := by decide +kernel
theorem dX7_reaches_28 : decode cX7_reaches 28 = .ok (.getfield 12, 3) := by decide +kernel
theorem dX7_reaches_31 : decode cX7_reaches 31 = .ok (.invokevirtual 292, 3) := by decide +kernel
theorem dX7_reaches_34 : decode cX7_reaches 34 = .ok (.iconst 0, 1) := by decide +kernel
theorem dX7_reaches_35 : decode cX7_reaches 35 = .ok (.istore 4, 2) := by decide +kernel
theorem dX7_reaches_37 : decode cX7_reaches 37 = .ok (.iload 4, 2) := by decide +kernel
theorem dX7_reaches_39 : decode cX7_reaches 39 = .ok (.bipush 100, 2) := by decide +kernel
theorem dX7_reaches_41 : decode cX7_reaches 41 = .ok (.if_icmp .gt 45, 3) := by decide +kernel
theorem dX7_reaches_44 : decode cX7_reaches 44 = .ok (.aload_n 0, 1) := by decide +kernel
theorem dX7_reaches_45 : decode cX7_reaches 45 = .ok (.getfield 61, 3) := by decide +kernel
theorem dX7_reaches_48 : decode cX7_reaches 48 = .ok (.iload 4, 2) := by decide +kernel
theorem dX7_reaches_50 : decode cX7_reaches 50 = .ok (.i2l, 1) := by decide +kernel
theorem dX7_reaches_51 : decode cX7_reaches 51 = .ok (.iload_n 3, 1) := by decide +kernel
theorem dX7_reaches_52 : decode cX7_reaches 52 = .ok (.i2l, 1) := by decide +kernel
theorem dX7_reaches_53 : decode cX7_reaches 53 = .ok (.lmul, 1) := by decide +kernel
theorem dX7_reaches_54 : decode cX7_reaches 54 = .ok (.invokevirtual 296, 3) := by decide +kernel
theorem dX7_reaches_57 : decode cX7_reaches 57 = .ok (.aload_n 0, 1) := by decide +kernel
theorem dX7_reaches_58 : decode cX7_reaches 58 = .ok (.getfield 61, 3) := by decide +kernel
theorem dX7_reaches_61 : decode cX7_reaches 61 = .ok (.aload_n 0, 1) := by decide +kernel
theorem dX7_reaches_62 : decode cX7_reaches 62 = .ok (.getfield 12, 3) := by decide +kernel
theorem dX7_reaches_65 : decode cX7_reaches 65 = .ok (.iload_n 1, 1) := by decide +kernel
theorem dX7_reaches_66 : decode cX7_reaches 66 = .ok (.invokevirtual 311, 3) := by decide +kernel
theorem dX7_reaches_69 : decode cX7_reaches 69 = .ok (.iload_n 2, 1) := by decide +kernel
theorem dX7_reaches_70 : decode cX7_reaches 70 = .ok (.i2l, 1) := by decide +kernel
theorem dX7_reaches_71 : decode cX7_reaches 71 = .ok (.lcmp, 1) := by decide +kernel
theorem dX7_reaches_72 : decode cX7_reaches 72 = .ok (.ifCond .lt 8, 3) := by decide +kernel
theorem dX7_reaches_75 : decode cX7_reaches 75 = .ok (.iload 4, 2) := by decide +kernel
theorem dX7_reaches_77 : decode cX7_reaches 77 = .ok (.iload_n 3, 1) := by decide +kernel
theorem dX7_reaches_78 : decode cX7_reaches 78 = .ok (.imul, 1) := by decide +kernel
theorem dX7_reaches_79 : decode cX7_reaches 79 = .ok (.ireturn, 1) := by decide +kernel
theorem dX7_reaches_80 : decode cX7_reaches 80 = .ok (.iinc 4 1, 3) := by decide +kernel
theorem dX7_reaches_83 : decode cX7_reaches 83 = .ok (.goto (-46), 3) := by decide +kernel
theorem dX7_reaches_86 : decode cX7_reaches 86 = .ok (.bipush (-2), 2) := by decide +kernel
theorem dX7_reaches_88 : decode cX7_reaches 88 = .ok (.ireturn, 1) := by decide +kernel
theorem dX7_multiple_0 : decode cX7_multiple 0 = .ok (.iload_n 1, 1) := by decide +kernel
theorem dX7_multiple_1 : decode cX7_multiple 1 = .ok (.invokestatic 104, 3) := by decide +kernel
theorem dX7_multiple_4 : decode cX7_multiple 4 = .ok (.ifCond .eq 10, 3) := by decide +kernel
theorem dX7_multiple_7 : decode cX7_multiple 7 = .ok (.iload_n 2, 1) := by decide +kernel
theorem dX7_multiple_8 : decode cX7_multiple 8 = .ok (.invokestatic 289, 3) := by decide +kernel
theorem dX7_multiple_11 : decode cX7_multiple 11 = .ok (.ifCond .ne 5, 3) := by decide +kernel
theorem dX7_multiple_14 : decode cX7_multiple 14 = .ok (.iconst (-1), 1) := by decide +kernel
theorem dX7_multiple_15 : decode cX7_multiple 15 = .ok (.ireturn, 1) := by decide +kernel
theorem dX7_multiple_16 : decode cX7_multiple 16 = .ok (.aload_n 0, 1) := by decide +kernel
theorem dX7_multiple_17 : decode cX7_multiple 17 = .ok (.getfield 12, 3) := by decide +kernel
theorem dX7_multiple_20 : decode cX7_multiple 20 = .ok (.iload_n 1, 1) := by decide +kernel
theorem dX7_multiple_21 : decode cX7_multiple 21 = .ok (.invokevirtual 271, 3) := by decide +kernel
theorem dX7_multiple_24 : decode cX7_multiple 24 = .ok (.lstore_n 3, 1) := by decide +kernel
theorem dX7_multiple_25 : decode cX7_multiple 25 = .ok (.lload_n 3, 1) := by decide +kernel
theorem dX7_multiple_26 : decode cX7_multiple 26 = .ok (.lconst 0, 1) := by decide +kernel
theorem dX7_multiple_27 : decode cX7_multiple 27 = .ok (.lcmp, 1) := by decide +kernel
theorem dX7_multiple_28 : decode cX7_multiple 28 = .ok (.ifCond .ne 6, 3) := by decide +kernel
theorem dX7_multiple_31 : decode cX7_multiple 31 = .ok (.bipush (-2), 2) := by decide +kernel
theorem dX7_multiple_33 : decode cX7_multiple 33 = .ok (.ireturn, 1) := by decide +kernel
theorem dX7_multiple_34 : decode cX7_multiple 34 = .ok (.aload_n 0, 1) := by decide +kernel
theorem dX7_multiple_35 : decode cX7_multiple 35 = .ok (.getfield 61, 3) := by decide +kernel
theorem dX7_multiple_38 : decode cX7_multiple 38 = .ok (.aload_n 0, 1) := by decide +kernel
theorem dX7_multiple_39 : decode cX7_multiple 39 = .ok (.getfield 12, 3) := by decide +kernel
theorem dX7_multiple_42 : decode cX7_multiple 42 = .ok (.invokevirtual 292, 3) := by decide +kernel
theorem dX7_multiple_45 : decode cX7_multiple 45 = .ok (.aload_n 0, 1) := by decide +kernel
theorem dX7_multiple_46 : decode cX7_multiple 46 = .ok (.getfield 61, 3) := by decide +kernel
theorem dX7_multiple_49 : decode cX7_multiple 49 = .ok (.iload_n 2, 1) := by decide +kernel
theorem dX7_multiple_50 : decode cX7_multiple 50 = .ok (.i2l, 1) := by decide +kernel
theorem dX7_multiple_51 : decode cX7_multiple 51 = .ok (.invokevirtual 296, 3) := by decide +kernel
theorem dX7_multiple_54 : decode cX7_multiple 54 = .ok (.ldc2_w 326, 3) := by decide +kernel
theorem dX7_multiple_57 : decode cX7_multiple 57 = .ok (.aload_n 0, 1) := by decide +kernel
theorem dX7_multiple_58 : decode cX7_multiple 58 = .ok (.getfield 61, 3) := by decide +kernel
theorem dX7_multiple_61 : decode cX7_multiple 61 = .ok (.aload_n 0, 1) := by decide +kernel
theorem dX7_multiple_62 : decode cX7_multiple 62 = .ok (.getfield 12, 3) := by decide +kernel
theorem dX7_multiple_65 : decode cX7_multiple 65 = .ok (.iload_n 1, 1) := by decide +kernel
theorem dX7_multiple_66 : decode cX7_multiple 66 = .ok (.invokevirtual 311, 3) := by decide +kernel
theorem dX7_multiple_69 : decode cX7_multiple 69 = .ok (.lmul, 1) := by decide +kernel
theorem dX7_multiple_70 : decode cX7_multiple 70 = .ok (.lload_n 3, 1) := by decide +kernel
theorem dX7_multiple_71 : decode cX7_multiple 71 = .ok (.invokestatic 187, 3) := by decide +kernel
theorem dX7_multiple_74 : decode cX7_multiple 74 = .ok (.invokestatic 276, 3) := by decide +kernel
theorem dX7_multiple_77 : decode cX7_multiple 77 = .ok (.ireturn, 1) := by decide +kernel
theorem dX7_preference_0 : decode cX7_preference 0 = .ok (.aload_n 0, 1) := by decide +kernel
theorem dX7_preference_1 : decode cX7_preference 1 = .ok (.iload_n 1, 1) := by decide +kernel
theorem dX7_preference_2 : decode cX7_preference 2 = .ok (.invokevirtual 145, 3) := by decide +kernel
theorem dX7_preference_5 : decode cX7_preference 5 = .ok (.ifCond .ne 5, 3) := by decide +kernel
theorem dX7_preference_8 : decode cX7_preference 8 = .ok (.iconst (-1), 1) := by decide +kernel
theorem dX7_preference_9 : decode cX7_preference 9 = .ok (.ireturn, 1) := by decide +kernel
theorem dX7_preference_10 : decode cX7_preference 10 = .ok (.lconst 0, 1) := by decide +kernel
theorem dX7_preference_11 : decode cX7_preference 11 = .ok (.lstore_n 2, 1) := by decide +kernel
theorem dX7_preference_12 : decode cX7_preference 12 = .ok (.iload_n 1, 1) := by decide +kernel
theorem dX7_preference_13 : decode cX7_preference 13 = .ok (.istore 4, 2) := by decide +kernel
theorem dX7_preference_15 : decode cX7_preference 15 = .ok (.iload 4, 2) := by decide +kernel
theorem dX7_preference_17 : decode cX7_preference 17 = .ok (.aload_n 0, 1) := by decide +kernel
theorem dX7_preference_18 : decode cX7_preference 18 = .ok (.getfield 12, 3) := by decide +kernel
theorem dX7_preference_21 : decode cX7_preference 21 = .ok (.invokevirtual 135, 3) := by decide +kernel
theorem dX7_preference_24 : decode cX7_preference 24 = .ok (.if_icmp .ge 21, 3) := by decide +kernel
theorem dX7_preference_27 : decode cX7_preference 27 = .ok (.lload_n 2, 1) := by decide +kernel
theorem dX7_preference_28 : decode cX7_preference 28 = .ok (.aload_n 0, 1) := by decide +kernel
theorem dX7_preference_29 : decode cX7_preference 29 = .ok (.getfield 12, 3) := by decide +kernel
theorem dX7_preference_32 : decode cX7_preference 32 = .ok (.iload 4, 2) := by decide +kernel
theorem dX7_preference_34 : decode cX7_preference 34 = .ok (.invokevirtual 328, 3) := by decide +kernel
theorem dX7_preference_37 : decode cX7_preference 37 = .ok (.ladd, 1) := by decide +kernel
theorem dX7_preference_38 : decode cX7_preference 38 = .ok (.lstore_n 2, 1) := by decide +kernel
theorem dX7_preference_39 : decode cX7_preference 39 = .ok (.iinc 4 1, 3) := by decide +kernel
theorem dX7_preference_42 : decode cX7_preference 42 = .ok (.goto (-27), 3) := by decide +kernel
theorem dX7_preference_45 : decode cX7_preference 45 = .ok (.aload_n 0, 1) := by decide +kernel
theorem dX7_preference_46 : decode cX7_preference 46 = .ok (.getfield 40, 3) := by decide +kernel
theorem dX7_preference_49 : decode cX7_preference 49 = .ok (.invokevirtual 184, 3) := by decide +kernel
theorem dX7_preference_52 : decode cX7_preference 52 = .ok (.aload_n 0, 1) := by decide +kernel
theorem dX7_preference_53 : decode cX7_preference 53 = .ok (.getfield 40, 3) := by decide +kernel
theorem dX7_preference_56 : decode cX7_preference 56 = .ok (.lload_n 2, 1) := by decide +kernel
theorem dX7_preference_57 : decode cX7_preference 57 = .ok (.invokestatic 276, 3) := by decide +kernel
theorem dX7_preference_60 : decode cX7_preference 60 = .ok (.i2l, 1) := by decide +kernel
theorem dX7_preference_61 : decode cX7_preference 61 = .ok (.invokevirtual 181, 3) := by decide +kernel
theorem dX7_preference_64 : decode cX7_preference 64 = .ok (.aload_n 0, 1) := by decide +kernel
theorem dX7_preference_65 : decode cX7_preference 65 = .ok (.getfield 12, 3) := by decide +kernel
theorem dX7_preference_68 : decode cX7_preference 68 = .ok (.iload_n 1, 1) := by decide +kernel
theorem dX7_preference_69 : decode cX7_preference 69 = .ok (.invokevirtual 328, 3) := by decide +kernel
theorem dX7_preference_72 : decode cX7_preference 72 = .ok (.invokestatic 276, 3) := by decide +kernel
theorem dX7_preference_75 : decode cX7_preference 75 = .ok (.ireturn, 1) := by decide +kernel
theorem dX7_flips_0 : decode cX7_flips 0 = .ok (.aload_n 0, 1) := by decide +kernel
theorem dX7_flips_1 : decode cX7_flips 1 = .ok (.iload_n 1, 1) := by decide +kernel
theorem dX7_flips_2 : decode cX7_flips 2 = .ok (.invokevirtual 145, 3) := by decide +kernel
theorem dX7_flips_5 : decode cX7_flips 5 = .ok (.ifCond .eq 13, 3) := by decide +kernel
theorem dX7_flips_8 : decode cX7_flips 8 = .ok (.iload_n 2, 1) := by decide +kernel
theorem dX7_flips_9 : decode cX7_flips 9 = .ok (.ldc2_w 324, 3) := by decide +kernel
theorem dX7_flips_12 : decode cX7_flips 12 = .ok (.invokestatic 208, 3) := by decide +kernel
theorem dX7_flips_15 : decode cX7_flips 15 = .ok (.ifCond .ne 5, 3) := by decide +kernel
theorem dX7_flips_18 : decode cX7_flips 18 = .ok (.iconst (-1), 1) := by decide +kernel
theorem dX7_flips_19 : decode cX7_flips 19 = .ok (.ireturn, 1) := by decide +kernel
theorem dX7_flips_20 : decode cX7_flips 20 = .ok (.aload_n 0, 1) := by decide +kernel
theorem dX7_flips_21 : decode cX7_flips 21 = .ok (.getfield 61, 3) := by decide +kernel
theorem dX7_flips_24 : decode cX7_flips 24 = .ok (.aload_n 0, 1) := by decide +kernel
theorem dX7_flips_25 : decode cX7_flips 25 = .ok (.getfield 12, 3) := by decide +kernel
theorem dX7_flips_28 : decode cX7_flips 28 = .ok (.invokevirtual 292, 3) := by decide +kernel
theorem dX7_flips_31 : decode cX7_flips 31 = .ok (.iconst 0, 1) := by decide +kernel
theorem dX7_flips_32 : decode cX7_flips 32 = .ok (.istore_n 3, 1) := by decide +kernel
theorem dX7_flips_33 : decode cX7_flips 33 = .ok (.iload_n 3, 1) := by decide +kernel
theorem dX7_flips_34 : decode cX7_flips 34 = .ok (.bipush 100, 2) := by decide +kernel
theorem dX7_flips_36 : decode cX7_flips 36 = .ok (.if_icmp .gt 36, 3) := by decide +kernel
theorem dX7_flips_39 : decode cX7_flips 39 = .ok (.aload_n 0, 1) := by decide +kernel
theorem dX7_flips_40 : decode cX7_flips 40 = .ok (.getfield 61, 3) := by decide +kernel
theorem dX7_flips_43 : decode cX7_flips 43 = .ok (.iload_n 3, 1) := by decide +kernel
theorem dX7_flips_44 : decode cX7_flips 44 = .ok (.i2l, 1) := by decide +kernel
theorem dX7_flips_45 : decode cX7_flips 45 = .ok (.iload_n 2, 1) := by decide +kernel
theorem dX7_flips_46 : decode cX7_flips 46 = .ok (.i2l, 1) := by decide +kernel
theorem dX7_flips_47 : decode cX7_flips 47 = .ok (.lmul, 1) := by decide +kernel
theorem dX7_flips_48 : decode cX7_flips 48 = .ok (.invokevirtual 296, 3) := by decide +kernel
theorem dX7_flips_51 : decode cX7_flips 51 = .ok (.aload_n 0, 1) := by decide +kernel
theorem dX7_flips_52 : decode cX7_flips 52 = .ok (.getfield 61, 3) := by decide +kernel
theorem dX7_flips_55 : decode cX7_flips 55 = .ok (.iload_n 1, 1) := by decide +kernel
theorem dX7_flips_56 : decode cX7_flips 56 = .ok (.invokevirtual 318, 3) := by decide +kernel
theorem dX7_flips_59 : decode cX7_flips 59 = .ok (.ifCond .eq 7, 3) := by decide +kernel
theorem dX7_flips_62 : decode cX7_flips 62 = .ok (.iload_n 3, 1) := by decide +kernel
theorem dX7_flips_63 : decode cX7_flips 63 = .ok (.iload_n 2, 1) := by decide +kernel
theorem dX7_flips_64 : decode cX7_flips 64 = .ok (.imul, 1) := by decide +kernel
theorem dX7_flips_65 : decode cX7_flips 65 = .ok (.ireturn, 1) := by decide +kernel
theorem dX7_flips_66 : decode cX7_flips 66 = .ok (.iinc 3 1, 3) := by decide +kernel
theorem dX7_flips_69 : decode cX7_flips 69 = .ok (.goto (-36), 3) := by decide +kernel
theorem dX7_flips_72 : decode cX7_flips 72 = .ok (.bipush (-2), 2) := by decide +kernel
theorem dX7_flips_74 : decode cX7_flips 74 = .ok (.ireturn, 1) := by decide +kernel
theorem dX7_keeps_0 : decode cX7_keeps 0 = .ok (.aload_n 0, 1) := by decide +kernel
theorem dX7_keeps_1 : decode cX7_keeps 1 = .ok (.getfield 12, 3) := by decide +kernel
theorem dX7_keeps_4 : decode cX7_keeps 4 = .ok (.aload_n 0, 1) := by decide +kernel
theorem dX7_keeps_5 : decode cX7_keeps 5 = .ok (.getfield 19, 3) := by decide +kernel
theorem dX7_keeps_8 : decode cX7_keeps 8 = .ok (.invokevirtual 330, 3) := by decide +kernel
theorem dX7_keeps_11 : decode cX7_keeps 11 = .ok (.aload_n 0, 1) := by decide +kernel
theorem dX7_keeps_12 : decode cX7_keeps 12 = .ok (.iconst 1, 1) := by decide +kernel
theorem dX7_keeps_13 : decode cX7_keeps 13 = .ok (.putfield 333, 3) := by decide +kernel
theorem dX7_keeps_16 : decode cX7_keeps 16 = .ok (.aload_n 0, 1) := by decide +kernel
theorem dX7_keeps_17 : decode cX7_keeps 17 = .ok (.getfield 12, 3) := by decide +kernel
theorem dX7_keeps_20 : decode cX7_keeps 20 = .ok (.invokevirtual 100, 3) := by decide +kernel
theorem dX7_keeps_23 : decode cX7_keeps 23 = .ok (.l2i, 1) := by decide +kernel
theorem dX7_keeps_24 : decode cX7_keeps 24 = .ok (.ireturn, 1) := by decide +kernel
theorem dX7_back_0 : decode cX7_back 0 = .ok (.aload_n 0, 1) := by decide +kernel
theorem dX7_back_1 : decode cX7_back 1 = .ok (.getfield 333, 3) := by decide +kernel
theorem dX7_back_4 : decode cX7_back 4 = .ok (.ifCond .ne 6, 3) := by decide +kernel
theorem dX7_back_7 : decode cX7_back 7 = .ok (.bipush (-2), 2) := by decide +kernel
theorem dX7_back_9 : decode cX7_back 9 = .ok (.ireturn, 1) := by decide +kernel
theorem dX7_back_10 : decode cX7_back 10 = .ok (.aload_n 0, 1) := by decide +kernel
theorem dX7_back_11 : decode cX7_back 11 = .ok (.getfield 16, 3) := by decide +kernel
theorem dX7_back_14 : decode cX7_back 14 = .ok (.aload_n 0, 1) := by decide +kernel
theorem dX7_back_15 : decode cX7_back 15 = .ok (.getfield 19, 3) := by decide +kernel
theorem dX7_back_18 : decode cX7_back 18 = .ok (.invokevirtual 174, 3) := by decide +kernel
theorem dX7_back_21 : decode cX7_back 21 = .ok (.aload_n 0, 1) := by decide +kernel
theorem dX7_back_22 : decode cX7_back 22 = .ok (.invokevirtual 96, 3) := by decide +kernel
theorem dX7_back_25 : decode cX7_back 25 = .ok (.ifCond .eq 14, 3) := by decide +kernel
theorem dX7_back_28 : decode cX7_back 28 = .ok (.aload_n 0, 1) := by decide +kernel
theorem dX7_back_29 : decode cX7_back 29 = .ok (.getfield 12, 3) := by decide +kernel
theorem dX7_back_32 : decode cX7_back 32 = .ok (.invokevirtual 100, 3) := by decide +kernel
theorem dX7_back_35 : decode cX7_back 35 = .ok (.l2i, 1) := by decide +kernel
theorem dX7_back_36 : decode cX7_back 36 = .ok (.goto 5, 3) := by decide +kernel
theorem dX7_back_39 : decode cX7_back 39 = .ok (.bipush (-9), 2) := by decide +kernel
theorem dX7_back_41 : decode cX7_back 41 = .ok (.ireturn, 1) := by decide +kernel
theorem dX7_undo_0 : decode cX7_undo 0 = .ok (.aload_n 0, 1) := by decide +kernel
theorem dX7_undo_1 : decode cX7_undo 1 = .ok (.getfield 26, 3) := by decide +kernel
theorem dX7_undo_4 : decode cX7_undo 4 = .ok (.aload_n 0, 1) := by decide +kernel
theorem dX7_undo_5 : decode cX7_undo 5 = .ok (.getfield 12, 3) := by decide +kernel
theorem dX7_undo_8 : decode cX7_undo 8 = .ok (.invokevirtual 337, 3) := by decide +kernel
theorem dX7_undo_11 : decode cX7_undo 11 = .ok (.ifCond .eq 13, 3) := by decide +kernel
theorem dX7_undo_14 : decode cX7_undo 14 = .ok (.aload_n 0, 1) := by decide +kernel
theorem dX7_undo_15 : decode cX7_undo 15 = .ok (.getfield 26, 3) := by decide +kernel
theorem dX7_undo_18 : decode cX7_undo 18 = .ok (.getfield 341, 3) := by decide +kernel
theorem dX7_undo_21 : decode cX7_undo 21 = .ok (.goto 5, 3) := by decide +kernel
theorem dX7_undo_24 : decode cX7_undo 24 = .ok (.bipush (-2), 2) := by decide +kernel
theorem dX7_undo_26 : decode cX7_undo 26 = .ok (.ireturn, 1) := by decide +kernel
theorem dX7_count_0 : decode cX7_count 0 = .ok (.iload_n 1, 1) := by decide +kernel
theorem dX7_count_1 : decode cX7_count 1 = .ok (.tableswitch 151 0 10 #[59, 67, 76, 85, 93, 101, 109, 117, 125, 133, 142], 59) := by decide +kernel
theorem dX7_count_60 : decode cX7_count 60 = .ok (.aload_n 0, 1) := by decide +kernel
theorem dX7_count_61 : decode cX7_count 61 = .ok (.getfield 12, 3) := by decide +kernel
theorem dX7_count_64 : decode cX7_count 64 = .ok (.invokevirtual 135, 3) := by decide +kernel
theorem dX7_count_67 : decode cX7_count 67 = .ok (.ireturn, 1) := by decide +kernel
theorem dX7_count_68 : decode cX7_count 68 = .ok (.aload_n 0, 1) := by decide +kernel
theorem dX7_count_69 : decode cX7_count 69 = .ok (.getfield 12, 3) := by decide +kernel
theorem dX7_count_72 : decode cX7_count 72 = .ok (.invokevirtual 117, 3) := by decide +kernel
theorem dX7_count_75 : decode cX7_count 75 = .ok (.l2i, 1) := by decide +kernel
theorem dX7_count_76 : decode cX7_count 76 = .ok (.ireturn, 1) := by decide +kernel
theorem dX7_count_77 : decode cX7_count 77 = .ok (.aload_n 0, 1) := by decide +kernel
theorem dX7_count_78 : decode cX7_count 78 = .ok (.getfield 12, 3) := by decide +kernel
theorem dX7_count_81 : decode cX7_count 81 = .ok (.invokevirtual 243, 3) := by decide +kernel
theorem dX7_count_84 : decode cX7_count 84 = .ok (.l2i, 1) := by decide +kernel
theorem dX7_count_85 : decode cX7_count 85 = .ok (.ireturn, 1) := by decide +kernel
theorem dX7_count_86 : decode cX7_count 86 = .ok (.aload_n 0, 1) := by decide +kernel
theorem dX7_count_87 : decode cX7_count 87 = .ok (.getfield 26, 3) := by decide +kernel
theorem dX7_count_90 : decode cX7_count 90 = .ok (.getfield 341, 3) := by decide +kernel
theorem dX7_count_93 : decode cX7_count 93 = .ok (.ireturn, 1) := by decide +kernel
theorem dX7_count_94 : decode cX7_count 94 = .ok (.aload_n 0, 1) := by decide +kernel
theorem dX7_count_95 : decode cX7_count 95 = .ok (.getfield 26, 3) := by decide +kernel
theorem dX7_count_98 : decode cX7_count 98 = .ok (.getfield 344, 3) := by decide +kernel
theorem dX7_count_101 : decode cX7_count 101 = .ok (.ireturn, 1) := by decide +kernel
theorem dX7_count_102 : decode cX7_count 102 = .ok (.aload_n 0, 1) := by decide +kernel
theorem dX7_count_103 : decode cX7_count 103 = .ok (.getfield 40, 3) := by decide +kernel
theorem dX7_count_106 : decode cX7_count 106 = .ok (.getfield 347, 3) := by decide +kernel
theorem dX7_count_109 : decode cX7_count 109 = .ok (.ireturn, 1) := by decide +kernel
theorem dX7_count_110 : decode cX7_count 110 = .ok (.aload_n 0, 1) := by decide +kernel
theorem dX7_count_111 : decode cX7_count 111 = .ok (.getfield 33, 3) := by decide +kernel
theorem dX7_count_114 : decode cX7_count 114 = .ok (.getfield 349, 3) := by decide +kernel
theorem dX7_count_117 : decode cX7_count 117 = .ok (.ireturn, 1) := by decide +kernel
theorem dX7_count_118 : decode cX7_count 118 = .ok (.aload_n 0, 1) := by decide +kernel
theorem dX7_count_119 : decode cX7_count 119 = .ok (.getfield 12, 3) := by decide +kernel
theorem dX7_count_122 : decode cX7_count 122 = .ok (.invokevirtual 352, 3) := by decide +kernel
theorem dX7_count_125 : decode cX7_count 125 = .ok (.ireturn, 1) := by decide +kernel
theorem dX7_count_126 : decode cX7_count 126 = .ok (.aload_n 0, 1) := by decide +kernel
theorem dX7_count_127 : decode cX7_count 127 = .ok (.getfield 12, 3) := by decide +kernel
theorem dX7_count_130 : decode cX7_count 130 = .ok (.invokevirtual 355, 3) := by decide +kernel
theorem dX7_count_133 : decode cX7_count 133 = .ok (.ireturn, 1) := by decide +kernel
theorem dX7_count_134 : decode cX7_count 134 = .ok (.aload_n 0, 1) := by decide +kernel
theorem dX7_count_135 : decode cX7_count 135 = .ok (.getfield 12, 3) := by decide +kernel
theorem dX7_count_138 : decode cX7_count 138 = .ok (.iconst 2, 1) := by decide +kernel
theorem dX7_count_139 : decode cX7_count 139 = .ok (.invokevirtual 358, 3) := by decide +kernel
theorem dX7_count_142 : decode cX7_count 142 = .ok (.ireturn, 1) := by decide +kernel
theorem dX7_count_143 : decode cX7_count 143 = .ok (.aload_n 0, 1) := by decide +kernel
theorem dX7_count_144 : decode cX7_count 144 = .ok (.getfield 12, 3) := by decide +kernel
theorem dX7_count_147 : decode cX7_count 147 = .ok (.iconst 5, 1) := by decide +kernel
theorem dX7_count_148 : decode cX7_count 148 = .ok (.invokevirtual 358, 3) := by decide +kernel
theorem dX7_count_151 : decode cX7_count 151 = .ok (.ireturn, 1) := by decide +kernel
theorem dX7_count_152 : decode cX7_count 152 = .ok (.iconst (-1), 1) := by decide +kernel
theorem dX7_count_153 : decode cX7_count 153 = .ok (.ireturn, 1) := by decide +kernel
theorem dX7_row_0 : decode cX7_row 0 = .ok (.iload_n 1, 1) := by decide +kernel
theorem dX7_row_1 : decode cX7_row 1 = .ok (.ifCond .lt 14, 3) := by decide +kernel
theorem dX7_row_4 : decode cX7_row 4 = .ok (.iload_n 1, 1) := by decide +kernel
theorem dX7_row_5 : decode cX7_row 5 = .ok (.aload_n 0, 1) := by decide +kernel
theorem dX7_row_6 : decode cX7_row 6 = .ok (.getfield 40, 3) := by decide +kernel
theorem dX7_row_9 : decode cX7_row 9 = .ok (.getfield 347, 3) := by decide +kernel
theorem dX7_row_12 : decode cX7_row 12 = .ok (.if_icmp .lt 14, 3) := by decide +kernel
theorem dX7_row_15 : decode cX7_row 15 = .ok (.new 361, 3) := by decide +kernel
theorem dX7_row_18 : decode cX7_row 18 = .ok (.dup, 1) := by decide +kernel
theorem dX7_row_19 : decode cX7_row 19 = .ok (.ldc_w 363, 3) := by decide +kernel
theorem dX7_row_22 : decode cX7_row 22 = .ok (.invokespecial 365, 3) := by decide +kernel
theorem dX7_row_25 : decode cX7_row 25 = .ok (.athrow, 1) := by decide +kernel
theorem dX7_row_26 : decode cX7_row 26 = .ok (.aload_n 0, 1) := by decide +kernel
theorem dX7_row_27 : decode cX7_row 27 = .ok (.getfield 40, 3) := by decide +kernel
theorem dX7_row_30 : decode cX7_row 30 = .ok (.iload_n 1, 1) := by decide +kernel
theorem dX7_row_31 : decode cX7_row 31 = .ok (.invokevirtual 368, 3) := by decide +kernel
theorem dX7_row_34 : decode cX7_row 34 = .ok (.lreturn, 1) := by decide +kernel
theorem dX7_isHolder_0 : decode cX7_isHolder 0 = .ok (.iload_n 0, 1) := by decide +kernel
theorem dX7_isHolder_1 : decode cX7_isHolder 1 = .ok (.ifCond .lt 13, 3) := by decide +kernel
theorem dX7_isHolder_4 : decode cX7_isHolder 4 = .ok (.iload_n 0, 1) := by decide +kernel
theorem dX7_isHolder_5 : decode cX7_isHolder 5 = .ok (.bipush 8, 2) := by decide +kernel
theorem dX7_isHolder_7 : decode cX7_isHolder 7 = .ok (.if_icmp .ge 7, 3) := by decide +kernel
theorem dX7_isHolder_10 : decode cX7_isHolder 10 = .ok (.iconst 1, 1) := by decide +kernel
theorem dX7_isHolder_11 : decode cX7_isHolder 11 = .ok (.goto 4, 3) := by decide +kernel
theorem dX7_isHolder_14 : decode cX7_isHolder 14 = .ok (.iconst 0, 1) := by decide +kernel
theorem dX7_isHolder_15 : decode cX7_isHolder 15 = .ok (.ireturn, 1) := by decide +kernel
theorem dX7_isSum_0 : decode cX7_isSum 0 = .ok (.iload_n 0, 1) := by decide +kernel
theorem dX7_isSum_1 : decode cX7_isSum 1 = .ok (.ifCond .lt 16, 3) := by decide +kernel
theorem dX7_isSum_4 : decode cX7_isSum 4 = .ok (.iload_n 0, 1) := by decide +kernel
theorem dX7_isSum_5 : decode cX7_isSum 5 = .ok (.i2l, 1) := by decide +kernel
theorem dX7_isSum_6 : decode cX7_isSum 6 = .ok (.ldc2_w 252, 3) := by decide +kernel
theorem dX7_isSum_9 : decode cX7_isSum 9 = .ok (.lcmp, 1) := by decide +kernel
theorem dX7_isSum_10 : decode cX7_isSum 10 = .ok (.ifCond .gt 7, 3) := by decide +kernel
theorem dX7_isSum_13 : decode cX7_isSum 13 = .ok (.iconst 1, 1) := by decide +kernel
theorem dX7_isSum_14 : decode cX7_isSum 14 = .ok (.goto 4, 3) := by decide +kernel
theorem dX7_isSum_17 : decode cX7_isSum 17 = .ok (.iconst 0, 1) := by decide +kernel
theorem dX7_isSum_18 : decode cX7_isSum 18 = .ok (.ireturn, 1) := by decide +kernel
theorem dX7_isUpTo_0 : decode cX7_isUpTo 0 = .ok (.iload_n 0, 1) := by decide +kernel
theorem dX7_isUpTo_1 : decode cX7_isUpTo 1 = .ok (.iconst 1, 1) := by decide +kernel
theorem dX7_isUpTo_2 : decode cX7_isUpTo 2 = .ok (.if_icmp .lt 14, 3) := by decide +kernel
theorem dX7_isUpTo_5 : decode cX7_isUpTo 5 = .ok (.iload_n 0, 1) := by decide +kernel
theorem dX7_isUpTo_6 : decode cX7_isUpTo 6 = .ok (.i2l, 1) := by decide +kernel
theorem dX7_isUpTo_7 : decode cX7_isUpTo 7 = .ok (.lload_n 1, 1) := by decide +kernel
theorem dX7_isUpTo_8 : decode cX7_isUpTo 8 = .ok (.lcmp, 1) := by decide +kernel
theorem dX7_isUpTo_9 : decode cX7_isUpTo 9 = .ok (.ifCond .gt 7, 3) := by decide +kernel
theorem dX7_isUpTo_12 : decode cX7_isUpTo 12 = .ok (.iconst 1, 1) := by decide +kernel
theorem dX7_isUpTo_13 : decode cX7_isUpTo 13 = .ok (.goto 4, 3) := by decide +kernel
theorem dX7_isUpTo_16 : decode cX7_isUpTo 16 = .ok (.iconst 0, 1) := by decide +kernel
theorem dX7_isUpTo_17 : decode cX7_isUpTo 17 = .ok (.ireturn, 1) := by decide +kernel
theorem dX7_isType_0 : decode cX7_isType 0 = .ok (.iload_n 1, 1) := by decide +kernel
theorem dX7_isType_1 : decode cX7_isType 1 = .ok (.ifCond .lt 18, 3) := by decide +kernel
theorem dX7_isType_4 : decode cX7_isType 4 = .ok (.iload_n 1, 1) := by decide +kernel
theorem dX7_isType_5 : decode cX7_isType 5 = .ok (.aload_n 0, 1) := by decide +kernel
theorem dX7_isType_6 : decode cX7_isType 6 = .ok (.getfield 12, 3) := by decide +kernel
theorem dX7_isType_9 : decode cX7_isType 9 = .ok (.invokevirtual 135, 3) := by decide +kernel
theorem dX7_isType_12 : decode cX7_isType 12 = .ok (.if_icmp .ge 7, 3) := by decide +kernel
theorem dX7_isType_15 : decode cX7_isType 15 = .ok (.iconst 1, 1) := by decide +kernel
theorem dX7_isType_16 : decode cX7_isType 16 = .ok (.goto 4, 3) := by decide +kernel
theorem dX7_isType_19 : decode cX7_isType 19 = .ok (.iconst 0, 1) := by decide +kernel
theorem dX7_isType_20 : decode cX7_isType 20 = .ok (.ireturn, 1) := by decide +kernel
theorem dX7_isSeries_0 : decode cX7_isSeries 0 = .ok (.iload_n 1, 1) := by decide +kernel
theorem dX7_isSeries_1 : decode cX7_isSeries 1 = .ok (.iconst 1, 1) := by decide +kernel
theorem dX7_isSeries_2 : decode cX7_isSeries 2 = .ok (.if_icmp .lt 18, 3) := by decide +kernel
theorem dX7_isSeries_5 : decode cX7_isSeries 5 = .ok (.iload_n 1, 1) := by decide +kernel
theorem dX7_isSeries_6 : decode cX7_isSeries 6 = .ok (.aload_n 0, 1) := by decide +kernel
theorem dX7_isSeries_7 : decode cX7_isSeries 7 = .ok (.getfield 12, 3) := by decide +kernel
theorem dX7_isSeries_10 : decode cX7_isSeries 10 = .ok (.invokevirtual 135, 3) := by decide +kernel
theorem dX7_isSeries_13 : decode cX7_isSeries 13 = .ok (.if_icmp .ge 7, 3) := by decide +kernel
theorem dX7_isSeries_16 : decode cX7_isSeries 16 = .ok (.iconst 1, 1) := by decide +kernel
theorem dX7_isSeries_17 : decode cX7_isSeries 17 = .ok (.goto 4, 3) := by decide +kernel
theorem dX7_isSeries_20 : decode cX7_isSeries 20 = .ok (.iconst 0, 1) := by decide +kernel
theorem dX7_isSeries_21 : decode cX7_isSeries 21 = .ok (.ireturn, 1) := by decide +kernel
theorem dX7_mostOfTerm_0 : decode cX7_mostOfTerm 0 = .ok (.iconst 2, 1) := by decide +kernel
theorem dX7_mostOfTerm_1 : decode cX7_mostOfTerm 1 = .ok (.iload_n 0, 1) := by decide +kernel
theorem dX7_mostOfTerm_2 : decode cX7_mostOfTerm 2 = .ok (.iadd, 1) := by decide +kernel
theorem dX7_mostOfTerm_3 : decode cX7_mostOfTerm 3 = .ok (.lookupswitch 30 #[(2, 25), (3, 27)], 25) := by decide +kernel
theorem dX7_mostOfTerm_28 : decode cX7_mostOfTerm 28 = .ok (.iconst 3, 1) := by decide +kernel
theorem dX7_mostOfTerm_29 : decode cX7_mostOfTerm 29 = .ok (.ireturn, 1) := by decide +kernel
theorem dX7_mostOfTerm_30 : decode cX7_mostOfTerm 30 = .ok (.bipush 50, 2) := by decide +kernel
theorem dX7_mostOfTerm_32 : decode cX7_mostOfTerm 32 = .ok (.ireturn, 1) := by decide +kernel
theorem dX7_mostOfTerm_33 : decode cX7_mostOfTerm 33 = .ok (.iconst 1, 1) := by decide +kernel
theorem dX7_mostOfTerm_34 : decode cX7_mostOfTerm 34 = .ok (.ireturn, 1) := by decide +kernel
theorem dX7_quotient_0 : decode cX7_quotient 0 = .ok (.lload_n 2, 1) := by decide +kernel
theorem dX7_quotient_1 : decode cX7_quotient 1 = .ok (.lconst 0, 1) := by decide +kernel
theorem dX7_quotient_2 : decode cX7_quotient 2 = .ok (.lcmp, 1) := by decide +kernel
theorem dX7_quotient_3 : decode cX7_quotient 3 = .ok (.ifCond .gt 7, 3) := by decide +kernel
theorem dX7_quotient_6 : decode cX7_quotient 6 = .ok (.lconst 0, 1) := by decide +kernel
theorem dX7_quotient_7 : decode cX7_quotient 7 = .ok (.goto 6, 3) := by decide +kernel
theorem dX7_quotient_10 : decode cX7_quotient 10 = .ok (.lload_n 0, 1) := by decide +kernel
theorem dX7_quotient_11 : decode cX7_quotient 11 = .ok (.lload_n 2, 1) := by decide +kernel
theorem dX7_quotient_12 : decode cX7_quotient 12 = .ok (.ldiv, 1) := by decide +kernel
theorem dX7_quotient_13 : decode cX7_quotient 13 = .ok (.lreturn, 1) := by decide +kernel
theorem dX7_capped_0 : decode cX7_capped 0 = .ok (.lload_n 0, 1) := by decide +kernel
theorem dX7_capped_1 : decode cX7_capped 1 = .ok (.ldc2_w 371, 3) := by decide +kernel
theorem dX7_capped_4 : decode cX7_capped 4 = .ok (.invokestatic 373, 3) := by decide +kernel
theorem dX7_capped_7 : decode cX7_capped 7 = .ok (.l2i, 1) := by decide +kernel
theorem dX7_capped_8 : decode cX7_capped 8 = .ok (.ireturn, 1) := by decide +kernel
theorem dX7_ratcheted_0 : decode cX7_ratcheted 0 = .ok (.lload_n 2, 1) := by decide +kernel
theorem dX7_ratcheted_1 : decode cX7_ratcheted 1 = .ok (.lconst 0, 1) := by decide +kernel
theorem dX7_ratcheted_2 : decode cX7_ratcheted 2 = .ok (.lcmp, 1) := by decide +kernel
theorem dX7_ratcheted_3 : decode cX7_ratcheted 3 = .ok (.ifCond .eq 10, 3) := by decide +kernel
theorem dX7_ratcheted_6 : decode cX7_ratcheted 6 = .ok (.lload_n 0, 1) := by decide +kernel
theorem dX7_ratcheted_7 : decode cX7_ratcheted 7 = .ok (.lload 4, 2) := by decide +kernel
theorem dX7_ratcheted_9 : decode cX7_ratcheted 9 = .ok (.lcmp, 1) := by decide +kernel
theorem dX7_ratcheted_10 : decode cX7_ratcheted 10 = .ok (.ifCond .gt 5, 3) := by decide +kernel
theorem dX7_ratcheted_13 : decode cX7_ratcheted 13 = .ok (.lload_n 0, 1) := by decide +kernel
theorem dX7_ratcheted_14 : decode cX7_ratcheted 14 = .ok (.lreturn, 1) := by decide +kernel
theorem dX7_ratcheted_15 : decode cX7_ratcheted 15 = .ok (.lload_n 2, 1) := by decide +kernel
theorem dX7_ratcheted_16 : decode cX7_ratcheted 16 = .ok (.lconst 1, 1) := by decide +kernel
theorem dX7_ratcheted_17 : decode cX7_ratcheted 17 = .ok (.lcmp, 1) := by decide +kernel
theorem dX7_ratcheted_18 : decode cX7_ratcheted 18 = .ok (.ifCond .ne 6, 3) := by decide +kernel
theorem dX7_ratcheted_21 : decode cX7_ratcheted 21 = .ok (.lload 4, 2) := by decide +kernel
theorem dX7_ratcheted_23 : decode cX7_ratcheted 23 = .ok (.lreturn, 1) := by decide +kernel
theorem dX7_ratcheted_24 : decode cX7_ratcheted 24 = .ok (.lload 10, 2) := by decide +kernel
theorem dX7_ratcheted_26 : decode cX7_ratcheted 26 = .ok (.lload 6, 2) := by decide +kernel
theorem dX7_ratcheted_28 : decode cX7_ratcheted 28 = .ok (.ladd, 1) := by decide +kernel
theorem dX7_ratcheted_29 : decode cX7_ratcheted 29 = .ok (.lconst 0, 1) := by decide +kernel
theorem dX7_ratcheted_30 : decode cX7_ratcheted 30 = .ok (.lcmp, 1) := by decide +kernel
theorem dX7_ratcheted_31 : decode cX7_ratcheted 31 = .ok (.ifCond .gt 5, 3) := by decide +kernel
theorem dX7_ratcheted_34 : decode cX7_ratcheted 34 = .ok (.lload_n 0, 1) := by decide +kernel
theorem dX7_ratcheted_35 : decode cX7_ratcheted 35 = .ok (.lreturn, 1) := by decide +kernel
theorem dX7_ratcheted_36 : decode cX7_ratcheted 36 = .ok (.lload_n 0, 1) := by decide +kernel
theorem dX7_ratcheted_37 : decode cX7_ratcheted 37 = .ok (.lload 10, 2) := by decide +kernel
theorem dX7_ratcheted_39 : decode cX7_ratcheted 39 = .ok (.lmul, 1) := by decide +kernel
theorem dX7_ratcheted_40 : decode cX7_ratcheted 40 = .ok (.ldc2_w 274, 3) := by decide +kernel
theorem dX7_ratcheted_43 : decode cX7_ratcheted 43 = .ok (.lload 8, 2) := by decide +kernel
theorem dX7_ratcheted_45 : decode cX7_ratcheted 45 = .ok (.lmul, 1) := by decide +kernel
theorem dX7_ratcheted_46 : decode cX7_ratcheted 46 = .ok (.ladd, 1) := by decide +kernel
theorem dX7_ratcheted_47 : decode cX7_ratcheted 47 = .ok (.lload 10, 2) := by decide +kernel
theorem dX7_ratcheted_49 : decode cX7_ratcheted 49 = .ok (.lload 6, 2) := by decide +kernel
theorem dX7_ratcheted_51 : decode cX7_ratcheted 51 = .ok (.ladd, 1) := by decide +kernel
theorem dX7_ratcheted_52 : decode cX7_ratcheted 52 = .ok (.invokestatic 187, 3) := by decide +kernel
theorem dX7_ratcheted_55 : decode cX7_ratcheted 55 = .ok (.lstore 12, 2) := by decide +kernel
theorem dX7_ratcheted_57 : decode cX7_ratcheted 57 = .ok (.lconst 1, 1) := by decide +kernel
theorem dX7_ratcheted_58 : decode cX7_ratcheted 58 = .ok (.lload_n 0, 1) := by decide +kernel
theorem dX7_ratcheted_59 : decode cX7_ratcheted 59 = .ok (.lload 12, 2) := by decide +kernel
theorem dX7_ratcheted_61 : decode cX7_ratcheted 61 = .ok (.invokestatic 373, 3) := by decide +kernel
theorem dX7_ratcheted_64 : decode cX7_ratcheted 64 = .ok (.invokestatic 280, 3) := by decide +kernel
theorem dX7_ratcheted_67 : decode cX7_ratcheted 67 = .ok (.lreturn, 1) := by decide +kernel
theorem dX7_beginDraft_0 : decode cX7_beginDraft 0 = .ok (.aload_n 0, 1) := by decide +kernel
theorem dX7_beginDraft_1 : decode cX7_beginDraft 1 = .ok (.getfield 16, 3) := by decide +kernel
theorem dX7_beginDraft_4 : decode cX7_beginDraft 4 = .ok (.aload_n 0, 1) := by decide +kernel
theorem dX7_beginDraft_5 : decode cX7_beginDraft 5 = .ok (.getfield 12, 3) := by decide +kernel
theorem dX7_beginDraft_8 : decode cX7_beginDraft 8 = .ok (.getfield 171, 3) := by decide +kernel
theorem dX7_beginDraft_11 : decode cX7_beginDraft 11 = .ok (.invokevirtual 174, 3) := by decide +kernel
theorem dX7_beginDraft_14 : decode cX7_beginDraft 14 = .ok (.return_, 1) := by decide +kernel
theorem dX7_accepts_0 : decode cX7_accepts 0 = .ok (.aload_n 0, 1) := by decide +kernel
theorem dX7_accepts_1 : decode cX7_accepts 1 = .ok (.getfield 16, 3) := by decide +kernel
theorem dX7_accepts_4 : decode cX7_accepts 4 = .ok (.invokevirtual 100, 3) := by decide +kernel
theorem dX7_accepts_7 : decode cX7_accepts 7 = .ok (.ldc2_w 252, 3) := by decide +kernel
theorem dX7_accepts_10 : decode cX7_accepts 10 = .ok (.lcmp, 1) := by decide +kernel
theorem dX7_accepts_11 : decode cX7_accepts 11 = .ok (.ifCond .le 5, 3) := by decide +kernel
theorem dX7_accepts_14 : decode cX7_accepts 14 = .ok (.iconst 0, 1) := by decide +kernel
theorem dX7_accepts_15 : decode cX7_accepts 15 = .ok (.ireturn, 1) := by decide +kernel
theorem dX7_accepts_16 : decode cX7_accepts 16 = .ok (.aload_n 0, 1) := by decide +kernel
theorem dX7_accepts_17 : decode cX7_accepts 17 = .ok (.getfield 26, 3) := by decide +kernel
theorem dX7_accepts_20 : decode cX7_accepts 20 = .ok (.aload_n 0, 1) := by decide +kernel
theorem dX7_accepts_21 : decode cX7_accepts 21 = .ok (.getfield 12, 3) := by decide +kernel
theorem dX7_accepts_24 : decode cX7_accepts 24 = .ok (.invokevirtual 376, 3) := by decide +kernel
theorem dX7_accepts_27 : decode cX7_accepts 27 = .ok (.aload_n 0, 1) := by decide +kernel
theorem dX7_accepts_28 : decode cX7_accepts 28 = .ok (.getfield 12, 3) := by decide +kernel
theorem dX7_accepts_31 : decode cX7_accepts 31 = .ok (.aload_n 0, 1) := by decide +kernel
theorem dX7_accepts_32 : decode cX7_accepts 32 = .ok (.getfield 16, 3) := by decide +kernel
theorem dX7_accepts_35 : decode cX7_accepts 35 = .ok (.getfield 171, 3) := by decide +kernel
theorem dX7_accepts_38 : decode cX7_accepts 38 = .ok (.invokevirtual 174, 3) := by decide +kernel
theorem dX7_accepts_41 : decode cX7_accepts 41 = .ok (.iconst 1, 1) := by decide +kernel
theorem dX7_accepts_42 : decode cX7_accepts 42 = .ok (.ireturn, 1) := by decide +kernel
theorem dX7_readTerms_0 : decode cX7_readTerms 0 = .ok (.aload_n 0, 1) := by decide +kernel
theorem dX7_readTerms_1 : decode cX7_readTerms 1 = .ok (.getfield 33, 3) := by decide +kernel
theorem dX7_readTerms_4 : decode cX7_readTerms 4 = .ok (.aload_n 0, 1) := by decide +kernel
theorem dX7_readTerms_5 : decode cX7_readTerms 5 = .ok (.getfield 47, 3) := by decide +kernel
theorem dX7_readTerms_8 : decode cX7_readTerms 8 = .ok (.invokevirtual 379, 3) := by decide +kernel
theorem dX7_readTerms_11 : decode cX7_readTerms 11 = .ok (.istore_n 1, 1) := by decide +kernel
theorem dX7_readTerms_12 : decode cX7_readTerms 12 = .ok (.aload_n 0, 1) := by decide +kernel
theorem dX7_readTerms_13 : decode cX7_readTerms 13 = .ok (.getfield 33, 3) := by decide +kernel
theorem dX7_readTerms_16 : decode cX7_readTerms 16 = .ok (.invokevirtual 84, 3) := by decide +kernel
theorem dX7_readTerms_19 : decode cX7_readTerms 19 = .ok (.istore_n 2, 1) := by decide +kernel
theorem dX7_readTerms_20 : decode cX7_readTerms 20 = .ok (.aload_n 0, 1) := by decide +kernel
theorem dX7_readTerms_21 : decode cX7_readTerms 21 = .ok (.getfield 33, 3) := by decide +kernel
theorem dX7_readTerms_24 : decode cX7_readTerms 24 = .ok (.invokevirtual 88, 3) := by decide +kernel
theorem dX7_readTerms_27 : decode cX7_readTerms 27 = .ok (.iload_n 1, 1) := by decide +kernel
theorem dX7_readTerms_28 : decode cX7_readTerms 28 = .ok (.ifCond .eq 7, 3) := by decide +kernel
theorem dX7_readTerms_31 : decode cX7_readTerms 31 = .ok (.iconst 0, 1) := by decide +kernel
theorem dX7_readTerms_32 : decode cX7_readTerms 32 = .ok (.goto 7, 3) := by decide +kernel
theorem dX7_readTerms_35 : decode cX7_readTerms 35 = .ok (.bipush (-21), 2) := by decide +kernel
theorem dX7_readTerms_37 : decode cX7_readTerms 37 = .ok (.iload_n 2, 1) := by decide +kernel
theorem dX7_readTerms_38 : decode cX7_readTerms 38 = .ok (.isub, 1) := by decide +kernel
theorem dX7_readTerms_39 : decode cX7_readTerms 39 = .ok (.ireturn, 1) := by decide +kernel
theorem dX7_tellDeal_0 : decode cX7_tellDeal 0 = .ok (.aload_n 0, 1) := by decide +kernel
theorem dX7_tellDeal_1 : decode cX7_tellDeal 1 = .ok (.getfield 40, 3) := by decide +kernel
theorem dX7_tellDeal_4 : decode cX7_tellDeal 4 = .ok (.invokevirtual 184, 3) := by decide +kernel
theorem dX7_tellDeal_7 : decode cX7_tellDeal 7 = .ok (.aload_n 0, 1) := by decide +kernel
theorem dX7_tellDeal_8 : decode cX7_tellDeal 8 = .ok (.getfield 40, 3) := by decide +kernel
theorem dX7_tellDeal_11 : decode cX7_tellDeal 11 = .ok (.aload_n 0, 1) := by decide +kernel
theorem dX7_tellDeal_12 : decode cX7_tellDeal 12 = .ok (.getfield 54, 3) := by decide +kernel
theorem dX7_tellDeal_15 : decode cX7_tellDeal 15 = .ok (.getfield 383, 3) := by decide +kernel
theorem dX7_tellDeal_18 : decode cX7_tellDeal 18 = .ok (.invokevirtual 181, 3) := by decide +kernel
theorem dX7_tellDeal_21 : decode cX7_tellDeal 21 = .ok (.aload_n 0, 1) := by decide +kernel
theorem dX7_tellDeal_22 : decode cX7_tellDeal 22 = .ok (.getfield 40, 3) := by decide +kernel
theorem dX7_tellDeal_25 : decode cX7_tellDeal 25 = .ok (.aload_n 0, 1) := by decide +kernel
theorem dX7_tellDeal_26 : decode cX7_tellDeal 26 = .ok (.getfield 54, 3) := by decide +kernel
theorem dX7_tellDeal_29 : decode cX7_tellDeal 29 = .ok (.getfield 386, 3) := by decide +kernel
theorem dX7_tellDeal_32 : decode cX7_tellDeal 32 = .ok (.i2l, 1) := by decide +kernel
theorem dX7_tellDeal_33 : decode cX7_tellDeal 33 = .ok (.invokevirtual 181, 3) := by decide +kernel
theorem dX7_tellDeal_36 : decode cX7_tellDeal 36 = .ok (.aload_n 0, 1) := by decide +kernel
theorem dX7_tellDeal_37 : decode cX7_tellDeal 37 = .ok (.getfield 40, 3) := by decide +kernel
theorem dX7_tellDeal_40 : decode cX7_tellDeal 40 = .ok (.aload_n 0, 1) := by decide +kernel
theorem dX7_tellDeal_41 : decode cX7_tellDeal 41 = .ok (.getfield 54, 3) := by decide +kernel
theorem dX7_tellDeal_44 : decode cX7_tellDeal 44 = .ok (.getfield 191, 3) := by decide +kernel
theorem dX7_tellDeal_47 : decode cX7_tellDeal 47 = .ok (.invokevirtual 181, 3) := by decide +kernel
theorem dX7_tellDeal_50 : decode cX7_tellDeal 50 = .ok (.return_, 1) := by decide +kernel
theorem dX7_weighVotes_0 : decode cX7_weighVotes 0 = .ok (.iconst 0, 1) := by decide +kernel
theorem dX7_weighVotes_1 : decode cX7_weighVotes 1 = .ok (.istore_n 1, 1) := by decide +kernel
theorem dX7_weighVotes_2 : decode cX7_weighVotes 2 = .ok (.iload_n 1, 1) := by decide +kernel
theorem dX7_weighVotes_3 : decode cX7_weighVotes 3 = .ok (.bipush 8, 2) := by decide +kernel
theorem dX7_weighVotes_5 : decode cX7_weighVotes 5 = .ok (.if_icmp .ge 23, 3) := by decide +kernel
theorem dX7_weighVotes_8 : decode cX7_weighVotes 8 = .ok (.aload_n 0, 1) := by decide +kernel
theorem dX7_weighVotes_9 : decode cX7_weighVotes 9 = .ok (.getfield 65, 3) := by decide +kernel
theorem dX7_weighVotes_12 : decode cX7_weighVotes 12 = .ok (.iload_n 1, 1) := by decide +kernel
theorem dX7_weighVotes_13 : decode cX7_weighVotes 13 = .ok (.aload_n 0, 1) := by decide +kernel
theorem dX7_weighVotes_14 : decode cX7_weighVotes 14 = .ok (.getfield 12, 3) := by decide +kernel
theorem dX7_weighVotes_17 : decode cX7_weighVotes 17 = .ok (.iload_n 1, 1) := by decide +kernel
theorem dX7_weighVotes_18 : decode cX7_weighVotes 18 = .ok (.invokevirtual 237, 3) := by decide +kernel
theorem dX7_weighVotes_21 : decode cX7_weighVotes 21 = .ok (.lastore, 1) := by decide +kernel
theorem dX7_weighVotes_22 : decode cX7_weighVotes 22 = .ok (.iinc 1 1, 3) := by decide +kernel
theorem dX7_weighVotes_25 : decode cX7_weighVotes 25 = .ok (.goto (-23), 3) := by decide +kernel
theorem dX7_weighVotes_28 : decode cX7_weighVotes 28 = .ok (.return_, 1) := by decide +kernel
theorem dX7_weighHeld_0 : decode cX7_weighHeld 0 = .ok (.iconst 0, 1) := by decide +kernel
theorem dX7_weighHeld_1 : decode cX7_weighHeld 1 = .ok (.istore_n 2, 1) := by decide +kernel
theorem dX7_weighHeld_2 : decode cX7_weighHeld 2 = .ok (.iload_n 2, 1) := by decide +kernel
theorem dX7_weighHeld_3 : decode cX7_weighHeld 3 = .ok (.bipush 8, 2) := by decide +kernel
theorem dX7_weighHeld_5 : decode cX7_weighHeld 5 = .ok (.if_icmp .ge 24, 3) := by decide +kernel
theorem dX7_weighHeld_8 : decode cX7_weighHeld 8 = .ok (.aload_n 0, 1) := by decide +kernel
theorem dX7_weighHeld_9 : decode cX7_weighHeld 9 = .ok (.getfield 65, 3) := by decide +kernel
theorem dX7_weighHeld_12 : decode cX7_weighHeld 12 = .ok (.iload_n 2, 1) := by decide +kernel
theorem dX7_weighHeld_13 : decode cX7_weighHeld 13 = .ok (.aload_n 0, 1) := by decide +kernel
theorem dX7_weighHeld_14 : decode cX7_weighHeld 14 = .ok (.getfield 12, 3) := by decide +kernel
theorem dX7_weighHeld_17 : decode cX7_weighHeld 17 = .ok (.iload_n 2, 1) := by decide +kernel
theorem dX7_weighHeld_18 : decode cX7_weighHeld 18 = .ok (.iload_n 1, 1) := by decide +kernel
theorem dX7_weighHeld_19 : decode cX7_weighHeld 19 = .ok (.invokevirtual 113, 3) := by decide +kernel
theorem dX7_weighHeld_22 : decode cX7_weighHeld 22 = .ok (.lastore, 1) := by decide +kernel
theorem dX7_weighHeld_23 : decode cX7_weighHeld 23 = .ok (.iinc 2 1, 3) := by decide +kernel
theorem dX7_weighHeld_26 : decode cX7_weighHeld 26 = .ok (.goto (-24), 3) := by decide +kernel
theorem dX7_weighHeld_29 : decode cX7_weighHeld 29 = .ok (.return_, 1) := by decide +kernel
theorem dX7_rank_0 : decode cX7_rank 0 = .ok (.iconst 0, 1) := by decide +kernel
theorem dX7_rank_1 : decode cX7_rank 1 = .ok (.istore_n 1, 1) := by decide +kernel
theorem dX7_rank_2 : decode cX7_rank 2 = .ok (.iload_n 1, 1) := by decide +kernel
theorem dX7_rank_3 : decode cX7_rank 3 = .ok (.bipush 8, 2) := by decide +kernel
theorem dX7_rank_5 : decode cX7_rank 5 = .ok (.if_icmp .ge 78, 3) := by decide +kernel
theorem dX7_rank_8 : decode cX7_rank 8 = .ok (.iconst 0, 1) := by decide +kernel
theorem dX7_rank_9 : decode cX7_rank 9 = .ok (.istore_n 2, 1) := by decide +kernel
theorem dX7_rank_10 : decode cX7_rank 10 = .ok (.iconst 0, 1) := by decide +kernel
theorem dX7_rank_11 : decode cX7_rank 11 = .ok (.istore_n 3, 1) := by decide +kernel
theorem dX7_rank_12 : decode cX7_rank 12 = .ok (.iload_n 3, 1) := by decide +kernel
theorem dX7_rank_13 : decode cX7_rank 13 = .ok (.bipush 8, 2) := by decide +kernel
theorem dX7_rank_15 : decode cX7_rank 15 = .ok (.if_icmp .ge 49, 3) := by decide +kernel
theorem dX7_rank_18 : decode cX7_rank 18 = .ok (.aload_n 0, 1) := by decide +kernel
theorem dX7_rank_19 : decode cX7_rank 19 = .ok (.getfield 65, 3) := by decide +kernel
theorem dX7_rank_22 : decode cX7_rank 22 = .ok (.iload_n 3, 1) := by decide +kernel
theorem dX7_rank_23 : decode cX7_rank 23 = .ok (.laload, 1) := by decide +kernel
theorem dX7_rank_24 : decode cX7_rank 24 = .ok (.aload_n 0, 1) := by decide +kernel
theorem dX7_rank_25 : decode cX7_rank 25 = .ok (.getfield 65, 3) := by decide +kernel
theorem dX7_rank_28 : decode cX7_rank 28 = .ok (.iload_n 1, 1) := by decide +kernel
theorem dX7_rank_29 : decode cX7_rank 29 = .ok (.laload, 1) := by decide +kernel
theorem dX7_rank_30 : decode cX7_rank 30 = .ok (.lcmp, 1) := by decide +kernel
theorem dX7_rank_31 : decode cX7_rank 31 = .ok (.ifCond .gt 24, 3) := by decide +kernel
theorem dX7_rank_34 : decode cX7_rank 34 = .ok (.aload_n 0, 1) := by decide +kernel
theorem dX7_rank_35 : decode cX7_rank 35 = .ok (.getfield 65, 3) := by decide +kernel
theorem dX7_rank_38 : decode cX7_rank 38 = .ok (.iload_n 3, 1) := by decide +kernel
theorem dX7_rank_39 : decode cX7_rank 39 = .ok (.laload, 1) := by decide +kernel
theorem dX7_rank_40 : decode cX7_rank 40 = .ok (.aload_n 0, 1) := by decide +kernel
theorem dX7_rank_41 : decode cX7_rank 41 = .ok (.getfield 65, 3) := by decide +kernel
theorem dX7_rank_44 : decode cX7_rank 44 = .ok (.iload_n 1, 1) := by decide +kernel
theorem dX7_rank_45 : decode cX7_rank 45 = .ok (.laload, 1) := by decide +kernel
theorem dX7_rank_46 : decode cX7_rank 46 = .ok (.lcmp, 1) := by decide +kernel
theorem dX7_rank_47 : decode cX7_rank 47 = .ok (.ifCond .ne 11, 3) := by decide +kernel
theorem dX7_rank_50 : decode cX7_rank 50 = .ok (.iload_n 3, 1) := by decide +kernel
theorem dX7_rank_51 : decode cX7_rank 51 = .ok (.iload_n 1, 1) := by decide +kernel
theorem dX7_rank_52 : decode cX7_rank 52 = .ok (.if_icmp .ge 6, 3) := by decide +kernel
theorem dX7_rank_55 : decode cX7_rank 55 = .ok (.iinc 2 1, 3) := by decide +kernel
theorem dX7_rank_58 : decode cX7_rank 58 = .ok (.iinc 3 1, 3) := by decide +kernel
theorem dX7_rank_61 : decode cX7_rank 61 = .ok (.goto (-49), 3) := by decide +kernel
theorem dX7_rank_64 : decode cX7_rank 64 = .ok (.iload_n 2, 1) := by decide +kernel
theorem dX7_rank_65 : decode cX7_rank 65 = .ok (.bipush 8, 2) := by decide +kernel
theorem dX7_rank_67 : decode cX7_rank 67 = .ok (.if_icmp .ge 10, 3) := by decide +kernel
theorem dX7_rank_70 : decode cX7_rank 70 = .ok (.aload_n 0, 1) := by decide +kernel
theorem dX7_rank_71 : decode cX7_rank 71 = .ok (.getfield 68, 3) := by decide +kernel
theorem dX7_rank_74 : decode cX7_rank 74 = .ok (.iload_n 2, 1) := by decide +kernel
theorem dX7_rank_75 : decode cX7_rank 75 = .ok (.iload_n 1, 1) := by decide +kernel
theorem dX7_rank_76 : decode cX7_rank 76 = .ok (.iastore, 1) := by decide +kernel
theorem dX7_rank_77 : decode cX7_rank 77 = .ok (.iinc 1 1, 3) := by decide +kernel
theorem dX7_rank_80 : decode cX7_rank 80 = .ok (.goto (-78), 3) := by decide +kernel
theorem dX7_rank_83 : decode cX7_rank 83 = .ok (.return_, 1) := by decide +kernel
theorem dX7_fewest_0 : decode cX7_fewest 0 = .ok (.lconst 0, 1) := by decide +kernel
theorem dX7_fewest_1 : decode cX7_fewest 1 = .ok (.lstore_n 1, 1) := by decide +kernel
theorem dX7_fewest_2 : decode cX7_fewest 2 = .ok (.iconst 0, 1) := by decide +kernel
theorem dX7_fewest_3 : decode cX7_fewest 3 = .ok (.istore_n 3, 1) := by decide +kernel
theorem dX7_fewest_4 : decode cX7_fewest 4 = .ok (.iload_n 3, 1) := by decide +kernel
theorem dX7_fewest_5 : decode cX7_fewest 5 = .ok (.bipush 8, 2) := by decide +kernel
theorem dX7_fewest_7 : decode cX7_fewest 7 = .ok (.if_icmp .ge 18, 3) := by decide +kernel
theorem dX7_fewest_10 : decode cX7_fewest 10 = .ok (.lload_n 1, 1) := by decide +kernel
theorem dX7_fewest_11 : decode cX7_fewest 11 = .ok (.aload_n 0, 1) := by decide +kernel
theorem dX7_fewest_12 : decode cX7_fewest 12 = .ok (.getfield 65, 3) := by decide +kernel
theorem dX7_fewest_15 : decode cX7_fewest 15 = .ok (.iload_n 3, 1) := by decide +kernel
theorem dX7_fewest_16 : decode cX7_fewest 16 = .ok (.laload, 1) := by decide +kernel
theorem dX7_fewest_17 : decode cX7_fewest 17 = .ok (.ladd, 1) := by decide +kernel
theorem dX7_fewest_18 : decode cX7_fewest 18 = .ok (.lstore_n 1, 1) := by decide +kernel
theorem dX7_fewest_19 : decode cX7_fewest 19 = .ok (.iinc 3 1, 3) := by decide +kernel
theorem dX7_fewest_22 : decode cX7_fewest 22 = .ok (.goto (-18), 3) := by decide +kernel
theorem dX7_fewest_25 : decode cX7_fewest 25 = .ok (.lload_n 1, 1) := by decide +kernel
theorem dX7_fewest_26 : decode cX7_fewest 26 = .ok (.lconst 0, 1) := by decide +kernel
theorem dX7_fewest_27 : decode cX7_fewest 27 = .ok (.lcmp, 1) := by decide +kernel
theorem dX7_fewest_28 : decode cX7_fewest 28 = .ok (.ifCond .ne 6, 3) := by decide +kernel
theorem dX7_fewest_31 : decode cX7_fewest 31 = .ok (.bipush (-2), 2) := by decide +kernel
theorem dX7_fewest_33 : decode cX7_fewest 33 = .ok (.ireturn, 1) := by decide +kernel
theorem dX7_fewest_34 : decode cX7_fewest 34 = .ok (.aload_n 0, 1) := by decide +kernel
theorem dX7_fewest_35 : decode cX7_fewest 35 = .ok (.invokevirtual 254, 3) := by decide +kernel
theorem dX7_fewest_38 : decode cX7_fewest 38 = .ok (.lconst 0, 1) := by decide +kernel
theorem dX7_fewest_39 : decode cX7_fewest 39 = .ok (.lstore_n 3, 1) := by decide +kernel
theorem dX7_fewest_40 : decode cX7_fewest 40 = .ok (.iconst 0, 1) := by decide +kernel
theorem dX7_fewest_41 : decode cX7_fewest 41 = .ok (.istore 5, 2) := by decide +kernel
theorem dX7_fewest_43 : decode cX7_fewest 43 = .ok (.iconst 0, 1) := by decide +kernel
theorem dX7_fewest_44 : decode cX7_fewest 44 = .ok (.istore 6, 2) := by decide +kernel
theorem dX7_fewest_46 : decode cX7_fewest 46 = .ok (.iconst 0, 1) := by decide +kernel
theorem dX7_fewest_47 : decode cX7_fewest 47 = .ok (.istore 7, 2) := by decide +kernel
theorem dX7_fewest_49 : decode cX7_fewest 49 = .ok (.iload 7, 2) := by decide +kernel
theorem dX7_fewest_51 : decode cX7_fewest 51 = .ok (.bipush 8, 2) := by decide +kernel
theorem dX7_fewest_53 : decode cX7_fewest 53 = .ok (.if_icmp .ge 51, 3) := by decide +kernel
theorem dX7_fewest_56 : decode cX7_fewest 56 = .ok (.ldc2_w 266, 3) := by decide +kernel
theorem dX7_fewest_59 : decode cX7_fewest 59 = .ok (.lload_n 3, 1) := by decide +kernel
theorem dX7_fewest_60 : decode cX7_fewest 60 = .ok (.lmul, 1) := by decide +kernel
theorem dX7_fewest_61 : decode cX7_fewest 61 = .ok (.lload_n 1, 1) := by decide +kernel
theorem dX7_fewest_62 : decode cX7_fewest 62 = .ok (.lcmp, 1) := by decide +kernel
theorem dX7_fewest_63 : decode cX7_fewest 63 = .ok (.ifCond .gt 41, 3) := by decide +kernel
theorem dX7_fewest_66 : decode cX7_fewest 66 = .ok (.lload_n 3, 1) := by decide +kernel
theorem dX7_fewest_67 : decode cX7_fewest 67 = .ok (.aload_n 0, 1) := by decide +kernel
theorem dX7_fewest_68 : decode cX7_fewest 68 = .ok (.getfield 65, 3) := by decide +kernel
theorem dX7_fewest_71 : decode cX7_fewest 71 = .ok (.aload_n 0, 1) := by decide +kernel
theorem dX7_fewest_72 : decode cX7_fewest 72 = .ok (.getfield 68, 3) := by decide +kernel
theorem dX7_fewest_75 : decode cX7_fewest 75 = .ok (.iload 7, 2) := by decide +kernel
theorem dX7_fewest_77 : decode cX7_fewest 77 = .ok (.iaload, 1) := by decide +kernel
theorem dX7_fewest_78 : decode cX7_fewest 78 = .ok (.laload, 1) := by decide +kernel
theorem dX7_fewest_79 : decode cX7_fewest 79 = .ok (.ladd, 1) := by decide +kernel
theorem dX7_fewest_80 : decode cX7_fewest 80 = .ok (.lstore_n 3, 1) := by decide +kernel
theorem dX7_fewest_81 : decode cX7_fewest 81 = .ok (.iload 5, 2) := by decide +kernel
theorem dX7_fewest_83 : decode cX7_fewest 83 = .ok (.iconst 1, 1) := by decide +kernel
theorem dX7_fewest_84 : decode cX7_fewest 84 = .ok (.aload_n 0, 1) := by decide +kernel
theorem dX7_fewest_85 : decode cX7_fewest 85 = .ok (.getfield 68, 3) := by decide +kernel
theorem dX7_fewest_88 : decode cX7_fewest 88 = .ok (.iload 7, 2) := by decide +kernel
theorem dX7_fewest_90 : decode cX7_fewest 90 = .ok (.iaload, 1) := by decide +kernel
theorem dX7_fewest_91 : decode cX7_fewest 91 = .ok (.ishl, 1) := by decide +kernel
theorem dX7_fewest_92 : decode cX7_fewest 92 = .ok (.ior, 1) := by decide +kernel
theorem dX7_fewest_93 : decode cX7_fewest 93 = .ok (.istore 5, 2) := by decide +kernel
theorem dX7_fewest_95 : decode cX7_fewest 95 = .ok (.iinc 6 1, 3) := by decide +kernel
theorem dX7_fewest_98 : decode cX7_fewest 98 = .ok (.iinc 7 1, 3) := by decide +kernel
theorem dX7_fewest_101 : decode cX7_fewest 101 = .ok (.goto (-52), 3) := by decide +kernel
theorem dX7_fewest_104 : decode cX7_fewest 104 = .ok (.aload_n 0, 1) := by decide +kernel
theorem dX7_fewest_105 : decode cX7_fewest 105 = .ok (.getfield 40, 3) := by decide +kernel
theorem dX7_fewest_108 : decode cX7_fewest 108 = .ok (.invokevirtual 184, 3) := by decide +kernel
theorem dX7_fewest_111 : decode cX7_fewest 111 = .ok (.aload_n 0, 1) := by decide +kernel
theorem dX7_fewest_112 : decode cX7_fewest 112 = .ok (.getfield 40, 3) := by decide +kernel
theorem dX7_fewest_115 : decode cX7_fewest 115 = .ok (.iload 5, 2) := by decide +kernel
theorem dX7_fewest_117 : decode cX7_fewest 117 = .ok (.i2l, 1) := by decide +kernel
theorem dX7_fewest_118 : decode cX7_fewest 118 = .ok (.invokevirtual 181, 3) := by decide +kernel
theorem dX7_fewest_121 : decode cX7_fewest 121 = .ok (.iload 6, 2) := by decide +kernel
theorem dX7_fewest_123 : decode cX7_fewest 123 = .ok (.ireturn, 1) := by decide +kernel
theorem dX7_swingsOf_0 : decode cX7_swingsOf 0 = .ok (.iconst 0, 1) := by decide +kernel
theorem dX7_swingsOf_1 : decode cX7_swingsOf 1 = .ok (.istore 4, 2) := by decide +kernel
theorem dX7_swingsOf_3 : decode cX7_swingsOf 3 = .ok (.iconst 0, 1) := by decide +kernel
theorem dX7_swingsOf_4 : decode cX7_swingsOf 4 = .ok (.istore 5, 2) := by decide +kernel
theorem dX7_swingsOf_6 : decode cX7_swingsOf 6 = .ok (.iload 5, 2) := by decide +kernel
theorem dX7_swingsOf_8 : decode cX7_swingsOf 8 = .ok (.sipush 256, 3) := by decide +kernel
theorem dX7_swingsOf_11 : decode cX7_swingsOf 11 = .ok (.if_icmp .ge 96, 3) := by decide +kernel
theorem dX7_swingsOf_14 : decode cX7_swingsOf 14 = .ok (.iload 5, 2) := by decide +kernel
theorem dX7_swingsOf_16 : decode cX7_swingsOf 16 = .ok (.iload_n 1, 1) := by decide +kernel
theorem dX7_swingsOf_17 : decode cX7_swingsOf 17 = .ok (.ishr, 1) := by decide +kernel
theorem dX7_swingsOf_18 : decode cX7_swingsOf 18 = .ok (.iconst 1, 1) := by decide +kernel
theorem dX7_swingsOf_19 : decode cX7_swingsOf 19 = .ok (.iand, 1) := by decide +kernel
theorem dX7_swingsOf_20 : decode cX7_swingsOf 20 = .ok (.ifCond .ne 81, 3) := by decide +kernel
theorem dX7_swingsOf_23 : decode cX7_swingsOf 23 = .ok (.lconst 0, 1) := by decide +kernel
theorem dX7_swingsOf_24 : decode cX7_swingsOf 24 = .ok (.lstore 6, 2) := by decide +kernel
theorem dX7_swingsOf_26 : decode cX7_swingsOf 26 = .ok (.iconst 0, 1) := by decide +kernel
theorem dX7_swingsOf_27 : decode cX7_swingsOf 27 = .ok (.istore 8, 2) := by decide +kernel
theorem dX7_swingsOf_29 : decode cX7_swingsOf 29 = .ok (.iload 8, 2) := by decide +kernel
theorem dX7_swingsOf_31 : decode cX7_swingsOf 31 = .ok (.bipush 8, 2) := by decide +kernel
theorem dX7_swingsOf_33 : decode cX7_swingsOf 33 = .ok (.if_icmp .ge 36, 3) := by decide +kernel
theorem dX7_swingsOf_36 : decode cX7_swingsOf 36 = .ok (.lload 6, 2) := by decide +kernel
theorem dX7_swingsOf_38 : decode cX7_swingsOf 38 = .ok (.iload 5, 2) := by decide +kernel
theorem dX7_swingsOf_40 : decode cX7_swingsOf 40 = .ok (.iload 8, 2) := by decide +kernel
theorem dX7_swingsOf_42 : decode cX7_swingsOf 42 = .ok (.ishr, 1) := by decide +kernel
theorem dX7_swingsOf_43 : decode cX7_swingsOf 43 = .ok (.iconst 1, 1) := by decide +kernel
theorem dX7_swingsOf_44 : decode cX7_swingsOf 44 = .ok (.iand, 1) := by decide +kernel
theorem dX7_swingsOf_45 : decode cX7_swingsOf 45 = .ok (.iconst 1, 1) := by decide +kernel
theorem dX7_swingsOf_46 : decode cX7_swingsOf 46 = .ok (.if_icmp .ne 13, 3) := by decide +kernel
theorem dX7_swingsOf_49 : decode cX7_swingsOf 49 = .ok (.aload_n 0, 1) := by decide +kernel
theorem dX7_swingsOf_50 : decode cX7_swingsOf 50 = .ok (.getfield 65, 3) := by decide +kernel
theorem dX7_swingsOf_53 : decode cX7_swingsOf 53 = .ok (.iload 8, 2) := by decide +kernel
theorem dX7_swingsOf_55 : decode cX7_swingsOf 55 = .ok (.laload, 1) := by decide +kernel
theorem dX7_swingsOf_56 : decode cX7_swingsOf 56 = .ok (.goto 4, 3) := by decide +kernel
theorem dX7_swingsOf_59 : decode cX7_swingsOf 59 = .ok (.lconst 0, 1) := by decide +kernel
theorem dX7_swingsOf_60 : decode cX7_swingsOf 60 = .ok (.ladd, 1) := by decide +kernel
theorem dX7_swingsOf_61 : decode cX7_swingsOf 61 = .ok (.lstore 6, 2) := by decide +kernel
theorem dX7_swingsOf_63 : decode cX7_swingsOf 63 = .ok (.iinc 8 1, 3) := by decide +kernel
theorem dX7_swingsOf_66 : decode cX7_swingsOf 66 = .ok (.goto (-37), 3) := by decide +kernel
theorem dX7_swingsOf_69 : decode cX7_swingsOf 69 = .ok (.ldc2_w 266, 3) := by decide +kernel
theorem dX7_swingsOf_72 : decode cX7_swingsOf 72 = .ok (.lload 6, 2) := by decide +kernel
theorem dX7_swingsOf_74 : decode cX7_swingsOf 74 = .ok (.lmul, 1) := by decide +kernel
theorem dX7_swingsOf_75 : decode cX7_swingsOf 75 = .ok (.lload_n 2, 1) := by decide +kernel
theorem dX7_swingsOf_76 : decode cX7_swingsOf 76 = .ok (.lcmp, 1) := by decide +kernel
theorem dX7_swingsOf_77 : decode cX7_swingsOf 77 = .ok (.ifCond .gt 24, 3) := by decide +kernel
theorem dX7_swingsOf_80 : decode cX7_swingsOf 80 = .ok (.ldc2_w 266, 3) := by decide +kernel
theorem dX7_swingsOf_83 : decode cX7_swingsOf 83 = .ok (.lload 6, 2) := by decide +kernel
theorem dX7_swingsOf_85 : decode cX7_swingsOf 85 = .ok (.aload_n 0, 1) := by decide +kernel
theorem dX7_swingsOf_86 : decode cX7_swingsOf 86 = .ok (.getfield 65, 3) := by decide +kernel
theorem dX7_swingsOf_89 : decode cX7_swingsOf 89 = .ok (.iload_n 1, 1) := by decide +kernel
theorem dX7_swingsOf_90 : decode cX7_swingsOf 90 = .ok (.laload, 1) := by decide +kernel
theorem dX7_swingsOf_91 : decode cX7_swingsOf 91 = .ok (.ladd, 1) := by decide +kernel
theorem dX7_swingsOf_92 : decode cX7_swingsOf 92 = .ok (.lmul, 1) := by decide +kernel
theorem dX7_swingsOf_93 : decode cX7_swingsOf 93 = .ok (.lload_n 2, 1) := by decide +kernel
theorem dX7_swingsOf_94 : decode cX7_swingsOf 94 = .ok (.lcmp, 1) := by decide +kernel
theorem dX7_swingsOf_95 : decode cX7_swingsOf 95 = .ok (.ifCond .le 6, 3) := by decide +kernel
theorem dX7_swingsOf_98 : decode cX7_swingsOf 98 = .ok (.iinc 4 1, 3) := by decide +kernel
theorem dX7_swingsOf_101 : decode cX7_swingsOf 101 = .ok (.iinc 5 1, 3) := by decide +kernel
theorem dX7_swingsOf_104 : decode cX7_swingsOf 104 = .ok (.goto (-98), 3) := by decide +kernel
theorem dX7_swingsOf_107 : decode cX7_swingsOf 107 = .ok (.iload 4, 2) := by decide +kernel
theorem dX7_swingsOf_109 : decode cX7_swingsOf 109 = .ok (.ireturn, 1) := by decide +kernel
