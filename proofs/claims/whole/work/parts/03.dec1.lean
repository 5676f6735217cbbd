theorem dX0_init_0 : decode cX0_init 0 = .ok (.aload_n 0, 1) := by decide +kernel
theorem dX0_init_1 : decode cX0_init 1 = .ok (.invokespecial 3, 3) := by decide +kernel
theorem dX0_init_4 : decode cX0_init 4 = .ok (.aload_n 0, 1) := by decide +kernel
theorem dX0_init_5 : decode cX0_init 5 = .ok (.new 9, 3) := by decide +kernel
theorem dX0_init_8 : decode cX0_init 8 = .ok (.dup, 1) := by decide +kernel
theorem dX0_init_9 : decode cX0_init 9 = .ok (.invokespecial 11, 3) := by decide +kernel
theorem dX0_init_12 : decode cX0_init 12 = .ok (.putfield 12, 3) := by decide +kernel
theorem dX0_init_15 : decode cX0_init 15 = .ok (.aload_n 0, 1) := by decide +kernel
theorem dX0_init_16 : decode cX0_init 16 = .ok (.bipush 6, 2) := by decide +kernel
theorem dX0_init_18 : decode cX0_init 18 = .ok (.newarray .long, 2) := by decide +kernel
theorem dX0_init_20 : decode cX0_init 20 = .ok (.putfield 18, 3) := by decide +kernel
theorem dX0_init_23 : decode cX0_init 23 = .ok (.aload_n 0, 1) := by decide +kernel
theorem dX0_init_24 : decode cX0_init 24 = .ok (.bipush 6, 2) := by decide +kernel
theorem dX0_init_26 : decode cX0_init 26 = .ok (.newarray .long, 2) := by decide +kernel
theorem dX0_init_28 : decode cX0_init 28 = .ok (.putfield 22, 3) := by decide +kernel
theorem dX0_init_31 : decode cX0_init 31 = .ok (.aload_n 0, 1) := by decide +kernel
theorem dX0_init_32 : decode cX0_init 32 = .ok (.bipush 8, 2) := by decide +kernel
theorem dX0_init_34 : decode cX0_init 34 = .ok (.newarray .long, 2) := by decide +kernel
theorem dX0_init_36 : decode cX0_init 36 = .ok (.putfield 25, 3) := by decide +kernel
theorem dX0_init_39 : decode cX0_init 39 = .ok (.return_, 1) := by decide +kernel
theorem dX0_works_0 : decode cX0_works 0 = .ok (.aload_n 0, 1) := by decide +kernel
theorem dX0_works_1 : decode cX0_works 1 = .ok (.aload_n 1, 1) := by decide +kernel
theorem dX0_works_2 : decode cX0_works 2 = .ok (.aload_n 2, 1) := by decide +kernel
theorem dX0_works_3 : decode cX0_works 3 = .ok (.invokevirtual 28, 3) := by decide +kernel
theorem dX0_works_6 : decode cX0_works 6 = .ok (.aload_n 0, 1) := by decide +kernel
theorem dX0_works_7 : decode cX0_works 7 = .ok (.aload_n 2, 1) := by decide +kernel
theorem dX0_works_8 : decode cX0_works 8 = .ok (.invokevirtual 32, 3) := by decide +kernel
theorem dX0_works_11 : decode cX0_works 11 = .ok (.ireturn, 1) := by decide +kernel
theorem dX0_begin_0 : decode cX0_begin 0 = .ok (.aload_n 0, 1) := by decide +kernel
theorem dX0_begin_1 : decode cX0_begin 1 = .ok (.getfield 12, 3) := by decide +kernel
theorem dX0_begin_4 : decode cX0_begin 4 = .ok (.aload_n 1, 1) := by decide +kernel
theorem dX0_begin_5 : decode cX0_begin 5 = .ok (.getfield 36, 3) := by decide +kernel
theorem dX0_begin_8 : decode cX0_begin 8 = .ok (.invokevirtual 39, 3) := by decide +kernel
theorem dX0_begin_11 : decode cX0_begin 11 = .ok (.aload_n 0, 1) := by decide +kernel
theorem dX0_begin_12 : decode cX0_begin 12 = .ok (.iconst 0, 1) := by decide +kernel
theorem dX0_begin_13 : decode cX0_begin 13 = .ok (.putfield 43, 3) := by decide +kernel
theorem dX0_begin_16 : decode cX0_begin 16 = .ok (.iconst 1, 1) := by decide +kernel
theorem dX0_begin_17 : decode cX0_begin 17 = .ok (.istore_n 3, 1) := by decide +kernel
theorem dX0_begin_18 : decode cX0_begin 18 = .ok (.iload_n 3, 1) := by decide +kernel
theorem dX0_begin_19 : decode cX0_begin 19 = .ok (.aload_n 0, 1) := by decide +kernel
theorem dX0_begin_20 : decode cX0_begin 20 = .ok (.getfield 12, 3) := by decide +kernel
theorem dX0_begin_23 : decode cX0_begin 23 = .ok (.invokevirtual 47, 3) := by decide +kernel
theorem dX0_begin_26 : decode cX0_begin 26 = .ok (.if_icmp .ge 36, 3) := by decide +kernel
theorem dX0_begin_29 : decode cX0_begin 29 = .ok (.aload_n 0, 1) := by decide +kernel
theorem dX0_begin_30 : decode cX0_begin 30 = .ok (.getfield 22, 3) := by decide +kernel
theorem dX0_begin_33 : decode cX0_begin 33 = .ok (.iload_n 3, 1) := by decide +kernel
theorem dX0_begin_34 : decode cX0_begin 34 = .ok (.lconst 0, 1) := by decide +kernel
theorem dX0_begin_35 : decode cX0_begin 35 = .ok (.lastore, 1) := by decide +kernel
theorem dX0_begin_36 : decode cX0_begin 36 = .ok (.aload_n 0, 1) := by decide +kernel
theorem dX0_begin_37 : decode cX0_begin 37 = .ok (.getfield 12, 3) := by decide +kernel
theorem dX0_begin_40 : decode cX0_begin 40 = .ok (.iload_n 3, 1) := by decide +kernel
theorem dX0_begin_41 : decode cX0_begin 41 = .ok (.iconst 5, 1) := by decide +kernel
theorem dX0_begin_42 : decode cX0_begin 42 = .ok (.invokevirtual 51, 3) := by decide +kernel
theorem dX0_begin_45 : decode cX0_begin 45 = .ok (.lconst 1, 1) := by decide +kernel
theorem dX0_begin_46 : decode cX0_begin 46 = .ok (.lcmp, 1) := by decide +kernel
theorem dX0_begin_47 : decode cX0_begin 47 = .ok (.ifCond .ne 9, 3) := by decide +kernel
theorem dX0_begin_50 : decode cX0_begin 50 = .ok (.aload_n 0, 1) := by decide +kernel
theorem dX0_begin_51 : decode cX0_begin 51 = .ok (.iload_n 3, 1) := by decide +kernel
theorem dX0_begin_52 : decode cX0_begin 52 = .ok (.aload_n 2, 1) := by decide +kernel
theorem dX0_begin_53 : decode cX0_begin 53 = .ok (.invokevirtual 55, 3) := by decide +kernel
theorem dX0_begin_56 : decode cX0_begin 56 = .ok (.iinc 3 1, 3) := by decide +kernel
theorem dX0_begin_59 : decode cX0_begin 59 = .ok (.goto (-41), 3) := by decide +kernel
theorem dX0_begin_62 : decode cX0_begin 62 = .ok (.return_, 1) := by decide +kernel
theorem dX0_demote_0 : decode cX0_demote 0 = .ok (.aload_n 0, 1) := by decide +kernel
theorem dX0_demote_1 : decode cX0_demote 1 = .ok (.getfield 12, 3) := by decide +kernel
theorem dX0_demote_4 : decode cX0_demote 4 = .ok (.iload_n 1, 1) := by decide +kernel
theorem dX0_demote_5 : decode cX0_demote 5 = .ok (.invokevirtual 59, 3) := by decide +kernel
theorem dX0_demote_8 : decode cX0_demote 8 = .ok (.lstore_n 3, 1) := by decide +kernel
theorem dX0_demote_9 : decode cX0_demote 9 = .ok (.iconst 0, 1) := by decide +kernel
theorem dX0_demote_10 : decode cX0_demote 10 = .ok (.istore 5, 2) := by decide +kernel
theorem dX0_demote_12 : decode cX0_demote 12 = .ok (.iload 5, 2) := by decide +kernel
theorem dX0_demote_14 : decode cX0_demote 14 = .ok (.bipush 8, 2) := by decide +kernel
theorem dX0_demote_16 : decode cX0_demote 16 = .ok (.if_icmp .ge 107, 3) := by decide +kernel
theorem dX0_demote_19 : decode cX0_demote 19 = .ok (.aload_n 0, 1) := by decide +kernel
theorem dX0_demote_20 : decode cX0_demote 20 = .ok (.getfield 12, 3) := by decide +kernel
theorem dX0_demote_23 : decode cX0_demote 23 = .ok (.iload 5, 2) := by decide +kernel
theorem dX0_demote_25 : decode cX0_demote 25 = .ok (.iload_n 1, 1) := by decide +kernel
theorem dX0_demote_26 : decode cX0_demote 26 = .ok (.invokevirtual 63, 3) := by decide +kernel
theorem dX0_demote_29 : decode cX0_demote 29 = .ok (.lstore 6, 2) := by decide +kernel
theorem dX0_demote_31 : decode cX0_demote 31 = .ok (.lload 6, 2) := by decide +kernel
theorem dX0_demote_33 : decode cX0_demote 33 = .ok (.lconst 0, 1) := by decide +kernel
theorem dX0_demote_34 : decode cX0_demote 34 = .ok (.lcmp, 1) := by decide +kernel
theorem dX0_demote_35 : decode cX0_demote 35 = .ok (.ifCond .le 82, 3) := by decide +kernel
theorem dX0_demote_38 : decode cX0_demote 38 = .ok (.aload_n 2, 1) := by decide +kernel
theorem dX0_demote_39 : decode cX0_demote 39 = .ok (.getfield 66, 3) := by decide +kernel
theorem dX0_demote_42 : decode cX0_demote 42 = .ok (.iload 5, 2) := by decide +kernel
theorem dX0_demote_44 : decode cX0_demote 44 = .ok (.laload, 1) := by decide +kernel
theorem dX0_demote_45 : decode cX0_demote 45 = .ok (.aload_n 2, 1) := by decide +kernel
theorem dX0_demote_46 : decode cX0_demote 46 = .ok (.getfield 71, 3) := by decide +kernel
theorem dX0_demote_49 : decode cX0_demote 49 = .ok (.lload 6, 2) := by decide +kernel
theorem dX0_demote_51 : decode cX0_demote 51 = .ok (.lmul, 1) := by decide +kernel
theorem dX0_demote_52 : decode cX0_demote 52 = .ok (.lload_n 3, 1) := by decide +kernel
theorem dX0_demote_53 : decode cX0_demote 53 = .ok (.invokestatic 75, 3) := by decide +kernel
theorem dX0_demote_56 : decode cX0_demote 56 = .ok (.lcmp, 1) := by decide +kernel
theorem dX0_demote_57 : decode cX0_demote 57 = .ok (.ifCond .ge 60, 3) := by decide +kernel
theorem dX0_demote_60 : decode cX0_demote 60 = .ok (.aload_n 0, 1) := by decide +kernel
theorem dX0_demote_61 : decode cX0_demote 61 = .ok (.getfield 22, 3) := by decide +kernel
theorem dX0_demote_64 : decode cX0_demote 64 = .ok (.iload_n 1, 1) := by decide +kernel
theorem dX0_demote_65 : decode cX0_demote 65 = .ok (.dup2, 1) := by decide +kernel
theorem dX0_demote_66 : decode cX0_demote 66 = .ok (.laload, 1) := by decide +kernel
theorem dX0_demote_67 : decode cX0_demote 67 = .ok (.lload 6, 2) := by decide +kernel
theorem dX0_demote_69 : decode cX0_demote 69 = .ok (.ladd, 1) := by decide +kernel
theorem dX0_demote_70 : decode cX0_demote 70 = .ok (.lastore, 1) := by decide +kernel
theorem dX0_demote_71 : decode cX0_demote 71 = .ok (.aload_n 0, 1) := by decide +kernel
theorem dX0_demote_72 : decode cX0_demote 72 = .ok (.dup, 1) := by decide +kernel
theorem dX0_demote_73 : decode cX0_demote 73 = .ok (.getfield 43, 3) := by decide +kernel
theorem dX0_demote_76 : decode cX0_demote 76 = .ok (.iconst 1, 1) := by decide +kernel
theorem dX0_demote_77 : decode cX0_demote 77 = .ok (.iload 5, 2) := by decide +kernel
theorem dX0_demote_79 : decode cX0_demote 79 = .ok (.ishl, 1) := by decide +kernel
theorem dX0_demote_80 : decode cX0_demote 80 = .ok (.ior, 1) := by decide +kernel
theorem dX0_demote_81 : decode cX0_demote 81 = .ok (.putfield 43, 3) := by decide +kernel
theorem dX0_demote_84 : decode cX0_demote 84 = .ok (.aload_n 0, 1) := by decide +kernel
theorem dX0_demote_85 : decode cX0_demote 85 = .ok (.getfield 12, 3) := by decide +kernel
theorem dX0_demote_88 : decode cX0_demote 88 = .ok (.iload 5, 2) := by decide +kernel
theorem dX0_demote_90 : decode cX0_demote 90 = .ok (.iload_n 1, 1) := by decide +kernel
theorem dX0_demote_91 : decode cX0_demote 91 = .ok (.lload 6, 2) := by decide +kernel
theorem dX0_demote_93 : decode cX0_demote 93 = .ok (.lneg, 1) := by decide +kernel
theorem dX0_demote_94 : decode cX0_demote 94 = .ok (.invokevirtual 79, 3) := by decide +kernel
theorem dX0_demote_97 : decode cX0_demote 97 = .ok (.aload_n 0, 1) := by decide +kernel
theorem dX0_demote_98 : decode cX0_demote 98 = .ok (.getfield 12, 3) := by decide +kernel
theorem dX0_demote_101 : decode cX0_demote 101 = .ok (.iload 5, 2) := by decide +kernel
theorem dX0_demote_103 : decode cX0_demote 103 = .ok (.iconst 0, 1) := by decide +kernel
theorem dX0_demote_104 : decode cX0_demote 104 = .ok (.aload_n 0, 1) := by decide +kernel
theorem dX0_demote_105 : decode cX0_demote 105 = .ok (.getfield 12, 3) := by decide +kernel
theorem dX0_demote_108 : decode cX0_demote 108 = .ok (.iload_n 1, 1) := by decide +kernel
theorem dX0_demote_109 : decode cX0_demote 109 = .ok (.lload 6, 2) := by decide +kernel
theorem dX0_demote_111 : decode cX0_demote 111 = .ok (.invokevirtual 83, 3) := by decide +kernel
theorem dX0_demote_114 : decode cX0_demote 114 = .ok (.invokevirtual 79, 3) := by decide +kernel
theorem dX0_demote_117 : decode cX0_demote 117 = .ok (.iinc 5 1, 3) := by decide +kernel
theorem dX0_demote_120 : decode cX0_demote 120 = .ok (.goto (-108), 3) := by decide +kernel
theorem dX0_demote_123 : decode cX0_demote 123 = .ok (.return_, 1) := by decide +kernel
theorem dX0_setRatchets_0 : decode cX0_setRatchets 0 = .ok (.iconst 1, 1) := by decide +kernel
theorem dX0_setRatchets_1 : decode cX0_setRatchets 1 = .ok (.istore_n 2, 1) := by decide +kernel
theorem dX0_setRatchets_2 : decode cX0_setRatchets 2 = .ok (.iload_n 2, 1) := by decide +kernel
theorem dX0_setRatchets_3 : decode cX0_setRatchets 3 = .ok (.aload_n 0, 1) := by decide +kernel
theorem dX0_setRatchets_4 : decode cX0_setRatchets 4 = .ok (.getfield 12, 3) := by decide +kernel
theorem dX0_setRatchets_7 : decode cX0_setRatchets 7 = .ok (.invokevirtual 47, 3) := by decide +kernel
theorem dX0_setRatchets_10 : decode cX0_setRatchets 10 = .ok (.if_icmp .ge 20, 3) := by decide +kernel
theorem dX0_setRatchets_13 : decode cX0_setRatchets 13 = .ok (.aload_n 0, 1) := by decide +kernel
theorem dX0_setRatchets_14 : decode cX0_setRatchets 14 = .ok (.getfield 12, 3) := by decide +kernel
theorem dX0_setRatchets_17 : decode cX0_setRatchets 17 = .ok (.iload_n 2, 1) := by decide +kernel
theorem dX0_setRatchets_18 : decode cX0_setRatchets 18 = .ok (.iconst 2, 1) := by decide +kernel
theorem dX0_setRatchets_19 : decode cX0_setRatchets 19 = .ok (.iload_n 1, 1) := by decide +kernel
theorem dX0_setRatchets_20 : decode cX0_setRatchets 20 = .ok (.i2l, 1) := by decide +kernel
theorem dX0_setRatchets_21 : decode cX0_setRatchets 21 = .ok (.invokevirtual 87, 3) := by decide +kernel
theorem dX0_setRatchets_24 : decode cX0_setRatchets 24 = .ok (.iinc 2 1, 3) := by decide +kernel
theorem dX0_setRatchets_27 : decode cX0_setRatchets 27 = .ok (.goto (-25), 3) := by decide +kernel
theorem dX0_setRatchets_30 : decode cX0_setRatchets 30 = .ok (.return_, 1) := by decide +kernel
theorem dX0_settles_0 : decode cX0_settles 0 = .ok (.aload_n 0, 1) := by decide +kernel
theorem dX0_settles_1 : decode cX0_settles 1 = .ok (.getfield 12, 3) := by decide +kernel
theorem dX0_settles_4 : decode cX0_settles 4 = .ok (.invokevirtual 47, 3) := by decide +kernel
theorem dX0_settles_7 : decode cX0_settles 7 = .ok (.bipush 6, 2) := by decide +kernel
theorem dX0_settles_9 : decode cX0_settles 9 = .ok (.if_icmp .lt 6, 3) := by decide +kernel
theorem dX0_settles_12 : decode cX0_settles 12 = .ok (.bipush (-2), 2) := by decide +kernel
theorem dX0_settles_14 : decode cX0_settles 14 = .ok (.ireturn, 1) := by decide +kernel
theorem dX0_settles_15 : decode cX0_settles 15 = .ok (.aload_n 1, 1) := by decide +kernel
theorem dX0_settles_16 : decode cX0_settles 16 = .ok (.getfield 90, 3) := by decide +kernel
theorem dX0_settles_19 : decode cX0_settles 19 = .ok (.ldc2_w 93, 3) := by decide +kernel
theorem dX0_settles_22 : decode cX0_settles 22 = .ok (.lcmp, 1) := by decide +kernel
theorem dX0_settles_23 : decode cX0_settles 23 = .ok (.ifCond .le 6, 3) := by decide +kernel
theorem dX0_settles_26 : decode cX0_settles 26 = .ok (.bipush (-3), 2) := by decide +kernel
theorem dX0_settles_28 : decode cX0_settles 28 = .ok (.ireturn, 1) := by decide +kernel
theorem dX0_settles_29 : decode cX0_settles 29 = .ok (.aload_n 0, 1) := by decide +kernel
theorem dX0_settles_30 : decode cX0_settles 30 = .ok (.invokevirtual 95, 3) := by decide +kernel
theorem dX0_settles_33 : decode cX0_settles 33 = .ok (.aload_n 0, 1) := by decide +kernel
theorem dX0_settles_34 : decode cX0_settles 34 = .ok (.getfield 98, 3) := by decide +kernel
theorem dX0_settles_37 : decode cX0_settles 37 = .ok (.aload_n 0, 1) := by decide +kernel
theorem dX0_settles_38 : decode cX0_settles 38 = .ok (.getfield 101, 3) := by decide +kernel
theorem dX0_settles_41 : decode cX0_settles 41 = .ok (.lsub, 1) := by decide +kernel
theorem dX0_settles_42 : decode cX0_settles 42 = .ok (.lstore_n 2, 1) := by decide +kernel
theorem dX0_settles_43 : decode cX0_settles 43 = .ok (.aload_n 0, 1) := by decide +kernel
theorem dX0_settles_44 : decode cX0_settles 44 = .ok (.iconst 1, 1) := by decide +kernel
theorem dX0_settles_45 : decode cX0_settles 45 = .ok (.putfield 104, 3) := by decide +kernel
theorem dX0_settles_48 : decode cX0_settles 48 = .ok (.aload_n 0, 1) := by decide +kernel
theorem dX0_settles_49 : decode cX0_settles 49 = .ok (.getfield 104, 3) := by decide +kernel
theorem dX0_settles_52 : decode cX0_settles 52 = .ok (.sipush 200, 3) := by decide +kernel
theorem dX0_settles_55 : decode cX0_settles 55 = .ok (.if_icmp .gt 205, 3) := by decide +kernel
theorem dX0_settles_58 : decode cX0_settles 58 = .ok (.aload_n 0, 1) := by decide +kernel
theorem dX0_settles_59 : decode cX0_settles 59 = .ok (.ldc2_w 107, 3) := by decide +kernel
theorem dX0_settles_62 : decode cX0_settles 62 = .ok (.aload_n 1, 1) := by decide +kernel
theorem dX0_settles_63 : decode cX0_settles 63 = .ok (.getfield 90, 3) := by decide +kernel
theorem dX0_settles_66 : decode cX0_settles 66 = .ok (.lmul, 1) := by decide +kernel
theorem dX0_settles_67 : decode cX0_settles 67 = .ok (.aload_n 1, 1) := by decide +kernel
theorem dX0_settles_68 : decode cX0_settles 68 = .ok (.getfield 109, 3) := by decide +kernel
theorem dX0_settles_71 : decode cX0_settles 71 = .ok (.ifCond .eq 7, 3) := by decide +kernel
theorem dX0_settles_74 : decode cX0_settles 74 = .ok (.lload_n 2, 1) := by decide +kernel
theorem dX0_settles_75 : decode cX0_settles 75 = .ok (.goto 12, 3) := by decide +kernel
theorem dX0_settles_78 : decode cX0_settles 78 = .ok (.lload_n 2, 1) := by decide +kernel
theorem dX0_settles_79 : decode cX0_settles 79 = .ok (.aload_n 0, 1) := by decide +kernel
theorem dX0_settles_80 : decode cX0_settles 80 = .ok (.getfield 12, 3) := by decide +kernel
theorem dX0_settles_83 : decode cX0_settles 83 = .ok (.invokevirtual 113, 3) := by decide +kernel
theorem dX0_settles_86 : decode cX0_settles 86 = .ok (.ladd, 1) := by decide +kernel
theorem dX0_settles_87 : decode cX0_settles 87 = .ok (.invokestatic 75, 3) := by decide +kernel
theorem dX0_settles_90 : decode cX0_settles 90 = .ok (.putfield 117, 3) := by decide +kernel
theorem dX0_settles_93 : decode cX0_settles 93 = .ok (.aload_n 0, 1) := by decide +kernel
theorem dX0_settles_94 : decode cX0_settles 94 = .ok (.getfield 117, 3) := by decide +kernel
theorem dX0_settles_97 : decode cX0_settles 97 = .ok (.lconst 1, 1) := by decide +kernel
theorem dX0_settles_98 : decode cX0_settles 98 = .ok (.lcmp, 1) := by decide +kernel
theorem dX0_settles_99 : decode cX0_settles 99 = .ok (.ifCond .lt 14, 3) := by decide +kernel
theorem dX0_settles_102 : decode cX0_settles 102 = .ok (.aload_n 0, 1) := by decide +kernel
theorem dX0_settles_103 : decode cX0_settles 103 = .ok (.getfield 117, 3) := by decide +kernel
theorem dX0_settles_106 : decode cX0_settles 106 = .ok (.ldc2_w 120, 3) := by decide +kernel
theorem dX0_settles_109 : decode cX0_settles 109 = .ok (.lcmp, 1) := by decide +kernel
theorem dX0_settles_110 : decode cX0_settles 110 = .ok (.ifCond .le 6, 3) := by decide +kernel
theorem dX0_settles_113 : decode cX0_settles 113 = .ok (.bipush (-3), 2) := by decide +kernel
theorem dX0_settles_115 : decode cX0_settles 115 = .ok (.ireturn, 1) := by decide +kernel
theorem dX0_settles_116 : decode cX0_settles 116 = .ok (.aload_n 0, 1) := by decide +kernel
theorem dX0_settles_117 : decode cX0_settles 117 = .ok (.aload_n 1, 1) := by decide +kernel
theorem dX0_settles_118 : decode cX0_settles 118 = .ok (.invokevirtual 122, 3) := by decide +kernel
theorem dX0_settles_121 : decode cX0_settles 121 = .ok (.aload_n 0, 1) := by decide +kernel
theorem dX0_settles_122 : decode cX0_settles 122 = .ok (.aload_n 1, 1) := by decide +kernel
theorem dX0_settles_123 : decode cX0_settles 123 = .ok (.invokevirtual 126, 3) := by decide +kernel
theorem dX0_settles_126 : decode cX0_settles 126 = .ok (.istore 4, 2) := by decide +kernel
theorem dX0_settles_128 : decode cX0_settles 128 = .ok (.aload_n 0, 1) := by decide +kernel
theorem dX0_settles_129 : decode cX0_settles 129 = .ok (.getfield 12, 3) := by decide +kernel
theorem dX0_settles_132 : decode cX0_settles 132 = .ok (.invokevirtual 130, 3) := by decide +kernel
theorem dX0_settles_135 : decode cX0_settles 135 = .ok (.aload_n 0, 1) := by decide +kernel
theorem dX0_settles_136 : decode cX0_settles 136 = .ok (.getfield 12, 3) := by decide +kernel
theorem dX0_settles_139 : decode cX0_settles 139 = .ok (.invokevirtual 113, 3) := by decide +kernel
theorem dX0_settles_142 : decode cX0_settles 142 = .ok (.lsub, 1) := by decide +kernel
theorem dX0_settles_143 : decode cX0_settles 143 = .ok (.lstore_n 2, 1) := by decide +kernel
theorem dX0_settles_144 : decode cX0_settles 144 = .ok (.lload_n 2, 1) := by decide +kernel
theorem dX0_settles_145 : decode cX0_settles 145 = .ok (.aload_n 0, 1) := by decide +kernel
theorem dX0_settles_146 : decode cX0_settles 146 = .ok (.getfield 133, 3) := by decide +kernel
theorem dX0_settles_149 : decode cX0_settles 149 = .ok (.ladd, 1) := by decide +kernel
theorem dX0_settles_150 : decode cX0_settles 150 = .ok (.ldc2_w 93, 3) := by decide +kernel
theorem dX0_settles_153 : decode cX0_settles 153 = .ok (.lcmp, 1) := by decide +kernel
theorem dX0_settles_154 : decode cX0_settles 154 = .ok (.ifCond .le 6, 3) := by decide +kernel
theorem dX0_settles_157 : decode cX0_settles 157 = .ok (.bipush (-9), 2) := by decide +kernel
theorem dX0_settles_159 : decode cX0_settles 159 = .ok (.ireturn, 1) := by decide +kernel
theorem dX0_settles_160 : decode cX0_settles 160 = .ok (.aload_n 0, 1) := by decide +kernel
theorem dX0_settles_161 : decode cX0_settles 161 = .ok (.getfield 101, 3) := by decide +kernel
theorem dX0_settles_164 : decode cX0_settles 164 = .ok (.aload_n 1, 1) := by decide +kernel
theorem dX0_settles_165 : decode cX0_settles 165 = .ok (.getfield 136, 3) := by decide +kernel
theorem dX0_settles_168 : decode cX0_settles 168 = .ok (.lload_n 2, 1) := by decide +kernel
theorem dX0_settles_169 : decode cX0_settles 169 = .ok (.aload_n 0, 1) := by decide +kernel
theorem dX0_settles_170 : decode cX0_settles 170 = .ok (.getfield 133, 3) := by decide +kernel
theorem dX0_settles_173 : decode cX0_settles 173 = .ok (.ladd, 1) := by decide +kernel
theorem dX0_settles_174 : decode cX0_settles 174 = .ok (.invokestatic 139, 3) := by decide +kernel
theorem dX0_settles_177 : decode cX0_settles 177 = .ok (.invokestatic 142, 3) := by decide +kernel
theorem dX0_settles_180 : decode cX0_settles 180 = .ok (.lstore 5, 2) := by decide +kernel
theorem dX0_settles_182 : decode cX0_settles 182 = .ok (.aload_n 0, 1) := by decide +kernel
theorem dX0_settles_183 : decode cX0_settles 183 = .ok (.lload_n 2, 1) := by decide +kernel
theorem dX0_settles_184 : decode cX0_settles 184 = .ok (.aload_n 0, 1) := by decide +kernel
theorem dX0_settles_185 : decode cX0_settles 185 = .ok (.getfield 133, 3) := by decide +kernel
theorem dX0_settles_188 : decode cX0_settles 188 = .ok (.ladd, 1) := by decide +kernel
theorem dX0_settles_189 : decode cX0_settles 189 = .ok (.lload 5, 2) := by decide +kernel
theorem dX0_settles_191 : decode cX0_settles 191 = .ok (.ladd, 1) := by decide +kernel
theorem dX0_settles_192 : decode cX0_settles 192 = .ok (.putfield 147, 3) := by decide +kernel
theorem dX0_settles_195 : decode cX0_settles 195 = .ok (.aload_n 0, 1) := by decide +kernel
theorem dX0_settles_196 : decode cX0_settles 196 = .ok (.getfield 147, 3) := by decide +kernel
theorem dX0_settles_199 : decode cX0_settles 199 = .ok (.ldc2_w 93, 3) := by decide +kernel
theorem dX0_settles_202 : decode cX0_settles 202 = .ok (.lcmp, 1) := by decide +kernel
theorem dX0_settles_203 : decode cX0_settles 203 = .ok (.ifCond .le 6, 3) := by decide +kernel
theorem dX0_settles_206 : decode cX0_settles 206 = .ok (.bipush (-9), 2) := by decide +kernel
theorem dX0_settles_208 : decode cX0_settles 208 = .ok (.ireturn, 1) := by decide +kernel
theorem dX0_settles_209 : decode cX0_settles 209 = .ok (.lload 5, 2) := by decide +kernel
theorem dX0_settles_211 : decode cX0_settles 211 = .ok (.aload_n 0, 1) := by decide +kernel
theorem dX0_settles_212 : decode cX0_settles 212 = .ok (.getfield 12, 3) := by decide +kernel
theorem dX0_settles_215 : decode cX0_settles 215 = .ok (.invokevirtual 113, 3) := by decide +kernel
theorem dX0_settles_218 : decode cX0_settles 218 = .ok (.lcmp, 1) := by decide +kernel
theorem dX0_settles_219 : decode cX0_settles 219 = .ok (.ifCond .ne 19, 3) := by decide +kernel
theorem dX0_settles_222 : decode cX0_settles 222 = .ok (.iload 4, 2) := by decide +kernel
theorem dX0_settles_224 : decode cX0_settles 224 = .ok (.ifCond .ne 14, 3) := by decide +kernel
theorem dX0_settles_227 : decode cX0_settles 227 = .ok (.aload_n 0, 1) := by decide +kernel
theorem dX0_settles_228 : decode cX0_settles 228 = .ok (.aload_n 1, 1) := by decide +kernel
theorem dX0_settles_229 : decode cX0_settles 229 = .ok (.invokevirtual 150, 3) := by decide +kernel
theorem dX0_settles_232 : decode cX0_settles 232 = .ok (.aload_n 0, 1) := by decide +kernel
theorem dX0_settles_233 : decode cX0_settles 233 = .ok (.getfield 117, 3) := by decide +kernel
theorem dX0_settles_236 : decode cX0_settles 236 = .ok (.l2i, 1) := by decide +kernel
theorem dX0_settles_237 : decode cX0_settles 237 = .ok (.ireturn, 1) := by decide +kernel
theorem dX0_settles_238 : decode cX0_settles 238 = .ok (.aload_n 0, 1) := by decide +kernel
theorem dX0_settles_239 : decode cX0_settles 239 = .ok (.getfield 12, 3) := by decide +kernel
theorem dX0_settles_242 : decode cX0_settles 242 = .ok (.lload 5, 2) := by decide +kernel
theorem dX0_settles_244 : decode cX0_settles 244 = .ok (.invokevirtual 153, 3) := by decide +kernel
theorem dX0_settles_247 : decode cX0_settles 247 = .ok (.aload_n 0, 1) := by decide +kernel
theorem dX0_settles_248 : decode cX0_settles 248 = .ok (.dup, 1) := by decide +kernel
theorem dX0_settles_249 : decode cX0_settles 249 = .ok (.getfield 104, 3) := by decide +kernel
theorem dX0_settles_252 : decode cX0_settles 252 = .ok (.iconst 1, 1) := by decide +kernel
theorem dX0_settles_253 : decode cX0_settles 253 = .ok (.iadd, 1) := by decide +kernel
theorem dX0_settles_254 : decode cX0_settles 254 = .ok (.putfield 104, 3) := by decide +kernel
theorem dX0_settles_257 : decode cX0_settles 257 = .ok (.goto (-209), 3) := by decide +kernel
theorem dX0_settles_260 : decode cX0_settles 260 = .ok (.bipush (-4), 2) := by decide +kernel
theorem dX0_settles_262 : decode cX0_settles 262 = .ok (.ireturn, 1) := by decide +kernel
theorem dX0_notesAhead_0 : decode cX0_notesAhead 0 = .ok (.aload_n 0, 1) := by decide +kernel
theorem dX0_notesAhead_1 : decode cX0_notesAhead 1 = .ok (.aload_n 0, 1) := by decide +kernel
theorem dX0_notesAhead_2 : decode cX0_notesAhead 2 = .ok (.getfield 12, 3) := by decide +kernel
theorem dX0_notesAhead_5 : decode cX0_notesAhead 5 = .ok (.invokevirtual 113, 3) := by decide +kernel
theorem dX0_notesAhead_8 : decode cX0_notesAhead 8 = .ok (.putfield 101, 3) := by decide +kernel
theorem dX0_notesAhead_11 : decode cX0_notesAhead 11 = .ok (.aload_n 0, 1) := by decide +kernel
theorem dX0_notesAhead_12 : decode cX0_notesAhead 12 = .ok (.aload_n 0, 1) := by decide +kernel
theorem dX0_notesAhead_13 : decode cX0_notesAhead 13 = .ok (.getfield 12, 3) := by decide +kernel
theorem dX0_notesAhead_16 : decode cX0_notesAhead 16 = .ok (.invokevirtual 130, 3) := by decide +kernel
theorem dX0_notesAhead_19 : decode cX0_notesAhead 19 = .ok (.putfield 98, 3) := by decide +kernel
theorem dX0_notesAhead_22 : decode cX0_notesAhead 22 = .ok (.aload_n 0, 1) := by decide +kernel
theorem dX0_notesAhead_23 : decode cX0_notesAhead 23 = .ok (.aload_n 0, 1) := by decide +kernel
theorem dX0_notesAhead_24 : decode cX0_notesAhead 24 = .ok (.getfield 12, 3) := by decide +kernel
theorem dX0_notesAhead_27 : decode cX0_notesAhead 27 = .ok (.invokevirtual 157, 3) := by decide +kernel
theorem dX0_notesAhead_30 : decode cX0_notesAhead 30 = .ok (.putfield 160, 3) := by decide +kernel
theorem dX0_notesAhead_33 : decode cX0_notesAhead 33 = .ok (.iconst 1, 1) := by decide +kernel
theorem dX0_notesAhead_34 : decode cX0_notesAhead 34 = .ok (.istore_n 1, 1) := by decide +kernel
theorem dX0_notesAhead_35 : decode cX0_notesAhead 35 = .ok (.iload_n 1, 1) := by decide +kernel
theorem dX0_notesAhead_36 : decode cX0_notesAhead 36 = .ok (.aload_n 0, 1) := by decide +kernel
theorem dX0_notesAhead_37 : decode cX0_notesAhead 37 = .ok (.getfield 12, 3) := by decide +kernel
theorem dX0_notesAhead_40 : decode cX0_notesAhead 40 = .ok (.invokevirtual 47, 3) := by decide +kernel
theorem dX0_notesAhead_43 : decode cX0_notesAhead 43 = .ok (.if_icmp .ge 24, 3) := by decide +kernel
theorem dX0_notesAhead_46 : decode cX0_notesAhead 46 = .ok (.aload_n 0, 1) := by decide +kernel
theorem dX0_notesAhead_47 : decode cX0_notesAhead 47 = .ok (.getfield 18, 3) := by decide +kernel
theorem dX0_notesAhead_50 : decode cX0_notesAhead 50 = .ok (.iload_n 1, 1) := by decide +kernel
theorem dX0_notesAhead_51 : decode cX0_notesAhead 51 = .ok (.aload_n 0, 1) := by decide +kernel
theorem dX0_notesAhead_52 : decode cX0_notesAhead 52 = .ok (.getfield 12, 3) := by decide +kernel
theorem dX0_notesAhead_55 : decode cX0_notesAhead 55 = .ok (.iload_n 1, 1) := by decide +kernel
theorem dX0_notesAhead_56 : decode cX0_notesAhead 56 = .ok (.iconst 1, 1) := by decide +kernel
theorem dX0_notesAhead_57 : decode cX0_notesAhead 57 = .ok (.invokevirtual 51, 3) := by decide +kernel
theorem dX0_notesAhead_60 : decode cX0_notesAhead 60 = .ok (.lastore, 1) := by decide +kernel
theorem dX0_notesAhead_61 : decode cX0_notesAhead 61 = .ok (.iinc 1 1, 3) := by decide +kernel
theorem dX0_notesAhead_64 : decode cX0_notesAhead 64 = .ok (.goto (-29), 3) := by decide +kernel
theorem dX0_notesAhead_67 : decode cX0_notesAhead 67 = .ok (.return_, 1) := by decide +kernel
theorem dX0_allots_0 : decode cX0_allots 0 = .ok (.aload_n 0, 1) := by decide +kernel
theorem dX0_allots_1 : decode cX0_allots 1 = .ok (.lconst 0, 1) := by decide +kernel
theorem dX0_allots_2 : decode cX0_allots 2 = .ok (.putfield 133, 3) := by decide +kernel
theorem dX0_allots_5 : decode cX0_allots 5 = .ok (.iconst 0, 1) := by decide +kernel
theorem dX0_allots_6 : decode cX0_allots 6 = .ok (.istore_n 2, 1) := by decide +kernel
theorem dX0_allots_7 : decode cX0_allots 7 = .ok (.iload_n 2, 1) := by decide +kernel
theorem dX0_allots_8 : decode cX0_allots 8 = .ok (.bipush 8, 2) := by decide +kernel
theorem dX0_allots_10 : decode cX0_allots 10 = .ok (.if_icmp .ge 47, 3) := by decide +kernel
theorem dX0_allots_13 : decode cX0_allots 13 = .ok (.aload_n 0, 1) := by decide +kernel
theorem dX0_allots_14 : decode cX0_allots 14 = .ok (.getfield 25, 3) := by decide +kernel
theorem dX0_allots_17 : decode cX0_allots 17 = .ok (.iload_n 2, 1) := by decide +kernel
theorem dX0_allots_18 : decode cX0_allots 18 = .ok (.ldc2_w 107, 3) := by decide +kernel
theorem dX0_allots_21 : decode cX0_allots 21 = .ok (.aload_n 1, 1) := by decide +kernel
theorem dX0_allots_22 : decode cX0_allots 22 = .ok (.getfield 66, 3) := by decide +kernel
theorem dX0_allots_25 : decode cX0_allots 25 = .ok (.iload_n 2, 1) := by decide +kernel
theorem dX0_allots_26 : decode cX0_allots 26 = .ok (.laload, 1) := by decide +kernel
theorem dX0_allots_27 : decode cX0_allots 27 = .ok (.lmul, 1) := by decide +kernel
theorem dX0_allots_28 : decode cX0_allots 28 = .ok (.aload_n 0, 1) := by decide +kernel
theorem dX0_allots_29 : decode cX0_allots 29 = .ok (.getfield 117, 3) := by decide +kernel
theorem dX0_allots_32 : decode cX0_allots 32 = .ok (.invokestatic 75, 3) := by decide +kernel
theorem dX0_allots_35 : decode cX0_allots 35 = .ok (.lastore, 1) := by decide +kernel
theorem dX0_allots_36 : decode cX0_allots 36 = .ok (.aload_n 0, 1) := by decide +kernel
theorem dX0_allots_37 : decode cX0_allots 37 = .ok (.dup, 1) := by decide +kernel
theorem dX0_allots_38 : decode cX0_allots 38 = .ok (.getfield 133, 3) := by decide +kernel
theorem dX0_allots_41 : decode cX0_allots 41 = .ok (.aload_n 0, 1) := by decide +kernel
theorem dX0_allots_42 : decode cX0_allots 42 = .ok (.getfield 25, 3) := by decide +kernel
theorem dX0_allots_45 : decode cX0_allots 45 = .ok (.iload_n 2, 1) := by decide +kernel
theorem dX0_allots_46 : decode cX0_allots 46 = .ok (.laload, 1) := by decide +kernel
theorem dX0_allots_47 : decode cX0_allots 47 = .ok (.ladd, 1) := by decide +kernel
theorem dX0_allots_48 : decode cX0_allots 48 = .ok (.putfield 133, 3) := by decide +kernel
theorem dX0_allots_51 : decode cX0_allots 51 = .ok (.iinc 2 1, 3) := by decide +kernel
theorem dX0_allots_54 : decode cX0_allots 54 = .ok (.goto (-47), 3) := by decide +kernel
theorem dX0_allots_57 : decode cX0_allots 57 = .ok (.return_, 1) := by decide +kernel
theorem dX0_movesConvs_0 : decode cX0_movesConvs 0 = .ok (.iconst 0, 1) := by decide +kernel
theorem dX0_movesConvs_1 : decode cX0_movesConvs 1 = .ok (.istore_n 2, 1) := by decide +kernel
theorem dX0_movesConvs_2 : decode cX0_movesConvs 2 = .ok (.iconst 1, 1) := by decide +kernel
theorem dX0_movesConvs_3 : decode cX0_movesConvs 3 = .ok (.istore_n 3, 1) := by decide +kernel
theorem dX0_movesConvs_4 : decode cX0_movesConvs 4 = .ok (.iload_n 3, 1) := by decide +kernel
theorem dX0_movesConvs_5 : decode cX0_movesConvs 5 = .ok (.aload_n 0, 1) := by decide +kernel
theorem dX0_movesConvs_6 : decode cX0_movesConvs 6 = .ok (.getfield 12, 3) := by decide +kernel
theorem dX0_movesConvs_9 : decode cX0_movesConvs 9 = .ok (.invokevirtual 47, 3) := by decide +kernel
theorem dX0_movesConvs_12 : decode cX0_movesConvs 12 = .ok (.if_icmp .ge 105, 3) := by decide +kernel
theorem dX0_movesConvs_15 : decode cX0_movesConvs 15 = .ok (.aload_n 0, 1) := by decide +kernel
theorem dX0_movesConvs_16 : decode cX0_movesConvs 16 = .ok (.getfield 12, 3) := by decide +kernel
theorem dX0_movesConvs_19 : decode cX0_movesConvs 19 = .ok (.iload_n 3, 1) := by decide +kernel
theorem dX0_movesConvs_20 : decode cX0_movesConvs 20 = .ok (.iconst 2, 1) := by decide +kernel
theorem dX0_movesConvs_21 : decode cX0_movesConvs 21 = .ok (.invokevirtual 51, 3) := by decide +kernel
theorem dX0_movesConvs_24 : decode cX0_movesConvs 24 = .ok (.lstore 4, 2) := by decide +kernel
theorem dX0_movesConvs_26 : decode cX0_movesConvs 26 = .ok (.lload 4, 2) := by decide +kernel
theorem dX0_movesConvs_28 : decode cX0_movesConvs 28 = .ok (.ldc2_w 163, 3) := by decide +kernel
theorem dX0_movesConvs_31 : decode cX0_movesConvs 31 = .ok (.lcmp, 1) := by decide +kernel
theorem dX0_movesConvs_32 : decode cX0_movesConvs 32 = .ok (.ifCond .ne 10, 3) := by decide +kernel
theorem dX0_movesConvs_35 : decode cX0_movesConvs 35 = .ok (.aload_n 0, 1) := by decide +kernel
theorem dX0_movesConvs_36 : decode cX0_movesConvs 36 = .ok (.getfield 160, 3) := by decide +kernel
theorem dX0_movesConvs_39 : decode cX0_movesConvs 39 = .ok (.goto 7, 3) := by decide +kernel
theorem dX0_movesConvs_42 : decode cX0_movesConvs 42 = .ok (.aload_n 0, 1) := by decide +kernel
theorem dX0_movesConvs_43 : decode cX0_movesConvs 43 = .ok (.getfield 98, 3) := by decide +kernel
theorem dX0_movesConvs_46 : decode cX0_movesConvs 46 = .ok (.lstore 6, 2) := by decide +kernel
theorem dX0_movesConvs_48 : decode cX0_movesConvs 48 = .ok (.aload_n 0, 1) := by decide +kernel
theorem dX0_movesConvs_49 : decode cX0_movesConvs 49 = .ok (.getfield 18, 3) := by decide +kernel
theorem dX0_movesConvs_52 : decode cX0_movesConvs 52 = .ok (.iload_n 3, 1) := by decide +kernel
theorem dX0_movesConvs_53 : decode cX0_movesConvs 53 = .ok (.laload, 1) := by decide +kernel
theorem dX0_movesConvs_54 : decode cX0_movesConvs 54 = .ok (.lload 4, 2) := by decide +kernel
theorem dX0_movesConvs_56 : decode cX0_movesConvs 56 = .ok (.aload_n 0, 1) := by decide +kernel
theorem dX0_movesConvs_57 : decode cX0_movesConvs 57 = .ok (.getfield 117, 3) := by decide +kernel
theorem dX0_movesConvs_60 : decode cX0_movesConvs 60 = .ok (.aload_n 0, 1) := by decide +kernel
theorem dX0_movesConvs_61 : decode cX0_movesConvs 61 = .ok (.getfield 133, 3) := by decide +kernel
theorem dX0_movesConvs_64 : decode cX0_movesConvs 64 = .ok (.aload_n 1, 1) := by decide +kernel
theorem dX0_movesConvs_65 : decode cX0_movesConvs 65 = .ok (.getfield 71, 3) := by decide +kernel
theorem dX0_movesConvs_68 : decode cX0_movesConvs 68 = .ok (.lload 6, 2) := by decide +kernel
theorem dX0_movesConvs_70 : decode cX0_movesConvs 70 = .ok (.invokestatic 165, 3) := by decide +kernel
theorem dX0_movesConvs_73 : decode cX0_movesConvs 73 = .ok (.lstore 8, 2) := by decide +kernel
theorem dX0_movesConvs_75 : decode cX0_movesConvs 75 = .ok (.iload_n 2, 1) := by decide +kernel
theorem dX0_movesConvs_76 : decode cX0_movesConvs 76 = .ok (.ifCond .ne 18, 3) := by decide +kernel
theorem dX0_movesConvs_79 : decode cX0_movesConvs 79 = .ok (.lload 8, 2) := by decide +kernel
theorem dX0_movesConvs_81 : decode cX0_movesConvs 81 = .ok (.aload_n 0, 1) := by decide +kernel
theorem dX0_movesConvs_82 : decode cX0_movesConvs 82 = .ok (.getfield 12, 3) := by decide +kernel
theorem dX0_movesConvs_85 : decode cX0_movesConvs 85 = .ok (.iload_n 3, 1) := by decide +kernel
theorem dX0_movesConvs_86 : decode cX0_movesConvs 86 = .ok (.iconst 1, 1) := by decide +kernel
theorem dX0_movesConvs_87 : decode cX0_movesConvs 87 = .ok (.invokevirtual 51, 3) := by decide +kernel
theorem dX0_movesConvs_90 : decode cX0_movesConvs 90 = .ok (.lcmp, 1) := by decide +kernel
theorem dX0_movesConvs_91 : decode cX0_movesConvs 91 = .ok (.ifCond .eq 7, 3) := by decide +kernel
theorem dX0_movesConvs_94 : decode cX0_movesConvs 94 = .ok (.iconst 1, 1) := by decide +kernel
theorem dX0_movesConvs_95 : decode cX0_movesConvs 95 = .ok (.goto 4, 3) := by decide +kernel
theorem dX0_movesConvs_98 : decode cX0_movesConvs 98 = .ok (.iconst 0, 1) := by decide +kernel
theorem dX0_movesConvs_99 : decode cX0_movesConvs 99 = .ok (.istore_n 2, 1) := by decide +kernel
theorem dX0_movesConvs_100 : decode cX0_movesConvs 100 = .ok (.aload_n 0, 1) := by decide +kernel
theorem dX0_movesConvs_101 : decode cX0_movesConvs 101 = .ok (.getfield 12, 3) := by decide +kernel
theorem dX0_movesConvs_104 : decode cX0_movesConvs 104 = .ok (.iload_n 3, 1) := by decide +kernel
theorem dX0_movesConvs_105 : decode cX0_movesConvs 105 = .ok (.iconst 1, 1) := by decide +kernel
theorem dX0_movesConvs_106 : decode cX0_movesConvs 106 = .ok (.lload 8, 2) := by decide +kernel
theorem dX0_movesConvs_108 : decode cX0_movesConvs 108 = .ok (.invokevirtual 87, 3) := by decide +kernel
theorem dX0_movesConvs_111 : decode cX0_movesConvs 111 = .ok (.iinc 3 1, 3) := by decide +kernel
theorem dX0_movesConvs_114 : decode cX0_movesConvs 114 = .ok (.goto (-110), 3) := by decide +kernel
theorem dX0_movesConvs_117 : decode cX0_movesConvs 117 = .ok (.iload_n 2, 1) := by decide +kernel
theorem dX0_movesConvs_118 : decode cX0_movesConvs 118 = .ok (.ireturn, 1) := by decide +kernel
theorem dX0_toppedUp_0 : decode cX0_toppedUp 0 = .ok (.ldc2_w 169, 3) := by decide +kernel
theorem dX0_toppedUp_3 : decode cX0_toppedUp 3 = .ok (.lload_n 0, 1) := by decide +kernel
theorem dX0_toppedUp_4 : decode cX0_toppedUp 4 = .ok (.lsub, 1) := by decide +kernel
theorem dX0_toppedUp_5 : decode cX0_toppedUp 5 = .ok (.lstore 4, 2) := by decide +kernel
theorem dX0_toppedUp_7 : decode cX0_toppedUp 7 = .ok (.lload_n 0, 1) := by decide +kernel
theorem dX0_toppedUp_8 : decode cX0_toppedUp 8 = .ok (.lload_n 2, 1) := by decide +kernel
theorem dX0_toppedUp_9 : decode cX0_toppedUp 9 = .ok (.lmul, 1) := by decide +kernel
theorem dX0_toppedUp_10 : decode cX0_toppedUp 10 = .ok (.lload 4, 2) := by decide +kernel
theorem dX0_toppedUp_12 : decode cX0_toppedUp 12 = .ok (.ladd, 1) := by decide +kernel
theorem dX0_toppedUp_13 : decode cX0_toppedUp 13 = .ok (.lconst 1, 1) := by decide +kernel
theorem dX0_toppedUp_14 : decode cX0_toppedUp 14 = .ok (.lsub, 1) := by decide +kernel
theorem dX0_toppedUp_15 : decode cX0_toppedUp 15 = .ok (.lload 4, 2) := by decide +kernel
theorem dX0_toppedUp_17 : decode cX0_toppedUp 17 = .ok (.invokestatic 75, 3) := by decide +kernel
theorem dX0_toppedUp_20 : decode cX0_toppedUp 20 = .ok (.lreturn, 1) := by decide +kernel
theorem dX0_addsClass_0 : decode cX0_addsClass 0 = .ok (.aload_n 0, 1) := by decide +kernel
theorem dX0_addsClass_1 : decode cX0_addsClass 1 = .ok (.getfield 12, 3) := by decide +kernel
theorem dX0_addsClass_4 : decode cX0_addsClass 4 = .ok (.invokevirtual 171, 3) := by decide +kernel
theorem dX0_addsClass_7 : decode cX0_addsClass 7 = .ok (.istore_n 2, 1) := by decide +kernel
theorem dX0_addsClass_8 : decode cX0_addsClass 8 = .ok (.iload_n 2, 1) := by decide +kernel
theorem dX0_addsClass_9 : decode cX0_addsClass 9 = .ok (.iconst 1, 1) := by decide +kernel
theorem dX0_addsClass_10 : decode cX0_addsClass 10 = .ok (.if_icmp .ge 4, 3) := by decide +kernel
theorem dX0_addsClass_13 : decode cX0_addsClass 13 = .ok (.return_, 1) := by decide +kernel
theorem dX0_addsClass_14 : decode cX0_addsClass 14 = .ok (.iconst 2, 1) := by decide +kernel
theorem dX0_addsClass_15 : decode cX0_addsClass 15 = .ok (.istore_n 3, 1) := by decide +kernel
theorem dX0_addsClass_16 : decode cX0_addsClass 16 = .ok (.iload_n 3, 1) := by decide +kernel
theorem dX0_addsClass_17 : decode cX0_addsClass 17 = .ok (.iconst 5, 1) := by decide +kernel
theorem dX0_addsClass_18 : decode cX0_addsClass 18 = .ok (.if_icmp .gt 24, 3) := by decide +kernel
theorem dX0_addsClass_21 : decode cX0_addsClass 21 = .ok (.aload_n 0, 1) := by decide +kernel
theorem dX0_addsClass_22 : decode cX0_addsClass 22 = .ok (.getfield 12, 3) := by decide +kernel
theorem dX0_addsClass_25 : decode cX0_addsClass 25 = .ok (.iload_n 2, 1) := by decide +kernel
theorem dX0_addsClass_26 : decode cX0_addsClass 26 = .ok (.iload_n 3, 1) := by decide +kernel
theorem dX0_addsClass_27 : decode cX0_addsClass 27 = .ok (.aload_n 1, 1) := by decide +kernel
theorem dX0_addsClass_28 : decode cX0_addsClass 28 = .ok (.getfield 174, 3) := by decide +kernel
theorem dX0_addsClass_31 : decode cX0_addsClass 31 = .ok (.iload_n 3, 1) := by decide +kernel
theorem dX0_addsClass_32 : decode cX0_addsClass 32 = .ok (.laload, 1) := by decide +kernel
theorem dX0_addsClass_33 : decode cX0_addsClass 33 = .ok (.invokevirtual 87, 3) := by decide +kernel
theorem dX0_addsClass_36 : decode cX0_addsClass 36 = .ok (.iinc 3 1, 3) := by decide +kernel
theorem dX0_addsClass_39 : decode cX0_addsClass 39 = .ok (.goto (-23), 3) := by decide +kernel
theorem dX0_addsClass_42 : decode cX0_addsClass 42 = .ok (.aload_n 0, 1) := by decide +kernel
theorem dX0_addsClass_43 : decode cX0_addsClass 43 = .ok (.getfield 12, 3) := by decide +kernel
theorem dX0_addsClass_46 : decode cX0_addsClass 46 = .ok (.iload_n 2, 1) := by decide +kernel
theorem dX0_addsClass_47 : decode cX0_addsClass 47 = .ok (.iconst 0, 1) := by decide +kernel
theorem dX0_addsClass_48 : decode cX0_addsClass 48 = .ok (.aload_n 0, 1) := by decide +kernel
theorem dX0_addsClass_49 : decode cX0_addsClass 49 = .ok (.getfield 117, 3) := by decide +kernel
theorem dX0_addsClass_52 : decode cX0_addsClass 52 = .ok (.invokevirtual 87, 3) := by decide +kernel
theorem dX0_addsClass_55 : decode cX0_addsClass 55 = .ok (.aload_n 0, 1) := by decide +kernel
theorem dX0_addsClass_56 : decode cX0_addsClass 56 = .ok (.getfield 12, 3) := by decide +kernel
theorem dX0_addsClass_59 : decode cX0_addsClass 59 = .ok (.iload_n 2, 1) := by decide +kernel
theorem dX0_addsClass_60 : decode cX0_addsClass 60 = .ok (.iconst 1, 1) := by decide +kernel
theorem dX0_addsClass_61 : decode cX0_addsClass 61 = .ok (.aload_n 0, 1) := by decide +kernel
theorem dX0_addsClass_62 : decode cX0_addsClass 62 = .ok (.getfield 117, 3) := by decide +kernel
theorem dX0_addsClass_65 : decode cX0_addsClass 65 = .ok (.invokevirtual 87, 3) := by decide +kernel
theorem dX0_addsClass_68 : decode cX0_addsClass 68 = .ok (.aload_n 0, 1) := by decide +kernel
theorem dX0_addsClass_69 : decode cX0_addsClass 69 = .ok (.getfield 12, 3) := by decide +kernel
theorem dX0_addsClass_72 : decode cX0_addsClass 72 = .ok (.iload_n 2, 1) := by decide +kernel
theorem dX0_addsClass_73 : decode cX0_addsClass 73 = .ok (.bipush 6, 2) := by decide +kernel
theorem dX0_addsClass_75 : decode cX0_addsClass 75 = .ok (.aload_n 1, 1) := by decide +kernel
theorem dX0_addsClass_76 : decode cX0_addsClass 76 = .ok (.getfield 90, 3) := by decide +kernel
theorem dX0_addsClass_79 : decode cX0_addsClass 79 = .ok (.invokevirtual 87, 3) := by decide +kernel
theorem dX0_addsClass_82 : decode cX0_addsClass 82 = .ok (.aload_n 0, 1) := by decide +kernel
theorem dX0_addsClass_83 : decode cX0_addsClass 83 = .ok (.getfield 12, 3) := by decide +kernel
theorem dX0_addsClass_86 : decode cX0_addsClass 86 = .ok (.iload_n 2, 1) := by decide +kernel
theorem dX0_addsClass_87 : decode cX0_addsClass 87 = .ok (.bipush 7, 2) := by decide +kernel
theorem dX0_addsClass_89 : decode cX0_addsClass 89 = .ok (.aload_n 1, 1) := by decide +kernel
theorem dX0_addsClass_90 : decode cX0_addsClass 90 = .ok (.getfield 71, 3) := by decide +kernel
theorem dX0_addsClass_93 : decode cX0_addsClass 93 = .ok (.invokevirtual 87, 3) := by decide +kernel
theorem dX0_addsClass_96 : decode cX0_addsClass 96 = .ok (.aload_n 0, 1) := by decide +kernel
theorem dX0_addsClass_97 : decode cX0_addsClass 97 = .ok (.getfield 12, 3) := by decide +kernel
theorem dX0_addsClass_100 : decode cX0_addsClass 100 = .ok (.iload_n 2, 1) := by decide +kernel
theorem dX0_addsClass_101 : decode cX0_addsClass 101 = .ok (.bipush 8, 2) := by decide +kernel
theorem dX0_addsClass_103 : decode cX0_addsClass 103 = .ok (.aload_n 0, 1) := by decide +kernel
theorem dX0_addsClass_104 : decode cX0_addsClass 104 = .ok (.getfield 133, 3) := by decide +kernel
theorem dX0_addsClass_107 : decode cX0_addsClass 107 = .ok (.invokevirtual 87, 3) := by decide +kernel
theorem dX0_addsClass_110 : decode cX0_addsClass 110 = .ok (.aload_n 0, 1) := by decide +kernel
theorem dX0_addsClass_111 : decode cX0_addsClass 111 = .ok (.getfield 12, 3) := by decide +kernel
theorem dX0_addsClass_114 : decode cX0_addsClass 114 = .ok (.iload_n 2, 1) := by decide +kernel
theorem dX0_addsClass_115 : decode cX0_addsClass 115 = .ok (.bipush 9, 2) := by decide +kernel
theorem dX0_addsClass_117 : decode cX0_addsClass 117 = .ok (.aload_n 0, 1) := by decide +kernel
theorem dX0_addsClass_118 : decode cX0_addsClass 118 = .ok (.getfield 104, 3) := by decide +kernel
theorem dX0_addsClass_121 : decode cX0_addsClass 121 = .ok (.i2l, 1) := by decide +kernel
theorem dX0_addsClass_122 : decode cX0_addsClass 122 = .ok (.invokevirtual 87, 3) := by decide +kernel
theorem dX0_addsClass_125 : decode cX0_addsClass 125 = .ok (.aload_n 0, 1) := by decide +kernel
theorem dX0_addsClass_126 : decode cX0_addsClass 126 = .ok (.getfield 12, 3) := by decide +kernel
theorem dX0_addsClass_129 : decode cX0_addsClass 129 = .ok (.iload_n 2, 1) := by decide +kernel
theorem dX0_addsClass_130 : decode cX0_addsClass 130 = .ok (.bipush 10, 2) := by decide +kernel
theorem dX0_addsClass_132 : decode cX0_addsClass 132 = .ok (.aload_n 0, 1) := by decide +kernel
theorem dX0_addsClass_133 : decode cX0_addsClass 133 = .ok (.getfield 147, 3) := by decide +kernel
theorem dX0_addsClass_136 : decode cX0_addsClass 136 = .ok (.invokevirtual 87, 3) := by decide +kernel
theorem dX0_addsClass_139 : decode cX0_addsClass 139 = .ok (.iconst 0, 1) := by decide +kernel
theorem dX0_addsClass_140 : decode cX0_addsClass 140 = .ok (.istore_n 3, 1) := by decide +kernel
theorem dX0_addsClass_141 : decode cX0_addsClass 141 = .ok (.iload_n 3, 1) := by decide +kernel
theorem dX0_addsClass_142 : decode cX0_addsClass 142 = .ok (.bipush 8, 2) := by decide +kernel
theorem dX0_addsClass_144 : decode cX0_addsClass 144 = .ok (.if_icmp .ge 39, 3) := by decide +kernel
theorem dX0_addsClass_147 : decode cX0_addsClass 147 = .ok (.aload_n 0, 1) := by decide +kernel
theorem dX0_addsClass_148 : decode cX0_addsClass 148 = .ok (.getfield 12, 3) := by decide +kernel
theorem dX0_addsClass_151 : decode cX0_addsClass 151 = .ok (.iload_n 3, 1) := by decide +kernel
theorem dX0_addsClass_152 : decode cX0_addsClass 152 = .ok (.iload_n 2, 1) := by decide +kernel
theorem dX0_addsClass_153 : decode cX0_addsClass 153 = .ok (.aload_n 0, 1) := by decide +kernel
theorem dX0_addsClass_154 : decode cX0_addsClass 154 = .ok (.getfield 25, 3) := by decide +kernel
theorem dX0_addsClass_157 : decode cX0_addsClass 157 = .ok (.iload_n 3, 1) := by decide +kernel
theorem dX0_addsClass_158 : decode cX0_addsClass 158 = .ok (.laload, 1) := by decide +kernel
theorem dX0_addsClass_159 : decode cX0_addsClass 159 = .ok (.invokevirtual 79, 3) := by decide +kernel
theorem dX0_addsClass_162 : decode cX0_addsClass 162 = .ok (.aload_n 0, 1) := by decide +kernel
theorem dX0_addsClass_163 : decode cX0_addsClass 163 = .ok (.getfield 12, 3) := by decide +kernel
theorem dX0_addsClass_166 : decode cX0_addsClass 166 = .ok (.iload_n 3, 1) := by decide +kernel
theorem dX0_addsClass_167 : decode cX0_addsClass 167 = .ok (.iload_n 2, 1) := by decide +kernel
theorem dX0_addsClass_168 : decode cX0_addsClass 168 = .ok (.aload_n 1, 1) := by decide +kernel
theorem dX0_addsClass_169 : decode cX0_addsClass 169 = .ok (.getfield 66, 3) := by decide +kernel
theorem dX0_addsClass_172 : decode cX0_addsClass 172 = .ok (.iload_n 3, 1) := by decide +kernel
theorem dX0_addsClass_173 : decode cX0_addsClass 173 = .ok (.laload, 1) := by decide +kernel
theorem dX0_addsClass_174 : decode cX0_addsClass 174 = .ok (.invokevirtual 177, 3) := by decide +kernel
theorem dX0_addsClass_177 : decode cX0_addsClass 177 = .ok (.iinc 3 1, 3) := by decide +kernel
theorem dX0_addsClass_180 : decode cX0_addsClass 180 = .ok (.goto (-39), 3) := by decide +kernel
theorem dX0_addsClass_183 : decode cX0_addsClass 183 = .ok (.return_, 1) := by decide +kernel
theorem dX1_init_0 : decode cX1_init 0 = .ok (.aload_n 0, 1) := by decide +kernel
theorem dX1_init_1 : decode cX1_init 1 = .ok (.invokespecial 3, 3) := by decide +kernel
theorem dX1_init_4 : decode cX1_init 4 = .ok (.aload_n 0, 1) := by decide +kernel
theorem dX1_init_5 : decode cX1_init 5 = .ok (.sipush 172, 3) := by decide +kernel
theorem dX1_init_8 : decode cX1_init 8 = .ok (.newarray .long, 2) := by decide +kernel
theorem dX1_init_10 : decode cX1_init 10 = .ok (.putfield 9, 3) := by decide +kernel
theorem dX1_init_13 : decode cX1_init 13 = .ok (.aload_n 0, 1) := by decide +kernel
theorem dX1_init_14 : decode cX1_init 14 = .ok (.getfield 9, 3) := by decide +kernel
theorem dX1_init_17 : decode cX1_init 17 = .ok (.sipush 171, 3) := by decide +kernel
theorem dX1_init_20 : decode cX1_init 20 = .ok (.lconst 1, 1) := by decide +kernel
theorem dX1_init_21 : decode cX1_init 21 = .ok (.lastore, 1) := by decide +kernel
theorem dX1_init_22 : decode cX1_init 22 = .ok (.return_, 1) := by decide +kernel
theorem dX1_clear_0 : decode cX1_clear 0 = .ok (.iconst 0, 1) := by decide +kernel
theorem dX1_clear_1 : decode cX1_clear 1 = .ok (.istore_n 1, 1) := by decide +kernel
theorem dX1_clear_2 : decode cX1_clear 2 = .ok (.iload_n 1, 1) := by decide +kernel
theorem dX1_clear_3 : decode cX1_clear 3 = .ok (.sipush 172, 3) := by decide +kernel
theorem dX1_clear_6 : decode cX1_clear 6 = .ok (.if_icmp .ge 16, 3) := by decide +kernel
theorem dX1_clear_9 : decode cX1_clear 9 = .ok (.aload_n 0, 1) := by decide +kernel
theorem dX1_clear_10 : decode cX1_clear 10 = .ok (.getfield 9, 3) := by decide +kernel
theorem dX1_clear_13 : decode cX1_clear 13 = .ok (.iload_n 1, 1) := by decide +kernel
theorem dX1_clear_14 : decode cX1_clear 14 = .ok (.lconst 0, 1) := by decide +kernel
theorem dX1_clear_15 : decode cX1_clear 15 = .ok (.lastore, 1) := by decide +kernel
theorem dX1_clear_16 : decode cX1_clear 16 = .ok (.iinc 1 1, 3) := by decide +kernel
theorem dX1_clear_19 : decode cX1_clear 19 = .ok (.goto (-17), 3) := by decide +kernel
theorem dX1_clear_22 : decode cX1_clear 22 = .ok (.aload_n 0, 1) := by decide +kernel
theorem dX1_clear_23 : decode cX1_clear 23 = .ok (.getfield 9, 3) := by decide +kernel
theorem dX1_clear_26 : decode cX1_clear 26 = .ok (.sipush 171, 3) := by decide +kernel
theorem dX1_clear_29 : decode cX1_clear 29 = .ok (.lconst 1, 1) := by decide +kernel
theorem dX1_clear_30 : decode cX1_clear 30 = .ok (.lastore, 1) := by decide +kernel
theorem dX1_clear_31 : decode cX1_clear 31 = .ok (.return_, 1) := by decide +kernel
theorem dX1_load_0 : decode cX1_load 0 = .ok (.aload_n 1, 1) := by decide +kernel
theorem dX1_load_1 : decode cX1_load 1 = .ok (.iconst 0, 1) := by decide +kernel
theorem dX1_load_2 : decode cX1_load 2 = .ok (.aload_n 0, 1) := by decide +kernel
theorem dX1_load_3 : decode cX1_load 3 = .ok (.getfield 9, 3) := by decide +kernel
theorem dX1_load_6 : decode cX1_load 6 = .ok (.iconst 0, 1) := by decide +kernel
theorem dX1_load_7 : decode cX1_load 7 = .ok (.sipush 172, 3) := by decide +kernel
theorem dX1_load_10 : decode cX1_load 10 = .ok (.invokestatic 15, 3) := by decide +kernel
theorem dX1_load_13 : decode cX1_load 13 = .ok (.return_, 1) := by decide +kernel
theorem dX1_saveTo_0 : decode cX1_saveTo 0 = .ok (.aload_n 0, 1) := by decide +kernel
theorem dX1_saveTo_1 : decode cX1_saveTo 1 = .ok (.getfield 9, 3) := by decide +kernel
theorem dX1_saveTo_4 : decode cX1_saveTo 4 = .ok (.iconst 0, 1) := by decide +kernel
theorem dX1_saveTo_5 : decode cX1_saveTo 5 = .ok (.aload_n 1, 1) := by decide +kernel
theorem dX1_saveTo_6 : decode cX1_saveTo 6 = .ok (.iconst 0, 1) := by decide +kernel
theorem dX1_saveTo_7 : decode cX1_saveTo 7 = .ok (.sipush 172, 3) := by decide +kernel
theorem dX1_saveTo_10 : decode cX1_saveTo 10 = .ok (.invokestatic 15, 3) := by decide +kernel
theorem dX1_saveTo_13 : decode cX1_saveTo 13 = .ok (.return_, 1) := by decide +kernel
theorem dX1_types_0 : decode cX1_types 0 = .ok (.aload_n 0, 1) := by decide +kernel
theorem dX1_types_1 : decode cX1_types 1 = .ok (.getfield 9, 3) := by decide +kernel
theorem dX1_types_4 : decode cX1_types 4 = .ok (.sipush 171, 3) := by decide +kernel
theorem dX1_types_7 : decode cX1_types 7 = .ok (.laload, 1) := by decide +kernel
theorem dX1_types_8 : decode cX1_types 8 = .ok (.l2i, 1) := by decide +kernel
theorem dX1_types_9 : decode cX1_types 9 = .ok (.ireturn, 1) := by decide +kernel
theorem dX1_spare_0 : decode cX1_spare 0 = .ok (.aload_n 0, 1) := by decide +kernel
theorem dX1_spare_1 : decode cX1_spare 1 = .ok (.getfield 9, 3) := by decide +kernel
theorem dX1_spare_4 : decode cX1_spare 4 = .ok (.sipush 170, 3) := by decide +kernel
theorem dX1_spare_7 : decode cX1_spare 7 = .ok (.laload, 1) := by decide +kernel
theorem dX1_spare_8 : decode cX1_spare 8 = .ok (.lreturn, 1) := by decide +kernel
theorem dX1_setSpare_0 : decode cX1_setSpare 0 = .ok (.aload_n 0, 1) := by decide +kernel
theorem dX1_setSpare_1 : decode cX1_setSpare 1 = .ok (.getfield 9, 3) := by decide +kernel
theorem dX1_setSpare_4 : decode cX1_setSpare 4 = .ok (.sipush 170, 3) := by decide +kernel
theorem dX1_setSpare_7 : decode cX1_setSpare 7 = .ok (.lload_n 1, 1) := by decide +kernel
theorem dX1_setSpare_8 : decode cX1_setSpare 8 = .ok (.lastore, 1) := by decide +kernel
theorem dX1_setSpare_9 : decode cX1_setSpare 9 = .ok (.return_, 1) := by decide +kernel
theorem dX1_held_0 : decode cX1_held 0 = .ok (.aload_n 0, 1) := by decide +kernel
theorem dX1_held_1 : decode cX1_held 1 = .ok (.getfield 9, 3) := by decide +kernel
theorem dX1_held_4 : decode cX1_held 4 = .ok (.iconst 0, 1) := by decide +kernel
theorem dX1_held_5 : decode cX1_held 5 = .ok (.iload_n 1, 1) := by decide +kernel
theorem dX1_held_6 : decode cX1_held 6 = .ok (.bipush 6, 2) := by decide +kernel
theorem dX1_held_8 : decode cX1_held 8 = .ok (.imul, 1) := by decide +kernel
theorem dX1_held_9 : decode cX1_held 9 = .ok (.iadd, 1) := by decide +kernel
theorem dX1_held_10 : decode cX1_held 10 = .ok (.iload_n 2, 1) := by decide +kernel
theorem dX1_held_11 : decode cX1_held 11 = .ok (.iadd, 1) := by decide +kernel
theorem dX1_held_12 : decode cX1_held 12 = .ok (.laload, 1) := by decide +kernel
theorem dX1_held_13 : decode cX1_held 13 = .ok (.lreturn, 1) := by decide +kernel
theorem dX1_addHeld_0 : decode cX1_addHeld 0 = .ok (.aload_n 0, 1) := by decide +kernel
theorem dX1_addHeld_1 : decode cX1_addHeld 1 = .ok (.getfield 9, 3) := by decide +kernel
theorem dX1_addHeld_4 : decode cX1_addHeld 4 = .ok (.iconst 0, 1) := by decide +kernel
theorem dX1_addHeld_5 : decode cX1_addHeld 5 = .ok (.iload_n 1, 1) := by decide +kernel
theorem dX1_addHeld_6 : decode cX1_addHeld 6 = .ok (.bipush 6, 2) := by decide +kernel
theorem dX1_addHeld_8 : decode cX1_addHeld 8 = .ok (.imul, 1) := by decide +kernel
theorem dX1_addHeld_9 : decode cX1_addHeld 9 = .ok (.iadd, 1) := by decide +kernel
theorem dX1_addHeld_10 : decode cX1_addHeld 10 = .ok (.iload_n 2, 1) := by decide +kernel
theorem dX1_addHeld_11 : decode cX1_addHeld 11 = .ok (.iadd, 1) := by decide +kernel
theorem dX1_addHeld_12 : decode cX1_addHeld 12 = .ok (.dup2, 1) := by decide +kernel
theorem dX1_addHeld_13 : decode cX1_addHeld 13 = .ok (.laload, 1) := by decide +kernel
theorem dX1_addHeld_14 : decode cX1_addHeld 14 = .ok (.lload_n 3, 1) := by decide +kernel
theorem dX1_addHeld_15 : decode cX1_addHeld 15 = .ok (.ladd, 1) := by decide +kernel
theorem dX1_addHeld_16 : decode cX1_addHeld 16 = .ok (.lastore, 1) := by decide +kernel
theorem dX1_addHeld_17 : decode cX1_addHeld 17 = .ok (.return_, 1) := by decide +kernel
theorem dX1_given_0 : decode cX1_given 0 = .ok (.aload_n 0, 1) := by decide +kernel
theorem dX1_given_1 : decode cX1_given 1 = .ok (.getfield 9, 3) := by decide +kernel
theorem dX1_given_4 : decode cX1_given 4 = .ok (.bipush 48, 2) := by decide +kernel
theorem dX1_given_6 : decode cX1_given 6 = .ok (.iload_n 1, 1) := by decide +kernel
theorem dX1_given_7 : decode cX1_given 7 = .ok (.bipush 6, 2) := by decide +kernel
theorem dX1_given_9 : decode cX1_given 9 = .ok (.imul, 1) := by decide +kernel
theorem dX1_given_10 : decode cX1_given 10 = .ok (.iadd, 1) := by decide +kernel
theorem dX1_given_11 : decode cX1_given 11 = .ok (.iload_n 2, 1) := by decide +kernel
theorem dX1_given_12 : decode cX1_given 12 = .ok (.iadd, 1) := by decide +kernel
theorem dX1_given_13 : decode cX1_given 13 = .ok (.laload, 1) := by decide +kernel
theorem dX1_given_14 : decode cX1_given 14 = .ok (.lreturn, 1) := by decide +kernel
theorem dX1_setGiven_0 : decode cX1_setGiven 0 = .ok (.aload_n 0, 1) := by decide +kernel
theorem dX1_setGiven_1 : decode cX1_setGiven 1 = .ok (.getfield 9, 3) := by decide +kernel
theorem dX1_setGiven_4 : decode cX1_setGiven 4 = .ok (.bipush 48, 2) := by decide +kernel
theorem dX1_setGiven_6 : decode cX1_setGiven 6 = .ok (.iload_n 1, 1) := by decide +kernel
theorem dX1_setGiven_7 : decode cX1_setGiven 7 = .ok (.bipush 6, 2) := by decide +kernel
theorem dX1_setGiven_9 : decode cX1_setGiven 9 = .ok (.imul, 1) := by decide +kernel
theorem dX1_setGiven_10 : decode cX1_setGiven 10 = .ok (.iadd, 1) := by decide +kernel
theorem dX1_setGiven_11 : decode cX1_setGiven 11 = .ok (.iload_n 2, 1) := by decide +kernel
theorem dX1_setGiven_12 : decode cX1_setGiven 12 = .ok (.iadd, 1) := by decide +kernel
theorem dX1_setGiven_13 : decode cX1_setGiven 13 = .ok (.lload_n 3, 1) := by decide +kernel
theorem dX1_setGiven_14 : decode cX1_setGiven 14 = .ok (.lastore, 1) := by decide +kernel
theorem dX1_setGiven_15 : decode cX1_setGiven 15 = .ok (.return_, 1) := by decide +kernel
theorem dX1_granted_0 : decode cX1_granted 0 = .ok (.aload_n 0, 1) := by decide +kernel
theorem dX1_granted_1 : decode cX1_granted 1 = .ok (.getfield 9, 3) := by decide +kernel
theorem dX1_granted_4 : decode cX1_granted 4 = .ok (.bipush 96, 2) := by decide +kernel
theorem dX1_granted_6 : decode cX1_granted 6 = .ok (.iload_n 1, 1) := by decide +kernel
theorem dX1_granted_7 : decode cX1_granted 7 = .ok (.iadd, 1) := by decide +kernel
theorem dX1_granted_8 : decode cX1_granted 8 = .ok (.laload, 1) := by decide +kernel
theorem dX1_granted_9 : decode cX1_granted 9 = .ok (.lreturn, 1) := by decide +kernel
theorem dX1_addGranted_0 : decode cX1_addGranted 0 = .ok (.aload_n 0, 1) := by decide +kernel
theorem dX1_addGranted_1 : decode cX1_addGranted 1 = .ok (.getfield 9, 3) := by decide +kernel
theorem dX1_addGranted_4 : decode cX1_addGranted 4 = .ok (.bipush 96, 2) := by decide +kernel
theorem dX1_addGranted_6 : decode cX1_addGranted 6 = .ok (.iload_n 1, 1) := by decide +kernel
theorem dX1_addGranted_7 : decode cX1_addGranted 7 = .ok (.iadd, 1) := by decide +kernel
theorem dX1_addGranted_8 : decode cX1_addGranted 8 = .ok (.dup2, 1) := by decide +kernel
theorem dX1_addGranted_9 : decode cX1_addGranted 9 = .ok (.laload, 1) := by decide +kernel
theorem dX1_addGranted_10 : decode cX1_addGranted 10 = .ok (.lload_n 2, 1) := by decide +kernel
theorem dX1_addGranted_11 : decode cX1_addGranted 11 = .ok (.ladd, 1) := by decide +kernel
theorem dX1_addGranted_12 : decode cX1_addGranted 12 = .ok (.lastore, 1) := by decide +kernel
theorem dX1_addGranted_13 : decode cX1_addGranted 13 = .ok (.return_, 1) := by decide +kernel
theorem dX1_fact_0 : decode cX1_fact 0 = .ok (.aload_n 0, 1) := by decide +kernel
theorem dX1_fact_1 : decode cX1_fact 1 = .ok (.getfield 9, 3) := by decide +kernel
theorem dX1_fact_4 : decode cX1_fact 4 = .ok (.bipush 104, 2) := by decide +kernel
theorem dX1_fact_6 : decode cX1_fact 6 = .ok (.iload_n 1, 1) := by decide +kernel
theorem dX1_fact_7 : decode cX1_fact 7 = .ok (.bipush 11, 2) := by decide +kernel
theorem dX1_fact_9 : decode cX1_fact 9 = .ok (.imul, 1) := by decide +kernel
theorem dX1_fact_10 : decode cX1_fact 10 = .ok (.iadd, 1) := by decide +kernel
theorem dX1_fact_11 : decode cX1_fact 11 = .ok (.iload_n 2, 1) := by decide +kernel
theorem dX1_fact_12 : decode cX1_fact 12 = .ok (.iadd, 1) := by decide +kernel
theorem dX1_fact_13 : decode cX1_fact 13 = .ok (.laload, 1) := by decide +kernel
theorem dX1_fact_14 : decode cX1_fact 14 = .ok (.lreturn, 1) := by decide +kernel
theorem dX1_setFact_0 : decode cX1_setFact 0 = .ok (.aload_n 0, 1) := by decide +kernel
theorem dX1_setFact_1 : decode cX1_setFact 1 = .ok (.getfield 9, 3) := by decide +kernel
theorem dX1_setFact_4 : decode cX1_setFact 4 = .ok (.bipush 104, 2) := by decide +kernel
theorem dX1_setFact_6 : decode cX1_setFact 6 = .ok (.iload_n 1, 1) := by decide +kernel
theorem dX1_setFact_7 : decode cX1_setFact 7 = .ok (.bipush 11, 2) := by decide +kernel
theorem dX1_setFact_9 : decode cX1_setFact 9 = .ok (.imul, 1) := by decide +kernel
theorem dX1_setFact_10 : decode cX1_setFact 10 = .ok (.iadd, 1) := by decide +kernel
theorem dX1_setFact_11 : decode cX1_setFact 11 = .ok (.iload_n 2, 1) := by decide +kernel
theorem dX1_setFact_12 : decode cX1_setFact 12 = .ok (.iadd, 1) := by decide +kernel
theorem dX1_setFact_13 : decode cX1_setFact 13 = .ok (.lload_n 3, 1) := by decide +kernel
theorem dX1_setFact_14 : decode cX1_setFact 14 = .ok (.lastore, 1) := by decide +kernel
theorem dX1_setFact_15 : decode cX1_setFact 15 = .ok (.return_, 1) := by decide +kernel
theorem dX1_addType_0 : decode cX1_addType 0 = .ok (.aload_n 0, 1) := by decide +kernel
theorem dX1_addType_1 : decode cX1_addType 1 = .ok (.invokevirtual 21, 3) := by decide +kernel
theorem dX1_addType_4 : decode cX1_addType 4 = .ok (.istore_n 1, 1) := by decide +kernel
theorem dX1_addType_5 : decode cX1_addType 5 = .ok (.iload_n 1, 1) := by decide +kernel
theorem dX1_addType_6 : decode cX1_addType 6 = .ok (.iconst 1, 1) := by decide +kernel
theorem dX1_addType_7 : decode cX1_addType 7 = .ok (.if_icmp .lt 9, 3) := by decide +kernel
theorem dX1_addType_10 : decode cX1_addType 10 = .ok (.iload_n 1, 1) := by decide +kernel
theorem dX1_addType_11 : decode cX1_addType 11 = .ok (.bipush 6, 2) := by decide +kernel
theorem dX1_addType_13 : decode cX1_addType 13 = .ok (.if_icmp .lt 5, 3) := by decide +kernel
theorem dX1_addType_16 : decode cX1_addType 16 = .ok (.iconst (-1), 1) := by decide +kernel
theorem dX1_addType_17 : decode cX1_addType 17 = .ok (.ireturn, 1) := by decide +kernel
theorem dX1_addType_18 : decode cX1_addType 18 = .ok (.aload_n 0, 1) := by decide +kernel
theorem dX1_addType_19 : decode cX1_addType 19 = .ok (.getfield 9, 3) := by decide +kernel
theorem dX1_addType_22 : decode cX1_addType 22 = .ok (.sipush 171, 3) := by decide +kernel
theorem dX1_addType_25 : decode cX1_addType 25 = .ok (.iload_n 1, 1) := by decide +kernel
theorem dX1_addType_26 : decode cX1_addType 26 = .ok (.iconst 1, 1) := by decide +kernel
theorem dX1_addType_27 : decode cX1_addType 27 = .ok (.iadd, 1) := by decide +kernel
theorem dX1_addType_28 : decode cX1_addType 28 = .ok (.i2l, 1) := by decide +kernel
theorem dX1_addType_29 : decode cX1_addType 29 = .ok (.lastore, 1) := by decide +kernel
theorem dX1_addType_30 : decode cX1_addType 30 = .ok (.iload_n 1, 1) := by decide +kernel
theorem dX1_addType_31 : decode cX1_addType 31 = .ok (.ireturn, 1) := by decide +kernel
theorem dX1_converted_0 : decode cX1_converted 0 = .ok (.iload_n 1, 1) := by decide +kernel
theorem dX1_converted_1 : decode cX1_converted 1 = .ok (.ifCond .eq 9, 3) := by decide +kernel
theorem dX1_converted_4 : decode cX1_converted 4 = .ok (.lload_n 2, 1) := by decide +kernel
theorem dX1_converted_5 : decode cX1_converted 5 = .ok (.lconst 0, 1) := by decide +kernel
theorem dX1_converted_6 : decode cX1_converted 6 = .ok (.lcmp, 1) := by decide +kernel
theorem dX1_converted_7 : decode cX1_converted 7 = .ok (.ifCond .ne 5, 3) := by decide +kernel
theorem dX1_converted_10 : decode cX1_converted 10 = .ok (.lload_n 2, 1) := by decide +kernel
theorem dX1_converted_11 : decode cX1_converted 11 = .ok (.lreturn, 1) := by decide +kernel
theorem dX1_converted_12 : decode cX1_converted 12 = .ok (.lload_n 2, 1) := by decide +kernel
theorem dX1_converted_13 : decode cX1_converted 13 = .ok (.aload_n 0, 1) := by decide +kernel
theorem dX1_converted_14 : decode cX1_converted 14 = .ok (.iload_n 1, 1) := by decide +kernel
theorem dX1_converted_15 : decode cX1_converted 15 = .ok (.iconst 0, 1) := by decide +kernel
theorem dX1_converted_16 : decode cX1_converted 16 = .ok (.invokevirtual 25, 3) := by decide +kernel
theorem dX1_converted_19 : decode cX1_converted 19 = .ok (.lmul, 1) := by decide +kernel
theorem dX1_converted_20 : decode cX1_converted 20 = .ok (.aload_n 0, 1) := by decide +kernel
theorem dX1_converted_21 : decode cX1_converted 21 = .ok (.iload_n 1, 1) := by decide +kernel
theorem dX1_converted_22 : decode cX1_converted 22 = .ok (.iconst 1, 1) := by decide +kernel
theorem dX1_converted_23 : decode cX1_converted 23 = .ok (.invokevirtual 25, 3) := by decide +kernel
theorem dX1_converted_26 : decode cX1_converted 26 = .ok (.invokestatic 29, 3) := by decide +kernel
theorem dX1_converted_29 : decode cX1_converted 29 = .ok (.lreturn, 1) := by decide +kernel
theorem dX1_votes_0 : decode cX1_votes 0 = .ok (.lconst 0, 1) := by decide +kernel
theorem dX1_votes_1 : decode cX1_votes 1 = .ok (.lstore_n 2, 1) := by decide +kernel
theorem dX1_votes_2 : decode cX1_votes 2 = .ok (.iconst 0, 1) := by decide +kernel
theorem dX1_votes_3 : decode cX1_votes 3 = .ok (.istore 4, 2) := by decide +kernel
theorem dX1_votes_5 : decode cX1_votes 5 = .ok (.iload 4, 2) := by decide +kernel
theorem dX1_votes_7 : decode cX1_votes 7 = .ok (.aload_n 0, 1) := by decide +kernel
theorem dX1_votes_8 : decode cX1_votes 8 = .ok (.invokevirtual 21, 3) := by decide +kernel
theorem dX1_votes_11 : decode cX1_votes 11 = .ok (.if_icmp .ge 25, 3) := by decide +kernel
theorem dX1_votes_14 : decode cX1_votes 14 = .ok (.lload_n 2, 1) := by decide +kernel
theorem dX1_votes_15 : decode cX1_votes 15 = .ok (.aload_n 0, 1) := by decide +kernel
theorem dX1_votes_16 : decode cX1_votes 16 = .ok (.iload 4, 2) := by decide +kernel
theorem dX1_votes_18 : decode cX1_votes 18 = .ok (.aload_n 0, 1) := by decide +kernel
theorem dX1_votes_19 : decode cX1_votes 19 = .ok (.iload_n 1, 1) := by decide +kernel
theorem dX1_votes_20 : decode cX1_votes 20 = .ok (.iload 4, 2) := by decide +kernel
theorem dX1_votes_22 : decode cX1_votes 22 = .ok (.invokevirtual 33, 3) := by decide +kernel
theorem dX1_votes_25 : decode cX1_votes 25 = .ok (.invokevirtual 36, 3) := by decide +kernel
theorem dX1_votes_28 : decode cX1_votes 28 = .ok (.ladd, 1) := by decide +kernel
theorem dX1_votes_29 : decode cX1_votes 29 = .ok (.lstore_n 2, 1) := by decide +kernel
theorem dX1_votes_30 : decode cX1_votes 30 = .ok (.iinc 4 1, 3) := by decide +kernel
theorem dX1_votes_33 : decode cX1_votes 33 = .ok (.goto (-28), 3) := by decide +kernel
theorem dX1_votes_36 : decode cX1_votes 36 = .ok (.lload_n 2, 1) := by decide +kernel
theorem dX1_votes_37 : decode cX1_votes 37 = .ok (.lreturn, 1) := by decide +kernel
theorem dX1_claim_0 : decode cX1_claim 0 = .ok (.aload_n 0, 1) := by decide +kernel
theorem dX1_claim_1 : decode cX1_claim 1 = .ok (.iload_n 1, 1) := by decide +kernel
theorem dX1_claim_2 : decode cX1_claim 2 = .ok (.invokevirtual 40, 3) := by decide +kernel
theorem dX1_claim_5 : decode cX1_claim 5 = .ok (.aload_n 0, 1) := by decide +kernel
theorem dX1_claim_6 : decode cX1_claim 6 = .ok (.iload_n 1, 1) := by decide +kernel
theorem dX1_claim_7 : decode cX1_claim 7 = .ok (.invokevirtual 44, 3) := by decide +kernel
theorem dX1_claim_10 : decode cX1_claim 10 = .ok (.ladd, 1) := by decide +kernel
theorem dX1_claim_11 : decode cX1_claim 11 = .ok (.lreturn, 1) := by decide +kernel
theorem dX1_hasAnything_0 : decode cX1_hasAnything 0 = .ok (.aload_n 0, 1) := by decide +kernel
theorem dX1_hasAnything_1 : decode cX1_hasAnything 1 = .ok (.iload_n 1, 1) := by decide +kernel
theorem dX1_hasAnything_2 : decode cX1_hasAnything 2 = .ok (.invokevirtual 44, 3) := by decide +kernel
theorem dX1_hasAnything_5 : decode cX1_hasAnything 5 = .ok (.lstore_n 2, 1) := by decide +kernel
theorem dX1_hasAnything_6 : decode cX1_hasAnything 6 = .ok (.iconst 0, 1) := by decide +kernel
theorem dX1_hasAnything_7 : decode cX1_hasAnything 7 = .ok (.istore 4, 2) := by decide +kernel
theorem dX1_hasAnything_9 : decode cX1_hasAnything 9 = .ok (.iload 4, 2) := by decide +kernel
theorem dX1_hasAnything_11 : decode cX1_hasAnything 11 = .ok (.aload_n 0, 1) := by decide +kernel
theorem dX1_hasAnything_12 : decode cX1_hasAnything 12 = .ok (.invokevirtual 21, 3) := by decide +kernel
theorem dX1_hasAnything_15 : decode cX1_hasAnything 15 = .ok (.if_icmp .ge 19, 3) := by decide +kernel
theorem dX1_hasAnything_18 : decode cX1_hasAnything 18 = .ok (.lload_n 2, 1) := by decide +kernel
theorem dX1_hasAnything_19 : decode cX1_hasAnything 19 = .ok (.aload_n 0, 1) := by decide +kernel
theorem dX1_hasAnything_20 : decode cX1_hasAnything 20 = .ok (.iload_n 1, 1) := by decide +kernel
theorem dX1_hasAnything_21 : decode cX1_hasAnything 21 = .ok (.iload 4, 2) := by decide +kernel
theorem dX1_hasAnything_23 : decode cX1_hasAnything 23 = .ok (.invokevirtual 33, 3) := by decide +kernel
theorem dX1_hasAnything_26 : decode cX1_hasAnything 26 = .ok (.ladd, 1) := by decide +kernel
theorem dX1_hasAnything_27 : decode cX1_hasAnything 27 = .ok (.lstore_n 2, 1) := by decide +kernel
theorem dX1_hasAnything_28 : decode cX1_hasAnything 28 = .ok (.iinc 4 1, 3) := by decide +kernel
theorem dX1_hasAnything_31 : decode cX1_hasAnything 31 = .ok (.goto (-22), 3) := by decide +kernel
theorem dX1_hasAnything_34 : decode cX1_hasAnything 34 = .ok (.lload_n 2, 1) := by decide +kernel
theorem dX1_hasAnything_35 : decode cX1_hasAnything 35 = .ok (.lconst 0, 1) := by decide +kernel
theorem dX1_hasAnything_36 : decode cX1_hasAnything 36 = .ok (.lcmp, 1) := by decide +kernel
theorem dX1_hasAnything_37 : decode cX1_hasAnything 37 = .ok (.ifCond .le 7, 3) := by decide +kernel
theorem dX1_hasAnything_40 : decode cX1_hasAnything 40 = .ok (.iconst 1, 1) := by decide +kernel
theorem dX1_hasAnything_41 : decode cX1_hasAnything 41 = .ok (.goto 4, 3) := by decide +kernel
theorem dX1_hasAnything_44 : decode cX1_hasAnything 44 = .ok (.iconst 0, 1) := by decide +kernel
theorem dX1_hasAnything_45 : decode cX1_hasAnything 45 = .ok (.ireturn, 1) := by decide +kernel
theorem dX1_allHeld_0 : decode cX1_allHeld 0 = .ok (.lconst 0, 1) := by decide +kernel
theorem dX1_allHeld_1 : decode cX1_allHeld 1 = .ok (.lstore_n 2, 1) := by decide +kernel
theorem dX1_allHeld_2 : decode cX1_allHeld 2 = .ok (.iconst 0, 1) := by decide +kernel
theorem dX1_allHeld_3 : decode cX1_allHeld 3 = .ok (.istore 4, 2) := by decide +kernel
theorem dX1_allHeld_5 : decode cX1_allHeld 5 = .ok (.iload 4, 2) := by decide +kernel
theorem dX1_allHeld_7 : decode cX1_allHeld 7 = .ok (.bipush 8, 2) := by decide +kernel
theorem dX1_allHeld_9 : decode cX1_allHeld 9 = .ok (.if_icmp .ge 19, 3) := by decide +kernel
theorem dX1_allHeld_12 : decode cX1_allHeld 12 = .ok (.lload_n 2, 1) := by decide +kernel
theorem dX1_allHeld_13 : decode cX1_allHeld 13 = .ok (.aload_n 0, 1) := by decide +kernel
theorem dX1_allHeld_14 : decode cX1_allHeld 14 = .ok (.iload 4, 2) := by decide +kernel
theorem dX1_allHeld_16 : decode cX1_allHeld 16 = .ok (.iload_n 1, 1) := by decide +kernel
theorem dX1_allHeld_17 : decode cX1_allHeld 17 = .ok (.invokevirtual 33, 3) := by decide +kernel
theorem dX1_allHeld_20 : decode cX1_allHeld 20 = .ok (.ladd, 1) := by decide +kernel
theorem dX1_allHeld_21 : decode cX1_allHeld 21 = .ok (.lstore_n 2, 1) := by decide +kernel
theorem dX1_allHeld_22 : decode cX1_allHeld 22 = .ok (.iinc 4 1, 3) := by decide +kernel
theorem dX1_allHeld_25 : decode cX1_allHeld 25 = .ok (.goto (-20), 3) := by decide +kernel
theorem dX1_allHeld_28 : decode cX1_allHeld 28 = .ok (.lload_n 2, 1) := by decide +kernel
theorem dX1_allHeld_29 : decode cX1_allHeld 29 = .ok (.lreturn, 1) := by decide +kernel
theorem dX1_allConverted_0 : decode cX1_allConverted 0 = .ok (.lconst 0, 1) := by decide +kernel
theorem dX1_allConverted_1 : decode cX1_allConverted 1 = .ok (.lstore_n 2, 1) := by decide +kernel
theorem dX1_allConverted_2 : decode cX1_allConverted 2 = .ok (.iconst 0, 1) := by decide +kernel
theorem dX1_allConverted_3 : decode cX1_allConverted 3 = .ok (.istore 4, 2) := by decide +kernel
theorem dX1_allConverted_5 : decode cX1_allConverted 5 = .ok (.iload 4, 2) := by decide +kernel
theorem dX1_allConverted_7 : decode cX1_allConverted 7 = .ok (.bipush 8, 2) := by decide +kernel
theorem dX1_allConverted_9 : decode cX1_allConverted 9 = .ok (.if_icmp .ge 24, 3) := by decide +kernel
theorem dX1_allConverted_12 : decode cX1_allConverted 12 = .ok (.lload_n 2, 1) := by decide +kernel
theorem dX1_allConverted_13 : decode cX1_allConverted 13 = .ok (.aload_n 0, 1) := by decide +kernel
theorem dX1_allConverted_14 : decode cX1_allConverted 14 = .ok (.iload_n 1, 1) := by decide +kernel
theorem dX1_allConverted_15 : decode cX1_allConverted 15 = .ok (.aload_n 0, 1) := by decide +kernel
theorem dX1_allConverted_16 : decode cX1_allConverted 16 = .ok (.iload 4, 2) := by decide +kernel
theorem dX1_allConverted_18 : decode cX1_allConverted 18 = .ok (.iload_n 1, 1) := by decide +kernel
theorem dX1_allConverted_19 : decode cX1_allConverted 19 = .ok (.invokevirtual 33, 3) := by decide +kernel
theorem dX1_allConverted_22 : decode cX1_allConverted 22 = .ok (.invokevirtual 36, 3) := by decide +kernel
theorem dX1_allConverted_25 : decode cX1_allConverted 25 = .ok (.ladd, 1) := by decide +kernel
theorem dX1_allConverted_26 : decode cX1_allConverted 26 = .ok (.lstore_n 2, 1) := by decide +kernel
theorem dX1_allConverted_27 : decode cX1_allConverted 27 = .ok (.iinc 4 1, 3) := by decide +kernel
theorem dX1_allConverted_30 : decode cX1_allConverted 30 = .ok (.goto (-25), 3) := by decide +kernel
theorem dX1_allConverted_33 : decode cX1_allConverted 33 = .ok (.lload_n 2, 1) := by decide +kernel
theorem dX1_allConverted_34 : decode cX1_allConverted 34 = .ok (.lreturn, 1) := by decide +kernel
theorem dX1_allVotes_0 : decode cX1_allVotes 0 = .ok (.lconst 0, 1) := by decide +kernel
theorem dX1_allVotes_1 : decode cX1_allVotes 1 = .ok (.lstore_n 1, 1) := by decide +kernel
theorem dX1_allVotes_2 : decode cX1_allVotes 2 = .ok (.iconst 0, 1) := by decide +kernel
theorem dX1_allVotes_3 : decode cX1_allVotes 3 = .ok (.istore_n 3, 1) := by decide +kernel
theorem dX1_allVotes_4 : decode cX1_allVotes 4 = .ok (.iload_n 3, 1) := by decide +kernel
theorem dX1_allVotes_5 : decode cX1_allVotes 5 = .ok (.bipush 8, 2) := by decide +kernel
theorem dX1_allVotes_7 : decode cX1_allVotes 7 = .ok (.if_icmp .ge 43, 3) := by decide +kernel
theorem dX1_allVotes_10 : decode cX1_allVotes 10 = .ok (.iconst 0, 1) := by decide +kernel
theorem dX1_allVotes_11 : decode cX1_allVotes 11 = .ok (.istore 4, 2) := by decide +kernel
theorem dX1_allVotes_13 : decode cX1_allVotes 13 = .ok (.iload 4, 2) := by decide +kernel
theorem dX1_allVotes_15 : decode cX1_allVotes 15 = .ok (.aload_n 0, 1) := by decide +kernel
theorem dX1_allVotes_16 : decode cX1_allVotes 16 = .ok (.invokevirtual 21, 3) := by decide +kernel
theorem dX1_allVotes_19 : decode cX1_allVotes 19 = .ok (.if_icmp .ge 25, 3) := by decide +kernel
theorem dX1_allVotes_22 : decode cX1_allVotes 22 = .ok (.lload_n 1, 1) := by decide +kernel
theorem dX1_allVotes_23 : decode cX1_allVotes 23 = .ok (.aload_n 0, 1) := by decide +kernel
theorem dX1_allVotes_24 : decode cX1_allVotes 24 = .ok (.iload 4, 2) := by decide +kernel
theorem dX1_allVotes_26 : decode cX1_allVotes 26 = .ok (.aload_n 0, 1) := by decide +kernel
theorem dX1_allVotes_27 : decode cX1_allVotes 27 = .ok (.iload_n 3, 1) := by decide +kernel
theorem dX1_allVotes_28 : decode cX1_allVotes 28 = .ok (.iload 4, 2) := by decide +kernel
theorem dX1_allVotes_30 : decode cX1_allVotes 30 = .ok (.invokevirtual 33, 3) := by decide +kernel
theorem dX1_allVotes_33 : decode cX1_allVotes 33 = .ok (.invokevirtual 36, 3) := by decide +kernel
theorem dX1_allVotes_36 : decode cX1_allVotes 36 = .ok (.ladd, 1) := by decide +kernel
theorem dX1_allVotes_37 : decode cX1_allVotes 37 = .ok (.lstore_n 1, 1) := by decide +kernel
theorem dX1_allVotes_38 : decode cX1_allVotes 38 = .ok (.iinc 4 1, 3) := by decide +kernel
theorem dX1_allVotes_41 : decode cX1_allVotes 41 = .ok (.goto (-28), 3) := by decide +kernel
theorem dX1_allVotes_44 : decode cX1_allVotes 44 = .ok (.iinc 3 1, 3) := by decide +kernel
theorem dX1_allVotes_47 : decode cX1_allVotes 47 = .ok (.goto (-43), 3) := by decide +kernel
theorem dX1_allVotes_50 : decode cX1_allVotes 50 = .ok (.lload_n 1, 1) := by decide +kernel
theorem dX1_allVotes_51 : decode cX1_allVotes 51 = .ok (.lreturn, 1) := by decide +kernel
theorem dX1_allGranted_0 : decode cX1_allGranted 0 = .ok (.lconst 0, 1) := by decide +kernel
theorem dX1_allGranted_1 : decode cX1_allGranted 1 = .ok (.lstore_n 1, 1) := by decide +kernel
theorem dX1_allGranted_2 : decode cX1_allGranted 2 = .ok (.iconst 0, 1) := by decide +kernel
theorem dX1_allGranted_3 : decode cX1_allGranted 3 = .ok (.istore_n 3, 1) := by decide +kernel
theorem dX1_allGranted_4 : decode cX1_allGranted 4 = .ok (.iload_n 3, 1) := by decide +kernel
theorem dX1_allGranted_5 : decode cX1_allGranted 5 = .ok (.bipush 8, 2) := by decide +kernel
theorem dX1_allGranted_7 : decode cX1_allGranted 7 = .ok (.if_icmp .ge 17, 3) := by decide +kernel
theorem dX1_allGranted_10 : decode cX1_allGranted 10 = .ok (.lload_n 1, 1) := by decide +kernel
theorem dX1_allGranted_11 : decode cX1_allGranted 11 = .ok (.aload_n 0, 1) := by decide +kernel
theorem dX1_allGranted_12 : decode cX1_allGranted 12 = .ok (.iload_n 3, 1) := by decide +kernel
theorem dX1_allGranted_13 : decode cX1_allGranted 13 = .ok (.invokevirtual 44, 3) := by decide +kernel
theorem dX1_allGranted_16 : decode cX1_allGranted 16 = .ok (.ladd, 1) := by decide +kernel
theorem dX1_allGranted_17 : decode cX1_allGranted 17 = .ok (.lstore_n 1, 1) := by decide +kernel
theorem dX1_allGranted_18 : decode cX1_allGranted 18 = .ok (.iinc 3 1, 3) := by decide +kernel
theorem dX1_allGranted_21 : decode cX1_allGranted 21 = .ok (.goto (-17), 3) := by decide +kernel
theorem dX1_allGranted_24 : decode cX1_allGranted 24 = .ok (.lload_n 1, 1) := by decide +kernel
theorem dX1_allGranted_25 : decode cX1_allGranted 25 = .ok (.lreturn, 1) := by decide +kernel
theorem dX1_allGiven_0 : decode cX1_allGiven 0 = .ok (.lconst 0, 1) := by decide +kernel
theorem dX1_allGiven_1 : decode cX1_allGiven 1 = .ok (.lstore_n 2, 1) := by decide +kernel
theorem dX1_allGiven_2 : decode cX1_allGiven 2 = .ok (.iconst 1, 1) := by decide +kernel
theorem dX1_allGiven_3 : decode cX1_allGiven 3 = .ok (.istore 4, 2) := by decide +kernel
theorem dX1_allGiven_5 : decode cX1_allGiven 5 = .ok (.iload 4, 2) := by decide +kernel
theorem dX1_allGiven_7 : decode cX1_allGiven 7 = .ok (.aload_n 0, 1) := by decide +kernel
theorem dX1_allGiven_8 : decode cX1_allGiven 8 = .ok (.invokevirtual 21, 3) := by decide +kernel
theorem dX1_allGiven_11 : decode cX1_allGiven 11 = .ok (.if_icmp .ge 19, 3) := by decide +kernel
theorem dX1_allGiven_14 : decode cX1_allGiven 14 = .ok (.lload_n 2, 1) := by decide +kernel
theorem dX1_allGiven_15 : decode cX1_allGiven 15 = .ok (.aload_n 0, 1) := by decide +kernel
theorem dX1_allGiven_16 : decode cX1_allGiven 16 = .ok (.iload_n 1, 1) := by decide +kernel
theorem dX1_allGiven_17 : decode cX1_allGiven 17 = .ok (.iload 4, 2) := by decide +kernel
theorem dX1_allGiven_19 : decode cX1_allGiven 19 = .ok (.invokevirtual 47, 3) := by decide +kernel
theorem dX1_allGiven_22 : decode cX1_allGiven 22 = .ok (.ladd, 1) := by decide +kernel
theorem dX1_allGiven_23 : decode cX1_allGiven 23 = .ok (.lstore_n 2, 1) := by decide +kernel
theorem dX1_allGiven_24 : decode cX1_allGiven 24 = .ok (.iinc 4 1, 3) := by decide +kernel
theorem dX1_allGiven_27 : decode cX1_allGiven 27 = .ok (.goto (-22), 3) := by decide +kernel
theorem dX1_allGiven_30 : decode cX1_allGiven 30 = .ok (.lload_n 2, 1) := by decide +kernel
theorem dX1_allGiven_31 : decode cX1_allGiven 31 = .ok (.lreturn, 1) := by decide +kernel
theorem dX1_size_0 : decode cX1_size 0 = .ok (.aload_n 0, 1) := by decide +kernel
theorem dX1_size_1 : decode cX1_size 1 = .ok (.invokevirtual 50, 3) := by decide +kernel
theorem dX1_size_4 : decode cX1_size 4 = .ok (.aload_n 0, 1) := by decide +kernel
theorem dX1_size_5 : decode cX1_size 5 = .ok (.invokevirtual 54, 3) := by decide +kernel
theorem dX1_size_8 : decode cX1_size 8 = .ok (.ladd, 1) := by decide +kernel
theorem dX1_size_9 : decode cX1_size 9 = .ok (.aload_n 0, 1) := by decide +kernel
theorem dX1_size_10 : decode cX1_size 10 = .ok (.invokevirtual 57, 3) := by decide +kernel
theorem dX1_size_13 : decode cX1_size 13 = .ok (.ladd, 1) := by decide +kernel
theorem dX1_size_14 : decode cX1_size 14 = .ok (.lreturn, 1) := by decide +kernel
theorem dX1_preferred_0 : decode cX1_preferred 0 = .ok (.aload_n 0, 1) := by decide +kernel
theorem dX1_preferred_1 : decode cX1_preferred 1 = .ok (.iload_n 1, 1) := by decide +kernel
theorem dX1_preferred_2 : decode cX1_preferred 2 = .ok (.invokevirtual 60, 3) := by decide +kernel
theorem dX1_preferred_5 : decode cX1_preferred 5 = .ok (.aload_n 0, 1) := by decide +kernel
theorem dX1_preferred_6 : decode cX1_preferred 6 = .ok (.iload_n 1, 1) := by decide +kernel
theorem dX1_preferred_7 : decode cX1_preferred 7 = .ok (.iconst 0, 1) := by decide +kernel
theorem dX1_preferred_8 : decode cX1_preferred 8 = .ok (.invokevirtual 25, 3) := by decide +kernel
theorem dX1_preferred_11 : decode cX1_preferred 11 = .ok (.lmul, 1) := by decide +kernel
theorem dX1_preferred_12 : decode cX1_preferred 12 = .ok (.aload_n 0, 1) := by decide +kernel
theorem dX1_preferred_13 : decode cX1_preferred 13 = .ok (.iload_n 1, 1) := by decide +kernel
theorem dX1_preferred_14 : decode cX1_preferred 14 = .ok (.iconst 3, 1) := by decide +kernel
theorem dX1_preferred_15 : decode cX1_preferred 15 = .ok (.invokevirtual 25, 3) := by decide +kernel
theorem dX1_preferred_18 : decode cX1_preferred 18 = .ok (.lmul, 1) := by decide +kernel
theorem dX1_preferred_19 : decode cX1_preferred 19 = .ok (.ldc2_w 63, 3) := by decide +kernel
theorem dX1_preferred_22 : decode cX1_preferred 22 = .ok (.ldiv, 1) := by decide +kernel
theorem dX1_preferred_23 : decode cX1_preferred 23 = .ok (.lreturn, 1) := by decide +kernel
theorem dX1_holdersOf_0 : decode cX1_holdersOf 0 = .ok (.iconst 0, 1) := by decide +kernel
theorem dX1_holdersOf_1 : decode cX1_holdersOf 1 = .ok (.istore_n 2, 1) := by decide +kernel
theorem dX1_holdersOf_2 : decode cX1_holdersOf 2 = .ok (.iconst 0, 1) := by decide +kernel
theorem dX1_holdersOf_3 : decode cX1_holdersOf 3 = .ok (.istore_n 3, 1) := by decide +kernel
theorem dX1_holdersOf_4 : decode cX1_holdersOf 4 = .ok (.iload_n 3, 1) := by decide +kernel
theorem dX1_holdersOf_5 : decode cX1_holdersOf 5 = .ok (.bipush 8, 2) := by decide +kernel
theorem dX1_holdersOf_7 : decode cX1_holdersOf 7 = .ok (.if_icmp .ge 30, 3) := by decide +kernel
theorem dX1_holdersOf_10 : decode cX1_holdersOf 10 = .ok (.iload_n 2, 1) := by decide +kernel
theorem dX1_holdersOf_11 : decode cX1_holdersOf 11 = .ok (.aload_n 0, 1) := by decide +kernel
theorem dX1_holdersOf_12 : decode cX1_holdersOf 12 = .ok (.iload_n 3, 1) := by decide +kernel
theorem dX1_holdersOf_13 : decode cX1_holdersOf 13 = .ok (.iload_n 1, 1) := by decide +kernel
theorem dX1_holdersOf_14 : decode cX1_holdersOf 14 = .ok (.invokevirtual 33, 3) := by decide +kernel
theorem dX1_holdersOf_17 : decode cX1_holdersOf 17 = .ok (.lconst 0, 1) := by decide +kernel
theorem dX1_holdersOf_18 : decode cX1_holdersOf 18 = .ok (.lcmp, 1) := by decide +kernel
theorem dX1_holdersOf_19 : decode cX1_holdersOf 19 = .ok (.ifCond .le 9, 3) := by decide +kernel
theorem dX1_holdersOf_22 : decode cX1_holdersOf 22 = .ok (.iconst 1, 1) := by decide +kernel
theorem dX1_holdersOf_23 : decode cX1_holdersOf 23 = .ok (.iload_n 3, 1) := by decide +kernel
theorem dX1_holdersOf_24 : decode cX1_holdersOf 24 = .ok (.ishl, 1) := by decide +kernel
theorem dX1_holdersOf_25 : decode cX1_holdersOf 25 = .ok (.goto 4, 3) := by decide +kernel
theorem dX1_holdersOf_28 : decode cX1_holdersOf 28 = .ok (.iconst 0, 1) := by decide +kernel
theorem dX1_holdersOf_29 : decode cX1_holdersOf 29 = .ok (.ior, 1) := by decide +kernel
theorem dX1_holdersOf_30 : decode cX1_holdersOf 30 = .ok (.istore_n 2, 1) := by decide +kernel
theorem dX1_holdersOf_31 : decode cX1_holdersOf 31 = .ok (.iinc 3 1, 3) := by decide +kernel
theorem dX1_holdersOf_34 : decode cX1_holdersOf 34 = .ok (.goto (-30), 3) := by decide +kernel
theorem dX1_holdersOf_37 : decode cX1_holdersOf 37 = .ok (.iload_n 2, 1) := by decide +kernel
theorem dX1_holdersOf_38 : decode cX1_holdersOf 38 = .ok (.ireturn, 1) := by decide +kernel
theorem dX1_claimants_0 : decode cX1_claimants 0 = .ok (.iconst 0, 1) := by decide +kernel
theorem dX1_claimants_1 : decode cX1_claimants 1 = .ok (.istore_n 1, 1) := by decide +kernel
theorem dX1_claimants_2 : decode cX1_claimants 2 = .ok (.iconst 0, 1) := by decide +kernel
theorem dX1_claimants_3 : decode cX1_claimants 3 = .ok (.istore_n 2, 1) := by decide +kernel
theorem dX1_claimants_4 : decode cX1_claimants 4 = .ok (.iload_n 2, 1) := by decide +kernel
theorem dX1_claimants_5 : decode cX1_claimants 5 = .ok (.bipush 8, 2) := by decide +kernel
theorem dX1_claimants_7 : decode cX1_claimants 7 = .ok (.if_icmp .ge 29, 3) := by decide +kernel
theorem dX1_claimants_10 : decode cX1_claimants 10 = .ok (.iload_n 1, 1) := by decide +kernel
theorem dX1_claimants_11 : decode cX1_claimants 11 = .ok (.aload_n 0, 1) := by decide +kernel
theorem dX1_claimants_12 : decode cX1_claimants 12 = .ok (.iload_n 2, 1) := by decide +kernel
theorem dX1_claimants_13 : decode cX1_claimants 13 = .ok (.invokevirtual 65, 3) := by decide +kernel
theorem dX1_claimants_16 : decode cX1_claimants 16 = .ok (.lconst 0, 1) := by decide +kernel
theorem dX1_claimants_17 : decode cX1_claimants 17 = .ok (.lcmp, 1) := by decide +kernel
theorem dX1_claimants_18 : decode cX1_claimants 18 = .ok (.ifCond .le 9, 3) := by decide +kernel
theorem dX1_claimants_21 : decode cX1_claimants 21 = .ok (.iconst 1, 1) := by decide +kernel
theorem dX1_claimants_22 : decode cX1_claimants 22 = .ok (.iload_n 2, 1) := by decide +kernel
theorem dX1_claimants_23 : decode cX1_claimants 23 = .ok (.ishl, 1) := by decide +kernel
theorem dX1_claimants_24 : decode cX1_claimants 24 = .ok (.goto 4, 3) := by decide +kernel
theorem dX1_claimants_27 : decode cX1_claimants 27 = .ok (.iconst 0, 1) := by decide +kernel
theorem dX1_claimants_28 : decode cX1_claimants 28 = .ok (.ior, 1) := by decide +kernel
theorem dX1_claimants_29 : decode cX1_claimants 29 = .ok (.istore_n 1, 1) := by decide +kernel
theorem dX1_claimants_30 : decode cX1_claimants 30 = .ok (.iinc 2 1, 3) := by decide +kernel
theorem dX1_claimants_33 : decode cX1_claimants 33 = .ok (.goto (-29), 3) := by decide +kernel
theorem dX1_claimants_36 : decode cX1_claimants 36 = .ok (.iload_n 1, 1) := by decide +kernel
theorem dX1_claimants_37 : decode cX1_claimants 37 = .ok (.ireturn, 1) := by decide +kernel
theorem dX1_grantees_0 : decode cX1_grantees 0 = .ok (.iconst 0, 1) := by decide +kernel
theorem dX1_grantees_1 : decode cX1_grantees 1 = .ok (.istore_n 1, 1) := by decide +kernel
theorem dX1_grantees_2 : decode cX1_grantees 2 = .ok (.iconst 0, 1) := by decide +kernel
theorem dX1_grantees_3 : decode cX1_grantees 3 = .ok (.istore_n 2, 1) := by decide +kernel
theorem dX1_grantees_4 : decode cX1_grantees 4 = .ok (.iload_n 2, 1) := by decide +kernel
theorem dX1_grantees_5 : decode cX1_grantees 5 = .ok (.bipush 8, 2) := by decide +kernel
theorem dX1_grantees_7 : decode cX1_grantees 7 = .ok (.if_icmp .ge 29, 3) := by decide +kernel
theorem dX1_grantees_10 : decode cX1_grantees 10 = .ok (.iload_n 1, 1) := by decide +kernel
theorem dX1_grantees_11 : decode cX1_grantees 11 = .ok (.aload_n 0, 1) := by decide +kernel
theorem dX1_grantees_12 : decode cX1_grantees 12 = .ok (.iload_n 2, 1) := by decide +kernel
theorem dX1_grantees_13 : decode cX1_grantees 13 = .ok (.invokevirtual 44, 3) := by decide +kernel
theorem dX1_grantees_16 : decode cX1_grantees 16 = .ok (.lconst 0, 1) := by decide +kernel
theorem dX1_grantees_17 : decode cX1_grantees 17 = .ok (.lcmp, 1) := by decide +kernel
theorem dX1_grantees_18 : decode cX1_grantees 18 = .ok (.ifCond .le 9, 3) := by decide +kernel
theorem dX1_grantees_21 : decode cX1_grantees 21 = .ok (.iconst 1, 1) := by decide +kernel
theorem dX1_grantees_22 : decode cX1_grantees 22 = .ok (.iload_n 2, 1) := by decide +kernel
theorem dX1_grantees_23 : decode cX1_grantees 23 = .ok (.ishl, 1) := by decide +kernel
theorem dX1_grantees_24 : decode cX1_grantees 24 = .ok (.goto 4, 3) := by decide +kernel
theorem dX1_grantees_27 : decode cX1_grantees 27 = .ok (.iconst 0, 1) := by decide +kernel
theorem dX1_grantees_28 : decode cX1_grantees 28 = .ok (.ior, 1) := by decide +kernel
theorem dX1_grantees_29 : decode cX1_grantees 29 = .ok (.istore_n 1, 1) := by decide +kernel
theorem dX1_grantees_30 : decode cX1_grantees 30 = .ok (.iinc 2 1, 3) := by decide +kernel
theorem dX1_grantees_33 : decode cX1_grantees 33 = .ok (.goto (-29), 3) := by decide +kernel
theorem dX1_grantees_36 : decode cX1_grantees 36 = .ok (.iload_n 1, 1) := by decide +kernel
theorem dX1_grantees_37 : decode cX1_grantees 37 = .ok (.ireturn, 1) := by decide +kernel
theorem dX1_typesWith_0 : decode cX1_typesWith 0 = .ok (.iconst 0, 1) := by decide +kernel
theorem dX1_typesWith_1 : decode cX1_typesWith 1 = .ok (.istore_n 2, 1) := by decide +kernel
theorem dX1_typesWith_2 : decode cX1_typesWith 2 = .ok (.iconst 1, 1) := by decide +kernel
theorem dX1_typesWith_3 : decode cX1_typesWith 3 = .ok (.istore_n 3, 1) := by decide +kernel
theorem dX1_typesWith_4 : decode cX1_typesWith 4 = .ok (.iload_n 3, 1) := by decide +kernel
theorem dX1_typesWith_5 : decode cX1_typesWith 5 = .ok (.aload_n 0, 1) := by decide +kernel
theorem dX1_typesWith_6 : decode cX1_typesWith 6 = .ok (.invokevirtual 21, 3) := by decide +kernel
theorem dX1_typesWith_9 : decode cX1_typesWith 9 = .ok (.if_icmp .ge 30, 3) := by decide +kernel
theorem dX1_typesWith_12 : decode cX1_typesWith 12 = .ok (.iload_n 2, 1) := by decide +kernel
theorem dX1_typesWith_13 : decode cX1_typesWith 13 = .ok (.aload_n 0, 1) := by decide +kernel
theorem dX1_typesWith_14 : decode cX1_typesWith 14 = .ok (.iload_n 3, 1) := by decide +kernel
theorem dX1_typesWith_15 : decode cX1_typesWith 15 = .ok (.iload_n 1, 1) := by decide +kernel
theorem dX1_typesWith_16 : decode cX1_typesWith 16 = .ok (.invokevirtual 25, 3) := by decide +kernel
theorem dX1_typesWith_19 : decode cX1_typesWith 19 = .ok (.lconst 0, 1) := by decide +kernel
theorem dX1_typesWith_20 : decode cX1_typesWith 20 = .ok (.lcmp, 1) := by decide +kernel
theorem dX1_typesWith_21 : decode cX1_typesWith 21 = .ok (.ifCond .le 9, 3) := by decide +kernel
theorem dX1_typesWith_24 : decode cX1_typesWith 24 = .ok (.iconst 1, 1) := by decide +kernel
theorem dX1_typesWith_25 : decode cX1_typesWith 25 = .ok (.iload_n 3, 1) := by decide +kernel
theorem dX1_typesWith_26 : decode cX1_typesWith 26 = .ok (.ishl, 1) := by decide +kernel
theorem dX1_typesWith_27 : decode cX1_typesWith 27 = .ok (.goto 4, 3) := by decide +kernel
theorem dX1_typesWith_30 : decode cX1_typesWith 30 = .ok (.iconst 0, 1) := by decide +kernel
theorem dX1_typesWith_31 : decode cX1_typesWith 31 = .ok (.ior, 1) := by decide +kernel
theorem dX1_typesWith_32 : decode cX1_typesWith 32 = .ok (.istore_n 2, 1) := by decide +kernel
theorem dX1_typesWith_33 : decode cX1_typesWith 33 = .ok (.iinc 3 1, 3) := by decide +kernel
theorem dX1_typesWith_36 : decode cX1_typesWith 36 = .ok (.goto (-32), 3) := by decide +kernel
theorem dX1_typesWith_39 : decode cX1_typesWith 39 = .ok (.iload_n 2, 1) := by decide +kernel
theorem dX1_typesWith_40 : decode cX1_typesWith 40 = .ok (.ireturn, 1) := by decide +kernel
theorem dX1_multiply_0 : decode cX1_multiply 0 = .ok (.iconst 0, 1) := by decide +kernel
theorem dX1_multiply_1 : decode cX1_multiply 1 = .ok (.istore_n 2, 1) := by decide +kernel
theorem dX1_multiply_2 : decode cX1_multiply 2 = .ok (.iload_n 2, 1) := by decide +kernel
theorem dX1_multiply_3 : decode cX1_multiply 3 = .ok (.bipush 8, 2) := by decide +kernel
theorem dX1_multiply_5 : decode cX1_multiply 5 = .ok (.if_icmp .ge 57, 3) := by decide +kernel
theorem dX1_multiply_8 : decode cX1_multiply 8 = .ok (.iconst 0, 1) := by decide +kernel
theorem dX1_multiply_9 : decode cX1_multiply 9 = .ok (.istore_n 3, 1) := by decide +kernel
theorem dX1_multiply_10 : decode cX1_multiply 10 = .ok (.iload_n 3, 1) := by decide +kernel
theorem dX1_multiply_11 : decode cX1_multiply 11 = .ok (.aload_n 0, 1) := by decide +kernel
theorem dX1_multiply_12 : decode cX1_multiply 12 = .ok (.invokevirtual 21, 3) := by decide +kernel
theorem dX1_multiply_15 : decode cX1_multiply 15 = .ok (.if_icmp .ge 26, 3) := by decide +kernel
theorem dX1_multiply_18 : decode cX1_multiply 18 = .ok (.aload_n 0, 1) := by decide +kernel
theorem dX1_multiply_19 : decode cX1_multiply 19 = .ok (.iload_n 2, 1) := by decide +kernel
theorem dX1_multiply_20 : decode cX1_multiply 20 = .ok (.iload_n 3, 1) := by decide +kernel
theorem dX1_multiply_21 : decode cX1_multiply 21 = .ok (.aload_n 0, 1) := by decide +kernel
theorem dX1_multiply_22 : decode cX1_multiply 22 = .ok (.iload_n 2, 1) := by decide +kernel
theorem dX1_multiply_23 : decode cX1_multiply 23 = .ok (.iload_n 3, 1) := by decide +kernel
theorem dX1_multiply_24 : decode cX1_multiply 24 = .ok (.invokevirtual 33, 3) := by decide +kernel
theorem dX1_multiply_27 : decode cX1_multiply 27 = .ok (.iload_n 1, 1) := by decide +kernel
theorem dX1_multiply_28 : decode cX1_multiply 28 = .ok (.iconst 1, 1) := by decide +kernel
theorem dX1_multiply_29 : decode cX1_multiply 29 = .ok (.isub, 1) := by decide +kernel
theorem dX1_multiply_30 : decode cX1_multiply 30 = .ok (.i2l, 1) := by decide +kernel
theorem dX1_multiply_31 : decode cX1_multiply 31 = .ok (.lmul, 1) := by decide +kernel
theorem dX1_multiply_32 : decode cX1_multiply 32 = .ok (.invokevirtual 68, 3) := by decide +kernel
theorem dX1_multiply_35 : decode cX1_multiply 35 = .ok (.iinc 3 1, 3) := by decide +kernel
theorem dX1_multiply_38 : decode cX1_multiply 38 = .ok (.goto (-28), 3) := by decide +kernel
theorem dX1_multiply_41 : decode cX1_multiply 41 = .ok (.aload_n 0, 1) := by decide +kernel
theorem dX1_multiply_42 : decode cX1_multiply 42 = .ok (.iload_n 2, 1) := by decide +kernel
theorem dX1_multiply_43 : decode cX1_multiply 43 = .ok (.aload_n 0, 1) := by decide +kernel
theorem dX1_multiply_44 : decode cX1_multiply 44 = .ok (.iload_n 2, 1) := by decide +kernel
theorem dX1_multiply_45 : decode cX1_multiply 45 = .ok (.invokevirtual 44, 3) := by decide +kernel
theorem dX1_multiply_48 : decode cX1_multiply 48 = .ok (.iload_n 1, 1) := by decide +kernel
theorem dX1_multiply_49 : decode cX1_multiply 49 = .ok (.iconst 1, 1) := by decide +kernel
theorem dX1_multiply_50 : decode cX1_multiply 50 = .ok (.isub, 1) := by decide +kernel
theorem dX1_multiply_51 : decode cX1_multiply 51 = .ok (.i2l, 1) := by decide +kernel
theorem dX1_multiply_52 : decode cX1_multiply 52 = .ok (.lmul, 1) := by decide +kernel
theorem dX1_multiply_53 : decode cX1_multiply 53 = .ok (.invokevirtual 72, 3) := by decide +kernel
theorem dX1_multiply_56 : decode cX1_multiply 56 = .ok (.iinc 2 1, 3) := by decide +kernel
theorem dX1_multiply_59 : decode cX1_multiply 59 = .ok (.goto (-57), 3) := by decide +kernel
theorem dX1_multiply_62 : decode cX1_multiply 62 = .ok (.aload_n 0, 1) := by decide +kernel
theorem dX1_multiply_63 : decode cX1_multiply 63 = .ok (.aload_n 0, 1) := by decide +kernel
theorem dX1_multiply_64 : decode cX1_multiply 64 = .ok (.invokevirtual 57, 3) := by decide +kernel
theorem dX1_multiply_67 : decode cX1_multiply 67 = .ok (.iload_n 1, 1) := by decide +kernel
theorem dX1_multiply_68 : decode cX1_multiply 68 = .ok (.i2l, 1) := by decide +kernel
theorem dX1_multiply_69 : decode cX1_multiply 69 = .ok (.lmul, 1) := by decide +kernel
theorem dX1_multiply_70 : decode cX1_multiply 70 = .ok (.invokevirtual 76, 3) := by decide +kernel
theorem dX1_multiply_73 : decode cX1_multiply 73 = .ok (.iconst 1, 1) := by decide +kernel
theorem dX1_multiply_74 : decode cX1_multiply 74 = .ok (.istore_n 2, 1) := by decide +kernel
theorem dX1_multiply_75 : decode cX1_multiply 75 = .ok (.iload_n 2, 1) := by decide +kernel
theorem dX1_multiply_76 : decode cX1_multiply 76 = .ok (.aload_n 0, 1) := by decide +kernel
theorem dX1_multiply_77 : decode cX1_multiply 77 = .ok (.invokevirtual 21, 3) := by decide +kernel
theorem dX1_multiply_80 : decode cX1_multiply 80 = .ok (.if_icmp .ge 51, 3) := by decide +kernel
theorem dX1_multiply_83 : decode cX1_multiply 83 = .ok (.aload_n 0, 1) := by decide +kernel
theorem dX1_multiply_84 : decode cX1_multiply 84 = .ok (.iload_n 2, 1) := by decide +kernel
theorem dX1_multiply_85 : decode cX1_multiply 85 = .ok (.iconst 0, 1) := by decide +kernel
theorem dX1_multiply_86 : decode cX1_multiply 86 = .ok (.lconst 1, 1) := by decide +kernel
theorem dX1_multiply_87 : decode cX1_multiply 87 = .ok (.aload_n 0, 1) := by decide +kernel
theorem dX1_multiply_88 : decode cX1_multiply 88 = .ok (.iload_n 2, 1) := by decide +kernel
theorem dX1_multiply_89 : decode cX1_multiply 89 = .ok (.iconst 0, 1) := by decide +kernel
theorem dX1_multiply_90 : decode cX1_multiply 90 = .ok (.invokevirtual 25, 3) := by decide +kernel
theorem dX1_multiply_93 : decode cX1_multiply 93 = .ok (.iload_n 1, 1) := by decide +kernel
theorem dX1_multiply_94 : decode cX1_multiply 94 = .ok (.i2l, 1) := by decide +kernel
theorem dX1_multiply_95 : decode cX1_multiply 95 = .ok (.invokestatic 29, 3) := by decide +kernel
theorem dX1_multiply_98 : decode cX1_multiply 98 = .ok (.invokestatic 80, 3) := by decide +kernel
theorem dX1_multiply_101 : decode cX1_multiply 101 = .ok (.invokevirtual 85, 3) := by decide +kernel
theorem dX1_multiply_104 : decode cX1_multiply 104 = .ok (.aload_n 0, 1) := by decide +kernel
theorem dX1_multiply_105 : decode cX1_multiply 105 = .ok (.iload_n 2, 1) := by decide +kernel
theorem dX1_multiply_106 : decode cX1_multiply 106 = .ok (.iconst 1, 1) := by decide +kernel
theorem dX1_multiply_107 : decode cX1_multiply 107 = .ok (.lconst 1, 1) := by decide +kernel
theorem dX1_multiply_108 : decode cX1_multiply 108 = .ok (.aload_n 0, 1) := by decide +kernel
theorem dX1_multiply_109 : decode cX1_multiply 109 = .ok (.iload_n 2, 1) := by decide +kernel
theorem dX1_multiply_110 : decode cX1_multiply 110 = .ok (.iconst 1, 1) := by decide +kernel
theorem dX1_multiply_111 : decode cX1_multiply 111 = .ok (.invokevirtual 25, 3) := by decide +kernel
theorem dX1_multiply_114 : decode cX1_multiply 114 = .ok (.iload_n 1, 1) := by decide +kernel
theorem dX1_multiply_115 : decode cX1_multiply 115 = .ok (.i2l, 1) := by decide +kernel
theorem dX1_multiply_116 : decode cX1_multiply 116 = .ok (.invokestatic 29, 3) := by decide +kernel
theorem dX1_multiply_119 : decode cX1_multiply 119 = .ok (.invokestatic 80, 3) := by decide +kernel
theorem dX1_multiply_122 : decode cX1_multiply 122 = .ok (.invokevirtual 85, 3) := by decide +kernel
theorem dX1_multiply_125 : decode cX1_multiply 125 = .ok (.iinc 2 1, 3) := by decide +kernel
theorem dX1_multiply_128 : decode cX1_multiply 128 = .ok (.goto (-53), 3) := by decide +kernel
theorem dX1_multiply_131 : decode cX1_multiply 131 = .ok (.return_, 1) := by decide +kernel
theorem dX2_init_0 : decode cX2_init 0 = .ok (.aload_n 0, 1) := by decide +kernel
theorem dX2_init_1 : decode cX2_init 1 = .ok (.invokespecial 3, 3) := by decide +kernel
theorem dX2_init_4 : decode cX2_init 4 = .ok (.aload_n 0, 1) := by decide +kernel
theorem dX2_init_5 : decode cX2_init 5 = .ok (.bipush 8, 2) := by decide +kernel
theorem dX2_init_7 : decode cX2_init 7 = .ok (.sipush 172, 3) := by decide +kernel
theorem dX2_init_10 : decode cX2_init 10 = .ok (.multianewarray 9 2, 4) := by decide +kernel
theorem dX2_init_14 : decode cX2_init 14 = .ok (.putfield 11, 3) := by decide +kernel
theorem dX2_init_17 : decode cX2_init 17 = .ok (.return_, 1) := by decide +kernel
theorem dX2_notes_0 : decode cX2_notes 0 = .ok (.aload_n 1, 1) := by decide +kernel
theorem dX2_notes_1 : decode cX2_notes 1 = .ok (.aload_n 0, 1) := by decide +kernel
theorem dX2_notes_2 : decode cX2_notes 2 = .ok (.getfield 11, 3) := by decide +kernel
theorem dX2_notes_5 : decode cX2_notes 5 = .ok (.aload_n 0, 1) := by decide +kernel
theorem dX2_notes_6 : decode cX2_notes 6 = .ok (.getfield 16, 3) := by decide +kernel
theorem dX2_notes_9 : decode cX2_notes 9 = .ok (.aaload, 1) := by decide +kernel
theorem dX2_notes_10 : decode cX2_notes 10 = .ok (.invokevirtual 20, 3) := by decide +kernel
theorem dX2_notes_13 : decode cX2_notes 13 = .ok (.aload_n 0, 1) := by decide +kernel
theorem dX2_notes_14 : decode cX2_notes 14 = .ok (.aload_n 0, 1) := by decide +kernel
theorem dX2_notes_15 : decode cX2_notes 15 = .ok (.getfield 16, 3) := by decide +kernel
theorem dX2_notes_18 : decode cX2_notes 18 = .ok (.iconst 1, 1) := by decide +kernel
theorem dX2_notes_19 : decode cX2_notes 19 = .ok (.iadd, 1) := by decide +kernel
theorem dX2_notes_20 : decode cX2_notes 20 = .ok (.bipush 8, 2) := by decide +kernel
theorem dX2_notes_22 : decode cX2_notes 22 = .ok (.irem, 1) := by decide +kernel
theorem dX2_notes_23 : decode cX2_notes 23 = .ok (.putfield 16, 3) := by decide +kernel
theorem dX2_notes_26 : decode cX2_notes 26 = .ok (.aload_n 0, 1) := by decide +kernel
theorem dX2_notes_27 : decode cX2_notes 27 = .ok (.aload_n 0, 1) := by decide +kernel
theorem dX2_notes_28 : decode cX2_notes 28 = .ok (.getfield 26, 3) := by decide +kernel
theorem dX2_notes_31 : decode cX2_notes 31 = .ok (.iconst 1, 1) := by decide +kernel
theorem dX2_notes_32 : decode cX2_notes 32 = .ok (.iadd, 1) := by decide +kernel
theorem dX2_notes_33 : decode cX2_notes 33 = .ok (.bipush 8, 2) := by decide +kernel
theorem dX2_notes_35 : decode cX2_notes 35 = .ok (.invokestatic 29, 3) := by decide +kernel
theorem dX2_notes_38 : decode cX2_notes 38 = .ok (.putfield 26, 3) := by decide +kernel
theorem dX2_notes_41 : decode cX2_notes 41 = .ok (.aload_n 0, 1) := by decide +kernel
theorem dX2_notes_42 : decode cX2_notes 42 = .ok (.dup, 1) := by decide +kernel
theorem dX2_notes_43 : decode cX2_notes 43 = .ok (.getfield 35, 3) := by decide +kernel
theorem dX2_notes_46 : decode cX2_notes 46 = .ok (.iconst 1, 1) := by decide +kernel
theorem dX2_notes_47 : decode cX2_notes 47 = .ok (.iadd, 1) := by decide +kernel
theorem dX2_notes_48 : decode cX2_notes 48 = .ok (.putfield 35, 3) := by decide +kernel
theorem dX2_notes_51 : decode cX2_notes 51 = .ok (.return_, 1) := by decide +kernel
theorem dX2_takesBack_0 : decode cX2_takesBack 0 = .ok (.aload_n 0, 1) := by decide +kernel
theorem dX2_takesBack_1 : decode cX2_takesBack 1 = .ok (.getfield 26, 3) := by decide +kernel
theorem dX2_takesBack_4 : decode cX2_takesBack 4 = .ok (.ifCond .ne 5, 3) := by decide +kernel
theorem dX2_takesBack_7 : decode cX2_takesBack 7 = .ok (.iconst 0, 1) := by decide +kernel
theorem dX2_takesBack_8 : decode cX2_takesBack 8 = .ok (.ireturn, 1) := by decide +kernel
theorem dX2_takesBack_9 : decode cX2_takesBack 9 = .ok (.aload_n 0, 1) := by decide +kernel
theorem dX2_takesBack_10 : decode cX2_takesBack 10 = .ok (.aload_n 0, 1) := by decide +kernel
theorem dX2_takesBack_11 : decode cX2_takesBack 11 = .ok (.getfield 16, 3) := by decide +kernel
theorem dX2_takesBack_14 : decode cX2_takesBack 14 = .ok (.bipush 8, 2) := by decide +kernel
theorem dX2_takesBack_16 : decode cX2_takesBack 16 = .ok (.iadd, 1) := by decide +kernel
theorem dX2_takesBack_17 : decode cX2_takesBack 17 = .ok (.iconst 1, 1) := by decide +kernel
theorem dX2_takesBack_18 : decode cX2_takesBack 18 = .ok (.isub, 1) := by decide +kernel
theorem dX2_takesBack_19 : decode cX2_takesBack 19 = .ok (.bipush 8, 2) := by decide +kernel
theorem dX2_takesBack_21 : decode cX2_takesBack 21 = .ok (.irem, 1) := by decide +kernel
theorem dX2_takesBack_22 : decode cX2_takesBack 22 = .ok (.putfield 16, 3) := by decide +kernel
theorem dX2_takesBack_25 : decode cX2_takesBack 25 = .ok (.aload_n 0, 1) := by decide +kernel
theorem dX2_takesBack_26 : decode cX2_takesBack 26 = .ok (.dup, 1) := by decide +kernel
theorem dX2_takesBack_27 : decode cX2_takesBack 27 = .ok (.getfield 26, 3) := by decide +kernel
theorem dX2_takesBack_30 : decode cX2_takesBack 30 = .ok (.iconst 1, 1) := by decide +kernel
theorem dX2_takesBack_31 : decode cX2_takesBack 31 = .ok (.isub, 1) := by decide +kernel
theorem dX2_takesBack_32 : decode cX2_takesBack 32 = .ok (.putfield 26, 3) := by decide +kernel
theorem dX2_takesBack_35 : decode cX2_takesBack 35 = .ok (.aload_n 1, 1) := by decide +kernel
theorem dX2_takesBack_36 : decode cX2_takesBack 36 = .ok (.aload_n 0, 1) := by decide +kernel
theorem dX2_takesBack_37 : decode cX2_takesBack 37 = .ok (.getfield 11, 3) := by decide +kernel
theorem dX2_takesBack_40 : decode cX2_takesBack 40 = .ok (.aload_n 0, 1) := by decide +kernel
theorem dX2_takesBack_41 : decode cX2_takesBack 41 = .ok (.getfield 16, 3) := by decide +kernel
theorem dX2_takesBack_44 : decode cX2_takesBack 44 = .ok (.aaload, 1) := by decide +kernel
theorem dX2_takesBack_45 : decode cX2_takesBack 45 = .ok (.invokevirtual 38, 3) := by decide +kernel
theorem dX2_takesBack_48 : decode cX2_takesBack 48 = .ok (.iconst 1, 1) := by decide +kernel
theorem dX2_takesBack_49 : decode cX2_takesBack 49 = .ok (.ireturn, 1) := by decide +kernel
theorem dX3_init_0 : decode cX3_init 0 = .ok (.aload_n 0, 1) := by decide +kernel
theorem dX3_init_1 : decode cX3_init 1 = .ok (.invokespecial 1, 3) := by decide +kernel
theorem dX3_init_4 : decode cX3_init 4 = .ok (.aload_n 0, 1) := by decide +kernel
theorem dX3_init_5 : decode cX3_init 5 = .ok (.bipush 12, 2) := by decide +kernel
theorem dX3_init_7 : decode cX3_init 7 = .ok (.newarray .long, 2) := by decide +kernel
theorem dX3_init_9 : decode cX3_init 9 = .ok (.putfield 7, 3) := by decide +kernel
theorem dX3_init_12 : decode cX3_init 12 = .ok (.return_, 1) := by decide +kernel
theorem dX3_clear_0 : decode cX3_clear 0 = .ok (.aload_n 0, 1) := by decide +kernel
theorem dX3_clear_1 : decode cX3_clear 1 = .ok (.iconst 0, 1) := by decide +kernel
theorem dX3_clear_2 : decode cX3_clear 2 = .ok (.putfield 13, 3) := by decide +kernel
theorem dX3_clear_5 : decode cX3_clear 5 = .ok (.return_, 1) := by decide +kernel
theorem dX3_tell_0 : decode cX3_tell 0 = .ok (.aload_n 0, 1) := by decide +kernel
theorem dX3_tell_1 : decode cX3_tell 1 = .ok (.getfield 13, 3) := by decide +kernel
theorem dX3_tell_4 : decode cX3_tell 4 = .ok (.aload_n 0, 1) := by decide +kernel
theorem dX3_tell_5 : decode cX3_tell 5 = .ok (.getfield 7, 3) := by decide +kernel
theorem dX3_tell_8 : decode cX3_tell 8 = .ok (.arraylength, 1) := by decide +kernel
theorem dX3_tell_9 : decode cX3_tell 9 = .ok (.if_icmp .ge 23, 3) := by decide +kernel
theorem dX3_tell_12 : decode cX3_tell 12 = .ok (.aload_n 0, 1) := by decide +kernel
theorem dX3_tell_13 : decode cX3_tell 13 = .ok (.getfield 7, 3) := by decide +kernel
theorem dX3_tell_16 : decode cX3_tell 16 = .ok (.aload_n 0, 1) := by decide +kernel
theorem dX3_tell_17 : decode cX3_tell 17 = .ok (.getfield 13, 3) := by decide +kernel
theorem dX3_tell_20 : decode cX3_tell 20 = .ok (.lload_n 1, 1) := by decide +kernel
theorem dX3_tell_21 : decode cX3_tell 21 = .ok (.lastore, 1) := by decide +kernel
theorem dX3_tell_22 : decode cX3_tell 22 = .ok (.aload_n 0, 1) := by decide +kernel
theorem dX3_tell_23 : decode cX3_tell 23 = .ok (.dup, 1) := by decide +kernel
theorem dX3_tell_24 : decode cX3_tell 24 = .ok (.getfield 13, 3) := by decide +kernel
theorem dX3_tell_27 : decode cX3_tell 27 = .ok (.iconst 1, 1) := by decide +kernel
theorem dX3_tell_28 : decode cX3_tell 28 = .ok (.iadd, 1) := by decide +kernel
theorem dX3_tell_29 : decode cX3_tell 29 = .ok (.putfield 13, 3) := by decide +kernel
theorem dX3_tell_32 : decode cX3_tell 32 = .ok (.return_, 1) := by decide +kernel
theorem dX3_has_0 : decode cX3_has 0 = .ok (.iconst 0, 1) := by decide +kernel
theorem dX3_has_1 : decode cX3_has 1 = .ok (.istore_n 3, 1) := by decide +kernel
theorem dX3_has_2 : decode cX3_has 2 = .ok (.iload_n 3, 1) := by decide +kernel
theorem dX3_has_3 : decode cX3_has 3 = .ok (.aload_n 0, 1) := by decide +kernel
theorem dX3_has_4 : decode cX3_has 4 = .ok (.getfield 13, 3) := by decide +kernel
theorem dX3_has_7 : decode cX3_has 7 = .ok (.if_icmp .ge 22, 3) := by decide +kernel
theorem dX3_has_10 : decode cX3_has 10 = .ok (.aload_n 0, 1) := by decide +kernel
theorem dX3_has_11 : decode cX3_has 11 = .ok (.getfield 7, 3) := by decide +kernel
theorem dX3_has_14 : decode cX3_has 14 = .ok (.iload_n 3, 1) := by decide +kernel
theorem dX3_has_15 : decode cX3_has 15 = .ok (.laload, 1) := by decide +kernel
theorem dX3_has_16 : decode cX3_has 16 = .ok (.lload_n 1, 1) := by decide +kernel
theorem dX3_has_17 : decode cX3_has 17 = .ok (.lcmp, 1) := by decide +kernel
theorem dX3_has_18 : decode cX3_has 18 = .ok (.ifCond .ne 5, 3) := by decide +kernel
theorem dX3_has_21 : decode cX3_has 21 = .ok (.iconst 1, 1) := by decide +kernel
theorem dX3_has_22 : decode cX3_has 22 = .ok (.ireturn, 1) := by decide +kernel
theorem dX3_has_23 : decode cX3_has 23 = .ok (.iinc 3 1, 3) := by decide +kernel
theorem dX3_has_26 : decode cX3_has 26 = .ok (.goto (-24), 3) := by decide +kernel
theorem dX3_has_29 : decode cX3_has 29 = .ok (.iconst 0, 1) := by decide +kernel
theorem dX3_has_30 : decode cX3_has 30 = .ok (.ireturn, 1) := by decide +kernel
theorem dX3_at_0 : decode cX3_at 0 = .ok (.iload_n 1, 1) := by decide +kernel
theorem dX3_at_1 : decode cX3_at 1 = .ok (.ifCond .lt 20, 3) := by decide +kernel
theorem dX3_at_4 : decode cX3_at 4 = .ok (.iload_n 1, 1) := by decide +kernel
theorem dX3_at_5 : decode cX3_at 5 = .ok (.aload_n 0, 1) := by decide +kernel
theorem dX3_at_6 : decode cX3_at 6 = .ok (.getfield 13, 3) := by decide +kernel
theorem dX3_at_9 : decode cX3_at 9 = .ok (.if_icmp .ge 12, 3) := by decide +kernel
theorem dX3_at_12 : decode cX3_at 12 = .ok (.aload_n 0, 1) := by decide +kernel
theorem dX3_at_13 : decode cX3_at 13 = .ok (.getfield 7, 3) := by decide +kernel
theorem dX3_at_16 : decode cX3_at 16 = .ok (.iload_n 1, 1) := by decide +kernel
theorem dX3_at_17 : decode cX3_at 17 = .ok (.laload, 1) := by decide +kernel
theorem dX3_at_18 : decode cX3_at 18 = .ok (.goto 4, 3) := by decide +kernel
theorem dX3_at_21 : decode cX3_at 21 = .ok (.lconst 0, 1) := by decide +kernel
theorem dX3_at_22 : decode cX3_at 22 = .ok (.lreturn, 1) := by decide +kernel
theorem dX4_init_0 : decode cX4_init 0 = .ok (.aload_n 0, 1) := by decide +kernel
theorem dX4_init_1 : decode cX4_init 1 = .ok (.invokespecial 3, 3) := by decide +kernel
theorem dX4_init_4 : decode cX4_init 4 = .ok (.aload_n 0, 1) := by decide +kernel
theorem dX4_init_5 : decode cX4_init 5 = .ok (.bipush 6, 2) := by decide +kernel
theorem dX4_init_7 : decode cX4_init 7 = .ok (.newarray .long, 2) := by decide +kernel
theorem dX4_init_9 : decode cX4_init 9 = .ok (.putfield 9, 3) := by decide +kernel
theorem dX4_init_12 : decode cX4_init 12 = .ok (.aload_n 0, 1) := by decide +kernel
theorem dX4_init_13 : decode cX4_init 13 = .ok (.bipush 6, 2) := by decide +kernel
theorem dX4_init_15 : decode cX4_init 15 = .ok (.newarray .long, 2) := by decide +kernel
theorem dX4_init_17 : decode cX4_init 17 = .ok (.putfield 15, 3) := by decide +kernel
theorem dX4_init_20 : decode cX4_init 20 = .ok (.aload_n 0, 1) := by decide +kernel
theorem dX4_init_21 : decode cX4_init 21 = .ok (.bipush 6, 2) := by decide +kernel
theorem dX4_init_23 : decode cX4_init 23 = .ok (.newarray .long, 2) := by decide +kernel
theorem dX4_init_25 : decode cX4_init 25 = .ok (.putfield 18, 3) := by decide +kernel
theorem dX4_init_28 : decode cX4_init 28 = .ok (.aload_n 0, 1) := by decide +kernel
theorem dX4_init_29 : decode cX4_init 29 = .ok (.bipush 6, 2) := by decide +kernel
theorem dX4_init_31 : decode cX4_init 31 = .ok (.newarray .long, 2) := by decide +kernel
theorem dX4_init_33 : decode cX4_init 33 = .ok (.putfield 21, 3) := by decide +kernel
theorem dX4_init_36 : decode cX4_init 36 = .ok (.return_, 1) := by decide +kernel
theorem dX4_looksAt_0 : decode cX4_looksAt 0 = .ok (.aload_n 0, 1) := by decide +kernel
theorem dX4_looksAt_1 : decode cX4_looksAt 1 = .ok (.aload_n 1, 1) := by decide +kernel
theorem dX4_looksAt_2 : decode cX4_looksAt 2 = .ok (.invokevirtual 24, 3) := by decide +kernel
theorem dX4_looksAt_5 : decode cX4_looksAt 5 = .ok (.putfield 30, 3) := by decide +kernel
theorem dX4_looksAt_8 : decode cX4_looksAt 8 = .ok (.aload_n 0, 1) := by decide +kernel
theorem dX4_looksAt_9 : decode cX4_looksAt 9 = .ok (.aload_n 1, 1) := by decide +kernel
theorem dX4_looksAt_10 : decode cX4_looksAt 10 = .ok (.invokevirtual 33, 3) := by decide +kernel
theorem dX4_looksAt_13 : decode cX4_looksAt 13 = .ok (.putfield 37, 3) := by decide +kernel
theorem dX4_looksAt_16 : decode cX4_looksAt 16 = .ok (.aload_n 0, 1) := by decide +kernel
theorem dX4_looksAt_17 : decode cX4_looksAt 17 = .ok (.aload_n 1, 1) := by decide +kernel
theorem dX4_looksAt_18 : decode cX4_looksAt 18 = .ok (.iconst 4, 1) := by decide +kernel
theorem dX4_looksAt_19 : decode cX4_looksAt 19 = .ok (.invokevirtual 41, 3) := by decide +kernel
theorem dX4_looksAt_22 : decode cX4_looksAt 22 = .ok (.putfield 45, 3) := by decide +kernel
theorem dX4_looksAt_25 : decode cX4_looksAt 25 = .ok (.iconst 0, 1) := by decide +kernel
theorem dX4_looksAt_26 : decode cX4_looksAt 26 = .ok (.istore_n 2, 1) := by decide +kernel
theorem dX4_looksAt_27 : decode cX4_looksAt 27 = .ok (.iload_n 2, 1) := by decide +kernel
theorem dX4_looksAt_28 : decode cX4_looksAt 28 = .ok (.aload_n 0, 1) := by decide +kernel
theorem dX4_looksAt_29 : decode cX4_looksAt 29 = .ok (.getfield 30, 3) := by decide +kernel
theorem dX4_looksAt_32 : decode cX4_looksAt 32 = .ok (.if_icmp .ge 50, 3) := by decide +kernel
theorem dX4_looksAt_35 : decode cX4_looksAt 35 = .ok (.aload_n 0, 1) := by decide +kernel
theorem dX4_looksAt_36 : decode cX4_looksAt 36 = .ok (.getfield 9, 3) := by decide +kernel
theorem dX4_looksAt_39 : decode cX4_looksAt 39 = .ok (.iload_n 2, 1) := by decide +kernel
theorem dX4_looksAt_40 : decode cX4_looksAt 40 = .ok (.aload_n 1, 1) := by decide +kernel
theorem dX4_looksAt_41 : decode cX4_looksAt 41 = .ok (.iload_n 2, 1) := by decide +kernel
theorem dX4_looksAt_42 : decode cX4_looksAt 42 = .ok (.invokevirtual 48, 3) := by decide +kernel
theorem dX4_looksAt_45 : decode cX4_looksAt 45 = .ok (.lastore, 1) := by decide +kernel
theorem dX4_looksAt_46 : decode cX4_looksAt 46 = .ok (.aload_n 0, 1) := by decide +kernel
theorem dX4_looksAt_47 : decode cX4_looksAt 47 = .ok (.getfield 15, 3) := by decide +kernel
theorem dX4_looksAt_50 : decode cX4_looksAt 50 = .ok (.iload_n 2, 1) := by decide +kernel
theorem dX4_looksAt_51 : decode cX4_looksAt 51 = .ok (.aload_n 1, 1) := by decide +kernel
theorem dX4_looksAt_52 : decode cX4_looksAt 52 = .ok (.iload_n 2, 1) := by decide +kernel
theorem dX4_looksAt_53 : decode cX4_looksAt 53 = .ok (.invokevirtual 52, 3) := by decide +kernel
theorem dX4_looksAt_56 : decode cX4_looksAt 56 = .ok (.lastore, 1) := by decide +kernel
theorem dX4_looksAt_57 : decode cX4_looksAt 57 = .ok (.aload_n 0, 1) := by decide +kernel
theorem dX4_looksAt_58 : decode cX4_looksAt 58 = .ok (.getfield 18, 3) := by decide +kernel
theorem dX4_looksAt_61 : decode cX4_looksAt 61 = .ok (.iload_n 2, 1) := by decide +kernel
theorem dX4_looksAt_62 : decode cX4_looksAt 62 = .ok (.iload_n 2, 1) := by decide +kernel
theorem dX4_looksAt_63 : decode cX4_looksAt 63 = .ok (.ifCond .ne 7, 3) := by decide +kernel
theorem dX4_looksAt_66 : decode cX4_looksAt 66 = .ok (.lconst 0, 1) := by decide +kernel
theorem dX4_looksAt_67 : decode cX4_looksAt 67 = .ok (.goto 8, 3) := by decide +kernel
theorem dX4_looksAt_70 : decode cX4_looksAt 70 = .ok (.aload_n 1, 1) := by decide +kernel
theorem dX4_looksAt_71 : decode cX4_looksAt 71 = .ok (.iload_n 2, 1) := by decide +kernel
theorem dX4_looksAt_72 : decode cX4_looksAt 72 = .ok (.invokevirtual 55, 3) := by decide +kernel
theorem dX4_looksAt_75 : decode cX4_looksAt 75 = .ok (.lastore, 1) := by decide +kernel
theorem dX4_looksAt_76 : decode cX4_looksAt 76 = .ok (.iinc 2 1, 3) := by decide +kernel
theorem dX4_looksAt_79 : decode cX4_looksAt 79 = .ok (.goto (-52), 3) := by decide +kernel
theorem dX4_looksAt_82 : decode cX4_looksAt 82 = .ok (.return_, 1) := by decide +kernel
theorem dX4_settles_0 : decode cX4_settles 0 = .ok (.aload_n 0, 1) := by decide +kernel
theorem dX4_settles_1 : decode cX4_settles 1 = .ok (.iconst 0, 1) := by decide +kernel
theorem dX4_settles_2 : decode cX4_settles 2 = .ok (.putfield 58, 3) := by decide +kernel
theorem dX4_settles_5 : decode cX4_settles 5 = .ok (.iconst 0, 1) := by decide +kernel
theorem dX4_settles_6 : decode cX4_settles 6 = .ok (.istore_n 3, 1) := by decide +kernel
theorem dX4_settles_7 : decode cX4_settles 7 = .ok (.iload_n 3, 1) := by decide +kernel
theorem dX4_settles_8 : decode cX4_settles 8 = .ok (.bipush 6, 2) := by decide +kernel
theorem dX4_settles_10 : decode cX4_settles 10 = .ok (.if_icmp .ge 37, 3) := by decide +kernel
theorem dX4_settles_13 : decode cX4_settles 13 = .ok (.aload_n 0, 1) := by decide +kernel
theorem dX4_settles_14 : decode cX4_settles 14 = .ok (.lload_n 1, 1) := by decide +kernel
theorem dX4_settles_15 : decode cX4_settles 15 = .ok (.invokevirtual 61, 3) := by decide +kernel
theorem dX4_settles_18 : decode cX4_settles 18 = .ok (.istore 4, 2) := by decide +kernel
theorem dX4_settles_20 : decode cX4_settles 20 = .ok (.iload 4, 2) := by decide +kernel
theorem dX4_settles_22 : decode cX4_settles 22 = .ok (.ifCond .ne 6, 3) := by decide +kernel
theorem dX4_settles_25 : decode cX4_settles 25 = .ok (.goto 22, 3) := by decide +kernel
theorem dX4_settles_28 : decode cX4_settles 28 = .ok (.aload_n 0, 1) := by decide +kernel
theorem dX4_settles_29 : decode cX4_settles 29 = .ok (.dup, 1) := by decide +kernel
theorem dX4_settles_30 : decode cX4_settles 30 = .ok (.getfield 58, 3) := by decide +kernel
theorem dX4_settles_33 : decode cX4_settles 33 = .ok (.iconst 1, 1) := by decide +kernel
theorem dX4_settles_34 : decode cX4_settles 34 = .ok (.iload 4, 2) := by decide +kernel
theorem dX4_settles_36 : decode cX4_settles 36 = .ok (.ishl, 1) := by decide +kernel
theorem dX4_settles_37 : decode cX4_settles 37 = .ok (.ior, 1) := by decide +kernel
theorem dX4_settles_38 : decode cX4_settles 38 = .ok (.putfield 58, 3) := by decide +kernel
theorem dX4_settles_41 : decode cX4_settles 41 = .ok (.iinc 3 1, 3) := by decide +kernel
theorem dX4_settles_44 : decode cX4_settles 44 = .ok (.goto (-37), 3) := by decide +kernel
theorem dX4_settles_47 : decode cX4_settles 47 = .ok (.aload_n 0, 1) := by decide +kernel
theorem dX4_settles_48 : decode cX4_settles 48 = .ok (.lload_n 1, 1) := by decide +kernel
theorem dX4_settles_49 : decode cX4_settles 49 = .ok (.aload_n 0, 1) := by decide +kernel
theorem dX4_settles_50 : decode cX4_settles 50 = .ok (.getfield 58, 3) := by decide +kernel
theorem dX4_settles_53 : decode cX4_settles 53 = .ok (.invokevirtual 65, 3) := by decide +kernel
theorem dX4_settles_56 : decode cX4_settles 56 = .ok (.return_, 1) := by decide +kernel
theorem dX4_firstToJoin_0 : decode cX4_firstToJoin 0 = .ok (.iconst 1, 1) := by decide +kernel
theorem dX4_firstToJoin_1 : decode cX4_firstToJoin 1 = .ok (.istore_n 3, 1) := by decide +kernel
theorem dX4_firstToJoin_2 : decode cX4_firstToJoin 2 = .ok (.iload_n 3, 1) := by decide +kernel
theorem dX4_firstToJoin_3 : decode cX4_firstToJoin 3 = .ok (.aload_n 0, 1) := by decide +kernel
theorem dX4_firstToJoin_4 : decode cX4_firstToJoin 4 = .ok (.getfield 30, 3) := by decide +kernel
theorem dX4_firstToJoin_7 : decode cX4_firstToJoin 7 = .ok (.if_icmp .ge 81, 3) := by decide +kernel
theorem dX4_firstToJoin_10 : decode cX4_firstToJoin 10 = .ok (.iconst 1, 1) := by decide +kernel
theorem dX4_firstToJoin_11 : decode cX4_firstToJoin 11 = .ok (.iload_n 3, 1) := by decide +kernel
theorem dX4_firstToJoin_12 : decode cX4_firstToJoin 12 = .ok (.ishl, 1) := by decide +kernel
theorem dX4_firstToJoin_13 : decode cX4_firstToJoin 13 = .ok (.istore 4, 2) := by decide +kernel
theorem dX4_firstToJoin_15 : decode cX4_firstToJoin 15 = .ok (.aload_n 0, 1) := by decide +kernel
theorem dX4_firstToJoin_16 : decode cX4_firstToJoin 16 = .ok (.getfield 45, 3) := by decide +kernel
theorem dX4_firstToJoin_19 : decode cX4_firstToJoin 19 = .ok (.aload_n 0, 1) := by decide +kernel
theorem dX4_firstToJoin_20 : decode cX4_firstToJoin 20 = .ok (.getfield 58, 3) := by decide +kernel
theorem dX4_firstToJoin_23 : decode cX4_firstToJoin 23 = .ok (.ior, 1) := by decide +kernel
theorem dX4_firstToJoin_24 : decode cX4_firstToJoin 24 = .ok (.iload 4, 2) := by decide +kernel
theorem dX4_firstToJoin_26 : decode cX4_firstToJoin 26 = .ok (.iand, 1) := by decide +kernel
theorem dX4_firstToJoin_27 : decode cX4_firstToJoin 27 = .ok (.ifCond .ne 55, 3) := by decide +kernel
theorem dX4_firstToJoin_30 : decode cX4_firstToJoin 30 = .ok (.aload_n 0, 1) := by decide +kernel
theorem dX4_firstToJoin_31 : decode cX4_firstToJoin 31 = .ok (.lload_n 1, 1) := by decide +kernel
theorem dX4_firstToJoin_32 : decode cX4_firstToJoin 32 = .ok (.aload_n 0, 1) := by decide +kernel
theorem dX4_firstToJoin_33 : decode cX4_firstToJoin 33 = .ok (.getfield 58, 3) := by decide +kernel
theorem dX4_firstToJoin_36 : decode cX4_firstToJoin 36 = .ok (.iload 4, 2) := by decide +kernel
theorem dX4_firstToJoin_38 : decode cX4_firstToJoin 38 = .ok (.ior, 1) := by decide +kernel
theorem dX4_firstToJoin_39 : decode cX4_firstToJoin 39 = .ok (.invokevirtual 65, 3) := by decide +kernel
theorem dX4_firstToJoin_42 : decode cX4_firstToJoin 42 = .ok (.aload_n 0, 1) := by decide +kernel
theorem dX4_firstToJoin_43 : decode cX4_firstToJoin 43 = .ok (.aload_n 0, 1) := by decide +kernel
theorem dX4_firstToJoin_44 : decode cX4_firstToJoin 44 = .ok (.getfield 58, 3) := by decide +kernel
theorem dX4_firstToJoin_47 : decode cX4_firstToJoin 47 = .ok (.iload 4, 2) := by decide +kernel
theorem dX4_firstToJoin_49 : decode cX4_firstToJoin 49 = .ok (.ior, 1) := by decide +kernel
theorem dX4_firstToJoin_50 : decode cX4_firstToJoin 50 = .ok (.iload_n 3, 1) := by decide +kernel
theorem dX4_firstToJoin_51 : decode cX4_firstToJoin 51 = .ok (.invokevirtual 69, 3) := by decide +kernel
theorem dX4_firstToJoin_54 : decode cX4_firstToJoin 54 = .ok (.lstore 5, 2) := by decide +kernel
theorem dX4_firstToJoin_56 : decode cX4_firstToJoin 56 = .ok (.aload_n 0, 1) := by decide +kernel
theorem dX4_firstToJoin_57 : decode cX4_firstToJoin 57 = .ok (.lload_n 1, 1) := by decide +kernel
theorem dX4_firstToJoin_58 : decode cX4_firstToJoin 58 = .ok (.aload_n 0, 1) := by decide +kernel
theorem dX4_firstToJoin_59 : decode cX4_firstToJoin 59 = .ok (.getfield 58, 3) := by decide +kernel
theorem dX4_firstToJoin_62 : decode cX4_firstToJoin 62 = .ok (.invokevirtual 65, 3) := by decide +kernel
theorem dX4_firstToJoin_65 : decode cX4_firstToJoin 65 = .ok (.lload 5, 2) := by decide +kernel
theorem dX4_firstToJoin_67 : decode cX4_firstToJoin 67 = .ok (.aload_n 0, 1) := by decide +kernel
theorem dX4_firstToJoin_68 : decode cX4_firstToJoin 68 = .ok (.aload_n 0, 1) := by decide +kernel
theorem dX4_firstToJoin_69 : decode cX4_firstToJoin 69 = .ok (.getfield 58, 3) := by decide +kernel
theorem dX4_firstToJoin_72 : decode cX4_firstToJoin 72 = .ok (.iload_n 3, 1) := by decide +kernel
theorem dX4_firstToJoin_73 : decode cX4_firstToJoin 73 = .ok (.invokevirtual 69, 3) := by decide +kernel
theorem dX4_firstToJoin_76 : decode cX4_firstToJoin 76 = .ok (.lcmp, 1) := by decide +kernel
theorem dX4_firstToJoin_77 : decode cX4_firstToJoin 77 = .ok (.ifCond .le 5, 3) := by decide +kernel
theorem dX4_firstToJoin_80 : decode cX4_firstToJoin 80 = .ok (.iload_n 3, 1) := by decide +kernel
theorem dX4_firstToJoin_81 : decode cX4_firstToJoin 81 = .ok (.ireturn, 1) := by decide +kernel
theorem dX4_firstToJoin_82 : decode cX4_firstToJoin 82 = .ok (.iinc 3 1, 3) := by decide +kernel
theorem dX4_firstToJoin_85 : decode cX4_firstToJoin 85 = .ok (.goto (-83), 3) := by decide +kernel
theorem dX4_firstToJoin_88 : decode cX4_firstToJoin 88 = .ok (.iconst 0, 1) := by decide +kernel
theorem dX4_firstToJoin_89 : decode cX4_firstToJoin 89 = .ok (.ireturn, 1) := by decide +kernel
theorem dX4_pays_0 : decode cX4_pays 0 = .ok (.aload_n 0, 1) := by decide +kernel
theorem dX4_pays_1 : decode cX4_pays 1 = .ok (.lload_n 1, 1) := by decide +kernel
theorem dX4_pays_2 : decode cX4_pays 2 = .ok (.putfield 73, 3) := by decide +kernel
theorem dX4_pays_5 : decode cX4_pays 5 = .ok (.aload_n 0, 1) := by decide +kernel
theorem dX4_pays_6 : decode cX4_pays 6 = .ok (.aload_n 0, 1) := by decide +kernel
theorem dX4_pays_7 : decode cX4_pays 7 = .ok (.getfield 15, 3) := by decide +kernel
theorem dX4_pays_10 : decode cX4_pays 10 = .ok (.iconst 0, 1) := by decide +kernel
theorem dX4_pays_11 : decode cX4_pays 11 = .ok (.laload, 1) := by decide +kernel
theorem dX4_pays_12 : decode cX4_pays 12 = .ok (.aload_n 0, 1) := by decide +kernel
theorem dX4_pays_13 : decode cX4_pays 13 = .ok (.getfield 37, 3) := by decide +kernel
theorem dX4_pays_16 : decode cX4_pays 16 = .ok (.ladd, 1) := by decide +kernel
theorem dX4_pays_17 : decode cX4_pays 17 = .ok (.putfield 76, 3) := by decide +kernel
theorem dX4_pays_20 : decode cX4_pays 20 = .ok (.aload_n 0, 1) := by decide +kernel
theorem dX4_pays_21 : decode cX4_pays 21 = .ok (.getfield 30, 3) := by decide +kernel
theorem dX4_pays_24 : decode cX4_pays 24 = .ok (.iconst 1, 1) := by decide +kernel
theorem dX4_pays_25 : decode cX4_pays 25 = .ok (.isub, 1) := by decide +kernel
theorem dX4_pays_26 : decode cX4_pays 26 = .ok (.istore 4, 2) := by decide +kernel
theorem dX4_pays_28 : decode cX4_pays 28 = .ok (.iload 4, 2) := by decide +kernel
theorem dX4_pays_30 : decode cX4_pays 30 = .ok (.iconst 1, 1) := by decide +kernel
theorem dX4_pays_31 : decode cX4_pays 31 = .ok (.if_icmp .lt 90, 3) := by decide +kernel
theorem dX4_pays_34 : decode cX4_pays 34 = .ok (.aload_n 0, 1) := by decide +kernel
theorem dX4_pays_35 : decode cX4_pays 35 = .ok (.getfield 21, 3) := by decide +kernel
theorem dX4_pays_38 : decode cX4_pays 38 = .ok (.iload 4, 2) := by decide +kernel
theorem dX4_pays_40 : decode cX4_pays 40 = .ok (.iload_n 3, 1) := by decide +kernel
theorem dX4_pays_41 : decode cX4_pays 41 = .ok (.iload 4, 2) := by decide +kernel
theorem dX4_pays_43 : decode cX4_pays 43 = .ok (.ishr, 1) := by decide +kernel
theorem dX4_pays_44 : decode cX4_pays 44 = .ok (.iconst 1, 1) := by decide +kernel
theorem dX4_pays_45 : decode cX4_pays 45 = .ok (.iand, 1) := by decide +kernel
theorem dX4_pays_46 : decode cX4_pays 46 = .ok (.iconst 1, 1) := by decide +kernel
theorem dX4_pays_47 : decode cX4_pays 47 = .ok (.if_icmp .ne 7, 3) := by decide +kernel
theorem dX4_pays_50 : decode cX4_pays 50 = .ok (.lconst 0, 1) := by decide +kernel
theorem dX4_pays_51 : decode cX4_pays 51 = .ok (.goto 17, 3) := by decide +kernel
theorem dX4_pays_54 : decode cX4_pays 54 = .ok (.aload_n 0, 1) := by decide +kernel
theorem dX4_pays_55 : decode cX4_pays 55 = .ok (.getfield 18, 3) := by decide +kernel
theorem dX4_pays_58 : decode cX4_pays 58 = .ok (.iload 4, 2) := by decide +kernel
theorem dX4_pays_60 : decode cX4_pays 60 = .ok (.laload, 1) := by decide +kernel
theorem dX4_pays_61 : decode cX4_pays 61 = .ok (.aload_n 0, 1) := by decide +kernel
theorem dX4_pays_62 : decode cX4_pays 62 = .ok (.getfield 73, 3) := by decide +kernel
theorem dX4_pays_65 : decode cX4_pays 65 = .ok (.invokestatic 79, 3) := by decide +kernel
theorem dX4_pays_68 : decode cX4_pays 68 = .ok (.lastore, 1) := by decide +kernel
theorem dX4_pays_69 : decode cX4_pays 69 = .ok (.aload_n 0, 1) := by decide +kernel
theorem dX4_pays_70 : decode cX4_pays 70 = .ok (.dup, 1) := by decide +kernel
theorem dX4_pays_71 : decode cX4_pays 71 = .ok (.getfield 73, 3) := by decide +kernel
theorem dX4_pays_74 : decode cX4_pays 74 = .ok (.aload_n 0, 1) := by decide +kernel
theorem dX4_pays_75 : decode cX4_pays 75 = .ok (.getfield 21, 3) := by decide +kernel
theorem dX4_pays_78 : decode cX4_pays 78 = .ok (.iload 4, 2) := by decide +kernel
theorem dX4_pays_80 : decode cX4_pays 80 = .ok (.laload, 1) := by decide +kernel
theorem dX4_pays_81 : decode cX4_pays 81 = .ok (.lsub, 1) := by decide +kernel
theorem dX4_pays_82 : decode cX4_pays 82 = .ok (.putfield 73, 3) := by decide +kernel
theorem dX4_pays_85 : decode cX4_pays 85 = .ok (.aload_n 0, 1) := by decide +kernel
theorem dX4_pays_86 : decode cX4_pays 86 = .ok (.dup, 1) := by decide +kernel
theorem dX4_pays_87 : decode cX4_pays 87 = .ok (.getfield 76, 3) := by decide +kernel
theorem dX4_pays_90 : decode cX4_pays 90 = .ok (.aload_n 0, 1) := by decide +kernel
theorem dX4_pays_91 : decode cX4_pays 91 = .ok (.iload_n 3, 1) := by decide +kernel
theorem dX4_pays_92 : decode cX4_pays 92 = .ok (.iload 4, 2) := by decide +kernel
theorem dX4_pays_94 : decode cX4_pays 94 = .ok (.invokevirtual 85, 3) := by decide +kernel
theorem dX4_pays_97 : decode cX4_pays 97 = .ok (.ifCond .eq 13, 3) := by decide +kernel
theorem dX4_pays_100 : decode cX4_pays 100 = .ok (.aload_n 0, 1) := by decide +kernel
theorem dX4_pays_101 : decode cX4_pays 101 = .ok (.getfield 15, 3) := by decide +kernel
theorem dX4_pays_104 : decode cX4_pays 104 = .ok (.iload 4, 2) := by decide +kernel
theorem dX4_pays_106 : decode cX4_pays 106 = .ok (.laload, 1) := by decide +kernel
theorem dX4_pays_107 : decode cX4_pays 107 = .ok (.goto 4, 3) := by decide +kernel
theorem dX4_pays_110 : decode cX4_pays 110 = .ok (.lconst 0, 1) := by decide +kernel
theorem dX4_pays_111 : decode cX4_pays 111 = .ok (.ladd, 1) := by decide +kernel
theorem dX4_pays_112 : decode cX4_pays 112 = .ok (.putfield 76, 3) := by decide +kernel
theorem dX4_pays_115 : decode cX4_pays 115 = .ok (.iinc 4 (-1), 3) := by decide +kernel
theorem dX4_pays_118 : decode cX4_pays 118 = .ok (.goto (-90), 3) := by decide +kernel
theorem dX4_pays_121 : decode cX4_pays 121 = .ok (.return_, 1) := by decide +kernel
theorem dX4_isSharing_0 : decode cX4_isSharing 0 = .ok (.iload_n 2, 1) := by decide +kernel
theorem dX4_isSharing_1 : decode cX4_isSharing 1 = .ok (.ifCond .eq 17, 3) := by decide +kernel
theorem dX4_isSharing_4 : decode cX4_isSharing 4 = .ok (.iload_n 1, 1) := by decide +kernel
theorem dX4_isSharing_5 : decode cX4_isSharing 5 = .ok (.aload_n 0, 1) := by decide +kernel
theorem dX4_isSharing_6 : decode cX4_isSharing 6 = .ok (.getfield 45, 3) := by decide +kernel
theorem dX4_isSharing_9 : decode cX4_isSharing 9 = .ok (.ior, 1) := by decide +kernel
theorem dX4_isSharing_10 : decode cX4_isSharing 10 = .ok (.iload_n 2, 1) := by decide +kernel
theorem dX4_isSharing_11 : decode cX4_isSharing 11 = .ok (.ishr, 1) := by decide +kernel
theorem dX4_isSharing_12 : decode cX4_isSharing 12 = .ok (.iconst 1, 1) := by decide +kernel
theorem dX4_isSharing_13 : decode cX4_isSharing 13 = .ok (.iand, 1) := by decide +kernel
theorem dX4_isSharing_14 : decode cX4_isSharing 14 = .ok (.iconst 1, 1) := by decide +kernel
theorem dX4_isSharing_15 : decode cX4_isSharing 15 = .ok (.if_icmp .ne 7, 3) := by decide +kernel
theorem dX4_isSharing_18 : decode cX4_isSharing 18 = .ok (.iconst 1, 1) := by decide +kernel
theorem dX4_isSharing_19 : decode cX4_isSharing 19 = .ok (.goto 4, 3) := by decide +kernel
theorem dX4_isSharing_22 : decode cX4_isSharing 22 = .ok (.iconst 0, 1) := by decide +kernel
theorem dX4_isSharing_23 : decode cX4_isSharing 23 = .ok (.ireturn, 1) := by decide +kernel
theorem dX4_getsBy_0 : decode cX4_getsBy 0 = .ok (.aload_n 0, 1) := by decide +kernel
theorem dX4_getsBy_1 : decode cX4_getsBy 1 = .ok (.iload_n 1, 1) := by decide +kernel
theorem dX4_getsBy_2 : decode cX4_getsBy 2 = .ok (.iload_n 2, 1) := by decide +kernel
theorem dX4_getsBy_3 : decode cX4_getsBy 3 = .ok (.invokevirtual 85, 3) := by decide +kernel
theorem dX4_getsBy_6 : decode cX4_getsBy 6 = .ok (.ifCond .eq 24, 3) := by decide +kernel
theorem dX4_getsBy_9 : decode cX4_getsBy 9 = .ok (.aload_n 0, 1) := by decide +kernel
theorem dX4_getsBy_10 : decode cX4_getsBy 10 = .ok (.getfield 73, 3) := by decide +kernel
theorem dX4_getsBy_13 : decode cX4_getsBy 13 = .ok (.aload_n 0, 1) := by decide +kernel
theorem dX4_getsBy_14 : decode cX4_getsBy 14 = .ok (.getfield 15, 3) := by decide +kernel
theorem dX4_getsBy_17 : decode cX4_getsBy 17 = .ok (.iload_n 2, 1) := by decide +kernel
theorem dX4_getsBy_18 : decode cX4_getsBy 18 = .ok (.laload, 1) := by decide +kernel
theorem dX4_getsBy_19 : decode cX4_getsBy 19 = .ok (.lmul, 1) := by decide +kernel
theorem dX4_getsBy_20 : decode cX4_getsBy 20 = .ok (.aload_n 0, 1) := by decide +kernel
theorem dX4_getsBy_21 : decode cX4_getsBy 21 = .ok (.getfield 76, 3) := by decide +kernel
theorem dX4_getsBy_24 : decode cX4_getsBy 24 = .ok (.invokestatic 89, 3) := by decide +kernel
theorem dX4_getsBy_27 : decode cX4_getsBy 27 = .ok (.goto 4, 3) := by decide +kernel
theorem dX4_getsBy_30 : decode cX4_getsBy 30 = .ok (.lconst 0, 1) := by decide +kernel
theorem dX4_getsBy_31 : decode cX4_getsBy 31 = .ok (.lstore_n 3, 1) := by decide +kernel
theorem dX4_getsBy_32 : decode cX4_getsBy 32 = .ok (.aload_n 0, 1) := by decide +kernel
theorem dX4_getsBy_33 : decode cX4_getsBy 33 = .ok (.getfield 21, 3) := by decide +kernel
theorem dX4_getsBy_36 : decode cX4_getsBy 36 = .ok (.iload_n 2, 1) := by decide +kernel
theorem dX4_getsBy_37 : decode cX4_getsBy 37 = .ok (.laload, 1) := by decide +kernel
theorem dX4_getsBy_38 : decode cX4_getsBy 38 = .ok (.lload_n 3, 1) := by decide +kernel
theorem dX4_getsBy_39 : decode cX4_getsBy 39 = .ok (.ladd, 1) := by decide +kernel
theorem dX4_getsBy_40 : decode cX4_getsBy 40 = .ok (.lreturn, 1) := by decide +kernel
theorem dX4_isConverting_0 : decode cX4_isConverting 0 = .ok (.aload_n 0, 1) := by decide +kernel
theorem dX4_isConverting_1 : decode cX4_isConverting 1 = .ok (.getfield 58, 3) := by decide +kernel
theorem dX4_isConverting_4 : decode cX4_isConverting 4 = .ok (.iload_n 1, 1) := by decide +kernel
theorem dX4_isConverting_5 : decode cX4_isConverting 5 = .ok (.ishr, 1) := by decide +kernel
theorem dX4_isConverting_6 : decode cX4_isConverting 6 = .ok (.iconst 1, 1) := by decide +kernel
theorem dX4_isConverting_7 : decode cX4_isConverting 7 = .ok (.iand, 1) := by decide +kernel
theorem dX4_isConverting_8 : decode cX4_isConverting 8 = .ok (.iconst 1, 1) := by decide +kernel
theorem dX4_isConverting_9 : decode cX4_isConverting 9 = .ok (.if_icmp .ne 7, 3) := by decide +kernel
theorem dX4_isConverting_12 : decode cX4_isConverting 12 = .ok (.iconst 1, 1) := by decide +kernel
theorem dX4_isConverting_13 : decode cX4_isConverting 13 = .ok (.goto 4, 3) := by decide +kernel
theorem dX4_isConverting_16 : decode cX4_isConverting 16 = .ok (.iconst 0, 1) := by decide +kernel
theorem dX4_isConverting_17 : decode cX4_isConverting 17 = .ok (.ireturn, 1) := by decide +kernel
theorem dX4_typeGets_0 : decode cX4_typeGets 0 = .ok (.aload_n 0, 1) := by decide +kernel
theorem dX4_typeGets_1 : decode cX4_typeGets 1 = .ok (.aload_n 0, 1) := by decide +kernel
theorem dX4_typeGets_2 : decode cX4_typeGets 2 = .ok (.getfield 58, 3) := by decide +kernel
theorem dX4_typeGets_5 : decode cX4_typeGets 5 = .ok (.iload_n 1, 1) := by decide +kernel
theorem dX4_typeGets_6 : decode cX4_typeGets 6 = .ok (.invokevirtual 69, 3) := by decide +kernel
theorem dX4_typeGets_9 : decode cX4_typeGets 9 = .ok (.lreturn, 1) := by decide +kernel
theorem dX4_lack_0 : decode cX4_lack 0 = .ok (.aload_n 0, 1) := by decide +kernel
theorem dX4_lack_1 : decode cX4_lack 1 = .ok (.getfield 18, 3) := by decide +kernel
theorem dX4_lack_4 : decode cX4_lack 4 = .ok (.iload_n 1, 1) := by decide +kernel
theorem dX4_lack_5 : decode cX4_lack 5 = .ok (.laload, 1) := by decide +kernel
theorem dX4_lack_6 : decode cX4_lack 6 = .ok (.aload_n 0, 1) := by decide +kernel
theorem dX4_lack_7 : decode cX4_lack 7 = .ok (.getfield 21, 3) := by decide +kernel
theorem dX4_lack_10 : decode cX4_lack 10 = .ok (.iload_n 1, 1) := by decide +kernel
theorem dX4_lack_11 : decode cX4_lack 11 = .ok (.laload, 1) := by decide +kernel
theorem dX4_lack_12 : decode cX4_lack 12 = .ok (.lsub, 1) := by decide +kernel
theorem dX4_lack_13 : decode cX4_lack 13 = .ok (.lreturn, 1) := by decide +kernel
theorem dX4_preferred_0 : decode cX4_preferred 0 = .ok (.lconst 0, 1) := by decide +kernel
theorem dX4_preferred_1 : decode cX4_preferred 1 = .ok (.lstore_n 3, 1) := by decide +kernel
theorem dX4_preferred_2 : decode cX4_preferred 2 = .ok (.iconst 1, 1) := by decide +kernel
theorem dX4_preferred_3 : decode cX4_preferred 3 = .ok (.istore 5, 2) := by decide +kernel
theorem dX4_preferred_5 : decode cX4_preferred 5 = .ok (.iload 5, 2) := by decide +kernel
theorem dX4_preferred_7 : decode cX4_preferred 7 = .ok (.aload_n 0, 1) := by decide +kernel
theorem dX4_preferred_8 : decode cX4_preferred 8 = .ok (.getfield 30, 3) := by decide +kernel
theorem dX4_preferred_11 : decode cX4_preferred 11 = .ok (.if_icmp .ge 37, 3) := by decide +kernel
theorem dX4_preferred_14 : decode cX4_preferred 14 = .ok (.lload_n 3, 1) := by decide +kernel
theorem dX4_preferred_15 : decode cX4_preferred 15 = .ok (.aload_n 0, 1) := by decide +kernel
theorem dX4_preferred_16 : decode cX4_preferred 16 = .ok (.getfield 21, 3) := by decide +kernel
theorem dX4_preferred_19 : decode cX4_preferred 19 = .ok (.iload 5, 2) := by decide +kernel
theorem dX4_preferred_21 : decode cX4_preferred 21 = .ok (.laload, 1) := by decide +kernel
theorem dX4_preferred_22 : decode cX4_preferred 22 = .ok (.aload_n 1, 1) := by decide +kernel
theorem dX4_preferred_23 : decode cX4_preferred 23 = .ok (.iload_n 2, 1) := by decide +kernel
theorem dX4_preferred_24 : decode cX4_preferred 24 = .ok (.iload 5, 2) := by decide +kernel
theorem dX4_preferred_26 : decode cX4_preferred 26 = .ok (.invokevirtual 92, 3) := by decide +kernel
theorem dX4_preferred_29 : decode cX4_preferred 29 = .ok (.lmul, 1) := by decide +kernel
theorem dX4_preferred_30 : decode cX4_preferred 30 = .ok (.aload_n 0, 1) := by decide +kernel
theorem dX4_preferred_31 : decode cX4_preferred 31 = .ok (.getfield 9, 3) := by decide +kernel
theorem dX4_preferred_34 : decode cX4_preferred 34 = .ok (.iload 5, 2) := by decide +kernel
theorem dX4_preferred_36 : decode cX4_preferred 36 = .ok (.laload, 1) := by decide +kernel
theorem dX4_preferred_37 : decode cX4_preferred 37 = .ok (.invokestatic 89, 3) := by decide +kernel
theorem dX4_preferred_40 : decode cX4_preferred 40 = .ok (.ladd, 1) := by decide +kernel
theorem dX4_preferred_41 : decode cX4_preferred 41 = .ok (.lstore_n 3, 1) := by decide +kernel
theorem dX4_preferred_42 : decode cX4_preferred 42 = .ok (.iinc 5 1, 3) := by decide +kernel
theorem dX4_preferred_45 : decode cX4_preferred 45 = .ok (.goto (-40), 3) := by decide +kernel
theorem dX4_preferred_48 : decode cX4_preferred 48 = .ok (.lload_n 3, 1) := by decide +kernel
theorem dX4_preferred_49 : decode cX4_preferred 49 = .ok (.lreturn, 1) := by decide +kernel
theorem dX4_shared_0 : decode cX4_shared 0 = .ok (.aload_n 0, 1) := by decide +kernel
theorem dX4_shared_1 : decode cX4_shared 1 = .ok (.getfield 73, 3) := by decide +kernel
theorem dX4_shared_4 : decode cX4_shared 4 = .ok (.aload_n 1, 1) := by decide +kernel
theorem dX4_shared_5 : decode cX4_shared 5 = .ok (.iload_n 2, 1) := by decide +kernel
theorem dX4_shared_6 : decode cX4_shared 6 = .ok (.invokevirtual 95, 3) := by decide +kernel
theorem dX4_shared_9 : decode cX4_shared 9 = .ok (.lmul, 1) := by decide +kernel
theorem dX4_shared_10 : decode cX4_shared 10 = .ok (.aload_n 0, 1) := by decide +kernel
theorem dX4_shared_11 : decode cX4_shared 11 = .ok (.getfield 76, 3) := by decide +kernel
theorem dX4_shared_14 : decode cX4_shared 14 = .ok (.invokestatic 89, 3) := by decide +kernel
theorem dX4_shared_17 : decode cX4_shared 17 = .ok (.lstore_n 3, 1) := by decide +kernel
theorem dX4_shared_18 : decode cX4_shared 18 = .ok (.iconst 0, 1) := by decide +kernel
theorem dX4_shared_19 : decode cX4_shared 19 = .ok (.istore 5, 2) := by decide +kernel
theorem dX4_shared_21 : decode cX4_shared 21 = .ok (.iload 5, 2) := by decide +kernel
theorem dX4_shared_23 : decode cX4_shared 23 = .ok (.aload_n 0, 1) := by decide +kernel
theorem dX4_shared_24 : decode cX4_shared 24 = .ok (.getfield 30, 3) := by decide +kernel
theorem dX4_shared_27 : decode cX4_shared 27 = .ok (.if_icmp .ge 50, 3) := by decide +kernel
theorem dX4_shared_30 : decode cX4_shared 30 = .ok (.aload_n 0, 1) := by decide +kernel
theorem dX4_shared_31 : decode cX4_shared 31 = .ok (.aload_n 0, 1) := by decide +kernel
theorem dX4_shared_32 : decode cX4_shared 32 = .ok (.getfield 58, 3) := by decide +kernel
theorem dX4_shared_35 : decode cX4_shared 35 = .ok (.iload 5, 2) := by decide +kernel
theorem dX4_shared_37 : decode cX4_shared 37 = .ok (.invokevirtual 85, 3) := by decide +kernel
theorem dX4_shared_40 : decode cX4_shared 40 = .ok (.ifCond .eq 31, 3) := by decide +kernel
theorem dX4_shared_43 : decode cX4_shared 43 = .ok (.lload_n 3, 1) := by decide +kernel
theorem dX4_shared_44 : decode cX4_shared 44 = .ok (.aload_n 0, 1) := by decide +kernel
theorem dX4_shared_45 : decode cX4_shared 45 = .ok (.getfield 73, 3) := by decide +kernel
theorem dX4_shared_48 : decode cX4_shared 48 = .ok (.aload_n 1, 1) := by decide +kernel
theorem dX4_shared_49 : decode cX4_shared 49 = .ok (.iload 5, 2) := by decide +kernel
theorem dX4_shared_51 : decode cX4_shared 51 = .ok (.aload_n 1, 1) := by decide +kernel
theorem dX4_shared_52 : decode cX4_shared 52 = .ok (.iload_n 2, 1) := by decide +kernel
theorem dX4_shared_53 : decode cX4_shared 53 = .ok (.iload 5, 2) := by decide +kernel
theorem dX4_shared_55 : decode cX4_shared 55 = .ok (.invokevirtual 92, 3) := by decide +kernel
theorem dX4_shared_58 : decode cX4_shared 58 = .ok (.invokevirtual 97, 3) := by decide +kernel
theorem dX4_shared_61 : decode cX4_shared 61 = .ok (.lmul, 1) := by decide +kernel
theorem dX4_shared_62 : decode cX4_shared 62 = .ok (.aload_n 0, 1) := by decide +kernel
theorem dX4_shared_63 : decode cX4_shared 63 = .ok (.getfield 76, 3) := by decide +kernel
theorem dX4_shared_66 : decode cX4_shared 66 = .ok (.invokestatic 89, 3) := by decide +kernel
theorem dX4_shared_69 : decode cX4_shared 69 = .ok (.ladd, 1) := by decide +kernel
theorem dX4_shared_70 : decode cX4_shared 70 = .ok (.lstore_n 3, 1) := by decide +kernel
theorem dX4_shared_71 : decode cX4_shared 71 = .ok (.iinc 5 1, 3) := by decide +kernel
theorem dX4_shared_74 : decode cX4_shared 74 = .ok (.goto (-53), 3) := by decide +kernel
theorem dX4_shared_77 : decode cX4_shared 77 = .ok (.lload_n 3, 1) := by decide +kernel
theorem dX4_shared_78 : decode cX4_shared 78 = .ok (.lreturn, 1) := by decide +kernel
theorem dX4_holderGets_0 : decode cX4_holderGets 0 = .ok (.aload_n 0, 1) := by decide +kernel
theorem dX4_holderGets_1 : decode cX4_holderGets 1 = .ok (.aload_n 1, 1) := by decide +kernel
theorem dX4_holderGets_2 : decode cX4_holderGets 2 = .ok (.iload_n 2, 1) := by decide +kernel
theorem dX4_holderGets_3 : decode cX4_holderGets 3 = .ok (.invokevirtual 100, 3) := by decide +kernel
theorem dX4_holderGets_6 : decode cX4_holderGets 6 = .ok (.aload_n 0, 1) := by decide +kernel
theorem dX4_holderGets_7 : decode cX4_holderGets 7 = .ok (.aload_n 1, 1) := by decide +kernel
theorem dX4_holderGets_8 : decode cX4_holderGets 8 = .ok (.iload_n 2, 1) := by decide +kernel
theorem dX4_holderGets_9 : decode cX4_holderGets 9 = .ok (.invokevirtual 103, 3) := by decide +kernel
theorem dX4_holderGets_12 : decode cX4_holderGets 12 = .ok (.ladd, 1) := by decide +kernel
theorem dX4_holderGets_13 : decode cX4_holderGets 13 = .ok (.lreturn, 1) := by decide +kernel
theorem dX5_init_0 : decode cX5_init 0 = .ok (.aload_n 0, 1) := by decide +kernel
theorem dX5_init_1 : decode cX5_init 1 = .ok (.invokespecial 3, 3) := by decide +kernel
theorem dX5_init_4 : decode cX5_init 4 = .ok (.aload_n 0, 1) := by decide +kernel
theorem dX5_init_5 : decode cX5_init 5 = .ok (.bipush 11, 2) := by decide +kernel
theorem dX5_init_7 : decode cX5_init 7 = .ok (.newarray .long, 2) := by decide +kernel
theorem dX5_init_9 : decode cX5_init 9 = .ok (.putfield 9, 3) := by decide +kernel
theorem dX5_init_12 : decode cX5_init 12 = .ok (.aload_n 0, 1) := by decide +kernel
theorem dX5_init_13 : decode cX5_init 13 = .ok (.bipush 8, 2) := by decide +kernel
theorem dX5_init_15 : decode cX5_init 15 = .ok (.newarray .long, 2) := by decide +kernel
theorem dX5_init_17 : decode cX5_init 17 = .ok (.putfield 15, 3) := by decide +kernel
theorem dX5_init_20 : decode cX5_init 20 = .ok (.return_, 1) := by decide +kernel
theorem dX5_clear_0 : decode cX5_clear 0 = .ok (.aload_n 0, 1) := by decide +kernel
theorem dX5_clear_1 : decode cX5_clear 1 = .ok (.lconst 0, 1) := by decide +kernel
theorem dX5_clear_2 : decode cX5_clear 2 = .ok (.putfield 18, 3) := by decide +kernel
theorem dX5_clear_5 : decode cX5_clear 5 = .ok (.aload_n 0, 1) := by decide +kernel
theorem dX5_clear_6 : decode cX5_clear 6 = .ok (.lconst 0, 1) := by decide +kernel
theorem dX5_clear_7 : decode cX5_clear 7 = .ok (.putfield 22, 3) := by decide +kernel
theorem dX5_clear_10 : decode cX5_clear 10 = .ok (.aload_n 0, 1) := by decide +kernel
theorem dX5_clear_11 : decode cX5_clear 11 = .ok (.iconst 0, 1) := by decide +kernel
theorem dX5_clear_12 : decode cX5_clear 12 = .ok (.putfield 25, 3) := by decide +kernel
theorem dX5_clear_15 : decode cX5_clear 15 = .ok (.aload_n 0, 1) := by decide +kernel
theorem dX5_clear_16 : decode cX5_clear 16 = .ok (.lconst 0, 1) := by decide +kernel
theorem dX5_clear_17 : decode cX5_clear 17 = .ok (.putfield 29, 3) := by decide +kernel
theorem dX5_clear_20 : decode cX5_clear 20 = .ok (.iconst 0, 1) := by decide +kernel
theorem dX5_clear_21 : decode cX5_clear 21 = .ok (.istore_n 1, 1) := by decide +kernel
theorem dX5_clear_22 : decode cX5_clear 22 = .ok (.iload_n 1, 1) := by decide +kernel
theorem dX5_clear_23 : decode cX5_clear 23 = .ok (.bipush 11, 2) := by decide +kernel
theorem dX5_clear_25 : decode cX5_clear 25 = .ok (.if_icmp .ge 16, 3) := by decide +kernel
theorem dX5_clear_28 : decode cX5_clear 28 = .ok (.aload_n 0, 1) := by decide +kernel
theorem dX5_clear_29 : decode cX5_clear 29 = .ok (.getfield 9, 3) := by decide +kernel
theorem dX5_clear_32 : decode cX5_clear 32 = .ok (.iload_n 1, 1) := by decide +kernel
theorem dX5_clear_33 : decode cX5_clear 33 = .ok (.lconst 0, 1) := by decide +kernel
theorem dX5_clear_34 : decode cX5_clear 34 = .ok (.lastore, 1) := by decide +kernel
theorem dX5_clear_35 : decode cX5_clear 35 = .ok (.iinc 1 1, 3) := by decide +kernel
theorem dX5_clear_38 : decode cX5_clear 38 = .ok (.goto (-16), 3) := by decide +kernel
theorem dX5_clear_41 : decode cX5_clear 41 = .ok (.aload_n 0, 1) := by decide +kernel
theorem dX5_clear_42 : decode cX5_clear 42 = .ok (.getfield 9, 3) := by decide +kernel
theorem dX5_clear_45 : decode cX5_clear 45 = .ok (.iconst 3, 1) := by decide +kernel
theorem dX5_clear_46 : decode cX5_clear 46 = .ok (.ldc2_w 32, 3) := by decide +kernel
theorem dX5_clear_49 : decode cX5_clear 49 = .ok (.lastore, 1) := by decide +kernel
theorem dX5_clear_50 : decode cX5_clear 50 = .ok (.iconst 0, 1) := by decide +kernel
theorem dX5_clear_51 : decode cX5_clear 51 = .ok (.istore_n 1, 1) := by decide +kernel
theorem dX5_clear_52 : decode cX5_clear 52 = .ok (.iload_n 1, 1) := by decide +kernel
theorem dX5_clear_53 : decode cX5_clear 53 = .ok (.bipush 8, 2) := by decide +kernel
theorem dX5_clear_55 : decode cX5_clear 55 = .ok (.if_icmp .ge 16, 3) := by decide +kernel
theorem dX5_clear_58 : decode cX5_clear 58 = .ok (.aload_n 0, 1) := by decide +kernel
theorem dX5_clear_59 : decode cX5_clear 59 = .ok (.getfield 15, 3) := by decide +kernel
theorem dX5_clear_62 : decode cX5_clear 62 = .ok (.iload_n 1, 1) := by decide +kernel
theorem dX5_clear_63 : decode cX5_clear 63 = .ok (.lconst 0, 1) := by decide +kernel
theorem dX5_clear_64 : decode cX5_clear 64 = .ok (.lastore, 1) := by decide +kernel
theorem dX5_clear_65 : decode cX5_clear 65 = .ok (.iinc 1 1, 3) := by decide +kernel
theorem dX5_clear_68 : decode cX5_clear 68 = .ok (.goto (-16), 3) := by decide +kernel
theorem dX5_clear_71 : decode cX5_clear 71 = .ok (.return_, 1) := by decide +kernel
theorem dX5_puts_0 : decode cX5_puts 0 = .ok (.aload_n 0, 1) := by decide +kernel
theorem dX5_puts_1 : decode cX5_puts 1 = .ok (.getfield 15, 3) := by decide +kernel
theorem dX5_puts_4 : decode cX5_puts 4 = .ok (.iload_n 1, 1) := by decide +kernel
theorem dX5_puts_5 : decode cX5_puts 5 = .ok (.lload_n 2, 1) := by decide +kernel
theorem dX5_puts_6 : decode cX5_puts 6 = .ok (.lastore, 1) := by decide +kernel
theorem dX5_puts_7 : decode cX5_puts 7 = .ok (.aload_n 0, 1) := by decide +kernel
theorem dX5_puts_8 : decode cX5_puts 8 = .ok (.dup, 1) := by decide +kernel
theorem dX5_puts_9 : decode cX5_puts 9 = .ok (.getfield 29, 3) := by decide +kernel
theorem dX5_puts_12 : decode cX5_puts 12 = .ok (.lload_n 2, 1) := by decide +kernel
theorem dX5_puts_13 : decode cX5_puts 13 = .ok (.ladd, 1) := by decide +kernel
theorem dX5_puts_14 : decode cX5_puts 14 = .ok (.putfield 29, 3) := by decide +kernel
theorem dX5_puts_17 : decode cX5_puts 17 = .ok (.return_, 1) := by decide +kernel
theorem dX6_init_0 : decode cX6_init 0 = .ok (.aload_n 0, 1) := by decide +kernel
theorem dX6_init_1 : decode cX6_init 1 = .ok (.invokespecial 3, 3) := by decide +kernel
theorem dX6_init_4 : decode cX6_init 4 = .ok (.aload_n 0, 1) := by decide +kernel
theorem dX6_init_5 : decode cX6_init 5 = .ok (.sipush 200, 3) := by decide +kernel
theorem dX6_init_8 : decode cX6_init 8 = .ok (.newarray .char, 2) := by decide +kernel
theorem dX6_init_10 : decode cX6_init 10 = .ok (.putfield 9, 3) := by decide +kernel
theorem dX6_init_13 : decode cX6_init 13 = .ok (.return_, 1) := by decide +kernel
theorem dX6_clear_0 : decode cX6_clear 0 = .ok (.aload_n 0, 1) := by decide +kernel
theorem dX6_clear_1 : decode cX6_clear 1 = .ok (.iconst 0, 1) := by decide +kernel
theorem dX6_clear_2 : decode cX6_clear 2 = .ok (.putfield 15, 3) := by decide +kernel
theorem dX6_clear_5 : decode cX6_clear 5 = .ok (.return_, 1) := by decide +kernel
theorem dX6_position_0 : decode cX6_position 0 = .ok (.aload_n 0, 1) := by decide +kernel
theorem dX6_position_1 : decode cX6_position 1 = .ok (.getfield 19, 3) := by decide +kernel
theorem dX6_position_4 : decode cX6_position 4 = .ok (.ireturn, 1) := by decide +kernel
theorem dX6_adds_0 : decode cX6_adds 0 = .ok (.aload_n 0, 1) := by decide +kernel
theorem dX6_adds_1 : decode cX6_adds 1 = .ok (.getfield 15, 3) := by decide +kernel
theorem dX6_adds_4 : decode cX6_adds 4 = .ok (.iconst 4, 1) := by decide +kernel
theorem dX6_adds_5 : decode cX6_adds 5 = .ok (.iadd, 1) := by decide +kernel
theorem dX6_adds_6 : decode cX6_adds 6 = .ok (.sipush 200, 3) := by decide +kernel
theorem dX6_adds_9 : decode cX6_adds 9 = .ok (.if_icmp .le 5, 3) := by decide +kernel
theorem dX6_adds_12 : decode cX6_adds 12 = .ok (.iconst (-1), 1) := by decide +kernel
theorem dX6_adds_13 : decode cX6_adds 13 = .ok (.ireturn, 1) := by decide +kernel
theorem dX6_adds_14 : decode cX6_adds 14 = .ok (.bipush 24, 2) := by decide +kernel
theorem dX6_adds_16 : decode cX6_adds 16 = .ok (.istore_n 2, 1) := by decide +kernel
theorem dX6_adds_17 : decode cX6_adds 17 = .ok (.iload_n 2, 1) := by decide +kernel
theorem dX6_adds_18 : decode cX6_adds 18 = .ok (.ifCond .lt 36, 3) := by decide +kernel
theorem dX6_adds_21 : decode cX6_adds 21 = .ok (.aload_n 0, 1) := by decide +kernel
theorem dX6_adds_22 : decode cX6_adds 22 = .ok (.getfield 9, 3) := by decide +kernel
theorem dX6_adds_25 : decode cX6_adds 25 = .ok (.aload_n 0, 1) := by decide +kernel
theorem dX6_adds_26 : decode cX6_adds 26 = .ok (.getfield 15, 3) := by decide +kernel
theorem dX6_adds_29 : decode cX6_adds 29 = .ok (.iload_n 1, 1) := by decide +kernel
theorem dX6_adds_30 : decode cX6_adds 30 = .ok (.iload_n 2, 1) := by decide +kernel
theorem dX6_adds_31 : decode cX6_adds 31 = .ok (.iushr, 1) := by decide +kernel
theorem dX6_adds_32 : decode cX6_adds 32 = .ok (.sipush 255, 3) := by decide +kernel
theorem dX6_adds_35 : decode cX6_adds 35 = .ok (.iand, 1) := by decide +kernel
theorem dX6_adds_36 : decode cX6_adds 36 = .ok (.i2c, 1) := by decide +kernel
theorem dX6_adds_37 : decode cX6_adds 37 = .ok (.castore, 1) := by decide +kernel
theorem dX6_adds_38 : decode cX6_adds 38 = .ok (.aload_n 0, 1) := by decide +kernel
theorem dX6_adds_39 : decode cX6_adds 39 = .ok (.dup, 1) := by decide +kernel
theorem dX6_adds_40 : decode cX6_adds 40 = .ok (.getfield 15, 3) := by decide +kernel
theorem dX6_adds_43 : decode cX6_adds 43 = .ok (.iconst 1, 1) := by decide +kernel
theorem dX6_adds_44 : decode cX6_adds 44 = .ok (.iadd, 1) := by decide +kernel
theorem dX6_adds_45 : decode cX6_adds 45 = .ok (.putfield 15, 3) := by decide +kernel
theorem dX6_adds_48 : decode cX6_adds 48 = .ok (.iinc 2 (-8), 3) := by decide +kernel
theorem dX6_adds_51 : decode cX6_adds 51 = .ok (.goto (-34), 3) := by decide +kernel
theorem dX6_adds_54 : decode cX6_adds 54 = .ok (.aload_n 0, 1) := by decide +kernel
theorem dX6_adds_55 : decode cX6_adds 55 = .ok (.getfield 15, 3) := by decide +kernel
theorem dX6_adds_58 : decode cX6_adds 58 = .ok (.ireturn, 1) := by decide +kernel
theorem dX6_cutsTo_0 : decode cX6_cutsTo 0 = .ok (.iload_n 1, 1) := by decide +kernel
theorem dX6_cutsTo_1 : decode cX6_cutsTo 1 = .ok (.ifCond .lt 11, 3) := by decide +kernel
theorem dX6_cutsTo_4 : decode cX6_cutsTo 4 = .ok (.iload_n 1, 1) := by decide +kernel
theorem dX6_cutsTo_5 : decode cX6_cutsTo 5 = .ok (.aload_n 0, 1) := by decide +kernel
theorem dX6_cutsTo_6 : decode cX6_cutsTo 6 = .ok (.getfield 15, 3) := by decide +kernel
theorem dX6_cutsTo_9 : decode cX6_cutsTo 9 = .ok (.if_icmp .le 5, 3) := by decide +kernel
theorem dX6_cutsTo_12 : decode cX6_cutsTo 12 = .ok (.iconst 0, 1) := by decide +kernel
theorem dX6_cutsTo_13 : decode cX6_cutsTo 13 = .ok (.ireturn, 1) := by decide +kernel
theorem dX6_cutsTo_14 : decode cX6_cutsTo 14 = .ok (.aload_n 0, 1) := by decide +kernel
theorem dX6_cutsTo_15 : decode cX6_cutsTo 15 = .ok (.iload_n 1, 1) := by decide +kernel
theorem dX6_cutsTo_16 : decode cX6_cutsTo 16 = .ok (.putfield 15, 3) := by decide +kernel
theorem dX6_cutsTo_19 : decode cX6_cutsTo 19 = .ok (.iconst 1, 1) := by decide +kernel
theorem dX6_cutsTo_20 : decode cX6_cutsTo 20 = .ok (.ireturn, 1) := by decide +kernel
theorem dX6_digitHere_0 : decode cX6_digitHere 0 = .ok (.aload_n 0, 1) := by decide +kernel
theorem dX6_digitHere_1 : decode cX6_digitHere 1 = .ok (.getfield 19, 3) := by decide +kernel
theorem dX6_digitHere_4 : decode cX6_digitHere 4 = .ok (.aload_n 0, 1) := by decide +kernel
theorem dX6_digitHere_5 : decode cX6_digitHere 5 = .ok (.getfield 15, 3) := by decide +kernel
theorem dX6_digitHere_8 : decode cX6_digitHere 8 = .ok (.if_icmp .ge 46, 3) := by decide +kernel
theorem dX6_digitHere_11 : decode cX6_digitHere 11 = .ok (.aload_n 0, 1) := by decide +kernel
theorem dX6_digitHere_12 : decode cX6_digitHere 12 = .ok (.getfield 9, 3) := by decide +kernel
theorem dX6_digitHere_15 : decode cX6_digitHere 15 = .ok (.aload_n 0, 1) := by decide +kernel
theorem dX6_digitHere_16 : decode cX6_digitHere 16 = .ok (.getfield 19, 3) := by decide +kernel
theorem dX6_digitHere_19 : decode cX6_digitHere 19 = .ok (.caload, 1) := by decide +kernel
theorem dX6_digitHere_20 : decode cX6_digitHere 20 = .ok (.bipush 48, 2) := by decide +kernel
theorem dX6_digitHere_22 : decode cX6_digitHere 22 = .ok (.if_icmp .lt 32, 3) := by decide +kernel
theorem dX6_digitHere_25 : decode cX6_digitHere 25 = .ok (.aload_n 0, 1) := by decide +kernel
theorem dX6_digitHere_26 : decode cX6_digitHere 26 = .ok (.getfield 9, 3) := by decide +kernel
theorem dX6_digitHere_29 : decode cX6_digitHere 29 = .ok (.aload_n 0, 1) := by decide +kernel
theorem dX6_digitHere_30 : decode cX6_digitHere 30 = .ok (.getfield 19, 3) := by decide +kernel
theorem dX6_digitHere_33 : decode cX6_digitHere 33 = .ok (.caload, 1) := by decide +kernel
theorem dX6_digitHere_34 : decode cX6_digitHere 34 = .ok (.bipush 57, 2) := by decide +kernel
theorem dX6_digitHere_36 : decode cX6_digitHere 36 = .ok (.if_icmp .gt 18, 3) := by decide +kernel
theorem dX6_digitHere_39 : decode cX6_digitHere 39 = .ok (.aload_n 0, 1) := by decide +kernel
theorem dX6_digitHere_40 : decode cX6_digitHere 40 = .ok (.getfield 9, 3) := by decide +kernel
theorem dX6_digitHere_43 : decode cX6_digitHere 43 = .ok (.aload_n 0, 1) := by decide +kernel
theorem dX6_digitHere_44 : decode cX6_digitHere 44 = .ok (.getfield 19, 3) := by decide +kernel
theorem dX6_digitHere_47 : decode cX6_digitHere 47 = .ok (.caload, 1) := by decide +kernel
theorem dX6_digitHere_48 : decode cX6_digitHere 48 = .ok (.bipush 48, 2) := by decide +kernel
theorem dX6_digitHere_50 : decode cX6_digitHere 50 = .ok (.isub, 1) := by decide +kernel
theorem dX6_digitHere_51 : decode cX6_digitHere 51 = .ok (.goto 4, 3) := by decide +kernel
theorem dX6_digitHere_54 : decode cX6_digitHere 54 = .ok (.iconst (-1), 1) := by decide +kernel
theorem dX6_digitHere_55 : decode cX6_digitHere 55 = .ok (.ireturn, 1) := by decide +kernel
theorem dX6_takes_0 : decode cX6_takes 0 = .ok (.aload_n 0, 1) := by decide +kernel
theorem dX6_takes_1 : decode cX6_takes 1 = .ok (.getfield 19, 3) := by decide +kernel
theorem dX6_takes_4 : decode cX6_takes 4 = .ok (.aload_n 0, 1) := by decide +kernel
theorem dX6_takes_5 : decode cX6_takes 5 = .ok (.getfield 15, 3) := by decide +kernel
theorem dX6_takes_8 : decode cX6_takes 8 = .ok (.if_icmp .ge 16, 3) := by decide +kernel
theorem dX6_takes_11 : decode cX6_takes 11 = .ok (.aload_n 0, 1) := by decide +kernel
theorem dX6_takes_12 : decode cX6_takes 12 = .ok (.getfield 9, 3) := by decide +kernel
theorem dX6_takes_15 : decode cX6_takes 15 = .ok (.aload_n 0, 1) := by decide +kernel
theorem dX6_takes_16 : decode cX6_takes 16 = .ok (.getfield 19, 3) := by decide +kernel
theorem dX6_takes_19 : decode cX6_takes 19 = .ok (.caload, 1) := by decide +kernel
theorem dX6_takes_20 : decode cX6_takes 20 = .ok (.iload_n 1, 1) := by decide +kernel
theorem dX6_takes_21 : decode cX6_takes 21 = .ok (.if_icmp .eq 5, 3) := by decide +kernel
theorem dX6_takes_24 : decode cX6_takes 24 = .ok (.iconst 0, 1) := by decide +kernel
theorem dX6_takes_25 : decode cX6_takes 25 = .ok (.ireturn, 1) := by decide +kernel
theorem dX6_takes_26 : decode cX6_takes 26 = .ok (.aload_n 0, 1) := by decide +kernel
theorem dX6_takes_27 : decode cX6_takes 27 = .ok (.dup, 1) := by decide +kernel
theorem dX6_takes_28 : decode cX6_takes 28 = .ok (.getfield 19, 3) := by decide +kernel
theorem dX6_takes_31 : decode cX6_takes 31 = .ok (.iconst 1, 1) := by decide +kernel
theorem dX6_takes_32 : decode cX6_takes 32 = .ok (.iadd, 1) := by decide +kernel
theorem dX6_takes_33 : decode cX6_takes 33 = .ok (.putfield 19, 3) := by decide +kernel
theorem dX6_takes_36 : decode cX6_takes 36 = .ok (.iconst 1, 1) := by decide +kernel
theorem dX6_takes_37 : decode cX6_takes 37 = .ok (.ireturn, 1) := by decide +kernel
theorem dX6_takesAll_0 : decode cX6_takesAll 0 = .ok (.iconst 0, 1) := by decide +kernel
theorem dX6_takesAll_1 : decode cX6_takesAll 1 = .ok (.istore_n 2, 1) := by decide +kernel
theorem dX6_takesAll_2 : decode cX6_takesAll 2 = .ok (.iload_n 2, 1) := by decide +kernel
theorem dX6_takesAll_3 : decode cX6_takesAll 3 = .ok (.aload_n 1, 1) := by decide +kernel
theorem dX6_takesAll_4 : decode cX6_takesAll 4 = .ok (.invokevirtual 22, 3) := by decide +kernel
theorem dX6_takesAll_7 : decode cX6_takesAll 7 = .ok (.if_icmp .ge 23, 3) := by decide +kernel
theorem dX6_takesAll_10 : decode cX6_takesAll 10 = .ok (.aload_n 0, 1) := by decide +kernel
theorem dX6_takesAll_11 : decode cX6_takesAll 11 = .ok (.aload_n 1, 1) := by decide +kernel
theorem dX6_takesAll_12 : decode cX6_takesAll 12 = .ok (.iload_n 2, 1) := by decide +kernel
theorem dX6_takesAll_13 : decode cX6_takesAll 13 = .ok (.invokevirtual 27, 3) := by decide +kernel
theorem dX6_takesAll_16 : decode cX6_takesAll 16 = .ok (.invokevirtual 31, 3) := by decide +kernel
theorem dX6_takesAll_19 : decode cX6_takesAll 19 = .ok (.ifCond .ne 5, 3) := by decide +kernel
theorem dX6_takesAll_22 : decode cX6_takesAll 22 = .ok (.iconst 0, 1) := by decide +kernel
theorem dX6_takesAll_23 : decode cX6_takesAll 23 = .ok (.ireturn, 1) := by decide +kernel
theorem dX6_takesAll_24 : decode cX6_takesAll 24 = .ok (.iinc 2 1, 3) := by decide +kernel
theorem dX6_takesAll_27 : decode cX6_takesAll 27 = .ok (.goto (-25), 3) := by decide +kernel
theorem dX6_takesAll_30 : decode cX6_takesAll 30 = .ok (.iconst 1, 1) := by decide +kernel
theorem dX6_takesAll_31 : decode cX6_takesAll 31 = .ok (.ireturn, 1) := by decide +kernel
theorem dX6_readNumber_0 : decode cX6_readNumber 0 = .ok (.aload_n 0, 1) := by decide +kernel
theorem dX6_readNumber_1 : decode cX6_readNumber 1 = .ok (.invokevirtual 35, 3) := by decide +kernel
theorem dX6_readNumber_4 : decode cX6_readNumber 4 = .ok (.i2l, 1) := by decide +kernel
theorem dX6_readNumber_5 : decode cX6_readNumber 5 = .ok (.lstore 4, 2) := by decide +kernel
theorem dX6_readNumber_7 : decode cX6_readNumber 7 = .ok (.lload 4, 2) := by decide +kernel
theorem dX6_readNumber_9 : decode cX6_readNumber 9 = .ok (.iload_n 1, 1) := by decide +kernel
theorem dX6_readNumber_10 : decode cX6_readNumber 10 = .ok (.i2l, 1) := by decide +kernel
theorem dX6_readNumber_11 : decode cX6_readNumber 11 = .ok (.lcmp, 1) := by decide +kernel
theorem dX6_readNumber_12 : decode cX6_readNumber 12 = .ok (.ifCond .ge 7, 3) := by decide +kernel
theorem dX6_readNumber_15 : decode cX6_readNumber 15 = .ok (.ldc2_w 38, 3) := by decide +kernel
theorem dX6_readNumber_18 : decode cX6_readNumber 18 = .ok (.lreturn, 1) := by decide +kernel
theorem dX6_readNumber_19 : decode cX6_readNumber 19 = .ok (.aload_n 0, 1) := by decide +kernel
theorem dX6_readNumber_20 : decode cX6_readNumber 20 = .ok (.dup, 1) := by decide +kernel
theorem dX6_readNumber_21 : decode cX6_readNumber 21 = .ok (.getfield 19, 3) := by decide +kernel
theorem dX6_readNumber_24 : decode cX6_readNumber 24 = .ok (.iconst 1, 1) := by decide +kernel
theorem dX6_readNumber_25 : decode cX6_readNumber 25 = .ok (.iadd, 1) := by decide +kernel
theorem dX6_readNumber_26 : decode cX6_readNumber 26 = .ok (.putfield 19, 3) := by decide +kernel
theorem dX6_readNumber_29 : decode cX6_readNumber 29 = .ok (.iconst 1, 1) := by decide +kernel
theorem dX6_readNumber_30 : decode cX6_readNumber 30 = .ok (.istore 6, 2) := by decide +kernel
theorem dX6_readNumber_32 : decode cX6_readNumber 32 = .ok (.iload 6, 2) := by decide +kernel
theorem dX6_readNumber_34 : decode cX6_readNumber 34 = .ok (.bipush 9, 2) := by decide +kernel
theorem dX6_readNumber_36 : decode cX6_readNumber 36 = .ok (.if_icmp .gt 78, 3) := by decide +kernel
theorem dX6_readNumber_39 : decode cX6_readNumber 39 = .ok (.aload_n 0, 1) := by decide +kernel
theorem dX6_readNumber_40 : decode cX6_readNumber 40 = .ok (.invokevirtual 35, 3) := by decide +kernel
theorem dX6_readNumber_43 : decode cX6_readNumber 43 = .ok (.istore 7, 2) := by decide +kernel
theorem dX6_readNumber_45 : decode cX6_readNumber 45 = .ok (.iload 7, 2) := by decide +kernel
theorem dX6_readNumber_47 : decode cX6_readNumber 47 = .ok (.ifCond .ge 6, 3) := by decide +kernel
theorem dX6_readNumber_50 : decode cX6_readNumber 50 = .ok (.lload 4, 2) := by decide +kernel
theorem dX6_readNumber_52 : decode cX6_readNumber 52 = .ok (.lreturn, 1) := by decide +kernel
theorem dX6_readNumber_53 : decode cX6_readNumber 53 = .ok (.lload 4, 2) := by decide +kernel
theorem dX6_readNumber_55 : decode cX6_readNumber 55 = .ok (.lconst 0, 1) := by decide +kernel
theorem dX6_readNumber_56 : decode cX6_readNumber 56 = .ok (.lcmp, 1) := by decide +kernel
theorem dX6_readNumber_57 : decode cX6_readNumber 57 = .ok (.ifCond .eq 25, 3) := by decide +kernel
theorem dX6_readNumber_60 : decode cX6_readNumber 60 = .ok (.iload 6, 2) := by decide +kernel
theorem dX6_readNumber_62 : decode cX6_readNumber 62 = .ok (.bipush 9, 2) := by decide +kernel
theorem dX6_readNumber_64 : decode cX6_readNumber 64 = .ok (.if_icmp .eq 18, 3) := by decide +kernel
theorem dX6_readNumber_67 : decode cX6_readNumber 67 = .ok (.ldc2_w 40, 3) := by decide +kernel
theorem dX6_readNumber_70 : decode cX6_readNumber 70 = .ok (.lload 4, 2) := by decide +kernel
theorem dX6_readNumber_72 : decode cX6_readNumber 72 = .ok (.lmul, 1) := by decide +kernel
theorem dX6_readNumber_73 : decode cX6_readNumber 73 = .ok (.iload 7, 2) := by decide +kernel
theorem dX6_readNumber_75 : decode cX6_readNumber 75 = .ok (.i2l, 1) := by decide +kernel
theorem dX6_readNumber_76 : decode cX6_readNumber 76 = .ok (.ladd, 1) := by decide +kernel
theorem dX6_readNumber_77 : decode cX6_readNumber 77 = .ok (.lload_n 2, 1) := by decide +kernel
theorem dX6_readNumber_78 : decode cX6_readNumber 78 = .ok (.lcmp, 1) := by decide +kernel
theorem dX6_readNumber_79 : decode cX6_readNumber 79 = .ok (.ifCond .le 7, 3) := by decide +kernel
theorem dX6_readNumber_82 : decode cX6_readNumber 82 = .ok (.ldc2_w 38, 3) := by decide +kernel
theorem dX6_readNumber_85 : decode cX6_readNumber 85 = .ok (.lreturn, 1) := by decide +kernel
theorem dX6_readNumber_86 : decode cX6_readNumber 86 = .ok (.ldc2_w 40, 3) := by decide +kernel
theorem dX6_readNumber_89 : decode cX6_readNumber 89 = .ok (.lload 4, 2) := by decide +kernel
theorem dX6_readNumber_91 : decode cX6_readNumber 91 = .ok (.lmul, 1) := by decide +kernel
theorem dX6_readNumber_92 : decode cX6_readNumber 92 = .ok (.iload 7, 2) := by decide +kernel
theorem dX6_readNumber_94 : decode cX6_readNumber 94 = .ok (.i2l, 1) := by decide +kernel
theorem dX6_readNumber_95 : decode cX6_readNumber 95 = .ok (.ladd, 1) := by decide +kernel
theorem dX6_readNumber_96 : decode cX6_readNumber 96 = .ok (.lstore 4, 2) := by decide +kernel
theorem dX6_readNumber_98 : decode cX6_readNumber 98 = .ok (.aload_n 0, 1) := by decide +kernel
theorem dX6_readNumber_99 : decode cX6_readNumber 99 = .ok (.dup, 1) := by decide +kernel
theorem dX6_readNumber_100 : decode cX6_readNumber 100 = .ok (.getfield 19, 3) := by decide +kernel
theorem dX6_readNumber_103 : decode cX6_readNumber 103 = .ok (.iconst 1, 1) := by decide +kernel
theorem dX6_readNumber_104 : decode cX6_readNumber 104 = .ok (.iadd, 1) := by decide +kernel
theorem dX6_readNumber_105 : decode cX6_readNumber 105 = .ok (.putfield 19, 3) := by decide +kernel
theorem dX6_readNumber_108 : decode cX6_readNumber 108 = .ok (.iinc 6 1, 3) := by decide +kernel
theorem dX6_readNumber_111 : decode cX6_readNumber 111 = .ok (.goto (-79), 3) := by decide +kernel
theorem dX6_readNumber_114 : decode cX6_readNumber 114 = .ok (.lload 4, 2) := by decide +kernel
theorem dX6_readNumber_116 : decode cX6_readNumber 116 = .ok (.lreturn, 1) := by decide +kernel
theorem dX6_readsNumbers_0 : decode cX6_readsNumbers 0 = .ok (.aload_n 0, 1) := by decide +kernel
theorem dX6_readsNumbers_1 : decode cX6_readsNumbers 1 = .ok (.iconst 0, 1) := by decide +kernel
theorem dX6_readsNumbers_2 : decode cX6_readsNumbers 2 = .ok (.putfield 19, 3) := by decide +kernel
theorem dX6_readsNumbers_5 : decode cX6_readsNumbers 5 = .ok (.iconst 0, 1) := by decide +kernel
theorem dX6_readsNumbers_6 : decode cX6_readsNumbers 6 = .ok (.istore_n 2, 1) := by decide +kernel
theorem dX6_readsNumbers_7 : decode cX6_readsNumbers 7 = .ok (.iload_n 2, 1) := by decide +kernel
theorem dX6_readsNumbers_8 : decode cX6_readsNumbers 8 = .ok (.aload_n 1, 1) := by decide +kernel
theorem dX6_readsNumbers_9 : decode cX6_readsNumbers 9 = .ok (.arraylength, 1) := by decide +kernel
theorem dX6_readsNumbers_10 : decode cX6_readsNumbers 10 = .ok (.if_icmp .ge 13, 3) := by decide +kernel
theorem dX6_readsNumbers_13 : decode cX6_readsNumbers 13 = .ok (.aload_n 1, 1) := by decide +kernel
theorem dX6_readsNumbers_14 : decode cX6_readsNumbers 14 = .ok (.iload_n 2, 1) := by decide +kernel
theorem dX6_readsNumbers_15 : decode cX6_readsNumbers 15 = .ok (.lconst 0, 1) := by decide +kernel
theorem dX6_readsNumbers_16 : decode cX6_readsNumbers 16 = .ok (.lastore, 1) := by decide +kernel
theorem dX6_readsNumbers_17 : decode cX6_readsNumbers 17 = .ok (.iinc 2 1, 3) := by decide +kernel
theorem dX6_readsNumbers_20 : decode cX6_readsNumbers 20 = .ok (.goto (-13), 3) := by decide +kernel
theorem dX6_readsNumbers_23 : decode cX6_readsNumbers 23 = .ok (.aload_n 0, 1) := by decide +kernel
theorem dX6_readsNumbers_24 : decode cX6_readsNumbers 24 = .ok (.getfield 15, 3) := by decide +kernel
theorem dX6_readsNumbers_27 : decode cX6_readsNumbers 27 = .ok (.ifCond .ne 5, 3) := by decide +kernel
theorem dX6_readsNumbers_30 : decode cX6_readsNumbers 30 = .ok (.iconst 1, 1) := by decide +kernel
theorem dX6_readsNumbers_31 : decode cX6_readsNumbers 31 = .ok (.ireturn, 1) := by decide +kernel
theorem dX6_readsNumbers_32 : decode cX6_readsNumbers 32 = .ok (.iconst 0, 1) := by decide +kernel
theorem dX6_readsNumbers_33 : decode cX6_readsNumbers 33 = .ok (.istore_n 2, 1) := by decide +kernel
theorem dX6_readsNumbers_34 : decode cX6_readsNumbers 34 = .ok (.iload_n 2, 1) := by decide +kernel
theorem dX6_readsNumbers_35 : decode cX6_readsNumbers 35 = .ok (.aload_n 1, 1) := by decide +kernel
theorem dX6_readsNumbers_36 : decode cX6_readsNumbers 36 = .ok (.arraylength, 1) := by decide +kernel
theorem dX6_readsNumbers_37 : decode cX6_readsNumbers 37 = .ok (.if_icmp .ge 62, 3) := by decide +kernel
theorem dX6_readsNumbers_40 : decode cX6_readsNumbers 40 = .ok (.aload_n 0, 1) := by decide +kernel
theorem dX6_readsNumbers_41 : decode cX6_readsNumbers 41 = .ok (.iconst 0, 1) := by decide +kernel
theorem dX6_readsNumbers_42 : decode cX6_readsNumbers 42 = .ok (.ldc2_w 42, 3) := by decide +kernel
theorem dX6_readsNumbers_45 : decode cX6_readsNumbers 45 = .ok (.invokevirtual 44, 3) := by decide +kernel
theorem dX6_readsNumbers_48 : decode cX6_readsNumbers 48 = .ok (.lstore_n 3, 1) := by decide +kernel
theorem dX6_readsNumbers_49 : decode cX6_readsNumbers 49 = .ok (.lload_n 3, 1) := by decide +kernel
theorem dX6_readsNumbers_50 : decode cX6_readsNumbers 50 = .ok (.lconst 0, 1) := by decide +kernel
theorem dX6_readsNumbers_51 : decode cX6_readsNumbers 51 = .ok (.lcmp, 1) := by decide +kernel
theorem dX6_readsNumbers_52 : decode cX6_readsNumbers 52 = .ok (.ifCond .ge 5, 3) := by decide +kernel
theorem dX6_readsNumbers_55 : decode cX6_readsNumbers 55 = .ok (.iconst 0, 1) := by decide +kernel
theorem dX6_readsNumbers_56 : decode cX6_readsNumbers 56 = .ok (.ireturn, 1) := by decide +kernel
theorem dX6_readsNumbers_57 : decode cX6_readsNumbers 57 = .ok (.aload_n 1, 1) := by decide +kernel
theorem dX6_readsNumbers_58 : decode cX6_readsNumbers 58 = .ok (.iload_n 2, 1) := by decide +kernel
theorem dX6_readsNumbers_59 : decode cX6_readsNumbers 59 = .ok (.lload_n 3, 1) := by decide +kernel
theorem dX6_readsNumbers_60 : decode cX6_readsNumbers 60 = .ok (.lastore, 1) := by decide +kernel
theorem dX6_readsNumbers_61 : decode cX6_readsNumbers 61 = .ok (.aload_n 0, 1) := by decide +kernel
theorem dX6_readsNumbers_62 : decode cX6_readsNumbers 62 = .ok (.getfield 19, 3) := by decide +kernel
theorem dX6_readsNumbers_65 : decode cX6_readsNumbers 65 = .ok (.aload_n 0, 1) := by decide +kernel
theorem dX6_readsNumbers_66 : decode cX6_readsNumbers 66 = .ok (.getfield 15, 3) := by decide +kernel
theorem dX6_readsNumbers_69 : decode cX6_readsNumbers 69 = .ok (.if_icmp .ne 5, 3) := by decide +kernel
theorem dX6_readsNumbers_72 : decode cX6_readsNumbers 72 = .ok (.iconst 1, 1) := by decide +kernel
theorem dX6_readsNumbers_73 : decode cX6_readsNumbers 73 = .ok (.ireturn, 1) := by decide +kernel
theorem dX6_readsNumbers_74 : decode cX6_readsNumbers 74 = .ok (.iload_n 2, 1) := by decide +kernel
theorem dX6_readsNumbers_75 : decode cX6_readsNumbers 75 = .ok (.aload_n 1, 1) := by decide +kernel
theorem dX6_readsNumbers_76 : decode cX6_readsNumbers 76 = .ok (.arraylength, 1) := by decide +kernel
theorem dX6_readsNumbers_77 : decode cX6_readsNumbers 77 = .ok (.iconst 1, 1) := by decide +kernel
theorem dX6_readsNumbers_78 : decode cX6_readsNumbers 78 = .ok (.isub, 1) := by decide +kernel
theorem dX6_readsNumbers_79 : decode cX6_readsNumbers 79 = .ok (.if_icmp .eq 12, 3) := by decide +kernel
theorem dX6_readsNumbers_82 : decode cX6_readsNumbers 82 = .ok (.aload_n 0, 1) := by decide +kernel
theorem dX6_readsNumbers_83 : decode cX6_readsNumbers 83 = .ok (.bipush 44, 2) := by decide +kernel
theorem dX6_readsNumbers_85 : decode cX6_readsNumbers 85 = .ok (.invokevirtual 31, 3) := by decide +kernel
theorem dX6_readsNumbers_88 : decode cX6_readsNumbers 88 = .ok (.ifCond .ne 5, 3) := by decide +kernel
theorem dX6_readsNumbers_91 : decode cX6_readsNumbers 91 = .ok (.iconst 0, 1) := by decide +kernel
theorem dX6_readsNumbers_92 : decode cX6_readsNumbers 92 = .ok (.ireturn, 1) := by decide +kernel
theorem dX6_readsNumbers_93 : decode cX6_readsNumbers 93 = .ok (.iinc 2 1, 3) := by decide +kernel
theorem dX6_readsNumbers_96 : decode cX6_readsNumbers 96 = .ok (.goto (-62), 3) := by decide +kernel
theorem dX6_readsNumbers_99 : decode cX6_readsNumbers 99 = .ok (.iconst 0, 1) := by decide +kernel
theorem dX6_readsNumbers_100 : decode cX6_readsNumbers 100 = .ok (.ireturn, 1) := by decide +kernel
theorem dX6_readsRound_0 : decode cX6_readsRound 0 = .ok (.aload_n 0, 1) := by decide +kernel
theorem dX6_readsRound_1 : decode cX6_readsRound 1 = .ok (.iconst 0, 1) := by decide +kernel
theorem dX6_readsRound_2 : decode cX6_readsRound 2 = .ok (.putfield 19, 3) := by decide +kernel
theorem dX6_readsRound_5 : decode cX6_readsRound 5 = .ok (.aload_n 1, 1) := by decide +kernel
theorem dX6_readsRound_6 : decode cX6_readsRound 6 = .ok (.invokevirtual 48, 3) := by decide +kernel
theorem dX6_readsRound_9 : decode cX6_readsRound 9 = .ok (.aload_n 0, 1) := by decide +kernel
theorem dX6_readsRound_10 : decode cX6_readsRound 10 = .ok (.ldc 53, 2) := by decide +kernel
theorem dX6_readsRound_12 : decode cX6_readsRound 12 = .ok (.invokevirtual 55, 3) := by decide +kernel
theorem dX6_readsRound_15 : decode cX6_readsRound 15 = .ok (.ifCond .ne 5, 3) := by decide +kernel
theorem dX6_readsRound_18 : decode cX6_readsRound 18 = .ok (.iconst 0, 1) := by decide +kernel
theorem dX6_readsRound_19 : decode cX6_readsRound 19 = .ok (.ireturn, 1) := by decide +kernel
theorem dX6_readsRound_20 : decode cX6_readsRound 20 = .ok (.aload_n 1, 1) := by decide +kernel
theorem dX6_readsRound_21 : decode cX6_readsRound 21 = .ok (.aload_n 0, 1) := by decide +kernel
theorem dX6_readsRound_22 : decode cX6_readsRound 22 = .ok (.iconst 1, 1) := by decide +kernel
theorem dX6_readsRound_23 : decode cX6_readsRound 23 = .ok (.ldc2_w 42, 3) := by decide +kernel
theorem dX6_readsRound_26 : decode cX6_readsRound 26 = .ok (.invokevirtual 44, 3) := by decide +kernel
theorem dX6_readsRound_29 : decode cX6_readsRound 29 = .ok (.putfield 59, 3) := by decide +kernel
theorem dX6_readsRound_32 : decode cX6_readsRound 32 = .ok (.aload_n 1, 1) := by decide +kernel
theorem dX6_readsRound_33 : decode cX6_readsRound 33 = .ok (.getfield 59, 3) := by decide +kernel
theorem dX6_readsRound_36 : decode cX6_readsRound 36 = .ok (.lconst 0, 1) := by decide +kernel
theorem dX6_readsRound_37 : decode cX6_readsRound 37 = .ok (.lcmp, 1) := by decide +kernel
theorem dX6_readsRound_38 : decode cX6_readsRound 38 = .ok (.ifCond .le 32, 3) := by decide +kernel
theorem dX6_readsRound_41 : decode cX6_readsRound 41 = .ok (.aload_n 0, 1) := by decide +kernel
theorem dX6_readsRound_42 : decode cX6_readsRound 42 = .ok (.aload_n 1, 1) := by decide +kernel
theorem dX6_readsRound_43 : decode cX6_readsRound 43 = .ok (.invokevirtual 63, 3) := by decide +kernel
theorem dX6_readsRound_46 : decode cX6_readsRound 46 = .ok (.ifCond .eq 24, 3) := by decide +kernel
theorem dX6_readsRound_49 : decode cX6_readsRound 49 = .ok (.aload_n 0, 1) := by decide +kernel
theorem dX6_readsRound_50 : decode cX6_readsRound 50 = .ok (.bipush 58, 2) := by decide +kernel
theorem dX6_readsRound_52 : decode cX6_readsRound 52 = .ok (.invokevirtual 31, 3) := by decide +kernel
theorem dX6_readsRound_55 : decode cX6_readsRound 55 = .ok (.ifCond .eq 15, 3) := by decide +kernel
theorem dX6_readsRound_58 : decode cX6_readsRound 58 = .ok (.aload_n 0, 1) := by decide +kernel
theorem dX6_readsRound_59 : decode cX6_readsRound 59 = .ok (.aload_n 1, 1) := by decide +kernel
theorem dX6_readsRound_60 : decode cX6_readsRound 60 = .ok (.invokevirtual 67, 3) := by decide +kernel
theorem dX6_readsRound_63 : decode cX6_readsRound 63 = .ok (.ifCond .eq 7, 3) := by decide +kernel
theorem dX6_readsRound_66 : decode cX6_readsRound 66 = .ok (.iconst 1, 1) := by decide +kernel
theorem dX6_readsRound_67 : decode cX6_readsRound 67 = .ok (.goto 4, 3) := by decide +kernel
theorem dX6_readsRound_70 : decode cX6_readsRound 70 = .ok (.iconst 0, 1) := by decide +kernel
theorem dX6_readsRound_71 : decode cX6_readsRound 71 = .ok (.ireturn, 1) := by decide +kernel
theorem dX6_readsWords_0 : decode cX6_readsWords 0 = .ok (.iconst 0, 1) := by decide +kernel
theorem dX6_readsWords_1 : decode cX6_readsWords 1 = .ok (.istore_n 2, 1) := by decide +kernel
theorem dX6_readsWords_2 : decode cX6_readsWords 2 = .ok (.iconst 0, 1) := by decide +kernel
theorem dX6_readsWords_3 : decode cX6_readsWords 3 = .ok (.istore_n 3, 1) := by decide +kernel
theorem dX6_readsWords_4 : decode cX6_readsWords 4 = .ok (.iload_n 3, 1) := by decide +kernel
theorem dX6_readsWords_5 : decode cX6_readsWords 5 = .ok (.bipush 8, 2) := by decide +kernel
theorem dX6_readsWords_7 : decode cX6_readsWords 7 = .ok (.if_icmp .ge 70, 3) := by decide +kernel
theorem dX6_readsWords_10 : decode cX6_readsWords 10 = .ok (.iload_n 2, 1) := by decide +kernel
theorem dX6_readsWords_11 : decode cX6_readsWords 11 = .ok (.bipush 8, 2) := by decide +kernel
theorem dX6_readsWords_13 : decode cX6_readsWords 13 = .ok (.if_icmp .ge 64, 3) := by decide +kernel
theorem dX6_readsWords_16 : decode cX6_readsWords 16 = .ok (.aload_n 0, 1) := by decide +kernel
theorem dX6_readsWords_17 : decode cX6_readsWords 17 = .ok (.bipush 32, 2) := by decide +kernel
theorem dX6_readsWords_19 : decode cX6_readsWords 19 = .ok (.invokevirtual 31, 3) := by decide +kernel
theorem dX6_readsWords_22 : decode cX6_readsWords 22 = .ok (.ifCond .eq 55, 3) := by decide +kernel
theorem dX6_readsWords_25 : decode cX6_readsWords 25 = .ok (.aload_n 0, 1) := by decide +kernel
theorem dX6_readsWords_26 : decode cX6_readsWords 26 = .ok (.iload_n 2, 1) := by decide +kernel
theorem dX6_readsWords_27 : decode cX6_readsWords 27 = .ok (.invokevirtual 70, 3) := by decide +kernel
theorem dX6_readsWords_30 : decode cX6_readsWords 30 = .ok (.istore 4, 2) := by decide +kernel
theorem dX6_readsWords_32 : decode cX6_readsWords 32 = .ok (.iload 4, 2) := by decide +kernel
theorem dX6_readsWords_34 : decode cX6_readsWords 34 = .ok (.iload_n 2, 1) := by decide +kernel
theorem dX6_readsWords_35 : decode cX6_readsWords 35 = .ok (.if_icmp .lt 13, 3) := by decide +kernel
theorem dX6_readsWords_38 : decode cX6_readsWords 38 = .ok (.aload_n 0, 1) := by decide +kernel
theorem dX6_readsWords_39 : decode cX6_readsWords 39 = .ok (.iload 4, 2) := by decide +kernel
theorem dX6_readsWords_41 : decode cX6_readsWords 41 = .ok (.aload_n 1, 1) := by decide +kernel
theorem dX6_readsWords_42 : decode cX6_readsWords 42 = .ok (.invokevirtual 74, 3) := by decide +kernel
theorem dX6_readsWords_45 : decode cX6_readsWords 45 = .ok (.ifCond .ne 5, 3) := by decide +kernel
theorem dX6_readsWords_48 : decode cX6_readsWords 48 = .ok (.iconst 0, 1) := by decide +kernel
theorem dX6_readsWords_49 : decode cX6_readsWords 49 = .ok (.ireturn, 1) := by decide +kernel
theorem dX6_readsWords_50 : decode cX6_readsWords 50 = .ok (.iload 4, 2) := by decide +kernel
theorem dX6_readsWords_52 : decode cX6_readsWords 52 = .ok (.iconst 2, 1) := by decide +kernel
theorem dX6_readsWords_53 : decode cX6_readsWords 53 = .ok (.if_icmp .lt 13, 3) := by decide +kernel
theorem dX6_readsWords_56 : decode cX6_readsWords 56 = .ok (.iload 4, 2) := by decide +kernel
theorem dX6_readsWords_58 : decode cX6_readsWords 58 = .ok (.iconst 4, 1) := by decide +kernel
theorem dX6_readsWords_59 : decode cX6_readsWords 59 = .ok (.if_icmp .gt 7, 3) := by decide +kernel
theorem dX6_readsWords_62 : decode cX6_readsWords 62 = .ok (.iconst 4, 1) := by decide +kernel
theorem dX6_readsWords_63 : decode cX6_readsWords 63 = .ok (.goto 5, 3) := by decide +kernel
theorem dX6_readsWords_66 : decode cX6_readsWords 66 = .ok (.iload 4, 2) := by decide +kernel
theorem dX6_readsWords_68 : decode cX6_readsWords 68 = .ok (.iconst 1, 1) := by decide +kernel
theorem dX6_readsWords_69 : decode cX6_readsWords 69 = .ok (.iadd, 1) := by decide +kernel
theorem dX6_readsWords_70 : decode cX6_readsWords 70 = .ok (.istore_n 2, 1) := by decide +kernel
theorem dX6_readsWords_71 : decode cX6_readsWords 71 = .ok (.iinc 3 1, 3) := by decide +kernel
theorem dX6_readsWords_74 : decode cX6_readsWords 74 = .ok (.goto (-70), 3) := by decide +kernel
theorem dX6_readsWords_77 : decode cX6_readsWords 77 = .ok (.iconst 1, 1) := by decide +kernel
theorem dX6_readsWords_78 : decode cX6_readsWords 78 = .ok (.ireturn, 1) := by decide +kernel
theorem dX6_wordOf_0 : decode cX6_wordOf 0 = .ok (.iload_n 0, 1) := by decide +kernel
theorem dX6_wordOf_1 : decode cX6_wordOf 1 = .ok (.tableswitch 64 0 6 #[43, 46, 49, 52, 55, 58, 61], 43) := by decide +kernel
theorem dX6_wordOf_44 : decode cX6_wordOf 44 = .ok (.ldc 78, 2) := by decide +kernel
theorem dX6_wordOf_46 : decode cX6_wordOf 46 = .ok (.areturn, 1) := by decide +kernel
theorem dX6_wordOf_47 : decode cX6_wordOf 47 = .ok (.ldc 80, 2) := by decide +kernel
theorem dX6_wordOf_49 : decode cX6_wordOf 49 = .ok (.areturn, 1) := by decide +kernel
theorem dX6_wordOf_50 : decode cX6_wordOf 50 = .ok (.ldc 82, 2) := by decide +kernel
theorem dX6_wordOf_52 : decode cX6_wordOf 52 = .ok (.areturn, 1) := by decide +kernel
theorem dX6_wordOf_53 : decode cX6_wordOf 53 = .ok (.ldc 84, 2) := by decide +kernel
theorem dX6_wordOf_55 : decode cX6_wordOf 55 = .ok (.areturn, 1) := by decide +kernel
theorem dX6_wordOf_56 : decode cX6_wordOf 56 = .ok (.ldc 86, 2) := by decide +kernel
theorem dX6_wordOf_58 : decode cX6_wordOf 58 = .ok (.areturn, 1) := by decide +kernel
theorem dX6_wordOf_59 : decode cX6_wordOf 59 = .ok (.ldc 88, 2) := by decide +kernel
theorem dX6_wordOf_61 : decode cX6_wordOf 61 = .ok (.areturn, 1) := by decide +kernel
theorem dX6_wordOf_62 : decode cX6_wordOf 62 = .ok (.ldc 90, 2) := by decide +kernel
theorem dX6_wordOf_64 : decode cX6_wordOf 64 = .ok (.areturn, 1) := by decide +kernel
theorem dX6_wordOf_65 : decode cX6_wordOf 65 = .ok (.ldc 92, 2) := by decide +kernel
theorem dX6_wordOf_67 : decode cX6_wordOf 67 = .ok (.areturn, 1) := by decide +kernel
theorem dX6_readWord_0 : decode cX6_readWord 0 = .ok (.aload_n 0, 1) := by decide +kernel
theorem dX6_readWord_1 : decode cX6_readWord 1 = .ok (.getfield 19, 3) := by decide +kernel
theorem dX6_readWord_4 : decode cX6_readWord 4 = .ok (.istore_n 2, 1) := by decide +kernel
theorem dX6_readWord_5 : decode cX6_readWord 5 = .ok (.aload_n 0, 1) := by decide +kernel
theorem dX6_readWord_6 : decode cX6_readWord 6 = .ok (.getfield 19, 3) := by decide +kernel
theorem dX6_readWord_9 : decode cX6_readWord 9 = .ok (.istore_n 3, 1) := by decide +kernel
theorem dX6_readWord_10 : decode cX6_readWord 10 = .ok (.iload_n 1, 1) := by decide +kernel
theorem dX6_readWord_11 : decode cX6_readWord 11 = .ok (.istore 4, 2) := by decide +kernel
theorem dX6_readWord_13 : decode cX6_readWord 13 = .ok (.iload 4, 2) := by decide +kernel
theorem dX6_readWord_15 : decode cX6_readWord 15 = .ok (.bipush 8, 2) := by decide +kernel
theorem dX6_readWord_17 : decode cX6_readWord 17 = .ok (.if_icmp .ge 38, 3) := by decide +kernel
theorem dX6_readWord_20 : decode cX6_readWord 20 = .ok (.aload_n 0, 1) := by decide +kernel
theorem dX6_readWord_21 : decode cX6_readWord 21 = .ok (.iload_n 2, 1) := by decide +kernel
theorem dX6_readWord_22 : decode cX6_readWord 22 = .ok (.putfield 19, 3) := by decide +kernel
theorem dX6_readWord_25 : decode cX6_readWord 25 = .ok (.aload_n 0, 1) := by decide +kernel
theorem dX6_readWord_26 : decode cX6_readWord 26 = .ok (.iload 4, 2) := by decide +kernel
theorem dX6_readWord_28 : decode cX6_readWord 28 = .ok (.invokestatic 94, 3) := by decide +kernel
theorem dX6_readWord_31 : decode cX6_readWord 31 = .ok (.invokevirtual 55, 3) := by decide +kernel
theorem dX6_readWord_34 : decode cX6_readWord 34 = .ok (.ifCond .eq 6, 3) := by decide +kernel
theorem dX6_readWord_37 : decode cX6_readWord 37 = .ok (.iload 4, 2) := by decide +kernel
theorem dX6_readWord_39 : decode cX6_readWord 39 = .ok (.ireturn, 1) := by decide +kernel
theorem dX6_readWord_40 : decode cX6_readWord 40 = .ok (.iload_n 3, 1) := by decide +kernel
theorem dX6_readWord_41 : decode cX6_readWord 41 = .ok (.aload_n 0, 1) := by decide +kernel
theorem dX6_readWord_42 : decode cX6_readWord 42 = .ok (.getfield 19, 3) := by decide +kernel
theorem dX6_readWord_45 : decode cX6_readWord 45 = .ok (.invokestatic 98, 3) := by decide +kernel
theorem dX6_readWord_48 : decode cX6_readWord 48 = .ok (.istore_n 3, 1) := by decide +kernel
theorem dX6_readWord_49 : decode cX6_readWord 49 = .ok (.iinc 4 1, 3) := by decide +kernel
theorem dX6_readWord_52 : decode cX6_readWord 52 = .ok (.goto (-39), 3) := by decide +kernel
theorem dX6_readWord_55 : decode cX6_readWord 55 = .ok (.aload_n 0, 1) := by decide +kernel
theorem dX6_readWord_56 : decode cX6_readWord 56 = .ok (.iload_n 3, 1) := by decide +kernel
theorem dX6_readWord_57 : decode cX6_readWord 57 = .ok (.putfield 19, 3) := by decide +kernel
theorem dX6_readWord_60 : decode cX6_readWord 60 = .ok (.iconst (-1), 1) := by decide +kernel
theorem dX6_readWord_61 : decode cX6_readWord 61 = .ok (.ireturn, 1) := by decide +kernel
theorem dX6_readsBehind_0 : decode cX6_readsBehind 0 = .ok (.iload_n 1, 1) := by decide +kernel
theorem dX6_readsBehind_1 : decode cX6_readsBehind 1 = .ok (.tableswitch 152 0 7 #[47, 85, 152, 152, 152, 92, 134, 143], 47) := by decide +kernel
theorem dX6_readsBehind_48 : decode cX6_readsBehind 48 = .ok (.aload_n 0, 1) := by decide +kernel
theorem dX6_readsBehind_49 : decode cX6_readsBehind 49 = .ok (.bipush 32, 2) := by decide +kernel
theorem dX6_readsBehind_51 : decode cX6_readsBehind 51 = .ok (.invokevirtual 31, 3) := by decide +kernel
theorem dX6_readsBehind_54 : decode cX6_readsBehind 54 = .ok (.ifCond .ne 5, 3) := by decide +kernel
theorem dX6_readsBehind_57 : decode cX6_readsBehind 57 = .ok (.iconst 0, 1) := by decide +kernel
theorem dX6_readsBehind_58 : decode cX6_readsBehind 58 = .ok (.ireturn, 1) := by decide +kernel
theorem dX6_readsBehind_59 : decode cX6_readsBehind 59 = .ok (.aload_n 2, 1) := by decide +kernel
theorem dX6_readsBehind_60 : decode cX6_readsBehind 60 = .ok (.aload_n 0, 1) := by decide +kernel
theorem dX6_readsBehind_61 : decode cX6_readsBehind 61 = .ok (.iconst 0, 1) := by decide +kernel
theorem dX6_readsBehind_62 : decode cX6_readsBehind 62 = .ok (.ldc2_w 104, 3) := by decide +kernel
theorem dX6_readsBehind_65 : decode cX6_readsBehind 65 = .ok (.invokevirtual 44, 3) := by decide +kernel
theorem dX6_readsBehind_68 : decode cX6_readsBehind 68 = .ok (.putfield 106, 3) := by decide +kernel
theorem dX6_readsBehind_71 : decode cX6_readsBehind 71 = .ok (.aload_n 2, 1) := by decide +kernel
theorem dX6_readsBehind_72 : decode cX6_readsBehind 72 = .ok (.getfield 106, 3) := by decide +kernel
theorem dX6_readsBehind_75 : decode cX6_readsBehind 75 = .ok (.lconst 0, 1) := by decide +kernel
theorem dX6_readsBehind_76 : decode cX6_readsBehind 76 = .ok (.lcmp, 1) := by decide +kernel
theorem dX6_readsBehind_77 : decode cX6_readsBehind 77 = .ok (.ifCond .lt 7, 3) := by decide +kernel
theorem dX6_readsBehind_80 : decode cX6_readsBehind 80 = .ok (.iconst 1, 1) := by decide +kernel
theorem dX6_readsBehind_81 : decode cX6_readsBehind 81 = .ok (.goto 4, 3) := by decide +kernel
theorem dX6_readsBehind_84 : decode cX6_readsBehind 84 = .ok (.iconst 0, 1) := by decide +kernel
theorem dX6_readsBehind_85 : decode cX6_readsBehind 85 = .ok (.ireturn, 1) := by decide +kernel
theorem dX6_readsBehind_86 : decode cX6_readsBehind 86 = .ok (.aload_n 2, 1) := by decide +kernel
theorem dX6_readsBehind_87 : decode cX6_readsBehind 87 = .ok (.iconst 1, 1) := by decide +kernel
theorem dX6_readsBehind_88 : decode cX6_readsBehind 88 = .ok (.putfield 109, 3) := by decide +kernel
theorem dX6_readsBehind_91 : decode cX6_readsBehind 91 = .ok (.iconst 1, 1) := by decide +kernel
theorem dX6_readsBehind_92 : decode cX6_readsBehind 92 = .ok (.ireturn, 1) := by decide +kernel
theorem dX6_readsBehind_93 : decode cX6_readsBehind 93 = .ok (.aload_n 0, 1) := by decide +kernel
theorem dX6_readsBehind_94 : decode cX6_readsBehind 94 = .ok (.bipush 32, 2) := by decide +kernel
theorem dX6_readsBehind_96 : decode cX6_readsBehind 96 = .ok (.invokevirtual 31, 3) := by decide +kernel
theorem dX6_readsBehind_99 : decode cX6_readsBehind 99 = .ok (.ifCond .ne 5, 3) := by decide +kernel
theorem dX6_readsBehind_102 : decode cX6_readsBehind 102 = .ok (.iconst 0, 1) := by decide +kernel
theorem dX6_readsBehind_103 : decode cX6_readsBehind 103 = .ok (.ireturn, 1) := by decide +kernel
theorem dX6_readsBehind_104 : decode cX6_readsBehind 104 = .ok (.aload_n 2, 1) := by decide +kernel
theorem dX6_readsBehind_105 : decode cX6_readsBehind 105 = .ok (.getfield 112, 3) := by decide +kernel
theorem dX6_readsBehind_108 : decode cX6_readsBehind 108 = .ok (.iconst 3, 1) := by decide +kernel
theorem dX6_readsBehind_109 : decode cX6_readsBehind 109 = .ok (.aload_n 0, 1) := by decide +kernel
theorem dX6_readsBehind_110 : decode cX6_readsBehind 110 = .ok (.iconst 0, 1) := by decide +kernel
theorem dX6_readsBehind_111 : decode cX6_readsBehind 111 = .ok (.ldc2_w 116, 3) := by decide +kernel
theorem dX6_readsBehind_114 : decode cX6_readsBehind 114 = .ok (.invokevirtual 44, 3) := by decide +kernel
theorem dX6_readsBehind_117 : decode cX6_readsBehind 117 = .ok (.lastore, 1) := by decide +kernel
theorem dX6_readsBehind_118 : decode cX6_readsBehind 118 = .ok (.aload_n 2, 1) := by decide +kernel
theorem dX6_readsBehind_119 : decode cX6_readsBehind 119 = .ok (.getfield 112, 3) := by decide +kernel
theorem dX6_readsBehind_122 : decode cX6_readsBehind 122 = .ok (.iconst 3, 1) := by decide +kernel
theorem dX6_readsBehind_123 : decode cX6_readsBehind 123 = .ok (.laload, 1) := by decide +kernel
theorem dX6_readsBehind_124 : decode cX6_readsBehind 124 = .ok (.lconst 0, 1) := by decide +kernel
theorem dX6_readsBehind_125 : decode cX6_readsBehind 125 = .ok (.lcmp, 1) := by decide +kernel
theorem dX6_readsBehind_126 : decode cX6_readsBehind 126 = .ok (.ifCond .lt 7, 3) := by decide +kernel
theorem dX6_readsBehind_129 : decode cX6_readsBehind 129 = .ok (.iconst 1, 1) := by decide +kernel
theorem dX6_readsBehind_130 : decode cX6_readsBehind 130 = .ok (.goto 4, 3) := by decide +kernel
theorem dX6_readsBehind_133 : decode cX6_readsBehind 133 = .ok (.iconst 0, 1) := by decide +kernel
theorem dX6_readsBehind_134 : decode cX6_readsBehind 134 = .ok (.ireturn, 1) := by decide +kernel
theorem dX6_readsBehind_135 : decode cX6_readsBehind 135 = .ok (.aload_n 2, 1) := by decide +kernel
theorem dX6_readsBehind_136 : decode cX6_readsBehind 136 = .ok (.getfield 112, 3) := by decide +kernel
theorem dX6_readsBehind_139 : decode cX6_readsBehind 139 = .ok (.iconst 4, 1) := by decide +kernel
theorem dX6_readsBehind_140 : decode cX6_readsBehind 140 = .ok (.lconst 1, 1) := by decide +kernel
theorem dX6_readsBehind_141 : decode cX6_readsBehind 141 = .ok (.lastore, 1) := by decide +kernel
theorem dX6_readsBehind_142 : decode cX6_readsBehind 142 = .ok (.iconst 1, 1) := by decide +kernel
theorem dX6_readsBehind_143 : decode cX6_readsBehind 143 = .ok (.ireturn, 1) := by decide +kernel
theorem dX6_readsBehind_144 : decode cX6_readsBehind 144 = .ok (.aload_n 2, 1) := by decide +kernel
theorem dX6_readsBehind_145 : decode cX6_readsBehind 145 = .ok (.getfield 112, 3) := by decide +kernel
theorem dX6_readsBehind_148 : decode cX6_readsBehind 148 = .ok (.iconst 5, 1) := by decide +kernel
theorem dX6_readsBehind_149 : decode cX6_readsBehind 149 = .ok (.lconst 1, 1) := by decide +kernel
theorem dX6_readsBehind_150 : decode cX6_readsBehind 150 = .ok (.lastore, 1) := by decide +kernel
theorem dX6_readsBehind_151 : decode cX6_readsBehind 151 = .ok (.iconst 1, 1) := by decide +kernel
theorem dX6_readsBehind_152 : decode cX6_readsBehind 152 = .ok (.ireturn, 1) := by decide +kernel
theorem dX6_readsBehind_153 : decode cX6_readsBehind 153 = .ok (.aload_n 2, 1) := by decide +kernel
theorem dX6_readsBehind_154 : decode cX6_readsBehind 154 = .ok (.getfield 112, 3) := by decide +kernel
theorem dX6_readsBehind_157 : decode cX6_readsBehind 157 = .ok (.iconst 2, 1) := by decide +kernel
theorem dX6_readsBehind_158 : decode cX6_readsBehind 158 = .ok (.iload_n 1, 1) := by decide +kernel
theorem dX6_readsBehind_159 : decode cX6_readsBehind 159 = .ok (.iconst 2, 1) := by decide +kernel
theorem dX6_readsBehind_160 : decode cX6_readsBehind 160 = .ok (.isub, 1) := by decide +kernel
theorem dX6_readsBehind_161 : decode cX6_readsBehind 161 = .ok (.iconst 1, 1) := by decide +kernel
theorem dX6_readsBehind_162 : decode cX6_readsBehind 162 = .ok (.iadd, 1) := by decide +kernel
theorem dX6_readsBehind_163 : decode cX6_readsBehind 163 = .ok (.i2l, 1) := by decide +kernel
theorem dX6_readsBehind_164 : decode cX6_readsBehind 164 = .ok (.lastore, 1) := by decide +kernel
theorem dX6_readsBehind_165 : decode cX6_readsBehind 165 = .ok (.iconst 1, 1) := by decide +kernel
theorem dX6_readsBehind_166 : decode cX6_readsBehind 166 = .ok (.ireturn, 1) := by decide +kernel
theorem dX6_readsMoney_0 : decode cX6_readsMoney 0 = .ok (.iconst (-1), 1) := by decide +kernel
theorem dX6_readsMoney_1 : decode cX6_readsMoney 1 = .ok (.istore_n 2, 1) := by decide +kernel
theorem dX6_readsMoney_2 : decode cX6_readsMoney 2 = .ok (.iconst 0, 1) := by decide +kernel
theorem dX6_readsMoney_3 : decode cX6_readsMoney 3 = .ok (.istore_n 3, 1) := by decide +kernel
theorem dX6_readsMoney_4 : decode cX6_readsMoney 4 = .ok (.iload_n 3, 1) := by decide +kernel
theorem dX6_readsMoney_5 : decode cX6_readsMoney 5 = .ok (.bipush 8, 2) := by decide +kernel
theorem dX6_readsMoney_7 : decode cX6_readsMoney 7 = .ok (.if_icmp .ge 115, 3) := by decide +kernel
theorem dX6_readsMoney_10 : decode cX6_readsMoney 10 = .ok (.aload_n 0, 1) := by decide +kernel
theorem dX6_readsMoney_11 : decode cX6_readsMoney 11 = .ok (.invokevirtual 35, 3) := by decide +kernel
theorem dX6_readsMoney_14 : decode cX6_readsMoney 14 = .ok (.istore 4, 2) := by decide +kernel
theorem dX6_readsMoney_16 : decode cX6_readsMoney 16 = .ok (.iload 4, 2) := by decide +kernel
theorem dX6_readsMoney_18 : decode cX6_readsMoney 18 = .ok (.iload_n 2, 1) := by decide +kernel
theorem dX6_readsMoney_19 : decode cX6_readsMoney 19 = .ok (.if_icmp .le 10, 3) := by decide +kernel
theorem dX6_readsMoney_22 : decode cX6_readsMoney 22 = .ok (.iload 4, 2) := by decide +kernel
theorem dX6_readsMoney_24 : decode cX6_readsMoney 24 = .ok (.bipush 8, 2) := by decide +kernel
theorem dX6_readsMoney_26 : decode cX6_readsMoney 26 = .ok (.if_icmp .lt 5, 3) := by decide +kernel
theorem dX6_readsMoney_29 : decode cX6_readsMoney 29 = .ok (.iconst 0, 1) := by decide +kernel
theorem dX6_readsMoney_30 : decode cX6_readsMoney 30 = .ok (.ireturn, 1) := by decide +kernel
theorem dX6_readsMoney_31 : decode cX6_readsMoney 31 = .ok (.aload_n 0, 1) := by decide +kernel
theorem dX6_readsMoney_32 : decode cX6_readsMoney 32 = .ok (.dup, 1) := by decide +kernel
theorem dX6_readsMoney_33 : decode cX6_readsMoney 33 = .ok (.getfield 19, 3) := by decide +kernel
theorem dX6_readsMoney_36 : decode cX6_readsMoney 36 = .ok (.iconst 1, 1) := by decide +kernel
theorem dX6_readsMoney_37 : decode cX6_readsMoney 37 = .ok (.iadd, 1) := by decide +kernel
theorem dX6_readsMoney_38 : decode cX6_readsMoney 38 = .ok (.putfield 19, 3) := by decide +kernel
theorem dX6_readsMoney_41 : decode cX6_readsMoney 41 = .ok (.aload_n 0, 1) := by decide +kernel
theorem dX6_readsMoney_42 : decode cX6_readsMoney 42 = .ok (.bipush 61, 2) := by decide +kernel
theorem dX6_readsMoney_44 : decode cX6_readsMoney 44 = .ok (.invokevirtual 31, 3) := by decide +kernel
theorem dX6_readsMoney_47 : decode cX6_readsMoney 47 = .ok (.ifCond .eq 14, 3) := by decide +kernel
theorem dX6_readsMoney_50 : decode cX6_readsMoney 50 = .ok (.aload_n 0, 1) := by decide +kernel
theorem dX6_readsMoney_51 : decode cX6_readsMoney 51 = .ok (.iconst 1, 1) := by decide +kernel
theorem dX6_readsMoney_52 : decode cX6_readsMoney 52 = .ok (.ldc2_w 118, 3) := by decide +kernel
theorem dX6_readsMoney_55 : decode cX6_readsMoney 55 = .ok (.invokevirtual 44, 3) := by decide +kernel
theorem dX6_readsMoney_58 : decode cX6_readsMoney 58 = .ok (.goto 6, 3) := by decide +kernel
theorem dX6_readsMoney_61 : decode cX6_readsMoney 61 = .ok (.ldc2_w 38, 3) := by decide +kernel
theorem dX6_readsMoney_64 : decode cX6_readsMoney 64 = .ok (.lstore 5, 2) := by decide +kernel
theorem dX6_readsMoney_66 : decode cX6_readsMoney 66 = .ok (.lload 5, 2) := by decide +kernel
theorem dX6_readsMoney_68 : decode cX6_readsMoney 68 = .ok (.lconst 1, 1) := by decide +kernel
theorem dX6_readsMoney_69 : decode cX6_readsMoney 69 = .ok (.lcmp, 1) := by decide +kernel
theorem dX6_readsMoney_70 : decode cX6_readsMoney 70 = .ok (.ifCond .ge 5, 3) := by decide +kernel
theorem dX6_readsMoney_73 : decode cX6_readsMoney 73 = .ok (.iconst 0, 1) := by decide +kernel
theorem dX6_readsMoney_74 : decode cX6_readsMoney 74 = .ok (.ireturn, 1) := by decide +kernel
theorem dX6_readsMoney_75 : decode cX6_readsMoney 75 = .ok (.aload_n 1, 1) := by decide +kernel
theorem dX6_readsMoney_76 : decode cX6_readsMoney 76 = .ok (.iload 4, 2) := by decide +kernel
theorem dX6_readsMoney_78 : decode cX6_readsMoney 78 = .ok (.lload 5, 2) := by decide +kernel
theorem dX6_readsMoney_80 : decode cX6_readsMoney 80 = .ok (.invokevirtual 120, 3) := by decide +kernel
theorem dX6_readsMoney_83 : decode cX6_readsMoney 83 = .ok (.iload 4, 2) := by decide +kernel
theorem dX6_readsMoney_85 : decode cX6_readsMoney 85 = .ok (.istore_n 2, 1) := by decide +kernel
theorem dX6_readsMoney_86 : decode cX6_readsMoney 86 = .ok (.aload_n 0, 1) := by decide +kernel
theorem dX6_readsMoney_87 : decode cX6_readsMoney 87 = .ok (.getfield 19, 3) := by decide +kernel
theorem dX6_readsMoney_90 : decode cX6_readsMoney 90 = .ok (.aload_n 0, 1) := by decide +kernel
theorem dX6_readsMoney_91 : decode cX6_readsMoney 91 = .ok (.getfield 15, 3) := by decide +kernel
theorem dX6_readsMoney_94 : decode cX6_readsMoney 94 = .ok (.if_icmp .ne 5, 3) := by decide +kernel
theorem dX6_readsMoney_97 : decode cX6_readsMoney 97 = .ok (.iconst 1, 1) := by decide +kernel
theorem dX6_readsMoney_98 : decode cX6_readsMoney 98 = .ok (.ireturn, 1) := by decide +kernel
theorem dX6_readsMoney_99 : decode cX6_readsMoney 99 = .ok (.iload_n 2, 1) := by decide +kernel
theorem dX6_readsMoney_100 : decode cX6_readsMoney 100 = .ok (.bipush 7, 2) := by decide +kernel
theorem dX6_readsMoney_102 : decode cX6_readsMoney 102 = .ok (.if_icmp .eq 12, 3) := by decide +kernel
theorem dX6_readsMoney_105 : decode cX6_readsMoney 105 = .ok (.aload_n 0, 1) := by decide +kernel
theorem dX6_readsMoney_106 : decode cX6_readsMoney 106 = .ok (.bipush 44, 2) := by decide +kernel
theorem dX6_readsMoney_108 : decode cX6_readsMoney 108 = .ok (.invokevirtual 31, 3) := by decide +kernel
theorem dX6_readsMoney_111 : decode cX6_readsMoney 111 = .ok (.ifCond .ne 5, 3) := by decide +kernel
theorem dX6_readsMoney_114 : decode cX6_readsMoney 114 = .ok (.iconst 0, 1) := by decide +kernel
theorem dX6_readsMoney_115 : decode cX6_readsMoney 115 = .ok (.ireturn, 1) := by decide +kernel
theorem dX6_readsMoney_116 : decode cX6_readsMoney 116 = .ok (.iinc 3 1, 3) := by decide +kernel
theorem dX6_readsMoney_119 : decode cX6_readsMoney 119 = .ok (.goto (-115), 3) := by decide +kernel
theorem dX6_readsMoney_122 : decode cX6_readsMoney 122 = .ok (.iconst 0, 1) := by decide +kernel
theorem dX6_readsMoney_123 : decode cX6_readsMoney 123 = .ok (.ireturn, 1) := by decide +kernel
theorem dJ0_length_8abf5_0 : decode cJ0_length_8abf5 0 = .ok (.aload_n 0, 1) := by decide +kernel
theorem dJ0_length_8abf5_1 : decode cJ0_length_8abf5 1 = .ok (.getfield 9, 3) := by decide +kernel
theorem dJ0_length_8abf5_4 : decode cJ0_length_8abf5 4 = .ok (.arraylength, 1) := by decide +kernel
theorem dJ0_length_8abf5_5 : decode cJ0_length_8abf5 5 = .ok (.aload_n 0, 1) := by decide +kernel
theorem dJ0_length_8abf5_6 : decode cJ0_length_8abf5 6 = .ok (.invokevirtual 335, 3) := by decide +kernel
theorem dJ0_length_8abf5_9 : decode cJ0_length_8abf5 9 = .ok (.ishr, 1) := by decide +kernel
theorem dJ0_length_8abf5_10 : decode cJ0_length_8abf5 10 = .ok (.ireturn, 1) := by decide +kernel
theorem dJ0_charAt_5068e_0 : decode cJ0_charAt_5068e 0 = .ok (.aload_n 0, 1) := by decide +kernel
theorem dJ0_charAt_5068e_1 : decode cJ0_charAt_5068e 1 = .ok (.invokevirtual 492, 3) := by decide +kernel
theorem dJ0_charAt_5068e_4 : decode cJ0_charAt_5068e 4 = .ok (.ifCond .eq 12, 3) := by decide +kernel
theorem dJ0_charAt_5068e_7 : decode cJ0_charAt_5068e 7 = .ok (.aload_n 0, 1) := by decide +kernel
theorem dJ0_charAt_5068e_8 : decode cJ0_charAt_5068e 8 = .ok (.getfield 9, 3) := by decide +kernel
theorem dJ0_charAt_5068e_11 : decode cJ0_charAt_5068e 11 = .ok (.iload_n 1, 1) := by decide +kernel
theorem dJ0_charAt_5068e_12 : decode cJ0_charAt_5068e 12 = .ok (.invokestatic 495, 3) := by decide +kernel
theorem dJ0_charAt_5068e_15 : decode cJ0_charAt_5068e 15 = .ok (.ireturn, 1) := by decide +kernel
theorem dJ0_charAt_5068e_16 : decode cJ0_charAt_5068e 16 = .ok (.aload_n 0, 1) := by decide +kernel
theorem dJ0_charAt_5068e_17 : decode cJ0_charAt_5068e 17 = .ok (.getfield 9, 3) := by decide +kernel
theorem dJ0_charAt_5068e_20 : decode cJ0_charAt_5068e 20 = .ok (.iload_n 1, 1) := by decide +kernel
theorem dJ0_charAt_5068e_21 : decode cJ0_charAt_5068e 21 = .ok (.invokestatic 498, 3) := by decide +kernel
theorem dJ0_charAt_5068e_24 : decode cJ0_charAt_5068e 24 = .ok (.ireturn, 1) := by decide +kernel
theorem dJ0_coder_7d493_0 : decode cJ0_coder_7d493 0 = .ok (.getstatic 38, 3) := by decide +kernel
theorem dJ0_coder_7d493_3 : decode cJ0_coder_7d493 3 = .ok (.ifCond .eq 10, 3) := by decide +kernel
theorem dJ0_coder_7d493_6 : decode cJ0_coder_7d493 6 = .ok (.aload_n 0, 1) := by decide +kernel
theorem dJ0_coder_7d493_7 : decode cJ0_coder_7d493 7 = .ok (.getfield 15, 3) := by decide +kernel
theorem dJ0_coder_7d493_10 : decode cJ0_coder_7d493 10 = .ok (.goto 4, 3) := by decide +kernel
theorem dJ0_coder_7d493_13 : decode cJ0_coder_7d493 13 = .ok (.iconst 1, 1) := by decide +kernel
theorem dJ0_coder_7d493_14 : decode cJ0_coder_7d493 14 = .ok (.ireturn, 1) := by decide +kernel
theorem dJ0_isLatin1_aae02_0 : decode cJ0_isLatin1_aae02 0 = .ok (.getstatic 38, 3) := by decide +kernel
theorem dJ0_isLatin1_aae02_3 : decode cJ0_isLatin1_aae02 3 = .ok (.ifCond .eq 14, 3) := by decide +kernel
theorem dJ0_isLatin1_aae02_6 : decode cJ0_isLatin1_aae02 6 = .ok (.aload_n 0, 1) := by decide +kernel
theorem dJ0_isLatin1_aae02_7 : decode cJ0_isLatin1_aae02 7 = .ok (.getfield 15, 3) := by decide +kernel
theorem dJ0_isLatin1_aae02_10 : decode cJ0_isLatin1_aae02 10 = .ok (.ifCond .ne 7, 3) := by decide +kernel
theorem dJ0_isLatin1_aae02_13 : decode cJ0_isLatin1_aae02 13 = .ok (.iconst 1, 1) := by decide +kernel
theorem dJ0_isLatin1_aae02_14 : decode cJ0_isLatin1_aae02 14 = .ok (.goto 4, 3) := by decide +kernel
theorem dJ0_isLatin1_aae02_17 : decode cJ0_isLatin1_aae02 17 = .ok (.iconst 0, 1) := by decide +kernel
theorem dJ0_isLatin1_aae02_18 : decode cJ0_isLatin1_aae02 18 = .ok (.ireturn, 1) := by decide +kernel
theorem dJ0_checkIndex_df160_0 : decode cJ0_checkIndex_df160 0 = .ok (.iload_n 0, 1) := by decide +kernel
theorem dJ0_checkIndex_df160_1 : decode cJ0_checkIndex_df160 1 = .ok (.iload_n 1, 1) := by decide +kernel
theorem dJ0_checkIndex_df160_2 : decode cJ0_checkIndex_df160 2 = .ok (.getstatic 1053, 3) := by decide +kernel
theorem dJ0_checkIndex_df160_5 : decode cJ0_checkIndex_df160 5 = .ok (.invokestatic 1059, 3) := by decide +kernel
theorem dJ0_checkIndex_df160_8 : decode cJ0_checkIndex_df160 8 = .ok (.pop, 1) := by decide +kernel
theorem dJ0_checkIndex_df160_9 : decode cJ0_checkIndex_df160 9 = .ok (.return_, 1) := by decide +kernel
theorem dJ1_charAt_3b067_0 : decode cJ1_charAt_3b067 0 = .ok (.iload_n 1, 1) := by decide +kernel
theorem dJ1_charAt_3b067_1 : decode cJ1_charAt_3b067 1 = .ok (.aload_n 0, 1) := by decide +kernel
theorem dJ1_charAt_3b067_2 : decode cJ1_charAt_3b067 2 = .ok (.arraylength, 1) := by decide +kernel
theorem dJ1_charAt_3b067_3 : decode cJ1_charAt_3b067 3 = .ok (.invokestatic 9, 3) := by decide +kernel
theorem dJ1_charAt_3b067_6 : decode cJ1_charAt_3b067 6 = .ok (.aload_n 0, 1) := by decide +kernel
theorem dJ1_charAt_3b067_7 : decode cJ1_charAt_3b067 7 = .ok (.iload_n 1, 1) := by decide +kernel
theorem dJ1_charAt_3b067_8 : decode cJ1_charAt_3b067 8 = .ok (.baload, 1) := by decide +kernel
theorem dJ1_charAt_3b067_9 : decode cJ1_charAt_3b067 9 = .ok (.sipush 255, 3) := by decide +kernel
theorem dJ1_charAt_3b067_12 : decode cJ1_charAt_3b067 12 = .ok (.iand, 1) := by decide +kernel
theorem dJ1_charAt_3b067_13 : decode cJ1_charAt_3b067 13 = .ok (.i2c, 1) := by decide +kernel
theorem dJ1_charAt_3b067_14 : decode cJ1_charAt_3b067 14 = .ok (.ireturn, 1) := by decide +kernel
theorem dJ3_checkIndex_8e157_0 : decode cJ3_checkIndex_8e157 0 = .ok (.iload_n 0, 1) := by decide +kernel
theorem dJ3_checkIndex_8e157_1 : decode cJ3_checkIndex_8e157 1 = .ok (.ifCond .lt 8, 3) := by decide +kernel
theorem dJ3_checkIndex_8e157_4 : decode cJ3_checkIndex_8e157 4 = .ok (.iload_n 0, 1) := by decide +kernel
theorem dJ3_checkIndex_8e157_5 : decode cJ3_checkIndex_8e157 5 = .ok (.iload_n 1, 1) := by decide +kernel
theorem dJ3_checkIndex_8e157_6 : decode cJ3_checkIndex_8e157 6 = .ok (.if_icmp .lt 10, 3) := by decide +kernel
theorem dJ3_checkIndex_8e157_9 : decode cJ3_checkIndex_8e157 9 = .ok (.aload_n 2, 1) := by decide +kernel
theorem dJ3_checkIndex_8e157_10 : decode cJ3_checkIndex_8e157 10 = .ok (.iload_n 0, 1) := by decide +kernel
theorem dJ3_checkIndex_8e157_11 : decode cJ3_checkIndex_8e157 11 = .ok (.iload_n 1, 1) := by decide +kernel
theorem dJ3_checkIndex_8e157_12 : decode cJ3_checkIndex_8e157 12 = .ok (.invokestatic 95, 3) := by decide +kernel
theorem dJ3_checkIndex_8e157_15 : decode cJ3_checkIndex_8e157 15 = .ok (.athrow, 1) := by decide +kernel
theorem dJ3_checkIndex_8e157_16 : decode cJ3_checkIndex_8e157 16 = .ok (.iload_n 0, 1) := by decide +kernel
theorem dJ3_checkIndex_8e157_17 : decode cJ3_checkIndex_8e157 17 = .ok (.ireturn, 1) := by decide +kernel
