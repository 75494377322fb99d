theorem dX7_init_0 : decode cX7_init 0 = .ok (.aload_n 0, 1) := by decide +kernel
theorem dX7_init_1 : decode cX7_init 1 = .ok (.invokespecial 1, 3) := by decide +kernel
theorem dX7_init_4 : decode cX7_init 4 = .ok (.aload_n 0, 1) := by decide +kernel
theorem dX7_init_5 : decode cX7_init 5 = .ok (.sipush 165, 3) := by decide +kernel
theorem dX7_init_8 : decode cX7_init 8 = .ok (.newarray .int, 2) := by decide +kernel
theorem dX7_init_10 : decode cX7_init 10 = .ok (.putfield 7, 3) := by decide +kernel
theorem dX7_init_13 : decode cX7_init 13 = .ok (.aload_n 0, 1) := by decide +kernel
theorem dX7_init_14 : decode cX7_init 14 = .ok (.bipush 55, 2) := by decide +kernel
theorem dX7_init_16 : decode cX7_init 16 = .ok (.newarray .int, 2) := by decide +kernel
theorem dX7_init_18 : decode cX7_init 18 = .ok (.putfield 13, 3) := by decide +kernel
theorem dX7_init_21 : decode cX7_init 21 = .ok (.aload_n 0, 1) := by decide +kernel
theorem dX7_init_22 : decode cX7_init 22 = .ok (.iconst 2, 1) := by decide +kernel
theorem dX7_init_23 : decode cX7_init 23 = .ok (.newarray .boolean, 2) := by decide +kernel
theorem dX7_init_25 : decode cX7_init 25 = .ok (.putfield 16, 3) := by decide +kernel
theorem dX7_init_28 : decode cX7_init 28 = .ok (.aload_n 0, 1) := by decide +kernel
theorem dX7_init_29 : decode cX7_init 29 = .ok (.bipush 55, 2) := by decide +kernel
theorem dX7_init_31 : decode cX7_init 31 = .ok (.newarray .int, 2) := by decide +kernel
theorem dX7_init_33 : decode cX7_init 33 = .ok (.putfield 20, 3) := by decide +kernel
theorem dX7_init_36 : decode cX7_init 36 = .ok (.aload_n 0, 1) := by decide +kernel
theorem dX7_init_37 : decode cX7_init 37 = .ok (.sipush 160, 3) := by decide +kernel
theorem dX7_init_40 : decode cX7_init 40 = .ok (.newarray .int, 2) := by decide +kernel
theorem dX7_init_42 : decode cX7_init 42 = .ok (.putfield 23, 3) := by decide +kernel
theorem dX7_init_45 : decode cX7_init 45 = .ok (.aload_n 0, 1) := by decide +kernel
theorem dX7_init_46 : decode cX7_init 46 = .ok (.bipush 6, 2) := by decide +kernel
theorem dX7_init_48 : decode cX7_init 48 = .ok (.newarray .int, 2) := by decide +kernel
theorem dX7_init_50 : decode cX7_init 50 = .ok (.putfield 26, 3) := by decide +kernel
theorem dX7_init_53 : decode cX7_init 53 = .ok (.aload_n 0, 1) := by decide +kernel
theorem dX7_init_54 : decode cX7_init 54 = .ok (.bipush 6, 2) := by decide +kernel
theorem dX7_init_56 : decode cX7_init 56 = .ok (.newarray .int, 2) := by decide +kernel
theorem dX7_init_58 : decode cX7_init 58 = .ok (.putfield 29, 3) := by decide +kernel
theorem dX7_init_61 : decode cX7_init 61 = .ok (.aload_n 0, 1) := by decide +kernel
theorem dX7_init_62 : decode cX7_init 62 = .ok (.bipush 6, 2) := by decide +kernel
theorem dX7_init_64 : decode cX7_init 64 = .ok (.newarray .int, 2) := by decide +kernel
theorem dX7_init_66 : decode cX7_init 66 = .ok (.putfield 32, 3) := by decide +kernel
theorem dX7_init_69 : decode cX7_init 69 = .ok (.aload_n 0, 1) := by decide +kernel
theorem dX7_init_70 : decode cX7_init 70 = .ok (.bipush 6, 2) := by decide +kernel
theorem dX7_init_72 : decode cX7_init 72 = .ok (.newarray .int, 2) := by decide +kernel
theorem dX7_init_74 : decode cX7_init 74 = .ok (.putfield 35, 3) := by decide +kernel
theorem dX7_init_77 : decode cX7_init 77 = .ok (.aload_n 0, 1) := by decide +kernel
theorem dX7_init_78 : decode cX7_init 78 = .ok (.iconst 4, 1) := by decide +kernel
theorem dX7_init_79 : decode cX7_init 79 = .ok (.newarray .int, 2) := by decide +kernel
theorem dX7_init_81 : decode cX7_init 81 = .ok (.putfield 38, 3) := by decide +kernel
theorem dX7_init_84 : decode cX7_init 84 = .ok (.aload_n 0, 1) := by decide +kernel
theorem dX7_init_85 : decode cX7_init 85 = .ok (.iconst 4, 1) := by decide +kernel
theorem dX7_init_86 : decode cX7_init 86 = .ok (.newarray .int, 2) := by decide +kernel
theorem dX7_init_88 : decode cX7_init 88 = .ok (.putfield 41, 3) := by decide +kernel
theorem dX7_init_91 : decode cX7_init 91 = .ok (.aload_n 0, 1) := by decide +kernel
theorem dX7_init_92 : decode cX7_init 92 = .ok (.sipush 160, 3) := by decide +kernel
theorem dX7_init_95 : decode cX7_init 95 = .ok (.newarray .int, 2) := by decide +kernel
theorem dX7_init_97 : decode cX7_init 97 = .ok (.putfield 44, 3) := by decide +kernel
theorem dX7_init_100 : decode cX7_init 100 = .ok (.aload_n 0, 1) := by decide +kernel
theorem dX7_init_101 : decode cX7_init 101 = .ok (.bipush 55, 2) := by decide +kernel
theorem dX7_init_103 : decode cX7_init 103 = .ok (.newarray .int, 2) := by decide +kernel
theorem dX7_init_105 : decode cX7_init 105 = .ok (.putfield 47, 3) := by decide +kernel
theorem dX7_init_108 : decode cX7_init 108 = .ok (.iconst 0, 1) := by decide +kernel
theorem dX7_init_109 : decode cX7_init 109 = .ok (.istore_n 1, 1) := by decide +kernel
theorem dX7_init_110 : decode cX7_init 110 = .ok (.iload_n 1, 1) := by decide +kernel
theorem dX7_init_111 : decode cX7_init 111 = .ok (.iconst 4, 1) := by decide +kernel
theorem dX7_init_112 : decode cX7_init 112 = .ok (.if_icmp .ge 17, 3) := by decide +kernel
theorem dX7_init_115 : decode cX7_init 115 = .ok (.aload_n 0, 1) := by decide +kernel
theorem dX7_init_116 : decode cX7_init 116 = .ok (.getfield 38, 3) := by decide +kernel
theorem dX7_init_119 : decode cX7_init 119 = .ok (.iload_n 1, 1) := by decide +kernel
theorem dX7_init_120 : decode cX7_init 120 = .ok (.bipush (-4), 2) := by decide +kernel
theorem dX7_init_122 : decode cX7_init 122 = .ok (.iastore, 1) := by decide +kernel
theorem dX7_init_123 : decode cX7_init 123 = .ok (.iinc 1 1, 3) := by decide +kernel
theorem dX7_init_126 : decode cX7_init 126 = .ok (.goto (-16), 3) := by decide +kernel
theorem dX7_init_129 : decode cX7_init 129 = .ok (.aload_n 0, 1) := by decide +kernel
theorem dX7_init_130 : decode cX7_init 130 = .ok (.invokevirtual 50, 3) := by decide +kernel
theorem dX7_init_133 : decode cX7_init 133 = .ok (.aload_n 0, 1) := by decide +kernel
theorem dX7_init_134 : decode cX7_init 134 = .ok (.invokevirtual 53, 3) := by decide +kernel
theorem dX7_init_137 : decode cX7_init 137 = .ok (.return_, 1) := by decide +kernel
theorem dX7_in_0 : decode cX7_in 0 = .ok (.lload_n 0, 1) := by decide +kernel
theorem dX7_in_1 : decode cX7_in 1 = .ok (.lload_n 2, 1) := by decide +kernel
theorem dX7_in_2 : decode cX7_in 2 = .ok (.lcmp, 1) := by decide +kernel
theorem dX7_in_3 : decode cX7_in 3 = .ok (.ifCond .lt 14, 3) := by decide +kernel
theorem dX7_in_6 : decode cX7_in 6 = .ok (.lload_n 0, 1) := by decide +kernel
theorem dX7_in_7 : decode cX7_in 7 = .ok (.lload 4, 2) := by decide +kernel
theorem dX7_in_9 : decode cX7_in 9 = .ok (.lcmp, 1) := by decide +kernel
theorem dX7_in_10 : decode cX7_in 10 = .ok (.ifCond .gt 7, 3) := by decide +kernel
theorem dX7_in_13 : decode cX7_in 13 = .ok (.iconst 1, 1) := by decide +kernel
theorem dX7_in_14 : decode cX7_in 14 = .ok (.goto 4, 3) := by decide +kernel
theorem dX7_in_17 : decode cX7_in 17 = .ok (.iconst 0, 1) := by decide +kernel
theorem dX7_in_18 : decode cX7_in 18 = .ok (.ireturn, 1) := by decide +kernel
theorem dX7_flag_0 : decode cX7_flag 0 = .ok (.iload_n 0, 1) := by decide +kernel
theorem dX7_flag_1 : decode cX7_flag 1 = .ok (.ifCond .eq 7, 3) := by decide +kernel
theorem dX7_flag_4 : decode cX7_flag 4 = .ok (.iconst 1, 1) := by decide +kernel
theorem dX7_flag_5 : decode cX7_flag 5 = .ok (.goto 4, 3) := by decide +kernel
theorem dX7_flag_8 : decode cX7_flag 8 = .ok (.iconst 0, 1) := by decide +kernel
theorem dX7_flag_9 : decode cX7_flag 9 = .ok (.ireturn, 1) := by decide +kernel
theorem dX7_firstDraft_0 : decode cX7_firstDraft 0 = .ok (.iconst 0, 1) := by decide +kernel
theorem dX7_firstDraft_1 : decode cX7_firstDraft 1 = .ok (.istore_n 1, 1) := by decide +kernel
theorem dX7_firstDraft_2 : decode cX7_firstDraft 2 = .ok (.iload_n 1, 1) := by decide +kernel
theorem dX7_firstDraft_3 : decode cX7_firstDraft 3 = .ok (.bipush 55, 2) := by decide +kernel
theorem dX7_firstDraft_5 : decode cX7_firstDraft 5 = .ok (.if_icmp .ge 16, 3) := by decide +kernel
theorem dX7_firstDraft_8 : decode cX7_firstDraft 8 = .ok (.aload_n 0, 1) := by decide +kernel
theorem dX7_firstDraft_9 : decode cX7_firstDraft 9 = .ok (.getfield 20, 3) := by decide +kernel
theorem dX7_firstDraft_12 : decode cX7_firstDraft 12 = .ok (.iload_n 1, 1) := by decide +kernel
theorem dX7_firstDraft_13 : decode cX7_firstDraft 13 = .ok (.iconst 0, 1) := by decide +kernel
theorem dX7_firstDraft_14 : decode cX7_firstDraft 14 = .ok (.iastore, 1) := by decide +kernel
theorem dX7_firstDraft_15 : decode cX7_firstDraft 15 = .ok (.iinc 1 1, 3) := by decide +kernel
theorem dX7_firstDraft_18 : decode cX7_firstDraft 18 = .ok (.goto (-16), 3) := by decide +kernel
theorem dX7_firstDraft_21 : decode cX7_firstDraft 21 = .ok (.aload_n 0, 1) := by decide +kernel
theorem dX7_firstDraft_22 : decode cX7_firstDraft 22 = .ok (.getfield 20, 3) := by decide +kernel
theorem dX7_firstDraft_25 : decode cX7_firstDraft 25 = .ok (.iconst 0, 1) := by decide +kernel
theorem dX7_firstDraft_26 : decode cX7_firstDraft 26 = .ok (.iconst 5, 1) := by decide +kernel
theorem dX7_firstDraft_27 : decode cX7_firstDraft 27 = .ok (.iastore, 1) := by decide +kernel
theorem dX7_firstDraft_28 : decode cX7_firstDraft 28 = .ok (.aload_n 0, 1) := by decide +kernel
theorem dX7_firstDraft_29 : decode cX7_firstDraft 29 = .ok (.getfield 20, 3) := by decide +kernel
theorem dX7_firstDraft_32 : decode cX7_firstDraft 32 = .ok (.iconst 1, 1) := by decide +kernel
theorem dX7_firstDraft_33 : decode cX7_firstDraft 33 = .ok (.iconst 2, 1) := by decide +kernel
theorem dX7_firstDraft_34 : decode cX7_firstDraft 34 = .ok (.iastore, 1) := by decide +kernel
theorem dX7_firstDraft_35 : decode cX7_firstDraft 35 = .ok (.aload_n 0, 1) := by decide +kernel
theorem dX7_firstDraft_36 : decode cX7_firstDraft 36 = .ok (.iconst 0, 1) := by decide +kernel
theorem dX7_firstDraft_37 : decode cX7_firstDraft 37 = .ok (.putfield 56, 3) := by decide +kernel
theorem dX7_firstDraft_40 : decode cX7_firstDraft 40 = .ok (.aload_n 0, 1) := by decide +kernel
theorem dX7_firstDraft_41 : decode cX7_firstDraft 41 = .ok (.iconst 0, 1) := by decide +kernel
theorem dX7_firstDraft_42 : decode cX7_firstDraft 42 = .ok (.putfield 60, 3) := by decide +kernel
theorem dX7_firstDraft_45 : decode cX7_firstDraft 45 = .ok (.aload_n 0, 1) := by decide +kernel
theorem dX7_firstDraft_46 : decode cX7_firstDraft 46 = .ok (.iconst 0, 1) := by decide +kernel
theorem dX7_firstDraft_47 : decode cX7_firstDraft 47 = .ok (.putfield 63, 3) := by decide +kernel
theorem dX7_firstDraft_50 : decode cX7_firstDraft 50 = .ok (.aload_n 0, 1) := by decide +kernel
theorem dX7_firstDraft_51 : decode cX7_firstDraft 51 = .ok (.bipush (-4), 2) := by decide +kernel
theorem dX7_firstDraft_53 : decode cX7_firstDraft 53 = .ok (.putfield 66, 3) := by decide +kernel
theorem dX7_firstDraft_56 : decode cX7_firstDraft 56 = .ok (.return_, 1) := by decide +kernel
theorem dX7_keepDraft_0 : decode cX7_keepDraft 0 = .ok (.iconst 0, 1) := by decide +kernel
theorem dX7_keepDraft_1 : decode cX7_keepDraft 1 = .ok (.istore_n 1, 1) := by decide +kernel
theorem dX7_keepDraft_2 : decode cX7_keepDraft 2 = .ok (.iload_n 1, 1) := by decide +kernel
theorem dX7_keepDraft_3 : decode cX7_keepDraft 3 = .ok (.bipush 55, 2) := by decide +kernel
theorem dX7_keepDraft_5 : decode cX7_keepDraft 5 = .ok (.if_icmp .ge 21, 3) := by decide +kernel
theorem dX7_keepDraft_8 : decode cX7_keepDraft 8 = .ok (.aload_n 0, 1) := by decide +kernel
theorem dX7_keepDraft_9 : decode cX7_keepDraft 9 = .ok (.getfield 7, 3) := by decide +kernel
theorem dX7_keepDraft_12 : decode cX7_keepDraft 12 = .ok (.iload_n 1, 1) := by decide +kernel
theorem dX7_keepDraft_13 : decode cX7_keepDraft 13 = .ok (.aload_n 0, 1) := by decide +kernel
theorem dX7_keepDraft_14 : decode cX7_keepDraft 14 = .ok (.getfield 20, 3) := by decide +kernel
theorem dX7_keepDraft_17 : decode cX7_keepDraft 17 = .ok (.iload_n 1, 1) := by decide +kernel
theorem dX7_keepDraft_18 : decode cX7_keepDraft 18 = .ok (.iaload, 1) := by decide +kernel
theorem dX7_keepDraft_19 : decode cX7_keepDraft 19 = .ok (.iastore, 1) := by decide +kernel
theorem dX7_keepDraft_20 : decode cX7_keepDraft 20 = .ok (.iinc 1 1, 3) := by decide +kernel
theorem dX7_keepDraft_23 : decode cX7_keepDraft 23 = .ok (.goto (-21), 3) := by decide +kernel
theorem dX7_keepDraft_26 : decode cX7_keepDraft 26 = .ok (.aload_n 0, 1) := by decide +kernel
theorem dX7_keepDraft_27 : decode cX7_keepDraft 27 = .ok (.aload_n 0, 1) := by decide +kernel
theorem dX7_keepDraft_28 : decode cX7_keepDraft 28 = .ok (.getfield 56, 3) := by decide +kernel
theorem dX7_keepDraft_31 : decode cX7_keepDraft 31 = .ok (.putfield 69, 3) := by decide +kernel
theorem dX7_keepDraft_34 : decode cX7_keepDraft 34 = .ok (.iconst 0, 1) := by decide +kernel
theorem dX7_keepDraft_35 : decode cX7_keepDraft 35 = .ok (.istore_n 1, 1) := by decide +kernel
theorem dX7_keepDraft_36 : decode cX7_keepDraft 36 = .ok (.iload_n 1, 1) := by decide +kernel
theorem dX7_keepDraft_37 : decode cX7_keepDraft 37 = .ok (.bipush 6, 2) := by decide +kernel
theorem dX7_keepDraft_39 : decode cX7_keepDraft 39 = .ok (.if_icmp .ge 43, 3) := by decide +kernel
theorem dX7_keepDraft_42 : decode cX7_keepDraft 42 = .ok (.aload_n 0, 1) := by decide +kernel
theorem dX7_keepDraft_43 : decode cX7_keepDraft 43 = .ok (.getfield 7, 3) := by decide +kernel
theorem dX7_keepDraft_46 : decode cX7_keepDraft 46 = .ok (.bipush 6, 2) := by decide +kernel
theorem dX7_keepDraft_48 : decode cX7_keepDraft 48 = .ok (.bipush 6, 2) := by decide +kernel
theorem dX7_keepDraft_50 : decode cX7_keepDraft 50 = .ok (.iload_n 1, 1) := by decide +kernel
theorem dX7_keepDraft_51 : decode cX7_keepDraft 51 = .ok (.imul, 1) := by decide +kernel
theorem dX7_keepDraft_52 : decode cX7_keepDraft 52 = .ok (.iadd, 1) := by decide +kernel
theorem dX7_keepDraft_53 : decode cX7_keepDraft 53 = .ok (.iconst 5, 1) := by decide +kernel
theorem dX7_keepDraft_54 : decode cX7_keepDraft 54 = .ok (.iadd, 1) := by decide +kernel
theorem dX7_keepDraft_55 : decode cX7_keepDraft 55 = .ok (.iload_n 1, 1) := by decide +kernel
theorem dX7_keepDraft_56 : decode cX7_keepDraft 56 = .ok (.aload_n 0, 1) := by decide +kernel
theorem dX7_keepDraft_57 : decode cX7_keepDraft 57 = .ok (.getfield 69, 3) := by decide +kernel
theorem dX7_keepDraft_60 : decode cX7_keepDraft 60 = .ok (.if_icmp .ge 14, 3) := by decide +kernel
theorem dX7_keepDraft_63 : decode cX7_keepDraft 63 = .ok (.aload_n 0, 1) := by decide +kernel
theorem dX7_keepDraft_64 : decode cX7_keepDraft 64 = .ok (.getfield 63, 3) := by decide +kernel
theorem dX7_keepDraft_67 : decode cX7_keepDraft 67 = .ok (.iload_n 1, 1) := by decide +kernel
theorem dX7_keepDraft_68 : decode cX7_keepDraft 68 = .ok (.ishr, 1) := by decide +kernel
theorem dX7_keepDraft_69 : decode cX7_keepDraft 69 = .ok (.iconst 1, 1) := by decide +kernel
theorem dX7_keepDraft_70 : decode cX7_keepDraft 70 = .ok (.iand, 1) := by decide +kernel
theorem dX7_keepDraft_71 : decode cX7_keepDraft 71 = .ok (.goto 4, 3) := by decide +kernel
theorem dX7_keepDraft_74 : decode cX7_keepDraft 74 = .ok (.iconst 0, 1) := by decide +kernel
theorem dX7_keepDraft_75 : decode cX7_keepDraft 75 = .ok (.iastore, 1) := by decide +kernel
theorem dX7_keepDraft_76 : decode cX7_keepDraft 76 = .ok (.iinc 1 1, 3) := by decide +kernel
theorem dX7_keepDraft_79 : decode cX7_keepDraft 79 = .ok (.goto (-43), 3) := by decide +kernel
theorem dX7_keepDraft_82 : decode cX7_keepDraft 82 = .ok (.aload_n 0, 1) := by decide +kernel
theorem dX7_keepDraft_83 : decode cX7_keepDraft 83 = .ok (.getfield 16, 3) := by decide +kernel
theorem dX7_keepDraft_86 : decode cX7_keepDraft 86 = .ok (.iconst 0, 1) := by decide +kernel
theorem dX7_keepDraft_87 : decode cX7_keepDraft 87 = .ok (.iconst 0, 1) := by decide +kernel
theorem dX7_keepDraft_88 : decode cX7_keepDraft 88 = .ok (.bastore, 1) := by decide +kernel
theorem dX7_keepDraft_89 : decode cX7_keepDraft 89 = .ok (.aload_n 0, 1) := by decide +kernel
theorem dX7_keepDraft_90 : decode cX7_keepDraft 90 = .ok (.getfield 16, 3) := by decide +kernel
theorem dX7_keepDraft_93 : decode cX7_keepDraft 93 = .ok (.iconst 1, 1) := by decide +kernel
theorem dX7_keepDraft_94 : decode cX7_keepDraft 94 = .ok (.iconst 0, 1) := by decide +kernel
theorem dX7_keepDraft_95 : decode cX7_keepDraft 95 = .ok (.bastore, 1) := by decide +kernel
theorem dX7_keepDraft_96 : decode cX7_keepDraft 96 = .ok (.return_, 1) := by decide +kernel
theorem dX7_feed_0 : decode cX7_feed 0 = .ok (.iload_n 1, 1) := by decide +kernel
theorem dX7_feed_1 : decode cX7_feed 1 = .ok (.i2l, 1) := by decide +kernel
theorem dX7_feed_2 : decode cX7_feed 2 = .ok (.lconst 0, 1) := by decide +kernel
theorem dX7_feed_3 : decode cX7_feed 3 = .ok (.ldc2_w 72, 3) := by decide +kernel
theorem dX7_feed_6 : decode cX7_feed 6 = .ok (.invokestatic 74, 3) := by decide +kernel
theorem dX7_feed_9 : decode cX7_feed 9 = .ok (.ifCond .ne 5, 3) := by decide +kernel
theorem dX7_feed_12 : decode cX7_feed 12 = .ok (.iconst (-1), 1) := by decide +kernel
theorem dX7_feed_13 : decode cX7_feed 13 = .ok (.ireturn, 1) := by decide +kernel
theorem dX7_feed_14 : decode cX7_feed 14 = .ok (.aload_n 0, 1) := by decide +kernel
theorem dX7_feed_15 : decode cX7_feed 15 = .ok (.getfield 78, 3) := by decide +kernel
theorem dX7_feed_18 : decode cX7_feed 18 = .ok (.sipush 160, 3) := by decide +kernel
theorem dX7_feed_21 : decode cX7_feed 21 = .ok (.if_icmp .ne 6, 3) := by decide +kernel
theorem dX7_feed_24 : decode cX7_feed 24 = .ok (.bipush (-3), 2) := by decide +kernel
theorem dX7_feed_26 : decode cX7_feed 26 = .ok (.ireturn, 1) := by decide +kernel
theorem dX7_feed_27 : decode cX7_feed 27 = .ok (.aload_n 0, 1) := by decide +kernel
theorem dX7_feed_28 : decode cX7_feed 28 = .ok (.getfield 23, 3) := by decide +kernel
theorem dX7_feed_31 : decode cX7_feed 31 = .ok (.aload_n 0, 1) := by decide +kernel
theorem dX7_feed_32 : decode cX7_feed 32 = .ok (.getfield 78, 3) := by decide +kernel
theorem dX7_feed_35 : decode cX7_feed 35 = .ok (.iload_n 1, 1) := by decide +kernel
theorem dX7_feed_36 : decode cX7_feed 36 = .ok (.iastore, 1) := by decide +kernel
theorem dX7_feed_37 : decode cX7_feed 37 = .ok (.aload_n 0, 1) := by decide +kernel
theorem dX7_feed_38 : decode cX7_feed 38 = .ok (.dup, 1) := by decide +kernel
theorem dX7_feed_39 : decode cX7_feed 39 = .ok (.getfield 78, 3) := by decide +kernel
theorem dX7_feed_42 : decode cX7_feed 42 = .ok (.iconst 1, 1) := by decide +kernel
theorem dX7_feed_43 : decode cX7_feed 43 = .ok (.iadd, 1) := by decide +kernel
theorem dX7_feed_44 : decode cX7_feed 44 = .ok (.putfield 78, 3) := by decide +kernel
theorem dX7_feed_47 : decode cX7_feed 47 = .ok (.aload_n 0, 1) := by decide +kernel
theorem dX7_feed_48 : decode cX7_feed 48 = .ok (.getfield 78, 3) := by decide +kernel
theorem dX7_feed_51 : decode cX7_feed 51 = .ok (.ireturn, 1) := by decide +kernel
theorem dX7_end_0 : decode cX7_end 0 = .ok (.iload_n 1, 1) := by decide +kernel
theorem dX7_end_1 : decode cX7_end 1 = .ok (.i2l, 1) := by decide +kernel
theorem dX7_end_2 : decode cX7_end 2 = .ok (.lconst 0, 1) := by decide +kernel
theorem dX7_end_3 : decode cX7_end 3 = .ok (.aload_n 0, 1) := by decide +kernel
theorem dX7_end_4 : decode cX7_end 4 = .ok (.getfield 78, 3) := by decide +kernel
theorem dX7_end_7 : decode cX7_end 7 = .ok (.i2l, 1) := by decide +kernel
theorem dX7_end_8 : decode cX7_end 8 = .ok (.invokestatic 74, 3) := by decide +kernel
theorem dX7_end_11 : decode cX7_end 11 = .ok (.ifCond .ne 5, 3) := by decide +kernel
theorem dX7_end_14 : decode cX7_end 14 = .ok (.iconst (-1), 1) := by decide +kernel
theorem dX7_end_15 : decode cX7_end 15 = .ok (.ireturn, 1) := by decide +kernel
theorem dX7_end_16 : decode cX7_end 16 = .ok (.aload_n 0, 1) := by decide +kernel
theorem dX7_end_17 : decode cX7_end 17 = .ok (.getfield 78, 3) := by decide +kernel
theorem dX7_end_20 : decode cX7_end 20 = .ok (.istore_n 2, 1) := by decide +kernel
theorem dX7_end_21 : decode cX7_end 21 = .ok (.aload_n 0, 1) := by decide +kernel
theorem dX7_end_22 : decode cX7_end 22 = .ok (.iload_n 1, 1) := by decide +kernel
theorem dX7_end_23 : decode cX7_end 23 = .ok (.putfield 78, 3) := by decide +kernel
theorem dX7_end_26 : decode cX7_end 26 = .ok (.iload_n 2, 1) := by decide +kernel
theorem dX7_end_27 : decode cX7_end 27 = .ok (.ireturn, 1) := by decide +kernel
theorem dX7_needs_0 : decode cX7_needs 0 = .ok (.iload_n 1, 1) := by decide +kernel
theorem dX7_needs_1 : decode cX7_needs 1 = .ok (.ifCond .ne 23, 3) := by decide +kernel
theorem dX7_needs_4 : decode cX7_needs 4 = .ok (.aload_n 0, 1) := by decide +kernel
theorem dX7_needs_5 : decode cX7_needs 5 = .ok (.getfield 81, 3) := by decide +kernel
theorem dX7_needs_8 : decode cX7_needs 8 = .ok (.ifCond .ne 16, 3) := by decide +kernel
theorem dX7_needs_11 : decode cX7_needs 11 = .ok (.aload_n 0, 1) := by decide +kernel
theorem dX7_needs_12 : decode cX7_needs 12 = .ok (.iload_n 2, 1) := by decide +kernel
theorem dX7_needs_13 : decode cX7_needs 13 = .ok (.putfield 81, 3) := by decide +kernel
theorem dX7_needs_16 : decode cX7_needs 16 = .ok (.aload_n 0, 1) := by decide +kernel
theorem dX7_needs_17 : decode cX7_needs 17 = .ok (.aload_n 0, 1) := by decide +kernel
theorem dX7_needs_18 : decode cX7_needs 18 = .ok (.getfield 84, 3) := by decide +kernel
theorem dX7_needs_21 : decode cX7_needs 21 = .ok (.putfield 87, 3) := by decide +kernel
theorem dX7_needs_24 : decode cX7_needs 24 = .ok (.return_, 1) := by decide +kernel
theorem dX7_byteAt_0 : decode cX7_byteAt 0 = .ok (.iload_n 1, 1) := by decide +kernel
theorem dX7_byteAt_1 : decode cX7_byteAt 1 = .ok (.aload_n 0, 1) := by decide +kernel
theorem dX7_byteAt_2 : decode cX7_byteAt 2 = .ok (.getfield 78, 3) := by decide +kernel
theorem dX7_byteAt_5 : decode cX7_byteAt 5 = .ok (.if_icmp .ge 12, 3) := by decide +kernel
theorem dX7_byteAt_8 : decode cX7_byteAt 8 = .ok (.aload_n 0, 1) := by decide +kernel
theorem dX7_byteAt_9 : decode cX7_byteAt 9 = .ok (.getfield 23, 3) := by decide +kernel
theorem dX7_byteAt_12 : decode cX7_byteAt 12 = .ok (.iload_n 1, 1) := by decide +kernel
theorem dX7_byteAt_13 : decode cX7_byteAt 13 = .ok (.iaload, 1) := by decide +kernel
theorem dX7_byteAt_14 : decode cX7_byteAt 14 = .ok (.goto 4, 3) := by decide +kernel
theorem dX7_byteAt_17 : decode cX7_byteAt 17 = .ok (.iconst (-1), 1) := by decide +kernel
theorem dX7_byteAt_18 : decode cX7_byteAt 18 = .ok (.ireturn, 1) := by decide +kernel
theorem dX7_is_0 : decode cX7_is 0 = .ok (.aload_n 0, 1) := by decide +kernel
theorem dX7_is_1 : decode cX7_is 1 = .ok (.getfield 90, 3) := by decide +kernel
theorem dX7_is_4 : decode cX7_is 4 = .ok (.aload_n 0, 1) := by decide +kernel
theorem dX7_is_5 : decode cX7_is 5 = .ok (.getfield 84, 3) := by decide +kernel
theorem dX7_is_8 : decode cX7_is 8 = .ok (.isub, 1) := by decide +kernel
theorem dX7_is_9 : decode cX7_is 9 = .ok (.iload_n 1, 1) := by decide +kernel
theorem dX7_is_10 : decode cX7_is 10 = .ok (.if_icmp .ne 68, 3) := by decide +kernel
theorem dX7_is_13 : decode cX7_is 13 = .ok (.aload_n 0, 1) := by decide +kernel
theorem dX7_is_14 : decode cX7_is 14 = .ok (.aload_n 0, 1) := by decide +kernel
theorem dX7_is_15 : decode cX7_is 15 = .ok (.getfield 84, 3) := by decide +kernel
theorem dX7_is_18 : decode cX7_is 18 = .ok (.invokevirtual 93, 3) := by decide +kernel
theorem dX7_is_21 : decode cX7_is 21 = .ok (.iload_n 2, 1) := by decide +kernel
theorem dX7_is_22 : decode cX7_is 22 = .ok (.if_icmp .ne 56, 3) := by decide +kernel
theorem dX7_is_25 : decode cX7_is 25 = .ok (.aload_n 0, 1) := by decide +kernel
theorem dX7_is_26 : decode cX7_is 26 = .ok (.aload_n 0, 1) := by decide +kernel
theorem dX7_is_27 : decode cX7_is 27 = .ok (.getfield 84, 3) := by decide +kernel
theorem dX7_is_30 : decode cX7_is 30 = .ok (.iconst 1, 1) := by decide +kernel
theorem dX7_is_31 : decode cX7_is 31 = .ok (.iadd, 1) := by decide +kernel
theorem dX7_is_32 : decode cX7_is 32 = .ok (.invokevirtual 93, 3) := by decide +kernel
theorem dX7_is_35 : decode cX7_is 35 = .ok (.iload_n 3, 1) := by decide +kernel
theorem dX7_is_36 : decode cX7_is 36 = .ok (.if_icmp .ne 42, 3) := by decide +kernel
theorem dX7_is_39 : decode cX7_is 39 = .ok (.aload_n 0, 1) := by decide +kernel
theorem dX7_is_40 : decode cX7_is 40 = .ok (.aload_n 0, 1) := by decide +kernel
theorem dX7_is_41 : decode cX7_is 41 = .ok (.getfield 84, 3) := by decide +kernel
theorem dX7_is_44 : decode cX7_is 44 = .ok (.iconst 2, 1) := by decide +kernel
theorem dX7_is_45 : decode cX7_is 45 = .ok (.iadd, 1) := by decide +kernel
theorem dX7_is_46 : decode cX7_is 46 = .ok (.invokevirtual 93, 3) := by decide +kernel
theorem dX7_is_49 : decode cX7_is 49 = .ok (.iload 4, 2) := by decide +kernel
theorem dX7_is_51 : decode cX7_is 51 = .ok (.if_icmp .ne 27, 3) := by decide +kernel
theorem dX7_is_54 : decode cX7_is 54 = .ok (.iload 5, 2) := by decide +kernel
theorem dX7_is_56 : decode cX7_is 56 = .ok (.ifCond .eq 18, 3) := by decide +kernel
theorem dX7_is_59 : decode cX7_is 59 = .ok (.aload_n 0, 1) := by decide +kernel
theorem dX7_is_60 : decode cX7_is 60 = .ok (.aload_n 0, 1) := by decide +kernel
theorem dX7_is_61 : decode cX7_is 61 = .ok (.getfield 84, 3) := by decide +kernel
theorem dX7_is_64 : decode cX7_is 64 = .ok (.iconst 3, 1) := by decide +kernel
theorem dX7_is_65 : decode cX7_is 65 = .ok (.iadd, 1) := by decide +kernel
theorem dX7_is_66 : decode cX7_is 66 = .ok (.invokevirtual 93, 3) := by decide +kernel
theorem dX7_is_69 : decode cX7_is 69 = .ok (.iload 5, 2) := by decide +kernel
theorem dX7_is_71 : decode cX7_is 71 = .ok (.if_icmp .ne 7, 3) := by decide +kernel
theorem dX7_is_74 : decode cX7_is 74 = .ok (.iconst 1, 1) := by decide +kernel
theorem dX7_is_75 : decode cX7_is 75 = .ok (.goto 4, 3) := by decide +kernel
theorem dX7_is_78 : decode cX7_is 78 = .ok (.iconst 0, 1) := by decide +kernel
theorem dX7_is_79 : decode cX7_is 79 = .ok (.ireturn, 1) := by decide +kernel
theorem dX7_endsWith_0 : decode cX7_endsWith 0 = .ok (.aload_n 0, 1) := by decide +kernel
theorem dX7_endsWith_1 : decode cX7_endsWith 1 = .ok (.aload_n 0, 1) := by decide +kernel
theorem dX7_endsWith_2 : decode cX7_endsWith 2 = .ok (.getfield 84, 3) := by decide +kernel
theorem dX7_endsWith_5 : decode cX7_endsWith 5 = .ok (.iconst 4, 1) := by decide +kernel
theorem dX7_endsWith_6 : decode cX7_endsWith 6 = .ok (.iadd, 1) := by decide +kernel
theorem dX7_endsWith_7 : decode cX7_endsWith 7 = .ok (.invokevirtual 93, 3) := by decide +kernel
theorem dX7_endsWith_10 : decode cX7_endsWith 10 = .ok (.iload_n 1, 1) := by decide +kernel
theorem dX7_endsWith_11 : decode cX7_endsWith 11 = .ok (.if_icmp .ne 7, 3) := by decide +kernel
theorem dX7_endsWith_14 : decode cX7_endsWith 14 = .ok (.iconst 1, 1) := by decide +kernel
theorem dX7_endsWith_15 : decode cX7_endsWith 15 = .ok (.goto 4, 3) := by decide +kernel
theorem dX7_endsWith_18 : decode cX7_endsWith 18 = .ok (.iconst 0, 1) := by decide +kernel
theorem dX7_endsWith_19 : decode cX7_endsWith 19 = .ok (.ireturn, 1) := by decide +kernel
theorem dX7_lineNow_0 : decode cX7_lineNow 0 = .ok (.aload_n 0, 1) := by decide +kernel
theorem dX7_lineNow_1 : decode cX7_lineNow 1 = .ok (.iconst 5, 1) := by decide +kernel
theorem dX7_lineNow_2 : decode cX7_lineNow 2 = .ok (.bipush 97, 2) := by decide +kernel
theorem dX7_lineNow_4 : decode cX7_lineNow 4 = .ok (.bipush 98, 2) := by decide +kernel
theorem dX7_lineNow_6 : decode cX7_lineNow 6 = .ok (.bipush 111, 2) := by decide +kernel
theorem dX7_lineNow_8 : decode cX7_lineNow 8 = .ok (.bipush 118, 2) := by decide +kernel
theorem dX7_lineNow_10 : decode cX7_lineNow 10 = .ok (.invokevirtual 97, 3) := by decide +kernel
theorem dX7_lineNow_13 : decode cX7_lineNow 13 = .ok (.ifCond .eq 14, 3) := by decide +kernel
theorem dX7_lineNow_16 : decode cX7_lineNow 16 = .ok (.aload_n 0, 1) := by decide +kernel
theorem dX7_lineNow_17 : decode cX7_lineNow 17 = .ok (.bipush 101, 2) := by decide +kernel
theorem dX7_lineNow_19 : decode cX7_lineNow 19 = .ok (.invokevirtual 101, 3) := by decide +kernel
theorem dX7_lineNow_22 : decode cX7_lineNow 22 = .ok (.ifCond .eq 5, 3) := by decide +kernel
theorem dX7_lineNow_25 : decode cX7_lineNow 25 = .ok (.iconst 0, 1) := by decide +kernel
theorem dX7_lineNow_26 : decode cX7_lineNow 26 = .ok (.ireturn, 1) := by decide +kernel
theorem dX7_lineNow_27 : decode cX7_lineNow 27 = .ok (.aload_n 0, 1) := by decide +kernel
theorem dX7_lineNow_28 : decode cX7_lineNow 28 = .ok (.iconst 5, 1) := by decide +kernel
theorem dX7_lineNow_29 : decode cX7_lineNow 29 = .ok (.bipush 98, 2) := by decide +kernel
theorem dX7_lineNow_31 : decode cX7_lineNow 31 = .ok (.bipush 101, 2) := by decide +kernel
theorem dX7_lineNow_33 : decode cX7_lineNow 33 = .ok (.bipush 108, 2) := by decide +kernel
theorem dX7_lineNow_35 : decode cX7_lineNow 35 = .ok (.bipush 111, 2) := by decide +kernel
theorem dX7_lineNow_37 : decode cX7_lineNow 37 = .ok (.invokevirtual 97, 3) := by decide +kernel
theorem dX7_lineNow_40 : decode cX7_lineNow 40 = .ok (.ifCond .eq 14, 3) := by decide +kernel
theorem dX7_lineNow_43 : decode cX7_lineNow 43 = .ok (.aload_n 0, 1) := by decide +kernel
theorem dX7_lineNow_44 : decode cX7_lineNow 44 = .ok (.bipush 119, 2) := by decide +kernel
theorem dX7_lineNow_46 : decode cX7_lineNow 46 = .ok (.invokevirtual 101, 3) := by decide +kernel
theorem dX7_lineNow_49 : decode cX7_lineNow 49 = .ok (.ifCond .eq 5, 3) := by decide +kernel
theorem dX7_lineNow_52 : decode cX7_lineNow 52 = .ok (.iconst 1, 1) := by decide +kernel
theorem dX7_lineNow_53 : decode cX7_lineNow 53 = .ok (.ireturn, 1) := by decide +kernel
theorem dX7_lineNow_54 : decode cX7_lineNow 54 = .ok (.aload_n 0, 1) := by decide +kernel
theorem dX7_lineNow_55 : decode cX7_lineNow 55 = .ok (.iconst 4, 1) := by decide +kernel
theorem dX7_lineNow_56 : decode cX7_lineNow 56 = .ok (.bipush 108, 2) := by decide +kernel
theorem dX7_lineNow_58 : decode cX7_lineNow 58 = .ok (.bipush 111, 2) := by decide +kernel
theorem dX7_lineNow_60 : decode cX7_lineNow 60 = .ok (.bipush 99, 2) := by decide +kernel
theorem dX7_lineNow_62 : decode cX7_lineNow 62 = .ok (.bipush 107, 2) := by decide +kernel
theorem dX7_lineNow_64 : decode cX7_lineNow 64 = .ok (.invokevirtual 97, 3) := by decide +kernel
theorem dX7_lineNow_67 : decode cX7_lineNow 67 = .ok (.ifCond .eq 5, 3) := by decide +kernel
theorem dX7_lineNow_70 : decode cX7_lineNow 70 = .ok (.iconst 2, 1) := by decide +kernel
theorem dX7_lineNow_71 : decode cX7_lineNow 71 = .ok (.ireturn, 1) := by decide +kernel
theorem dX7_lineNow_72 : decode cX7_lineNow 72 = .ok (.aload_n 0, 1) := by decide +kernel
theorem dX7_lineNow_73 : decode cX7_lineNow 73 = .ok (.iconst 3, 1) := by decide +kernel
theorem dX7_lineNow_74 : decode cX7_lineNow 74 = .ok (.bipush 108, 2) := by decide +kernel
theorem dX7_lineNow_76 : decode cX7_lineNow 76 = .ok (.bipush 97, 2) := by decide +kernel
theorem dX7_lineNow_78 : decode cX7_lineNow 78 = .ok (.bipush 119, 2) := by decide +kernel
theorem dX7_lineNow_80 : decode cX7_lineNow 80 = .ok (.iconst 0, 1) := by decide +kernel
theorem dX7_lineNow_81 : decode cX7_lineNow 81 = .ok (.invokevirtual 97, 3) := by decide +kernel
theorem dX7_lineNow_84 : decode cX7_lineNow 84 = .ok (.ifCond .eq 5, 3) := by decide +kernel
theorem dX7_lineNow_87 : decode cX7_lineNow 87 = .ok (.iconst 3, 1) := by decide +kernel
theorem dX7_lineNow_88 : decode cX7_lineNow 88 = .ok (.ireturn, 1) := by decide +kernel
theorem dX7_lineNow_89 : decode cX7_lineNow 89 = .ok (.aload_n 0, 1) := by decide +kernel
theorem dX7_lineNow_90 : decode cX7_lineNow 90 = .ok (.iconst 4, 1) := by decide +kernel
theorem dX7_lineNow_91 : decode cX7_lineNow 91 = .ok (.bipush 112, 2) := by decide +kernel
theorem dX7_lineNow_93 : decode cX7_lineNow 93 = .ok (.bipush 111, 2) := by decide +kernel
theorem dX7_lineNow_95 : decode cX7_lineNow 95 = .ok (.bipush 115, 2) := by decide +kernel
theorem dX7_lineNow_97 : decode cX7_lineNow 97 = .ok (.bipush 116, 2) := by decide +kernel
theorem dX7_lineNow_99 : decode cX7_lineNow 99 = .ok (.invokevirtual 97, 3) := by decide +kernel
theorem dX7_lineNow_102 : decode cX7_lineNow 102 = .ok (.ifCond .eq 5, 3) := by decide +kernel
theorem dX7_lineNow_105 : decode cX7_lineNow 105 = .ok (.iconst 4, 1) := by decide +kernel
theorem dX7_lineNow_106 : decode cX7_lineNow 106 = .ok (.ireturn, 1) := by decide +kernel
theorem dX7_lineNow_107 : decode cX7_lineNow 107 = .ok (.aload_n 0, 1) := by decide +kernel
theorem dX7_lineNow_108 : decode cX7_lineNow 108 = .ok (.iconst 4, 1) := by decide +kernel
theorem dX7_lineNow_109 : decode cX7_lineNow 109 = .ok (.bipush 104, 2) := by decide +kernel
theorem dX7_lineNow_111 : decode cX7_lineNow 111 = .ok (.bipush 97, 2) := by decide +kernel
theorem dX7_lineNow_113 : decode cX7_lineNow 113 = .ok (.bipush 110, 2) := by decide +kernel
theorem dX7_lineNow_115 : decode cX7_lineNow 115 = .ok (.bipush 100, 2) := by decide +kernel
theorem dX7_lineNow_117 : decode cX7_lineNow 117 = .ok (.invokevirtual 97, 3) := by decide +kernel
theorem dX7_lineNow_120 : decode cX7_lineNow 120 = .ok (.ifCond .eq 7, 3) := by decide +kernel
theorem dX7_lineNow_123 : decode cX7_lineNow 123 = .ok (.iconst 5, 1) := by decide +kernel
theorem dX7_lineNow_124 : decode cX7_lineNow 124 = .ok (.goto 26, 3) := by decide +kernel
theorem dX7_lineNow_127 : decode cX7_lineNow 127 = .ok (.aload_n 0, 1) := by decide +kernel
theorem dX7_lineNow_128 : decode cX7_lineNow 128 = .ok (.iconst 4, 1) := by decide +kernel
theorem dX7_lineNow_129 : decode cX7_lineNow 129 = .ok (.bipush 108, 2) := by decide +kernel
theorem dX7_lineNow_131 : decode cX7_lineNow 131 = .ok (.bipush 105, 2) := by decide +kernel
theorem dX7_lineNow_133 : decode cX7_lineNow 133 = .ok (.bipush 97, 2) := by decide +kernel
theorem dX7_lineNow_135 : decode cX7_lineNow 135 = .ok (.bipush 114, 2) := by decide +kernel
theorem dX7_lineNow_137 : decode cX7_lineNow 137 = .ok (.invokevirtual 97, 3) := by decide +kernel
theorem dX7_lineNow_140 : decode cX7_lineNow 140 = .ok (.ifCond .eq 8, 3) := by decide +kernel
theorem dX7_lineNow_143 : decode cX7_lineNow 143 = .ok (.bipush 6, 2) := by decide +kernel
theorem dX7_lineNow_145 : decode cX7_lineNow 145 = .ok (.goto 5, 3) := by decide +kernel
theorem dX7_lineNow_148 : decode cX7_lineNow 148 = .ok (.bipush (-4), 2) := by decide +kernel
theorem dX7_lineNow_150 : decode cX7_lineNow 150 = .ok (.ireturn, 1) := by decide +kernel
theorem dX7_cargoNow_0 : decode cX7_cargoNow 0 = .ok (.aload_n 0, 1) := by decide +kernel
theorem dX7_cargoNow_1 : decode cX7_cargoNow 1 = .ok (.iconst 4, 1) := by decide +kernel
theorem dX7_cargoNow_2 : decode cX7_cargoNow 2 = .ok (.bipush 109, 2) := by decide +kernel
theorem dX7_cargoNow_4 : decode cX7_cargoNow 4 = .ok (.bipush 97, 2) := by decide +kernel
theorem dX7_cargoNow_6 : decode cX7_cargoNow 6 = .ok (.bipush 105, 2) := by decide +kernel
theorem dX7_cargoNow_8 : decode cX7_cargoNow 8 = .ok (.bipush 108, 2) := by decide +kernel
theorem dX7_cargoNow_10 : decode cX7_cargoNow 10 = .ok (.invokevirtual 97, 3) := by decide +kernel
theorem dX7_cargoNow_13 : decode cX7_cargoNow 13 = .ok (.ifCond .eq 5, 3) := by decide +kernel
theorem dX7_cargoNow_16 : decode cX7_cargoNow 16 = .ok (.iconst 0, 1) := by decide +kernel
theorem dX7_cargoNow_17 : decode cX7_cargoNow 17 = .ok (.ireturn, 1) := by decide +kernel
theorem dX7_cargoNow_18 : decode cX7_cargoNow 18 = .ok (.aload_n 0, 1) := by decide +kernel
theorem dX7_cargoNow_19 : decode cX7_cargoNow 19 = .ok (.iconst 4, 1) := by decide +kernel
theorem dX7_cargoNow_20 : decode cX7_cargoNow 20 = .ok (.bipush 102, 2) := by decide +kernel
theorem dX7_cargoNow_22 : decode cX7_cargoNow 22 = .ok (.bipush 105, 2) := by decide +kernel
theorem dX7_cargoNow_24 : decode cX7_cargoNow 24 = .ok (.bipush 115, 2) := by decide +kernel
theorem dX7_cargoNow_26 : decode cX7_cargoNow 26 = .ok (.bipush 104, 2) := by decide +kernel
theorem dX7_cargoNow_28 : decode cX7_cargoNow 28 = .ok (.invokevirtual 97, 3) := by decide +kernel
theorem dX7_cargoNow_31 : decode cX7_cargoNow 31 = .ok (.ifCond .eq 7, 3) := by decide +kernel
theorem dX7_cargoNow_34 : decode cX7_cargoNow 34 = .ok (.iconst 1, 1) := by decide +kernel
theorem dX7_cargoNow_35 : decode cX7_cargoNow 35 = .ok (.goto 45, 3) := by decide +kernel
theorem dX7_cargoNow_38 : decode cX7_cargoNow 38 = .ok (.aload_n 0, 1) := by decide +kernel
theorem dX7_cargoNow_39 : decode cX7_cargoNow 39 = .ok (.iconst 4, 1) := by decide +kernel
theorem dX7_cargoNow_40 : decode cX7_cargoNow 40 = .ok (.bipush 98, 2) := by decide +kernel
theorem dX7_cargoNow_42 : decode cX7_cargoNow 42 = .ok (.bipush 101, 2) := by decide +kernel
theorem dX7_cargoNow_44 : decode cX7_cargoNow 44 = .ok (.bipush 101, 2) := by decide +kernel
theorem dX7_cargoNow_46 : decode cX7_cargoNow 46 = .ok (.bipush 114, 2) := by decide +kernel
theorem dX7_cargoNow_48 : decode cX7_cargoNow 48 = .ok (.invokevirtual 97, 3) := by decide +kernel
theorem dX7_cargoNow_51 : decode cX7_cargoNow 51 = .ok (.ifCond .eq 7, 3) := by decide +kernel
theorem dX7_cargoNow_54 : decode cX7_cargoNow 54 = .ok (.iconst 2, 1) := by decide +kernel
theorem dX7_cargoNow_55 : decode cX7_cargoNow 55 = .ok (.goto 25, 3) := by decide +kernel
theorem dX7_cargoNow_58 : decode cX7_cargoNow 58 = .ok (.aload_n 0, 1) := by decide +kernel
theorem dX7_cargoNow_59 : decode cX7_cargoNow 59 = .ok (.iconst 4, 1) := by decide +kernel
theorem dX7_cargoNow_60 : decode cX7_cargoNow 60 = .ok (.bipush 99, 2) := by decide +kernel
theorem dX7_cargoNow_62 : decode cX7_cargoNow 62 = .ok (.bipush 111, 2) := by decide +kernel
theorem dX7_cargoNow_64 : decode cX7_cargoNow 64 = .ok (.bipush 97, 2) := by decide +kernel
theorem dX7_cargoNow_66 : decode cX7_cargoNow 66 = .ok (.bipush 108, 2) := by decide +kernel
theorem dX7_cargoNow_68 : decode cX7_cargoNow 68 = .ok (.invokevirtual 97, 3) := by decide +kernel
theorem dX7_cargoNow_71 : decode cX7_cargoNow 71 = .ok (.ifCond .eq 7, 3) := by decide +kernel
theorem dX7_cargoNow_74 : decode cX7_cargoNow 74 = .ok (.iconst 3, 1) := by decide +kernel
theorem dX7_cargoNow_75 : decode cX7_cargoNow 75 = .ok (.goto 5, 3) := by decide +kernel
theorem dX7_cargoNow_78 : decode cX7_cargoNow 78 = .ok (.bipush (-4), 2) := by decide +kernel
theorem dX7_cargoNow_80 : decode cX7_cargoNow 80 = .ok (.ireturn, 1) := by decide +kernel
theorem dX7_lawNow_0 : decode cX7_lawNow 0 = .ok (.aload_n 0, 1) := by decide +kernel
theorem dX7_lawNow_1 : decode cX7_lawNow 1 = .ok (.iconst 4, 1) := by decide +kernel
theorem dX7_lawNow_2 : decode cX7_lawNow 2 = .ok (.bipush 103, 2) := by decide +kernel
theorem dX7_lawNow_4 : decode cX7_lawNow 4 = .ok (.bipush 97, 2) := by decide +kernel
theorem dX7_lawNow_6 : decode cX7_lawNow 6 = .ok (.bipush 116, 2) := by decide +kernel
theorem dX7_lawNow_8 : decode cX7_lawNow 8 = .ok (.bipush 101, 2) := by decide +kernel
theorem dX7_lawNow_10 : decode cX7_lawNow 10 = .ok (.invokevirtual 97, 3) := by decide +kernel
theorem dX7_lawNow_13 : decode cX7_lawNow 13 = .ok (.ifCond .eq 5, 3) := by decide +kernel
theorem dX7_lawNow_16 : decode cX7_lawNow 16 = .ok (.iconst 0, 1) := by decide +kernel
theorem dX7_lawNow_17 : decode cX7_lawNow 17 = .ok (.ireturn, 1) := by decide +kernel
theorem dX7_lawNow_18 : decode cX7_lawNow 18 = .ok (.aload_n 0, 1) := by decide +kernel
theorem dX7_lawNow_19 : decode cX7_lawNow 19 = .ok (.iconst 5, 1) := by decide +kernel
theorem dX7_lawNow_20 : decode cX7_lawNow 20 = .ok (.bipush 114, 2) := by decide +kernel
theorem dX7_lawNow_22 : decode cX7_lawNow 22 = .ok (.bipush 101, 2) := by decide +kernel
theorem dX7_lawNow_24 : decode cX7_lawNow 24 = .ok (.bipush 97, 2) := by decide +kernel
theorem dX7_lawNow_26 : decode cX7_lawNow 26 = .ok (.bipush 100, 2) := by decide +kernel
theorem dX7_lawNow_28 : decode cX7_lawNow 28 = .ok (.invokevirtual 97, 3) := by decide +kernel
theorem dX7_lawNow_31 : decode cX7_lawNow 31 = .ok (.ifCond .eq 14, 3) := by decide +kernel
theorem dX7_lawNow_34 : decode cX7_lawNow 34 = .ok (.aload_n 0, 1) := by decide +kernel
theorem dX7_lawNow_35 : decode cX7_lawNow 35 = .ok (.bipush 121, 2) := by decide +kernel
theorem dX7_lawNow_37 : decode cX7_lawNow 37 = .ok (.invokevirtual 101, 3) := by decide +kernel
theorem dX7_lawNow_40 : decode cX7_lawNow 40 = .ok (.ifCond .eq 5, 3) := by decide +kernel
theorem dX7_lawNow_43 : decode cX7_lawNow 43 = .ok (.iconst 1, 1) := by decide +kernel
theorem dX7_lawNow_44 : decode cX7_lawNow 44 = .ok (.ireturn, 1) := by decide +kernel
theorem dX7_lawNow_45 : decode cX7_lawNow 45 = .ok (.aload_n 0, 1) := by decide +kernel
theorem dX7_lawNow_46 : decode cX7_lawNow 46 = .ok (.iconst 4, 1) := by decide +kernel
theorem dX7_lawNow_47 : decode cX7_lawNow 47 = .ok (.bipush 116, 2) := by decide +kernel
theorem dX7_lawNow_49 : decode cX7_lawNow 49 = .ok (.bipush 119, 2) := by decide +kernel
theorem dX7_lawNow_51 : decode cX7_lawNow 51 = .ok (.bipush 111, 2) := by decide +kernel
theorem dX7_lawNow_53 : decode cX7_lawNow 53 = .ok (.bipush 115, 2) := by decide +kernel
theorem dX7_lawNow_55 : decode cX7_lawNow 55 = .ok (.invokevirtual 97, 3) := by decide +kernel
theorem dX7_lawNow_58 : decode cX7_lawNow 58 = .ok (.ifCond .eq 5, 3) := by decide +kernel
theorem dX7_lawNow_61 : decode cX7_lawNow 61 = .ok (.iconst 2, 1) := by decide +kernel
theorem dX7_lawNow_62 : decode cX7_lawNow 62 = .ok (.ireturn, 1) := by decide +kernel
theorem dX7_lawNow_63 : decode cX7_lawNow 63 = .ok (.aload_n 0, 1) := by decide +kernel
theorem dX7_lawNow_64 : decode cX7_lawNow 64 = .ok (.iconst 5, 1) := by decide +kernel
theorem dX7_lawNow_65 : decode cX7_lawNow 65 = .ok (.bipush 99, 2) := by decide +kernel
theorem dX7_lawNow_67 : decode cX7_lawNow 67 = .ok (.bipush 97, 2) := by decide +kernel
theorem dX7_lawNow_69 : decode cX7_lawNow 69 = .ok (.bipush 114, 2) := by decide +kernel
theorem dX7_lawNow_71 : decode cX7_lawNow 71 = .ok (.bipush 103, 2) := by decide +kernel
theorem dX7_lawNow_73 : decode cX7_lawNow 73 = .ok (.invokevirtual 97, 3) := by decide +kernel
theorem dX7_lawNow_76 : decode cX7_lawNow 76 = .ok (.ifCond .eq 16, 3) := by decide +kernel
theorem dX7_lawNow_79 : decode cX7_lawNow 79 = .ok (.aload_n 0, 1) := by decide +kernel
theorem dX7_lawNow_80 : decode cX7_lawNow 80 = .ok (.bipush 111, 2) := by decide +kernel
theorem dX7_lawNow_82 : decode cX7_lawNow 82 = .ok (.invokevirtual 101, 3) := by decide +kernel
theorem dX7_lawNow_85 : decode cX7_lawNow 85 = .ok (.ifCond .eq 7, 3) := by decide +kernel
theorem dX7_lawNow_88 : decode cX7_lawNow 88 = .ok (.iconst 3, 1) := by decide +kernel
theorem dX7_lawNow_89 : decode cX7_lawNow 89 = .ok (.goto 34, 3) := by decide +kernel
theorem dX7_lawNow_92 : decode cX7_lawNow 92 = .ok (.aload_n 0, 1) := by decide +kernel
theorem dX7_lawNow_93 : decode cX7_lawNow 93 = .ok (.iconst 5, 1) := by decide +kernel
theorem dX7_lawNow_94 : decode cX7_lawNow 94 = .ok (.bipush 113, 2) := by decide +kernel
theorem dX7_lawNow_96 : decode cX7_lawNow 96 = .ok (.bipush 117, 2) := by decide +kernel
theorem dX7_lawNow_98 : decode cX7_lawNow 98 = .ok (.bipush 101, 2) := by decide +kernel
theorem dX7_lawNow_100 : decode cX7_lawNow 100 = .ok (.bipush 117, 2) := by decide +kernel
theorem dX7_lawNow_102 : decode cX7_lawNow 102 = .ok (.invokevirtual 97, 3) := by decide +kernel
theorem dX7_lawNow_105 : decode cX7_lawNow 105 = .ok (.ifCond .eq 16, 3) := by decide +kernel
theorem dX7_lawNow_108 : decode cX7_lawNow 108 = .ok (.aload_n 0, 1) := by decide +kernel
theorem dX7_lawNow_109 : decode cX7_lawNow 109 = .ok (.bipush 101, 2) := by decide +kernel
theorem dX7_lawNow_111 : decode cX7_lawNow 111 = .ok (.invokevirtual 101, 3) := by decide +kernel
theorem dX7_lawNow_114 : decode cX7_lawNow 114 = .ok (.ifCond .eq 7, 3) := by decide +kernel
theorem dX7_lawNow_117 : decode cX7_lawNow 117 = .ok (.iconst 4, 1) := by decide +kernel
theorem dX7_lawNow_118 : decode cX7_lawNow 118 = .ok (.goto 5, 3) := by decide +kernel
theorem dX7_lawNow_121 : decode cX7_lawNow 121 = .ok (.bipush (-4), 2) := by decide +kernel
theorem dX7_lawNow_123 : decode cX7_lawNow 123 = .ok (.ireturn, 1) := by decide +kernel
theorem dX7_next_0 : decode cX7_next 0 = .ok (.aload_n 0, 1) := by decide +kernel
theorem dX7_next_1 : decode cX7_next 1 = .ok (.getfield 81, 3) := by decide +kernel
theorem dX7_next_4 : decode cX7_next 4 = .ok (.ifCond .le 4, 3) := by decide +kernel
theorem dX7_next_7 : decode cX7_next 7 = .ok (.return_, 1) := by decide +kernel
theorem dX7_next_8 : decode cX7_next 8 = .ok (.aload_n 0, 1) := by decide +kernel
theorem dX7_next_9 : decode cX7_next 9 = .ok (.aload_n 0, 1) := by decide +kernel
theorem dX7_next_10 : decode cX7_next 10 = .ok (.getfield 90, 3) := by decide +kernel
theorem dX7_next_13 : decode cX7_next 13 = .ok (.invokevirtual 93, 3) := by decide +kernel
theorem dX7_next_16 : decode cX7_next 16 = .ok (.bipush 32, 2) := by decide +kernel
theorem dX7_next_18 : decode cX7_next 18 = .ok (.if_icmp .ne 16, 3) := by decide +kernel
theorem dX7_next_21 : decode cX7_next 21 = .ok (.aload_n 0, 1) := by decide +kernel
theorem dX7_next_22 : decode cX7_next 22 = .ok (.dup, 1) := by decide +kernel
theorem dX7_next_23 : decode cX7_next 23 = .ok (.getfield 90, 3) := by decide +kernel
theorem dX7_next_26 : decode cX7_next 26 = .ok (.iconst 1, 1) := by decide +kernel
theorem dX7_next_27 : decode cX7_next 27 = .ok (.iadd, 1) := by decide +kernel
theorem dX7_next_28 : decode cX7_next 28 = .ok (.putfield 90, 3) := by decide +kernel
theorem dX7_next_31 : decode cX7_next 31 = .ok (.goto (-23), 3) := by decide +kernel
theorem dX7_next_34 : decode cX7_next 34 = .ok (.aload_n 0, 1) := by decide +kernel
theorem dX7_next_35 : decode cX7_next 35 = .ok (.aload_n 0, 1) := by decide +kernel
theorem dX7_next_36 : decode cX7_next 36 = .ok (.getfield 90, 3) := by decide +kernel
theorem dX7_next_39 : decode cX7_next 39 = .ok (.putfield 84, 3) := by decide +kernel
theorem dX7_next_42 : decode cX7_next 42 = .ok (.aload_n 0, 1) := by decide +kernel
theorem dX7_next_43 : decode cX7_next 43 = .ok (.aload_n 0, 1) := by decide +kernel
theorem dX7_next_44 : decode cX7_next 44 = .ok (.getfield 90, 3) := by decide +kernel
theorem dX7_next_47 : decode cX7_next 47 = .ok (.invokevirtual 93, 3) := by decide +kernel
theorem dX7_next_50 : decode cX7_next 50 = .ok (.istore_n 1, 1) := by decide +kernel
theorem dX7_next_51 : decode cX7_next 51 = .ok (.iload_n 1, 1) := by decide +kernel
theorem dX7_next_52 : decode cX7_next 52 = .ok (.ifCond .ge 11, 3) := by decide +kernel
theorem dX7_next_55 : decode cX7_next 55 = .ok (.aload_n 0, 1) := by decide +kernel
theorem dX7_next_56 : decode cX7_next 56 = .ok (.iconst 0, 1) := by decide +kernel
theorem dX7_next_57 : decode cX7_next 57 = .ok (.putfield 105, 3) := by decide +kernel
theorem dX7_next_60 : decode cX7_next 60 = .ok (.goto 214, 3) := by decide +kernel
theorem dX7_next_63 : decode cX7_next 63 = .ok (.iload_n 1, 1) := by decide +kernel
theorem dX7_next_64 : decode cX7_next 64 = .ok (.i2l, 1) := by decide +kernel
theorem dX7_next_65 : decode cX7_next 65 = .ok (.ldc2_w 108, 3) := by decide +kernel
theorem dX7_next_68 : decode cX7_next 68 = .ok (.ldc2_w 110, 3) := by decide +kernel
theorem dX7_next_71 : decode cX7_next 71 = .ok (.invokestatic 74, 3) := by decide +kernel
theorem dX7_next_74 : decode cX7_next 74 = .ok (.ifCond .eq 42, 3) := by decide +kernel
theorem dX7_next_77 : decode cX7_next 77 = .ok (.aload_n 0, 1) := by decide +kernel
theorem dX7_next_78 : decode cX7_next 78 = .ok (.iconst 1, 1) := by decide +kernel
theorem dX7_next_79 : decode cX7_next 79 = .ok (.putfield 105, 3) := by decide +kernel
theorem dX7_next_82 : decode cX7_next 82 = .ok (.aload_n 0, 1) := by decide +kernel
theorem dX7_next_83 : decode cX7_next 83 = .ok (.aload_n 0, 1) := by decide +kernel
theorem dX7_next_84 : decode cX7_next 84 = .ok (.getfield 90, 3) := by decide +kernel
theorem dX7_next_87 : decode cX7_next 87 = .ok (.invokevirtual 93, 3) := by decide +kernel
theorem dX7_next_90 : decode cX7_next 90 = .ok (.i2l, 1) := by decide +kernel
theorem dX7_next_91 : decode cX7_next 91 = .ok (.ldc2_w 108, 3) := by decide +kernel
theorem dX7_next_94 : decode cX7_next 94 = .ok (.ldc2_w 110, 3) := by decide +kernel
theorem dX7_next_97 : decode cX7_next 97 = .ok (.invokestatic 74, 3) := by decide +kernel
theorem dX7_next_100 : decode cX7_next 100 = .ok (.ifCond .eq 174, 3) := by decide +kernel
theorem dX7_next_103 : decode cX7_next 103 = .ok (.aload_n 0, 1) := by decide +kernel
theorem dX7_next_104 : decode cX7_next 104 = .ok (.dup, 1) := by decide +kernel
theorem dX7_next_105 : decode cX7_next 105 = .ok (.getfield 90, 3) := by decide +kernel
theorem dX7_next_108 : decode cX7_next 108 = .ok (.iconst 1, 1) := by decide +kernel
theorem dX7_next_109 : decode cX7_next 109 = .ok (.iadd, 1) := by decide +kernel
theorem dX7_next_110 : decode cX7_next 110 = .ok (.putfield 90, 3) := by decide +kernel
theorem dX7_next_113 : decode cX7_next 113 = .ok (.goto (-31), 3) := by decide +kernel
theorem dX7_next_116 : decode cX7_next 116 = .ok (.iload_n 1, 1) := by decide +kernel
theorem dX7_next_117 : decode cX7_next 117 = .ok (.i2l, 1) := by decide +kernel
theorem dX7_next_118 : decode cX7_next 118 = .ok (.ldc2_w 112, 3) := by decide +kernel
theorem dX7_next_121 : decode cX7_next 121 = .ok (.ldc2_w 114, 3) := by decide +kernel
theorem dX7_next_124 : decode cX7_next 124 = .ok (.invokestatic 74, 3) := by decide +kernel
theorem dX7_next_127 : decode cX7_next 127 = .ok (.ifCond .eq 116, 3) := by decide +kernel
theorem dX7_next_130 : decode cX7_next 130 = .ok (.aload_n 0, 1) := by decide +kernel
theorem dX7_next_131 : decode cX7_next 131 = .ok (.iconst 2, 1) := by decide +kernel
theorem dX7_next_132 : decode cX7_next 132 = .ok (.putfield 105, 3) := by decide +kernel
theorem dX7_next_135 : decode cX7_next 135 = .ok (.aload_n 0, 1) := by decide +kernel
theorem dX7_next_136 : decode cX7_next 136 = .ok (.iconst 0, 1) := by decide +kernel
theorem dX7_next_137 : decode cX7_next 137 = .ok (.putfield 116, 3) := by decide +kernel
theorem dX7_next_140 : decode cX7_next 140 = .ok (.aload_n 0, 1) := by decide +kernel
theorem dX7_next_141 : decode cX7_next 141 = .ok (.aload_n 0, 1) := by decide +kernel
theorem dX7_next_142 : decode cX7_next 142 = .ok (.getfield 90, 3) := by decide +kernel
theorem dX7_next_145 : decode cX7_next 145 = .ok (.invokevirtual 93, 3) := by decide +kernel
theorem dX7_next_148 : decode cX7_next 148 = .ok (.i2l, 1) := by decide +kernel
theorem dX7_next_149 : decode cX7_next 149 = .ok (.ldc2_w 112, 3) := by decide +kernel
theorem dX7_next_152 : decode cX7_next 152 = .ok (.ldc2_w 114, 3) := by decide +kernel
theorem dX7_next_155 : decode cX7_next 155 = .ok (.invokestatic 74, 3) := by decide +kernel
theorem dX7_next_158 : decode cX7_next 158 = .ok (.ifCond .eq 59, 3) := by decide +kernel
theorem dX7_next_161 : decode cX7_next 161 = .ok (.aload_n 0, 1) := by decide +kernel
theorem dX7_next_162 : decode cX7_next 162 = .ok (.aload_n 0, 1) := by decide +kernel
theorem dX7_next_163 : decode cX7_next 163 = .ok (.getfield 90, 3) := by decide +kernel
theorem dX7_next_166 : decode cX7_next 166 = .ok (.aload_n 0, 1) := by decide +kernel
theorem dX7_next_167 : decode cX7_next 167 = .ok (.getfield 84, 3) := by decide +kernel
theorem dX7_next_170 : decode cX7_next 170 = .ok (.isub, 1) := by decide +kernel
theorem dX7_next_171 : decode cX7_next 171 = .ok (.iconst 2, 1) := by decide +kernel
theorem dX7_next_172 : decode cX7_next 172 = .ok (.if_icmp .ge 25, 3) := by decide +kernel
theorem dX7_next_175 : decode cX7_next 175 = .ok (.bipush 10, 2) := by decide +kernel
theorem dX7_next_177 : decode cX7_next 177 = .ok (.aload_n 0, 1) := by decide +kernel
theorem dX7_next_178 : decode cX7_next 178 = .ok (.getfield 116, 3) := by decide +kernel
theorem dX7_next_181 : decode cX7_next 181 = .ok (.imul, 1) := by decide +kernel
theorem dX7_next_182 : decode cX7_next 182 = .ok (.aload_n 0, 1) := by decide +kernel
theorem dX7_next_183 : decode cX7_next 183 = .ok (.aload_n 0, 1) := by decide +kernel
theorem dX7_next_184 : decode cX7_next 184 = .ok (.getfield 90, 3) := by decide +kernel
theorem dX7_next_187 : decode cX7_next 187 = .ok (.invokevirtual 93, 3) := by decide +kernel
theorem dX7_next_190 : decode cX7_next 190 = .ok (.iadd, 1) := by decide +kernel
theorem dX7_next_191 : decode cX7_next 191 = .ok (.bipush 48, 2) := by decide +kernel
theorem dX7_next_193 : decode cX7_next 193 = .ok (.isub, 1) := by decide +kernel
theorem dX7_next_194 : decode cX7_next 194 = .ok (.goto 7, 3) := by decide +kernel
theorem dX7_next_197 : decode cX7_next 197 = .ok (.aload_n 0, 1) := by decide +kernel
theorem dX7_next_198 : decode cX7_next 198 = .ok (.getfield 116, 3) := by decide +kernel
theorem dX7_next_201 : decode cX7_next 201 = .ok (.putfield 116, 3) := by decide +kernel
theorem dX7_next_204 : decode cX7_next 204 = .ok (.aload_n 0, 1) := by decide +kernel
theorem dX7_next_205 : decode cX7_next 205 = .ok (.dup, 1) := by decide +kernel
theorem dX7_next_206 : decode cX7_next 206 = .ok (.getfield 90, 3) := by decide +kernel
theorem dX7_next_209 : decode cX7_next 209 = .ok (.iconst 1, 1) := by decide +kernel
theorem dX7_next_210 : decode cX7_next 210 = .ok (.iadd, 1) := by decide +kernel
theorem dX7_next_211 : decode cX7_next 211 = .ok (.putfield 90, 3) := by decide +kernel
theorem dX7_next_214 : decode cX7_next 214 = .ok (.goto (-74), 3) := by decide +kernel
theorem dX7_next_217 : decode cX7_next 217 = .ok (.aload_n 0, 1) := by decide +kernel
theorem dX7_next_218 : decode cX7_next 218 = .ok (.aload_n 0, 1) := by decide +kernel
theorem dX7_next_219 : decode cX7_next 219 = .ok (.getfield 90, 3) := by decide +kernel
theorem dX7_next_222 : decode cX7_next 222 = .ok (.aload_n 0, 1) := by decide +kernel
theorem dX7_next_223 : decode cX7_next 223 = .ok (.getfield 84, 3) := by decide +kernel
theorem dX7_next_226 : decode cX7_next 226 = .ok (.isub, 1) := by decide +kernel
theorem dX7_next_227 : decode cX7_next 227 = .ok (.iconst 2, 1) := by decide +kernel
theorem dX7_next_228 : decode cX7_next 228 = .ok (.if_icmp .gt 7, 3) := by decide +kernel
theorem dX7_next_231 : decode cX7_next 231 = .ok (.iconst 1, 1) := by decide +kernel
theorem dX7_next_232 : decode cX7_next 232 = .ok (.goto 4, 3) := by decide +kernel
theorem dX7_next_235 : decode cX7_next 235 = .ok (.iconst 0, 1) := by decide +kernel
theorem dX7_next_236 : decode cX7_next 236 = .ok (.iconst 1, 1) := by decide +kernel
theorem dX7_next_237 : decode cX7_next 237 = .ok (.invokevirtual 119, 3) := by decide +kernel
theorem dX7_next_240 : decode cX7_next 240 = .ok (.goto 34, 3) := by decide +kernel
theorem dX7_next_243 : decode cX7_next 243 = .ok (.aload_n 0, 1) := by decide +kernel
theorem dX7_next_244 : decode cX7_next 244 = .ok (.iconst 3, 1) := by decide +kernel
theorem dX7_next_245 : decode cX7_next 245 = .ok (.putfield 105, 3) := by decide +kernel
theorem dX7_next_248 : decode cX7_next 248 = .ok (.aload_n 0, 1) := by decide +kernel
theorem dX7_next_249 : decode cX7_next 249 = .ok (.iload_n 1, 1) := by decide +kernel
theorem dX7_next_250 : decode cX7_next 250 = .ok (.bipush 59, 2) := by decide +kernel
theorem dX7_next_252 : decode cX7_next 252 = .ok (.if_icmp .ne 7, 3) := by decide +kernel
theorem dX7_next_255 : decode cX7_next 255 = .ok (.iconst 1, 1) := by decide +kernel
theorem dX7_next_256 : decode cX7_next 256 = .ok (.goto 4, 3) := by decide +kernel
theorem dX7_next_259 : decode cX7_next 259 = .ok (.iconst 0, 1) := by decide +kernel
theorem dX7_next_260 : decode cX7_next 260 = .ok (.iconst 1, 1) := by decide +kernel
theorem dX7_next_261 : decode cX7_next 261 = .ok (.invokevirtual 119, 3) := by decide +kernel
theorem dX7_next_264 : decode cX7_next 264 = .ok (.aload_n 0, 1) := by decide +kernel
theorem dX7_next_265 : decode cX7_next 265 = .ok (.dup, 1) := by decide +kernel
theorem dX7_next_266 : decode cX7_next 266 = .ok (.getfield 90, 3) := by decide +kernel
theorem dX7_next_269 : decode cX7_next 269 = .ok (.iconst 1, 1) := by decide +kernel
theorem dX7_next_270 : decode cX7_next 270 = .ok (.iadd, 1) := by decide +kernel
theorem dX7_next_271 : decode cX7_next 271 = .ok (.putfield 90, 3) := by decide +kernel
theorem dX7_next_274 : decode cX7_next 274 = .ok (.return_, 1) := by decide +kernel
theorem dX7_looked_0 : decode cX7_looked 0 = .ok (.aload_n 0, 1) := by decide +kernel
theorem dX7_looked_1 : decode cX7_looked 1 = .ok (.getfield 81, 3) := by decide +kernel
theorem dX7_looked_4 : decode cX7_looked 4 = .ok (.ifCond .ne 21, 3) := by decide +kernel
theorem dX7_looked_7 : decode cX7_looked 7 = .ok (.aload_n 0, 1) := by decide +kernel
theorem dX7_looked_8 : decode cX7_looked 8 = .ok (.aload_n 0, 1) := by decide +kernel
theorem dX7_looked_9 : decode cX7_looked 9 = .ok (.getfield 105, 3) := by decide +kernel
theorem dX7_looked_12 : decode cX7_looked 12 = .ok (.iconst 2, 1) := by decide +kernel
theorem dX7_looked_13 : decode cX7_looked 13 = .ok (.if_icmp .ne 7, 3) := by decide +kernel
theorem dX7_looked_16 : decode cX7_looked 16 = .ok (.iconst 1, 1) := by decide +kernel
theorem dX7_looked_17 : decode cX7_looked 17 = .ok (.goto 4, 3) := by decide +kernel
theorem dX7_looked_20 : decode cX7_looked 20 = .ok (.iconst 0, 1) := by decide +kernel
theorem dX7_looked_21 : decode cX7_looked 21 = .ok (.iconst 2, 1) := by decide +kernel
theorem dX7_looked_22 : decode cX7_looked 22 = .ok (.invokevirtual 119, 3) := by decide +kernel
theorem dX7_looked_25 : decode cX7_looked 25 = .ok (.aload_n 0, 1) := by decide +kernel
theorem dX7_looked_26 : decode cX7_looked 26 = .ok (.getfield 81, 3) := by decide +kernel
theorem dX7_looked_29 : decode cX7_looked 29 = .ok (.ifCond .ne 20, 3) := by decide +kernel
theorem dX7_looked_32 : decode cX7_looked 32 = .ok (.aload_n 0, 1) := by decide +kernel
theorem dX7_looked_33 : decode cX7_looked 33 = .ok (.aload_n 0, 1) := by decide +kernel
theorem dX7_looked_34 : decode cX7_looked 34 = .ok (.getfield 116, 3) := by decide +kernel
theorem dX7_looked_37 : decode cX7_looked 37 = .ok (.i2l, 1) := by decide +kernel
theorem dX7_looked_38 : decode cX7_looked 38 = .ok (.iload_n 1, 1) := by decide +kernel
theorem dX7_looked_39 : decode cX7_looked 39 = .ok (.i2l, 1) := by decide +kernel
theorem dX7_looked_40 : decode cX7_looked 40 = .ok (.iload_n 2, 1) := by decide +kernel
theorem dX7_looked_41 : decode cX7_looked 41 = .ok (.i2l, 1) := by decide +kernel
theorem dX7_looked_42 : decode cX7_looked 42 = .ok (.invokestatic 74, 3) := by decide +kernel
theorem dX7_looked_45 : decode cX7_looked 45 = .ok (.iconst 3, 1) := by decide +kernel
theorem dX7_looked_46 : decode cX7_looked 46 = .ok (.invokevirtual 119, 3) := by decide +kernel
theorem dX7_looked_49 : decode cX7_looked 49 = .ok (.aload_n 0, 1) := by decide +kernel
theorem dX7_looked_50 : decode cX7_looked 50 = .ok (.getfield 81, 3) := by decide +kernel
theorem dX7_looked_53 : decode cX7_looked 53 = .ok (.ifCond .ne 10, 3) := by decide +kernel
theorem dX7_looked_56 : decode cX7_looked 56 = .ok (.aload_n 0, 1) := by decide +kernel
theorem dX7_looked_57 : decode cX7_looked 57 = .ok (.getfield 116, 3) := by decide +kernel
theorem dX7_looked_60 : decode cX7_looked 60 = .ok (.goto 4, 3) := by decide +kernel
theorem dX7_looked_63 : decode cX7_looked 63 = .ok (.iconst 0, 1) := by decide +kernel
theorem dX7_looked_64 : decode cX7_looked 64 = .ok (.ireturn, 1) := by decide +kernel
theorem dX7_readNumber_0 : decode cX7_readNumber 0 = .ok (.aload_n 0, 1) := by decide +kernel
theorem dX7_readNumber_1 : decode cX7_readNumber 1 = .ok (.iload_n 1, 1) := by decide +kernel
theorem dX7_readNumber_2 : decode cX7_readNumber 2 = .ok (.iload_n 2, 1) := by decide +kernel
theorem dX7_readNumber_3 : decode cX7_readNumber 3 = .ok (.invokevirtual 123, 3) := by decide +kernel
theorem dX7_readNumber_6 : decode cX7_readNumber 6 = .ok (.istore_n 3, 1) := by decide +kernel
theorem dX7_readNumber_7 : decode cX7_readNumber 7 = .ok (.aload_n 0, 1) := by decide +kernel
theorem dX7_readNumber_8 : decode cX7_readNumber 8 = .ok (.invokevirtual 127, 3) := by decide +kernel
theorem dX7_readNumber_11 : decode cX7_readNumber 11 = .ok (.iload_n 3, 1) := by decide +kernel
theorem dX7_readNumber_12 : decode cX7_readNumber 12 = .ok (.ireturn, 1) := by decide +kernel
theorem dX7_readName_0 : decode cX7_readName 0 = .ok (.aload_n 0, 1) := by decide +kernel
theorem dX7_readName_1 : decode cX7_readName 1 = .ok (.getfield 105, 3) := by decide +kernel
theorem dX7_readName_4 : decode cX7_readName 4 = .ok (.iconst 1, 1) := by decide +kernel
theorem dX7_readName_5 : decode cX7_readName 5 = .ok (.if_icmp .ne 7, 3) := by decide +kernel
theorem dX7_readName_8 : decode cX7_readName 8 = .ok (.iload_n 1, 1) := by decide +kernel
theorem dX7_readName_9 : decode cX7_readName 9 = .ok (.goto 5, 3) := by decide +kernel
theorem dX7_readName_12 : decode cX7_readName 12 = .ok (.bipush (-4), 2) := by decide +kernel
theorem dX7_readName_14 : decode cX7_readName 14 = .ok (.istore_n 2, 1) := by decide +kernel
theorem dX7_readName_15 : decode cX7_readName 15 = .ok (.aload_n 0, 1) := by decide +kernel
theorem dX7_readName_16 : decode cX7_readName 16 = .ok (.iload_n 2, 1) := by decide +kernel
theorem dX7_readName_17 : decode cX7_readName 17 = .ok (.bipush (-4), 2) := by decide +kernel
theorem dX7_readName_19 : decode cX7_readName 19 = .ok (.if_icmp .eq 7, 3) := by decide +kernel
theorem dX7_readName_22 : decode cX7_readName 22 = .ok (.iconst 1, 1) := by decide +kernel
theorem dX7_readName_23 : decode cX7_readName 23 = .ok (.goto 4, 3) := by decide +kernel
theorem dX7_readName_26 : decode cX7_readName 26 = .ok (.iconst 0, 1) := by decide +kernel
theorem dX7_readName_27 : decode cX7_readName 27 = .ok (.iconst 2, 1) := by decide +kernel
theorem dX7_readName_28 : decode cX7_readName 28 = .ok (.invokevirtual 119, 3) := by decide +kernel
theorem dX7_readName_31 : decode cX7_readName 31 = .ok (.aload_n 0, 1) := by decide +kernel
theorem dX7_readName_32 : decode cX7_readName 32 = .ok (.invokevirtual 127, 3) := by decide +kernel
theorem dX7_readName_35 : decode cX7_readName 35 = .ok (.iload_n 2, 1) := by decide +kernel
theorem dX7_readName_36 : decode cX7_readName 36 = .ok (.ireturn, 1) := by decide +kernel
theorem dX7_readBoat_0 : decode cX7_readBoat 0 = .ok (.bipush 6, 2) := by decide +kernel
theorem dX7_readBoat_2 : decode cX7_readBoat 2 = .ok (.bipush 6, 2) := by decide +kernel
theorem dX7_readBoat_4 : decode cX7_readBoat 4 = .ok (.aload_n 0, 1) := by decide +kernel
theorem dX7_readBoat_5 : decode cX7_readBoat 5 = .ok (.getfield 56, 3) := by decide +kernel
theorem dX7_readBoat_8 : decode cX7_readBoat 8 = .ok (.imul, 1) := by decide +kernel
theorem dX7_readBoat_9 : decode cX7_readBoat 9 = .ok (.iadd, 1) := by decide +kernel
theorem dX7_readBoat_10 : decode cX7_readBoat 10 = .ok (.istore_n 2, 1) := by decide +kernel
theorem dX7_readBoat_11 : decode cX7_readBoat 11 = .ok (.aload_n 0, 1) := by decide +kernel
theorem dX7_readBoat_12 : decode cX7_readBoat 12 = .ok (.getfield 20, 3) := by decide +kernel
theorem dX7_readBoat_15 : decode cX7_readBoat 15 = .ok (.iload_n 2, 1) := by decide +kernel
theorem dX7_readBoat_16 : decode cX7_readBoat 16 = .ok (.iconst 0, 1) := by decide +kernel
theorem dX7_readBoat_17 : decode cX7_readBoat 17 = .ok (.iadd, 1) := by decide +kernel
theorem dX7_readBoat_18 : decode cX7_readBoat 18 = .ok (.iload_n 1, 1) := by decide +kernel
theorem dX7_readBoat_19 : decode cX7_readBoat 19 = .ok (.iastore, 1) := by decide +kernel
theorem dX7_readBoat_20 : decode cX7_readBoat 20 = .ok (.aload_n 0, 1) := by decide +kernel
theorem dX7_readBoat_21 : decode cX7_readBoat 21 = .ok (.getfield 20, 3) := by decide +kernel
theorem dX7_readBoat_24 : decode cX7_readBoat 24 = .ok (.iload_n 2, 1) := by decide +kernel
theorem dX7_readBoat_25 : decode cX7_readBoat 25 = .ok (.iconst 1, 1) := by decide +kernel
theorem dX7_readBoat_26 : decode cX7_readBoat 26 = .ok (.iadd, 1) := by decide +kernel
theorem dX7_readBoat_27 : decode cX7_readBoat 27 = .ok (.aload_n 0, 1) := by decide +kernel
theorem dX7_readBoat_28 : decode cX7_readBoat 28 = .ok (.aload_n 0, 1) := by decide +kernel
theorem dX7_readBoat_29 : decode cX7_readBoat 29 = .ok (.invokevirtual 130, 3) := by decide +kernel
theorem dX7_readBoat_32 : decode cX7_readBoat 32 = .ok (.invokevirtual 134, 3) := by decide +kernel
theorem dX7_readBoat_35 : decode cX7_readBoat 35 = .ok (.iastore, 1) := by decide +kernel
theorem dX7_readBoat_36 : decode cX7_readBoat 36 = .ok (.aload_n 0, 1) := by decide +kernel
theorem dX7_readBoat_37 : decode cX7_readBoat 37 = .ok (.getfield 20, 3) := by decide +kernel
theorem dX7_readBoat_40 : decode cX7_readBoat 40 = .ok (.iload_n 2, 1) := by decide +kernel
theorem dX7_readBoat_41 : decode cX7_readBoat 41 = .ok (.iconst 2, 1) := by decide +kernel
theorem dX7_readBoat_42 : decode cX7_readBoat 42 = .ok (.iadd, 1) := by decide +kernel
theorem dX7_readBoat_43 : decode cX7_readBoat 43 = .ok (.aload_n 0, 1) := by decide +kernel
theorem dX7_readBoat_44 : decode cX7_readBoat 44 = .ok (.iconst 0, 1) := by decide +kernel
theorem dX7_readBoat_45 : decode cX7_readBoat 45 = .ok (.bipush 99, 2) := by decide +kernel
theorem dX7_readBoat_47 : decode cX7_readBoat 47 = .ok (.invokevirtual 137, 3) := by decide +kernel
theorem dX7_readBoat_50 : decode cX7_readBoat 50 = .ok (.iastore, 1) := by decide +kernel
theorem dX7_readBoat_51 : decode cX7_readBoat 51 = .ok (.aload_n 0, 1) := by decide +kernel
theorem dX7_readBoat_52 : decode cX7_readBoat 52 = .ok (.getfield 20, 3) := by decide +kernel
theorem dX7_readBoat_55 : decode cX7_readBoat 55 = .ok (.iload_n 2, 1) := by decide +kernel
theorem dX7_readBoat_56 : decode cX7_readBoat 56 = .ok (.iconst 3, 1) := by decide +kernel
theorem dX7_readBoat_57 : decode cX7_readBoat 57 = .ok (.iadd, 1) := by decide +kernel
theorem dX7_readBoat_58 : decode cX7_readBoat 58 = .ok (.aload_n 0, 1) := by decide +kernel
theorem dX7_readBoat_59 : decode cX7_readBoat 59 = .ok (.iconst 0, 1) := by decide +kernel
theorem dX7_readBoat_60 : decode cX7_readBoat 60 = .ok (.bipush 9, 2) := by decide +kernel
theorem dX7_readBoat_62 : decode cX7_readBoat 62 = .ok (.invokevirtual 137, 3) := by decide +kernel
theorem dX7_readBoat_65 : decode cX7_readBoat 65 = .ok (.iastore, 1) := by decide +kernel
theorem dX7_readBoat_66 : decode cX7_readBoat 66 = .ok (.aload_n 0, 1) := by decide +kernel
theorem dX7_readBoat_67 : decode cX7_readBoat 67 = .ok (.getfield 20, 3) := by decide +kernel
theorem dX7_readBoat_70 : decode cX7_readBoat 70 = .ok (.iload_n 2, 1) := by decide +kernel
theorem dX7_readBoat_71 : decode cX7_readBoat 71 = .ok (.iconst 4, 1) := by decide +kernel
theorem dX7_readBoat_72 : decode cX7_readBoat 72 = .ok (.iadd, 1) := by decide +kernel
theorem dX7_readBoat_73 : decode cX7_readBoat 73 = .ok (.aload_n 0, 1) := by decide +kernel
theorem dX7_readBoat_74 : decode cX7_readBoat 74 = .ok (.iconst 0, 1) := by decide +kernel
theorem dX7_readBoat_75 : decode cX7_readBoat 75 = .ok (.bipush 9, 2) := by decide +kernel
theorem dX7_readBoat_77 : decode cX7_readBoat 77 = .ok (.invokevirtual 137, 3) := by decide +kernel
theorem dX7_readBoat_80 : decode cX7_readBoat 80 = .ok (.iastore, 1) := by decide +kernel
theorem dX7_readBoat_81 : decode cX7_readBoat 81 = .ok (.aload_n 0, 1) := by decide +kernel
theorem dX7_readBoat_82 : decode cX7_readBoat 82 = .ok (.dup, 1) := by decide +kernel
theorem dX7_readBoat_83 : decode cX7_readBoat 83 = .ok (.getfield 56, 3) := by decide +kernel
theorem dX7_readBoat_86 : decode cX7_readBoat 86 = .ok (.iconst 1, 1) := by decide +kernel
theorem dX7_readBoat_87 : decode cX7_readBoat 87 = .ok (.iadd, 1) := by decide +kernel
theorem dX7_readBoat_88 : decode cX7_readBoat 88 = .ok (.putfield 56, 3) := by decide +kernel
theorem dX7_readBoat_91 : decode cX7_readBoat 91 = .ok (.return_, 1) := by decide +kernel
theorem dX7_readLiar_0 : decode cX7_readLiar 0 = .ok (.aload_n 0, 1) := by decide +kernel
theorem dX7_readLiar_1 : decode cX7_readLiar 1 = .ok (.iconst 0, 1) := by decide +kernel
theorem dX7_readLiar_2 : decode cX7_readLiar 2 = .ok (.iconst 5, 1) := by decide +kernel
theorem dX7_readLiar_3 : decode cX7_readLiar 3 = .ok (.invokevirtual 123, 3) := by decide +kernel
theorem dX7_readLiar_6 : decode cX7_readLiar 6 = .ok (.istore_n 1, 1) := by decide +kernel
theorem dX7_readLiar_7 : decode cX7_readLiar 7 = .ok (.aload_n 0, 1) := by decide +kernel
theorem dX7_readLiar_8 : decode cX7_readLiar 8 = .ok (.getfield 81, 3) := by decide +kernel
theorem dX7_readLiar_11 : decode cX7_readLiar 11 = .ok (.ifCond .ne 56, 3) := by decide +kernel
theorem dX7_readLiar_14 : decode cX7_readLiar 14 = .ok (.aload_n 0, 1) := by decide +kernel
theorem dX7_readLiar_15 : decode cX7_readLiar 15 = .ok (.aload_n 0, 1) := by decide +kernel
theorem dX7_readLiar_16 : decode cX7_readLiar 16 = .ok (.getfield 63, 3) := by decide +kernel
theorem dX7_readLiar_19 : decode cX7_readLiar 19 = .ok (.iload_n 1, 1) := by decide +kernel
theorem dX7_readLiar_20 : decode cX7_readLiar 20 = .ok (.ishr, 1) := by decide +kernel
theorem dX7_readLiar_21 : decode cX7_readLiar 21 = .ok (.iconst 1, 1) := by decide +kernel
theorem dX7_readLiar_22 : decode cX7_readLiar 22 = .ok (.iand, 1) := by decide +kernel
theorem dX7_readLiar_23 : decode cX7_readLiar 23 = .ok (.ifCond .ne 7, 3) := by decide +kernel
theorem dX7_readLiar_26 : decode cX7_readLiar 26 = .ok (.iconst 1, 1) := by decide +kernel
theorem dX7_readLiar_27 : decode cX7_readLiar 27 = .ok (.goto 4, 3) := by decide +kernel
theorem dX7_readLiar_30 : decode cX7_readLiar 30 = .ok (.iconst 0, 1) := by decide +kernel
theorem dX7_readLiar_31 : decode cX7_readLiar 31 = .ok (.iconst 4, 1) := by decide +kernel
theorem dX7_readLiar_32 : decode cX7_readLiar 32 = .ok (.invokevirtual 119, 3) := by decide +kernel
theorem dX7_readLiar_35 : decode cX7_readLiar 35 = .ok (.aload_n 0, 1) := by decide +kernel
theorem dX7_readLiar_36 : decode cX7_readLiar 36 = .ok (.dup, 1) := by decide +kernel
theorem dX7_readLiar_37 : decode cX7_readLiar 37 = .ok (.getfield 63, 3) := by decide +kernel
theorem dX7_readLiar_40 : decode cX7_readLiar 40 = .ok (.iconst 1, 1) := by decide +kernel
theorem dX7_readLiar_41 : decode cX7_readLiar 41 = .ok (.iload_n 1, 1) := by decide +kernel
theorem dX7_readLiar_42 : decode cX7_readLiar 42 = .ok (.ishl, 1) := by decide +kernel
theorem dX7_readLiar_43 : decode cX7_readLiar 43 = .ok (.ior, 1) := by decide +kernel
theorem dX7_readLiar_44 : decode cX7_readLiar 44 = .ok (.putfield 63, 3) := by decide +kernel
theorem dX7_readLiar_47 : decode cX7_readLiar 47 = .ok (.aload_n 0, 1) := by decide +kernel
theorem dX7_readLiar_48 : decode cX7_readLiar 48 = .ok (.iload_n 1, 1) := by decide +kernel
theorem dX7_readLiar_49 : decode cX7_readLiar 49 = .ok (.aload_n 0, 1) := by decide +kernel
theorem dX7_readLiar_50 : decode cX7_readLiar 50 = .ok (.getfield 66, 3) := by decide +kernel
theorem dX7_readLiar_53 : decode cX7_readLiar 53 = .ok (.if_icmp .le 7, 3) := by decide +kernel
theorem dX7_readLiar_56 : decode cX7_readLiar 56 = .ok (.iload_n 1, 1) := by decide +kernel
theorem dX7_readLiar_57 : decode cX7_readLiar 57 = .ok (.goto 7, 3) := by decide +kernel
theorem dX7_readLiar_60 : decode cX7_readLiar 60 = .ok (.aload_n 0, 1) := by decide +kernel
theorem dX7_readLiar_61 : decode cX7_readLiar 61 = .ok (.getfield 66, 3) := by decide +kernel
theorem dX7_readLiar_64 : decode cX7_readLiar 64 = .ok (.putfield 66, 3) := by decide +kernel
theorem dX7_readLiar_67 : decode cX7_readLiar 67 = .ok (.aload_n 0, 1) := by decide +kernel
theorem dX7_readLiar_68 : decode cX7_readLiar 68 = .ok (.invokevirtual 127, 3) := by decide +kernel
theorem dX7_readLiar_71 : decode cX7_readLiar 71 = .ok (.return_, 1) := by decide +kernel
theorem dX7_readLineOf_0 : decode cX7_readLineOf 0 = .ok (.iload_n 1, 1) := by decide +kernel
theorem dX7_readLineOf_1 : decode cX7_readLineOf 1 = .ok (.tableswitch 126 2 6 #[35, 76, 93, 109, 119], 35) := by decide +kernel
theorem dX7_readLineOf_36 : decode cX7_readLineOf 36 = .ok (.aload_n 0, 1) := by decide +kernel
theorem dX7_readLineOf_37 : decode cX7_readLineOf 37 = .ok (.getfield 20, 3) := by decide +kernel
theorem dX7_readLineOf_40 : decode cX7_readLineOf 40 = .ok (.iconst 0, 1) := by decide +kernel
theorem dX7_readLineOf_41 : decode cX7_readLineOf 41 = .ok (.aload_n 0, 1) := by decide +kernel
theorem dX7_readLineOf_42 : decode cX7_readLineOf 42 = .ok (.iconst 1, 1) := by decide +kernel
theorem dX7_readLineOf_43 : decode cX7_readLineOf 43 = .ok (.bipush 9, 2) := by decide +kernel
theorem dX7_readLineOf_45 : decode cX7_readLineOf 45 = .ok (.invokevirtual 137, 3) := by decide +kernel
theorem dX7_readLineOf_48 : decode cX7_readLineOf 48 = .ok (.iastore, 1) := by decide +kernel
theorem dX7_readLineOf_49 : decode cX7_readLineOf 49 = .ok (.aload_n 0, 1) := by decide +kernel
theorem dX7_readLineOf_50 : decode cX7_readLineOf 50 = .ok (.getfield 20, 3) := by decide +kernel
theorem dX7_readLineOf_53 : decode cX7_readLineOf 53 = .ok (.iconst 1, 1) := by decide +kernel
theorem dX7_readLineOf_54 : decode cX7_readLineOf 54 = .ok (.aload_n 0, 1) := by decide +kernel
theorem dX7_readLineOf_55 : decode cX7_readLineOf 55 = .ok (.iconst 0, 1) := by decide +kernel
theorem dX7_readLineOf_56 : decode cX7_readLineOf 56 = .ok (.bipush 9, 2) := by decide +kernel
theorem dX7_readLineOf_58 : decode cX7_readLineOf 58 = .ok (.invokevirtual 137, 3) := by decide +kernel
theorem dX7_readLineOf_61 : decode cX7_readLineOf 61 = .ok (.iastore, 1) := by decide +kernel
theorem dX7_readLineOf_62 : decode cX7_readLineOf 62 = .ok (.aload_n 0, 1) := by decide +kernel
theorem dX7_readLineOf_63 : decode cX7_readLineOf 63 = .ok (.getfield 20, 3) := by decide +kernel
theorem dX7_readLineOf_66 : decode cX7_readLineOf 66 = .ok (.iconst 2, 1) := by decide +kernel
theorem dX7_readLineOf_67 : decode cX7_readLineOf 67 = .ok (.aload_n 0, 1) := by decide +kernel
theorem dX7_readLineOf_68 : decode cX7_readLineOf 68 = .ok (.iconst 0, 1) := by decide +kernel
theorem dX7_readLineOf_69 : decode cX7_readLineOf 69 = .ok (.iconst 1, 1) := by decide +kernel
theorem dX7_readLineOf_70 : decode cX7_readLineOf 70 = .ok (.invokevirtual 137, 3) := by decide +kernel
theorem dX7_readLineOf_73 : decode cX7_readLineOf 73 = .ok (.iastore, 1) := by decide +kernel
theorem dX7_readLineOf_74 : decode cX7_readLineOf 74 = .ok (.goto 58, 3) := by decide +kernel
theorem dX7_readLineOf_77 : decode cX7_readLineOf 77 = .ok (.aload_n 0, 1) := by decide +kernel
theorem dX7_readLineOf_78 : decode cX7_readLineOf 78 = .ok (.getfield 20, 3) := by decide +kernel
theorem dX7_readLineOf_81 : decode cX7_readLineOf 81 = .ok (.iconst 3, 1) := by decide +kernel
theorem dX7_readLineOf_82 : decode cX7_readLineOf 82 = .ok (.aload_n 0, 1) := by decide +kernel
theorem dX7_readLineOf_83 : decode cX7_readLineOf 83 = .ok (.aload_n 0, 1) := by decide +kernel
theorem dX7_readLineOf_84 : decode cX7_readLineOf 84 = .ok (.invokevirtual 140, 3) := by decide +kernel
theorem dX7_readLineOf_87 : decode cX7_readLineOf 87 = .ok (.invokevirtual 134, 3) := by decide +kernel
theorem dX7_readLineOf_90 : decode cX7_readLineOf 90 = .ok (.iastore, 1) := by decide +kernel
theorem dX7_readLineOf_91 : decode cX7_readLineOf 91 = .ok (.goto 41, 3) := by decide +kernel
theorem dX7_readLineOf_94 : decode cX7_readLineOf 94 = .ok (.aload_n 0, 1) := by decide +kernel
theorem dX7_readLineOf_95 : decode cX7_readLineOf 95 = .ok (.getfield 20, 3) := by decide +kernel
theorem dX7_readLineOf_98 : decode cX7_readLineOf 98 = .ok (.iconst 4, 1) := by decide +kernel
theorem dX7_readLineOf_99 : decode cX7_readLineOf 99 = .ok (.aload_n 0, 1) := by decide +kernel
theorem dX7_readLineOf_100 : decode cX7_readLineOf 100 = .ok (.iconst 0, 1) := by decide +kernel
theorem dX7_readLineOf_101 : decode cX7_readLineOf 101 = .ok (.bipush 9, 2) := by decide +kernel
theorem dX7_readLineOf_103 : decode cX7_readLineOf 103 = .ok (.invokevirtual 137, 3) := by decide +kernel
theorem dX7_readLineOf_106 : decode cX7_readLineOf 106 = .ok (.iastore, 1) := by decide +kernel
theorem dX7_readLineOf_107 : decode cX7_readLineOf 107 = .ok (.goto 25, 3) := by decide +kernel
theorem dX7_readLineOf_110 : decode cX7_readLineOf 110 = .ok (.aload_n 0, 1) := by decide +kernel
theorem dX7_readLineOf_111 : decode cX7_readLineOf 111 = .ok (.getfield 20, 3) := by decide +kernel
theorem dX7_readLineOf_114 : decode cX7_readLineOf 114 = .ok (.iconst 5, 1) := by decide +kernel
theorem dX7_readLineOf_115 : decode cX7_readLineOf 115 = .ok (.iconst 1, 1) := by decide +kernel
theorem dX7_readLineOf_116 : decode cX7_readLineOf 116 = .ok (.iastore, 1) := by decide +kernel
theorem dX7_readLineOf_117 : decode cX7_readLineOf 117 = .ok (.goto 15, 3) := by decide +kernel
theorem dX7_readLineOf_120 : decode cX7_readLineOf 120 = .ok (.aload_n 0, 1) := by decide +kernel
theorem dX7_readLineOf_121 : decode cX7_readLineOf 121 = .ok (.invokevirtual 143, 3) := by decide +kernel
theorem dX7_readLineOf_124 : decode cX7_readLineOf 124 = .ok (.goto 8, 3) := by decide +kernel
theorem dX7_readLineOf_127 : decode cX7_readLineOf 127 = .ok (.aload_n 0, 1) := by decide +kernel
theorem dX7_readLineOf_128 : decode cX7_readLineOf 128 = .ok (.iload_n 1, 1) := by decide +kernel
theorem dX7_readLineOf_129 : decode cX7_readLineOf 129 = .ok (.invokevirtual 146, 3) := by decide +kernel
theorem dX7_readLineOf_132 : decode cX7_readLineOf 132 = .ok (.return_, 1) := by decide +kernel
theorem dX7_readLine_0 : decode cX7_readLine 0 = .ok (.aload_n 0, 1) := by decide +kernel
theorem dX7_readLine_1 : decode cX7_readLine 1 = .ok (.getfield 105, 3) := by decide +kernel
theorem dX7_readLine_4 : decode cX7_readLine 4 = .ok (.iconst 1, 1) := by decide +kernel
theorem dX7_readLine_5 : decode cX7_readLine 5 = .ok (.if_icmp .ne 10, 3) := by decide +kernel
theorem dX7_readLine_8 : decode cX7_readLine 8 = .ok (.aload_n 0, 1) := by decide +kernel
theorem dX7_readLine_9 : decode cX7_readLine 9 = .ok (.invokevirtual 150, 3) := by decide +kernel
theorem dX7_readLine_12 : decode cX7_readLine 12 = .ok (.goto 5, 3) := by decide +kernel
theorem dX7_readLine_15 : decode cX7_readLine 15 = .ok (.bipush (-4), 2) := by decide +kernel
theorem dX7_readLine_17 : decode cX7_readLine 17 = .ok (.istore_n 1, 1) := by decide +kernel
theorem dX7_readLine_18 : decode cX7_readLine 18 = .ok (.aload_n 0, 1) := by decide +kernel
theorem dX7_readLine_19 : decode cX7_readLine 19 = .ok (.iload_n 1, 1) := by decide +kernel
theorem dX7_readLine_20 : decode cX7_readLine 20 = .ok (.bipush (-4), 2) := by decide +kernel
theorem dX7_readLine_22 : decode cX7_readLine 22 = .ok (.if_icmp .eq 7, 3) := by decide +kernel
theorem dX7_readLine_25 : decode cX7_readLine 25 = .ok (.iconst 1, 1) := by decide +kernel
theorem dX7_readLine_26 : decode cX7_readLine 26 = .ok (.goto 4, 3) := by decide +kernel
theorem dX7_readLine_29 : decode cX7_readLine 29 = .ok (.iconst 0, 1) := by decide +kernel
theorem dX7_readLine_30 : decode cX7_readLine 30 = .ok (.iconst 2, 1) := by decide +kernel
theorem dX7_readLine_31 : decode cX7_readLine 31 = .ok (.invokevirtual 119, 3) := by decide +kernel
theorem dX7_readLine_34 : decode cX7_readLine 34 = .ok (.aload_n 0, 1) := by decide +kernel
theorem dX7_readLine_35 : decode cX7_readLine 35 = .ok (.iload_n 1, 1) := by decide +kernel
theorem dX7_readLine_36 : decode cX7_readLine 36 = .ok (.iconst 1, 1) := by decide +kernel
theorem dX7_readLine_37 : decode cX7_readLine 37 = .ok (.if_icmp .gt 12, 3) := by decide +kernel
theorem dX7_readLine_40 : decode cX7_readLine 40 = .ok (.aload_n 0, 1) := by decide +kernel
theorem dX7_readLine_41 : decode cX7_readLine 41 = .ok (.getfield 56, 3) := by decide +kernel
theorem dX7_readLine_44 : decode cX7_readLine 44 = .ok (.bipush 6, 2) := by decide +kernel
theorem dX7_readLine_46 : decode cX7_readLine 46 = .ok (.if_icmp .ge 7, 3) := by decide +kernel
theorem dX7_readLine_49 : decode cX7_readLine 49 = .ok (.iconst 1, 1) := by decide +kernel
theorem dX7_readLine_50 : decode cX7_readLine 50 = .ok (.goto 4, 3) := by decide +kernel
theorem dX7_readLine_53 : decode cX7_readLine 53 = .ok (.iconst 0, 1) := by decide +kernel
theorem dX7_readLine_54 : decode cX7_readLine 54 = .ok (.iconst 5, 1) := by decide +kernel
theorem dX7_readLine_55 : decode cX7_readLine 55 = .ok (.invokevirtual 119, 3) := by decide +kernel
theorem dX7_readLine_58 : decode cX7_readLine 58 = .ok (.aload_n 0, 1) := by decide +kernel
theorem dX7_readLine_59 : decode cX7_readLine 59 = .ok (.getfield 81, 3) := by decide +kernel
theorem dX7_readLine_62 : decode cX7_readLine 62 = .ok (.ifCond .ne 50, 3) := by decide +kernel
theorem dX7_readLine_65 : decode cX7_readLine 65 = .ok (.iload_n 1, 1) := by decide +kernel
theorem dX7_readLine_66 : decode cX7_readLine 66 = .ok (.i2l, 1) := by decide +kernel
theorem dX7_readLine_67 : decode cX7_readLine 67 = .ok (.ldc2_w 153, 3) := by decide +kernel
theorem dX7_readLine_70 : decode cX7_readLine 70 = .ok (.ldc2_w 155, 3) := by decide +kernel
theorem dX7_readLine_73 : decode cX7_readLine 73 = .ok (.invokestatic 74, 3) := by decide +kernel
theorem dX7_readLine_76 : decode cX7_readLine 76 = .ok (.ifCond .eq 36, 3) := by decide +kernel
theorem dX7_readLine_79 : decode cX7_readLine 79 = .ok (.aload_n 0, 1) := by decide +kernel
theorem dX7_readLine_80 : decode cX7_readLine 80 = .ok (.aload_n 0, 1) := by decide +kernel
theorem dX7_readLine_81 : decode cX7_readLine 81 = .ok (.getfield 60, 3) := by decide +kernel
theorem dX7_readLine_84 : decode cX7_readLine 84 = .ok (.iload_n 1, 1) := by decide +kernel
theorem dX7_readLine_85 : decode cX7_readLine 85 = .ok (.ishr, 1) := by decide +kernel
theorem dX7_readLine_86 : decode cX7_readLine 86 = .ok (.iconst 1, 1) := by decide +kernel
theorem dX7_readLine_87 : decode cX7_readLine 87 = .ok (.iand, 1) := by decide +kernel
theorem dX7_readLine_88 : decode cX7_readLine 88 = .ok (.ifCond .ne 7, 3) := by decide +kernel
theorem dX7_readLine_91 : decode cX7_readLine 91 = .ok (.iconst 1, 1) := by decide +kernel
theorem dX7_readLine_92 : decode cX7_readLine 92 = .ok (.goto 4, 3) := by decide +kernel
theorem dX7_readLine_95 : decode cX7_readLine 95 = .ok (.iconst 0, 1) := by decide +kernel
theorem dX7_readLine_96 : decode cX7_readLine 96 = .ok (.iconst 4, 1) := by decide +kernel
theorem dX7_readLine_97 : decode cX7_readLine 97 = .ok (.invokevirtual 119, 3) := by decide +kernel
theorem dX7_readLine_100 : decode cX7_readLine 100 = .ok (.aload_n 0, 1) := by decide +kernel
theorem dX7_readLine_101 : decode cX7_readLine 101 = .ok (.dup, 1) := by decide +kernel
theorem dX7_readLine_102 : decode cX7_readLine 102 = .ok (.getfield 60, 3) := by decide +kernel
theorem dX7_readLine_105 : decode cX7_readLine 105 = .ok (.iconst 1, 1) := by decide +kernel
theorem dX7_readLine_106 : decode cX7_readLine 106 = .ok (.iload_n 1, 1) := by decide +kernel
theorem dX7_readLine_107 : decode cX7_readLine 107 = .ok (.ishl, 1) := by decide +kernel
theorem dX7_readLine_108 : decode cX7_readLine 108 = .ok (.ior, 1) := by decide +kernel
theorem dX7_readLine_109 : decode cX7_readLine 109 = .ok (.putfield 60, 3) := by decide +kernel
theorem dX7_readLine_112 : decode cX7_readLine 112 = .ok (.aload_n 0, 1) := by decide +kernel
theorem dX7_readLine_113 : decode cX7_readLine 113 = .ok (.invokevirtual 127, 3) := by decide +kernel
theorem dX7_readLine_116 : decode cX7_readLine 116 = .ok (.aload_n 0, 1) := by decide +kernel
theorem dX7_readLine_117 : decode cX7_readLine 117 = .ok (.getfield 81, 3) := by decide +kernel
theorem dX7_readLine_120 : decode cX7_readLine 120 = .ok (.ifCond .le 4, 3) := by decide +kernel
theorem dX7_readLine_123 : decode cX7_readLine 123 = .ok (.return_, 1) := by decide +kernel
theorem dX7_readLine_124 : decode cX7_readLine 124 = .ok (.aload_n 0, 1) := by decide +kernel
theorem dX7_readLine_125 : decode cX7_readLine 125 = .ok (.iload_n 1, 1) := by decide +kernel
theorem dX7_readLine_126 : decode cX7_readLine 126 = .ok (.invokevirtual 157, 3) := by decide +kernel
theorem dX7_readLine_129 : decode cX7_readLine 129 = .ok (.aload_n 0, 1) := by decide +kernel
theorem dX7_readLine_130 : decode cX7_readLine 130 = .ok (.getfield 81, 3) := by decide +kernel
theorem dX7_readLine_133 : decode cX7_readLine 133 = .ok (.ifCond .ne 21, 3) := by decide +kernel
theorem dX7_readLine_136 : decode cX7_readLine 136 = .ok (.aload_n 0, 1) := by decide +kernel
theorem dX7_readLine_137 : decode cX7_readLine 137 = .ok (.aload_n 0, 1) := by decide +kernel
theorem dX7_readLine_138 : decode cX7_readLine 138 = .ok (.getfield 105, 3) := by decide +kernel
theorem dX7_readLine_141 : decode cX7_readLine 141 = .ok (.iconst 3, 1) := by decide +kernel
theorem dX7_readLine_142 : decode cX7_readLine 142 = .ok (.if_icmp .ne 7, 3) := by decide +kernel
theorem dX7_readLine_145 : decode cX7_readLine 145 = .ok (.iconst 1, 1) := by decide +kernel
theorem dX7_readLine_146 : decode cX7_readLine 146 = .ok (.goto 4, 3) := by decide +kernel
theorem dX7_readLine_149 : decode cX7_readLine 149 = .ok (.iconst 0, 1) := by decide +kernel
theorem dX7_readLine_150 : decode cX7_readLine 150 = .ok (.iconst 2, 1) := by decide +kernel
theorem dX7_readLine_151 : decode cX7_readLine 151 = .ok (.invokevirtual 119, 3) := by decide +kernel
theorem dX7_readLine_154 : decode cX7_readLine 154 = .ok (.aload_n 0, 1) := by decide +kernel
theorem dX7_readLine_155 : decode cX7_readLine 155 = .ok (.invokevirtual 127, 3) := by decide +kernel
theorem dX7_readLine_158 : decode cX7_readLine 158 = .ok (.return_, 1) := by decide +kernel
theorem dX7_text_0 : decode cX7_text 0 = .ok (.iconst 0, 1) := by decide +kernel
theorem dX7_text_1 : decode cX7_text 1 = .ok (.istore_n 1, 1) := by decide +kernel
theorem dX7_text_2 : decode cX7_text 2 = .ok (.aload_n 0, 1) := by decide +kernel
theorem dX7_text_3 : decode cX7_text 3 = .ok (.iconst 0, 1) := by decide +kernel
theorem dX7_text_4 : decode cX7_text 4 = .ok (.putfield 81, 3) := by decide +kernel
theorem dX7_text_7 : decode cX7_text 7 = .ok (.aload_n 0, 1) := by decide +kernel
theorem dX7_text_8 : decode cX7_text 8 = .ok (.iconst 0, 1) := by decide +kernel
theorem dX7_text_9 : decode cX7_text 9 = .ok (.putfield 90, 3) := by decide +kernel
theorem dX7_text_12 : decode cX7_text 12 = .ok (.aload_n 0, 1) := by decide +kernel
theorem dX7_text_13 : decode cX7_text 13 = .ok (.invokevirtual 50, 3) := by decide +kernel
theorem dX7_text_16 : decode cX7_text 16 = .ok (.aload_n 0, 1) := by decide +kernel
theorem dX7_text_17 : decode cX7_text 17 = .ok (.invokevirtual 127, 3) := by decide +kernel
theorem dX7_text_20 : decode cX7_text 20 = .ok (.aload_n 0, 1) := by decide +kernel
theorem dX7_text_21 : decode cX7_text 21 = .ok (.getfield 81, 3) := by decide +kernel
theorem dX7_text_24 : decode cX7_text 24 = .ok (.ifCond .ne 20, 3) := by decide +kernel
theorem dX7_text_27 : decode cX7_text 27 = .ok (.aload_n 0, 1) := by decide +kernel
theorem dX7_text_28 : decode cX7_text 28 = .ok (.getfield 105, 3) := by decide +kernel
theorem dX7_text_31 : decode cX7_text 31 = .ok (.ifCond .eq 13, 3) := by decide +kernel
theorem dX7_text_34 : decode cX7_text 34 = .ok (.aload_n 0, 1) := by decide +kernel
theorem dX7_text_35 : decode cX7_text 35 = .ok (.invokevirtual 160, 3) := by decide +kernel
theorem dX7_text_38 : decode cX7_text 38 = .ok (.iinc 1 1, 3) := by decide +kernel
theorem dX7_text_41 : decode cX7_text 41 = .ok (.goto (-21), 3) := by decide +kernel
theorem dX7_text_44 : decode cX7_text 44 = .ok (.aload_n 0, 1) := by decide +kernel
theorem dX7_text_45 : decode cX7_text 45 = .ok (.getfield 81, 3) := by decide +kernel
theorem dX7_text_48 : decode cX7_text 48 = .ok (.ifCond .ne 25, 3) := by decide +kernel
theorem dX7_text_51 : decode cX7_text 51 = .ok (.aload_n 0, 1) := by decide +kernel
theorem dX7_text_52 : decode cX7_text 52 = .ok (.aload_n 0, 1) := by decide +kernel
theorem dX7_text_53 : decode cX7_text 53 = .ok (.getfield 66, 3) := by decide +kernel
theorem dX7_text_56 : decode cX7_text 56 = .ok (.aload_n 0, 1) := by decide +kernel
theorem dX7_text_57 : decode cX7_text 57 = .ok (.getfield 56, 3) := by decide +kernel
theorem dX7_text_60 : decode cX7_text 60 = .ok (.if_icmp .ge 7, 3) := by decide +kernel
theorem dX7_text_63 : decode cX7_text 63 = .ok (.iconst 1, 1) := by decide +kernel
theorem dX7_text_64 : decode cX7_text 64 = .ok (.goto 4, 3) := by decide +kernel
theorem dX7_text_67 : decode cX7_text 67 = .ok (.iconst 0, 1) := by decide +kernel
theorem dX7_text_68 : decode cX7_text 68 = .ok (.bipush 6, 2) := by decide +kernel
theorem dX7_text_70 : decode cX7_text 70 = .ok (.invokevirtual 119, 3) := by decide +kernel
theorem dX7_text_73 : decode cX7_text 73 = .ok (.aload_n 0, 1) := by decide +kernel
theorem dX7_text_74 : decode cX7_text 74 = .ok (.iconst 0, 1) := by decide +kernel
theorem dX7_text_75 : decode cX7_text 75 = .ok (.putfield 78, 3) := by decide +kernel
theorem dX7_text_78 : decode cX7_text 78 = .ok (.aload_n 0, 1) := by decide +kernel
theorem dX7_text_79 : decode cX7_text 79 = .ok (.getfield 81, 3) := by decide +kernel
theorem dX7_text_82 : decode cX7_text 82 = .ok (.ifCond .le 11, 3) := by decide +kernel
theorem dX7_text_85 : decode cX7_text 85 = .ok (.bipush (-10), 2) := by decide +kernel
theorem dX7_text_87 : decode cX7_text 87 = .ok (.aload_n 0, 1) := by decide +kernel
theorem dX7_text_88 : decode cX7_text 88 = .ok (.getfield 87, 3) := by decide +kernel
theorem dX7_text_91 : decode cX7_text 91 = .ok (.isub, 1) := by decide +kernel
theorem dX7_text_92 : decode cX7_text 92 = .ok (.ireturn, 1) := by decide +kernel
theorem dX7_text_93 : decode cX7_text 93 = .ok (.aload_n 0, 1) := by decide +kernel
theorem dX7_text_94 : decode cX7_text 94 = .ok (.invokevirtual 53, 3) := by decide +kernel
theorem dX7_text_97 : decode cX7_text 97 = .ok (.iload_n 1, 1) := by decide +kernel
theorem dX7_text_98 : decode cX7_text 98 = .ok (.ireturn, 1) := by decide +kernel
theorem dX7_fault_0 : decode cX7_fault 0 = .ok (.aload_n 0, 1) := by decide +kernel
theorem dX7_fault_1 : decode cX7_fault 1 = .ok (.getfield 81, 3) := by decide +kernel
theorem dX7_fault_4 : decode cX7_fault 4 = .ok (.ireturn, 1) := by decide +kernel
theorem dX7_isBoat_0 : decode cX7_isBoat 0 = .ok (.iload_n 1, 1) := by decide +kernel
theorem dX7_isBoat_1 : decode cX7_isBoat 1 = .ok (.i2l, 1) := by decide +kernel
theorem dX7_isBoat_2 : decode cX7_isBoat 2 = .ok (.lconst 0, 1) := by decide +kernel
theorem dX7_isBoat_3 : decode cX7_isBoat 3 = .ok (.aload_n 0, 1) := by decide +kernel
theorem dX7_isBoat_4 : decode cX7_isBoat 4 = .ok (.getfield 69, 3) := by decide +kernel
theorem dX7_isBoat_7 : decode cX7_isBoat 7 = .ok (.iconst 1, 1) := by decide +kernel
theorem dX7_isBoat_8 : decode cX7_isBoat 8 = .ok (.isub, 1) := by decide +kernel
theorem dX7_isBoat_9 : decode cX7_isBoat 9 = .ok (.i2l, 1) := by decide +kernel
theorem dX7_isBoat_10 : decode cX7_isBoat 10 = .ok (.invokestatic 74, 3) := by decide +kernel
theorem dX7_isBoat_13 : decode cX7_isBoat 13 = .ok (.ireturn, 1) := by decide +kernel
theorem dX7_isPart_0 : decode cX7_isPart 0 = .ok (.iload_n 0, 1) := by decide +kernel
theorem dX7_isPart_1 : decode cX7_isPart 1 = .ok (.i2l, 1) := by decide +kernel
theorem dX7_isPart_2 : decode cX7_isPart 2 = .ok (.lconst 0, 1) := by decide +kernel
theorem dX7_isPart_3 : decode cX7_isPart 3 = .ok (.lconst 1, 1) := by decide +kernel
theorem dX7_isPart_4 : decode cX7_isPart 4 = .ok (.invokestatic 74, 3) := by decide +kernel
theorem dX7_isPart_7 : decode cX7_isPart 7 = .ok (.ireturn, 1) := by decide +kernel
theorem dX7_starts_0 : decode cX7_starts 0 = .ok (.iconst 0, 1) := by decide +kernel
theorem dX7_starts_1 : decode cX7_starts 1 = .ok (.istore_n 1, 1) := by decide +kernel
theorem dX7_starts_2 : decode cX7_starts 2 = .ok (.iload_n 1, 1) := by decide +kernel
theorem dX7_starts_3 : decode cX7_starts 3 = .ok (.bipush 55, 2) := by decide +kernel
theorem dX7_starts_5 : decode cX7_starts 5 = .ok (.if_icmp .ge 21, 3) := by decide +kernel
theorem dX7_starts_8 : decode cX7_starts 8 = .ok (.aload_n 0, 1) := by decide +kernel
theorem dX7_starts_9 : decode cX7_starts 9 = .ok (.getfield 13, 3) := by decide +kernel
theorem dX7_starts_12 : decode cX7_starts 12 = .ok (.iload_n 1, 1) := by decide +kernel
theorem dX7_starts_13 : decode cX7_starts 13 = .ok (.aload_n 0, 1) := by decide +kernel
theorem dX7_starts_14 : decode cX7_starts 14 = .ok (.getfield 7, 3) := by decide +kernel
theorem dX7_starts_17 : decode cX7_starts 17 = .ok (.iload_n 1, 1) := by decide +kernel
theorem dX7_starts_18 : decode cX7_starts 18 = .ok (.iaload, 1) := by decide +kernel
theorem dX7_starts_19 : decode cX7_starts 19 = .ok (.iastore, 1) := by decide +kernel
theorem dX7_starts_20 : decode cX7_starts 20 = .ok (.iinc 1 1, 3) := by decide +kernel
theorem dX7_starts_23 : decode cX7_starts 23 = .ok (.goto (-21), 3) := by decide +kernel
theorem dX7_starts_26 : decode cX7_starts 26 = .ok (.aload_n 0, 1) := by decide +kernel
theorem dX7_starts_27 : decode cX7_starts 27 = .ok (.iconst 0, 1) := by decide +kernel
theorem dX7_starts_28 : decode cX7_starts 28 = .ok (.putfield 163, 3) := by decide +kernel
theorem dX7_starts_31 : decode cX7_starts 31 = .ok (.return_, 1) := by decide +kernel
theorem dX7_of_0 : decode cX7_of 0 = .ok (.aload_n 0, 1) := by decide +kernel
theorem dX7_of_1 : decode cX7_of 1 = .ok (.getfield 13, 3) := by decide +kernel
theorem dX7_of_4 : decode cX7_of 4 = .ok (.bipush 6, 2) := by decide +kernel
theorem dX7_of_6 : decode cX7_of 6 = .ok (.bipush 6, 2) := by decide +kernel
theorem dX7_of_8 : decode cX7_of 8 = .ok (.iload_n 1, 1) := by decide +kernel
theorem dX7_of_9 : decode cX7_of 9 = .ok (.imul, 1) := by decide +kernel
theorem dX7_of_10 : decode cX7_of 10 = .ok (.iadd, 1) := by decide +kernel
theorem dX7_of_11 : decode cX7_of 11 = .ok (.iload_n 2, 1) := by decide +kernel
theorem dX7_of_12 : decode cX7_of 12 = .ok (.iadd, 1) := by decide +kernel
theorem dX7_of_13 : decode cX7_of 13 = .ok (.iaload, 1) := by decide +kernel
theorem dX7_of_14 : decode cX7_of 14 = .ok (.ireturn, 1) := by decide +kernel
theorem dX7_becomesOf_0 : decode cX7_becomesOf 0 = .ok (.aload_n 0, 1) := by decide +kernel
theorem dX7_becomesOf_1 : decode cX7_becomesOf 1 = .ok (.getfield 13, 3) := by decide +kernel
theorem dX7_becomesOf_4 : decode cX7_becomesOf 4 = .ok (.bipush 6, 2) := by decide +kernel
theorem dX7_becomesOf_6 : decode cX7_becomesOf 6 = .ok (.bipush 6, 2) := by decide +kernel
theorem dX7_becomesOf_8 : decode cX7_becomesOf 8 = .ok (.iload_n 1, 1) := by decide +kernel
theorem dX7_becomesOf_9 : decode cX7_becomesOf 9 = .ok (.imul, 1) := by decide +kernel
theorem dX7_becomesOf_10 : decode cX7_becomesOf 10 = .ok (.iadd, 1) := by decide +kernel
theorem dX7_becomesOf_11 : decode cX7_becomesOf 11 = .ok (.iload_n 2, 1) := by decide +kernel
theorem dX7_becomesOf_12 : decode cX7_becomesOf 12 = .ok (.iadd, 1) := by decide +kernel
theorem dX7_becomesOf_13 : decode cX7_becomesOf 13 = .ok (.iload_n 3, 1) := by decide +kernel
theorem dX7_becomesOf_14 : decode cX7_becomesOf 14 = .ok (.iastore, 1) := by decide +kernel
theorem dX7_becomesOf_15 : decode cX7_becomesOf 15 = .ok (.return_, 1) := by decide +kernel
theorem dX7_countsFrom_0 : decode cX7_countsFrom 0 = .ok (.aload_n 0, 1) := by decide +kernel
theorem dX7_countsFrom_1 : decode cX7_countsFrom 1 = .ok (.getfield 13, 3) := by decide +kernel
theorem dX7_countsFrom_4 : decode cX7_countsFrom 4 = .ok (.iconst 5, 1) := by decide +kernel
theorem dX7_countsFrom_5 : decode cX7_countsFrom 5 = .ok (.iaload, 1) := by decide +kernel
theorem dX7_countsFrom_6 : decode cX7_countsFrom 6 = .ok (.iconst 1, 1) := by decide +kernel
theorem dX7_countsFrom_7 : decode cX7_countsFrom 7 = .ok (.if_icmp .ne 22, 3) := by decide +kernel
theorem dX7_countsFrom_10 : decode cX7_countsFrom 10 = .ok (.aload_n 0, 1) := by decide +kernel
theorem dX7_countsFrom_11 : decode cX7_countsFrom 11 = .ok (.iload_n 1, 1) := by decide +kernel
theorem dX7_countsFrom_12 : decode cX7_countsFrom 12 = .ok (.iconst 4, 1) := by decide +kernel
theorem dX7_countsFrom_13 : decode cX7_countsFrom 13 = .ok (.invokevirtual 166, 3) := by decide +kernel
theorem dX7_countsFrom_16 : decode cX7_countsFrom 16 = .ok (.aload_n 0, 1) := by decide +kernel
theorem dX7_countsFrom_17 : decode cX7_countsFrom 17 = .ok (.getfield 13, 3) := by decide +kernel
theorem dX7_countsFrom_20 : decode cX7_countsFrom 20 = .ok (.iconst 4, 1) := by decide +kernel
theorem dX7_countsFrom_21 : decode cX7_countsFrom 21 = .ok (.iaload, 1) := by decide +kernel
theorem dX7_countsFrom_22 : decode cX7_countsFrom 22 = .ok (.if_icmp .le 7, 3) := by decide +kernel
theorem dX7_countsFrom_25 : decode cX7_countsFrom 25 = .ok (.iconst 1, 1) := by decide +kernel
theorem dX7_countsFrom_26 : decode cX7_countsFrom 26 = .ok (.goto 4, 3) := by decide +kernel
theorem dX7_countsFrom_29 : decode cX7_countsFrom 29 = .ok (.iconst 0, 1) := by decide +kernel
theorem dX7_countsFrom_30 : decode cX7_countsFrom 30 = .ok (.istore_n 2, 1) := by decide +kernel
theorem dX7_countsFrom_31 : decode cX7_countsFrom 31 = .ok (.aload_n 0, 1) := by decide +kernel
theorem dX7_countsFrom_32 : decode cX7_countsFrom 32 = .ok (.iload_n 1, 1) := by decide +kernel
theorem dX7_countsFrom_33 : decode cX7_countsFrom 33 = .ok (.iconst 2, 1) := by decide +kernel
theorem dX7_countsFrom_34 : decode cX7_countsFrom 34 = .ok (.invokevirtual 166, 3) := by decide +kernel
theorem dX7_countsFrom_37 : decode cX7_countsFrom 37 = .ok (.iload_n 2, 1) := by decide +kernel
theorem dX7_countsFrom_38 : decode cX7_countsFrom 38 = .ok (.ifCond .eq 12, 3) := by decide +kernel
theorem dX7_countsFrom_41 : decode cX7_countsFrom 41 = .ok (.aload_n 0, 1) := by decide +kernel
theorem dX7_countsFrom_42 : decode cX7_countsFrom 42 = .ok (.iload_n 1, 1) := by decide +kernel
theorem dX7_countsFrom_43 : decode cX7_countsFrom 43 = .ok (.iconst 4, 1) := by decide +kernel
theorem dX7_countsFrom_44 : decode cX7_countsFrom 44 = .ok (.invokevirtual 166, 3) := by decide +kernel
theorem dX7_countsFrom_47 : decode cX7_countsFrom 47 = .ok (.goto 9, 3) := by decide +kernel
theorem dX7_countsFrom_50 : decode cX7_countsFrom 50 = .ok (.aload_n 0, 1) := by decide +kernel
theorem dX7_countsFrom_51 : decode cX7_countsFrom 51 = .ok (.getfield 13, 3) := by decide +kernel
theorem dX7_countsFrom_54 : decode cX7_countsFrom 54 = .ok (.iconst 4, 1) := by decide +kernel
theorem dX7_countsFrom_55 : decode cX7_countsFrom 55 = .ok (.iaload, 1) := by decide +kernel
theorem dX7_countsFrom_56 : decode cX7_countsFrom 56 = .ok (.isub, 1) := by decide +kernel
theorem dX7_countsFrom_57 : decode cX7_countsFrom 57 = .ok (.istore_n 3, 1) := by decide +kernel
theorem dX7_countsFrom_58 : decode cX7_countsFrom 58 = .ok (.iload_n 3, 1) := by decide +kernel
theorem dX7_countsFrom_59 : decode cX7_countsFrom 59 = .ok (.ifCond .le 7, 3) := by decide +kernel
theorem dX7_countsFrom_62 : decode cX7_countsFrom 62 = .ok (.iload_n 3, 1) := by decide +kernel
theorem dX7_countsFrom_63 : decode cX7_countsFrom 63 = .ok (.goto 4, 3) := by decide +kernel
theorem dX7_countsFrom_66 : decode cX7_countsFrom 66 = .ok (.iconst 0, 1) := by decide +kernel
theorem dX7_countsFrom_67 : decode cX7_countsFrom 67 = .ok (.ireturn, 1) := by decide +kernel
theorem dX7_cargoTold_0 : decode cX7_cargoTold 0 = .ok (.aload_n 0, 1) := by decide +kernel
theorem dX7_cargoTold_1 : decode cX7_cargoTold 1 = .ok (.iload_n 1, 1) := by decide +kernel
theorem dX7_cargoTold_2 : decode cX7_cargoTold 2 = .ok (.iconst 5, 1) := by decide +kernel
theorem dX7_cargoTold_3 : decode cX7_cargoTold 3 = .ok (.invokevirtual 166, 3) := by decide +kernel
theorem dX7_cargoTold_6 : decode cX7_cargoTold 6 = .ok (.ifCond .ne 12, 3) := by decide +kernel
theorem dX7_cargoTold_9 : decode cX7_cargoTold 9 = .ok (.aload_n 0, 1) := by decide +kernel
theorem dX7_cargoTold_10 : decode cX7_cargoTold 10 = .ok (.iload_n 1, 1) := by decide +kernel
theorem dX7_cargoTold_11 : decode cX7_cargoTold 11 = .ok (.iconst 1, 1) := by decide +kernel
theorem dX7_cargoTold_12 : decode cX7_cargoTold 12 = .ok (.invokevirtual 166, 3) := by decide +kernel
theorem dX7_cargoTold_15 : decode cX7_cargoTold 15 = .ok (.goto 20, 3) := by decide +kernel
theorem dX7_cargoTold_18 : decode cX7_cargoTold 18 = .ok (.aload_n 0, 1) := by decide +kernel
theorem dX7_cargoTold_19 : decode cX7_cargoTold 19 = .ok (.getfield 163, 3) := by decide +kernel
theorem dX7_cargoTold_22 : decode cX7_cargoTold 22 = .ok (.iload_n 1, 1) := by decide +kernel
theorem dX7_cargoTold_23 : decode cX7_cargoTold 23 = .ok (.ishr, 1) := by decide +kernel
theorem dX7_cargoTold_24 : decode cX7_cargoTold 24 = .ok (.iconst 1, 1) := by decide +kernel
theorem dX7_cargoTold_25 : decode cX7_cargoTold 25 = .ok (.iand, 1) := by decide +kernel
theorem dX7_cargoTold_26 : decode cX7_cargoTold 26 = .ok (.iconst 1, 1) := by decide +kernel
theorem dX7_cargoTold_27 : decode cX7_cargoTold 27 = .ok (.if_icmp .ne 7, 3) := by decide +kernel
theorem dX7_cargoTold_30 : decode cX7_cargoTold 30 = .ok (.iconst 4, 1) := by decide +kernel
theorem dX7_cargoTold_31 : decode cX7_cargoTold 31 = .ok (.goto 4, 3) := by decide +kernel
theorem dX7_cargoTold_34 : decode cX7_cargoTold 34 = .ok (.iconst 0, 1) := by decide +kernel
theorem dX7_cargoTold_35 : decode cX7_cargoTold 35 = .ok (.ireturn, 1) := by decide +kernel
theorem dX7_opens_0 : decode cX7_opens 0 = .ok (.aload_n 0, 1) := by decide +kernel
theorem dX7_opens_1 : decode cX7_opens 1 = .ok (.iconst 0, 1) := by decide +kernel
theorem dX7_opens_2 : decode cX7_opens 2 = .ok (.putfield 169, 3) := by decide +kernel
theorem dX7_opens_5 : decode cX7_opens 5 = .ok (.aload_n 0, 1) := by decide +kernel
theorem dX7_opens_6 : decode cX7_opens 6 = .ok (.iconst 0, 1) := by decide +kernel
theorem dX7_opens_7 : decode cX7_opens 7 = .ok (.putfield 172, 3) := by decide +kernel
theorem dX7_opens_10 : decode cX7_opens 10 = .ok (.aload_n 0, 1) := by decide +kernel
theorem dX7_opens_11 : decode cX7_opens 11 = .ok (.aload_n 0, 1) := by decide +kernel
theorem dX7_opens_12 : decode cX7_opens 12 = .ok (.getfield 13, 3) := by decide +kernel
theorem dX7_opens_15 : decode cX7_opens 15 = .ok (.iconst 2, 1) := by decide +kernel
theorem dX7_opens_16 : decode cX7_opens 16 = .ok (.iaload, 1) := by decide +kernel
theorem dX7_opens_17 : decode cX7_opens 17 = .ok (.putfield 175, 3) := by decide +kernel
theorem dX7_opens_20 : decode cX7_opens 20 = .ok (.aload_n 0, 1) := by decide +kernel
theorem dX7_opens_21 : decode cX7_opens 21 = .ok (.iconst 0, 1) := by decide +kernel
theorem dX7_opens_22 : decode cX7_opens 22 = .ok (.putfield 178, 3) := by decide +kernel
theorem dX7_opens_25 : decode cX7_opens 25 = .ok (.aload_n 0, 1) := by decide +kernel
theorem dX7_opens_26 : decode cX7_opens 26 = .ok (.iconst 0, 1) := by decide +kernel
theorem dX7_opens_27 : decode cX7_opens 27 = .ok (.putfield 181, 3) := by decide +kernel
theorem dX7_opens_30 : decode cX7_opens 30 = .ok (.return_, 1) := by decide +kernel
theorem dX7_lets_0 : decode cX7_lets 0 = .ok (.aload_n 0, 1) := by decide +kernel
theorem dX7_lets_1 : decode cX7_lets 1 = .ok (.iload_n 1, 1) := by decide +kernel
theorem dX7_lets_2 : decode cX7_lets 2 = .ok (.iconst 0, 1) := by decide +kernel
theorem dX7_lets_3 : decode cX7_lets 3 = .ok (.invokevirtual 166, 3) := by decide +kernel
theorem dX7_lets_6 : decode cX7_lets 6 = .ok (.istore_n 2, 1) := by decide +kernel
theorem dX7_lets_7 : decode cX7_lets 7 = .ok (.iload_n 2, 1) := by decide +kernel
theorem dX7_lets_8 : decode cX7_lets 8 = .ok (.aload_n 0, 1) := by decide +kernel
theorem dX7_lets_9 : decode cX7_lets 9 = .ok (.getfield 175, 3) := by decide +kernel
theorem dX7_lets_12 : decode cX7_lets 12 = .ok (.if_icmp .eq 50, 3) := by decide +kernel
theorem dX7_lets_15 : decode cX7_lets 15 = .ok (.aload_n 0, 1) := by decide +kernel
theorem dX7_lets_16 : decode cX7_lets 16 = .ok (.dup, 1) := by decide +kernel
theorem dX7_lets_17 : decode cX7_lets 17 = .ok (.getfield 172, 3) := by decide +kernel
theorem dX7_lets_20 : decode cX7_lets 20 = .ok (.aload_n 0, 1) := by decide +kernel
theorem dX7_lets_21 : decode cX7_lets 21 = .ok (.getfield 13, 3) := by decide +kernel
theorem dX7_lets_24 : decode cX7_lets 24 = .ok (.iconst 1, 1) := by decide +kernel
theorem dX7_lets_25 : decode cX7_lets 25 = .ok (.iaload, 1) := by decide +kernel
theorem dX7_lets_26 : decode cX7_lets 26 = .ok (.iadd, 1) := by decide +kernel
theorem dX7_lets_27 : decode cX7_lets 27 = .ok (.putfield 172, 3) := by decide +kernel
theorem dX7_lets_30 : decode cX7_lets 30 = .ok (.aload_n 0, 1) := by decide +kernel
theorem dX7_lets_31 : decode cX7_lets 31 = .ok (.dup, 1) := by decide +kernel
theorem dX7_lets_32 : decode cX7_lets 32 = .ok (.getfield 181, 3) := by decide +kernel
theorem dX7_lets_35 : decode cX7_lets 35 = .ok (.iconst 1, 1) := by decide +kernel
theorem dX7_lets_36 : decode cX7_lets 36 = .ok (.iadd, 1) := by decide +kernel
theorem dX7_lets_37 : decode cX7_lets 37 = .ok (.putfield 181, 3) := by decide +kernel
theorem dX7_lets_40 : decode cX7_lets 40 = .ok (.aload_n 0, 1) := by decide +kernel
theorem dX7_lets_41 : decode cX7_lets 41 = .ok (.dup, 1) := by decide +kernel
theorem dX7_lets_42 : decode cX7_lets 42 = .ok (.getfield 178, 3) := by decide +kernel
theorem dX7_lets_45 : decode cX7_lets 45 = .ok (.iload_n 2, 1) := by decide +kernel
theorem dX7_lets_46 : decode cX7_lets 46 = .ok (.iconst 1, 1) := by decide +kernel
theorem dX7_lets_47 : decode cX7_lets 47 = .ok (.if_icmp .ne 7, 3) := by decide +kernel
theorem dX7_lets_50 : decode cX7_lets 50 = .ok (.iconst 1, 1) := by decide +kernel
theorem dX7_lets_51 : decode cX7_lets 51 = .ok (.goto 4, 3) := by decide +kernel
theorem dX7_lets_54 : decode cX7_lets 54 = .ok (.iconst 0, 1) := by decide +kernel
theorem dX7_lets_55 : decode cX7_lets 55 = .ok (.invokestatic 184, 3) := by decide +kernel
theorem dX7_lets_58 : decode cX7_lets 58 = .ok (.iadd, 1) := by decide +kernel
theorem dX7_lets_59 : decode cX7_lets 59 = .ok (.putfield 178, 3) := by decide +kernel
theorem dX7_lets_62 : decode cX7_lets 62 = .ok (.aload_n 0, 1) := by decide +kernel
theorem dX7_lets_63 : decode cX7_lets 63 = .ok (.getfield 172, 3) := by decide +kernel
theorem dX7_lets_66 : decode cX7_lets 66 = .ok (.aload_n 0, 1) := by decide +kernel
theorem dX7_lets_67 : decode cX7_lets 67 = .ok (.iload_n 1, 1) := by decide +kernel
theorem dX7_lets_68 : decode cX7_lets 68 = .ok (.iconst 2, 1) := by decide +kernel
theorem dX7_lets_69 : decode cX7_lets 69 = .ok (.invokevirtual 166, 3) := by decide +kernel
theorem dX7_lets_72 : decode cX7_lets 72 = .ok (.if_icmp .le 10, 3) := by decide +kernel
theorem dX7_lets_75 : decode cX7_lets 75 = .ok (.aload_n 0, 1) := by decide +kernel
theorem dX7_lets_76 : decode cX7_lets 76 = .ok (.getfield 172, 3) := by decide +kernel
theorem dX7_lets_79 : decode cX7_lets 79 = .ok (.goto 9, 3) := by decide +kernel
theorem dX7_lets_82 : decode cX7_lets 82 = .ok (.aload_n 0, 1) := by decide +kernel
theorem dX7_lets_83 : decode cX7_lets 83 = .ok (.iload_n 1, 1) := by decide +kernel
theorem dX7_lets_84 : decode cX7_lets 84 = .ok (.iconst 2, 1) := by decide +kernel
theorem dX7_lets_85 : decode cX7_lets 85 = .ok (.invokevirtual 166, 3) := by decide +kernel
theorem dX7_lets_88 : decode cX7_lets 88 = .ok (.istore_n 3, 1) := by decide +kernel
theorem dX7_lets_89 : decode cX7_lets 89 = .ok (.aload_n 0, 1) := by decide +kernel
theorem dX7_lets_90 : decode cX7_lets 90 = .ok (.getfield 32, 3) := by decide +kernel
theorem dX7_lets_93 : decode cX7_lets 93 = .ok (.iload_n 1, 1) := by decide +kernel
theorem dX7_lets_94 : decode cX7_lets 94 = .ok (.iload_n 3, 1) := by decide +kernel
theorem dX7_lets_95 : decode cX7_lets 95 = .ok (.aload_n 0, 1) := by decide +kernel
theorem dX7_lets_96 : decode cX7_lets 96 = .ok (.iload_n 1, 1) := by decide +kernel
theorem dX7_lets_97 : decode cX7_lets 97 = .ok (.iconst 2, 1) := by decide +kernel
theorem dX7_lets_98 : decode cX7_lets 98 = .ok (.invokevirtual 166, 3) := by decide +kernel
theorem dX7_lets_101 : decode cX7_lets 101 = .ok (.isub, 1) := by decide +kernel
theorem dX7_lets_102 : decode cX7_lets 102 = .ok (.iastore, 1) := by decide +kernel
theorem dX7_lets_103 : decode cX7_lets 103 = .ok (.aload_n 0, 1) := by decide +kernel
theorem dX7_lets_104 : decode cX7_lets 104 = .ok (.iload_n 3, 1) := by decide +kernel
theorem dX7_lets_105 : decode cX7_lets 105 = .ok (.aload_n 0, 1) := by decide +kernel
theorem dX7_lets_106 : decode cX7_lets 106 = .ok (.getfield 13, 3) := by decide +kernel
theorem dX7_lets_109 : decode cX7_lets 109 = .ok (.iconst 0, 1) := by decide +kernel
theorem dX7_lets_110 : decode cX7_lets 110 = .ok (.iaload, 1) := by decide +kernel
theorem dX7_lets_111 : decode cX7_lets 111 = .ok (.iadd, 1) := by decide +kernel
theorem dX7_lets_112 : decode cX7_lets 112 = .ok (.putfield 172, 3) := by decide +kernel
theorem dX7_lets_115 : decode cX7_lets 115 = .ok (.aload_n 0, 1) := by decide +kernel
theorem dX7_lets_116 : decode cX7_lets 116 = .ok (.getfield 29, 3) := by decide +kernel
theorem dX7_lets_119 : decode cX7_lets 119 = .ok (.iload_n 1, 1) := by decide +kernel
theorem dX7_lets_120 : decode cX7_lets 120 = .ok (.aload_n 0, 1) := by decide +kernel
theorem dX7_lets_121 : decode cX7_lets 121 = .ok (.getfield 172, 3) := by decide +kernel
theorem dX7_lets_124 : decode cX7_lets 124 = .ok (.iastore, 1) := by decide +kernel
theorem dX7_lets_125 : decode cX7_lets 125 = .ok (.aload_n 0, 1) := by decide +kernel
theorem dX7_lets_126 : decode cX7_lets 126 = .ok (.iconst 1, 1) := by decide +kernel
theorem dX7_lets_127 : decode cX7_lets 127 = .ok (.iload_n 2, 1) := by decide +kernel
theorem dX7_lets_128 : decode cX7_lets 128 = .ok (.isub, 1) := by decide +kernel
theorem dX7_lets_129 : decode cX7_lets 129 = .ok (.putfield 175, 3) := by decide +kernel
theorem dX7_lets_132 : decode cX7_lets 132 = .ok (.aload_n 0, 1) := by decide +kernel
theorem dX7_lets_133 : decode cX7_lets 133 = .ok (.dup, 1) := by decide +kernel
theorem dX7_lets_134 : decode cX7_lets 134 = .ok (.getfield 178, 3) := by decide +kernel
theorem dX7_lets_137 : decode cX7_lets 137 = .ok (.iload_n 2, 1) := by decide +kernel
theorem dX7_lets_138 : decode cX7_lets 138 = .ok (.ifCond .ne 7, 3) := by decide +kernel
theorem dX7_lets_141 : decode cX7_lets 141 = .ok (.iconst 1, 1) := by decide +kernel
theorem dX7_lets_142 : decode cX7_lets 142 = .ok (.goto 4, 3) := by decide +kernel
theorem dX7_lets_145 : decode cX7_lets 145 = .ok (.iconst 0, 1) := by decide +kernel
theorem dX7_lets_146 : decode cX7_lets 146 = .ok (.invokestatic 184, 3) := by decide +kernel
theorem dX7_lets_149 : decode cX7_lets 149 = .ok (.iadd, 1) := by decide +kernel
theorem dX7_lets_150 : decode cX7_lets 150 = .ok (.putfield 178, 3) := by decide +kernel
theorem dX7_lets_153 : decode cX7_lets 153 = .ok (.aload_n 0, 1) := by decide +kernel
theorem dX7_lets_154 : decode cX7_lets 154 = .ok (.getfield 26, 3) := by decide +kernel
theorem dX7_lets_157 : decode cX7_lets 157 = .ok (.aload_n 0, 1) := by decide +kernel
theorem dX7_lets_158 : decode cX7_lets 158 = .ok (.getfield 169, 3) := by decide +kernel
theorem dX7_lets_161 : decode cX7_lets 161 = .ok (.iload_n 1, 1) := by decide +kernel
theorem dX7_lets_162 : decode cX7_lets 162 = .ok (.iastore, 1) := by decide +kernel
theorem dX7_lets_163 : decode cX7_lets 163 = .ok (.aload_n 0, 1) := by decide +kernel
theorem dX7_lets_164 : decode cX7_lets 164 = .ok (.dup, 1) := by decide +kernel
theorem dX7_lets_165 : decode cX7_lets 165 = .ok (.getfield 169, 3) := by decide +kernel
theorem dX7_lets_168 : decode cX7_lets 168 = .ok (.iconst 1, 1) := by decide +kernel
theorem dX7_lets_169 : decode cX7_lets 169 = .ok (.iadd, 1) := by decide +kernel
theorem dX7_lets_170 : decode cX7_lets 170 = .ok (.putfield 169, 3) := by decide +kernel
theorem dX7_lets_173 : decode cX7_lets 173 = .ok (.return_, 1) := by decide +kernel
theorem dX7_sideOf_0 : decode cX7_sideOf 0 = .ok (.aload_n 0, 1) := by decide +kernel
theorem dX7_sideOf_1 : decode cX7_sideOf 1 = .ok (.aload_n 0, 1) := by decide +kernel
theorem dX7_sideOf_2 : decode cX7_sideOf 2 = .ok (.getfield 26, 3) := by decide +kernel
theorem dX7_sideOf_5 : decode cX7_sideOf 5 = .ok (.iload_n 1, 1) := by decide +kernel
theorem dX7_sideOf_6 : decode cX7_sideOf 6 = .ok (.iaload, 1) := by decide +kernel
theorem dX7_sideOf_7 : decode cX7_sideOf 7 = .ok (.iconst 0, 1) := by decide +kernel
theorem dX7_sideOf_8 : decode cX7_sideOf 8 = .ok (.invokevirtual 166, 3) := by decide +kernel
theorem dX7_sideOf_11 : decode cX7_sideOf 11 = .ok (.ireturn, 1) := by decide +kernel
theorem dX7_comeFrom_0 : decode cX7_comeFrom 0 = .ok (.iconst 0, 1) := by decide +kernel
theorem dX7_comeFrom_1 : decode cX7_comeFrom 1 = .ok (.istore_n 3, 1) := by decide +kernel
theorem dX7_comeFrom_2 : decode cX7_comeFrom 2 = .ok (.iconst 0, 1) := by decide +kernel
theorem dX7_comeFrom_3 : decode cX7_comeFrom 3 = .ok (.istore 4, 2) := by decide +kernel
theorem dX7_comeFrom_5 : decode cX7_comeFrom 5 = .ok (.iload 4, 2) := by decide +kernel
theorem dX7_comeFrom_7 : decode cX7_comeFrom 7 = .ok (.aload_n 0, 1) := by decide +kernel
theorem dX7_comeFrom_8 : decode cX7_comeFrom 8 = .ok (.getfield 69, 3) := by decide +kernel
theorem dX7_comeFrom_11 : decode cX7_comeFrom 11 = .ok (.if_icmp .ge 44, 3) := by decide +kernel
theorem dX7_comeFrom_14 : decode cX7_comeFrom 14 = .ok (.iload_n 3, 1) := by decide +kernel
theorem dX7_comeFrom_15 : decode cX7_comeFrom 15 = .ok (.iload_n 1, 1) := by decide +kernel
theorem dX7_comeFrom_16 : decode cX7_comeFrom 16 = .ok (.iload 4, 2) := by decide +kernel
theorem dX7_comeFrom_18 : decode cX7_comeFrom 18 = .ok (.ishr, 1) := by decide +kernel
theorem dX7_comeFrom_19 : decode cX7_comeFrom 19 = .ok (.iconst 1, 1) := by decide +kernel
theorem dX7_comeFrom_20 : decode cX7_comeFrom 20 = .ok (.iand, 1) := by decide +kernel
theorem dX7_comeFrom_21 : decode cX7_comeFrom 21 = .ok (.iconst 1, 1) := by decide +kernel
theorem dX7_comeFrom_22 : decode cX7_comeFrom 22 = .ok (.if_icmp .ne 18, 3) := by decide +kernel
theorem dX7_comeFrom_25 : decode cX7_comeFrom 25 = .ok (.aload_n 0, 1) := by decide +kernel
theorem dX7_comeFrom_26 : decode cX7_comeFrom 26 = .ok (.iload 4, 2) := by decide +kernel
theorem dX7_comeFrom_28 : decode cX7_comeFrom 28 = .ok (.iconst 0, 1) := by decide +kernel
theorem dX7_comeFrom_29 : decode cX7_comeFrom 29 = .ok (.invokevirtual 166, 3) := by decide +kernel
theorem dX7_comeFrom_32 : decode cX7_comeFrom 32 = .ok (.iload_n 2, 1) := by decide +kernel
theorem dX7_comeFrom_33 : decode cX7_comeFrom 33 = .ok (.if_icmp .ne 7, 3) := by decide +kernel
theorem dX7_comeFrom_36 : decode cX7_comeFrom 36 = .ok (.iconst 1, 1) := by decide +kernel
theorem dX7_comeFrom_37 : decode cX7_comeFrom 37 = .ok (.goto 4, 3) := by decide +kernel
theorem dX7_comeFrom_40 : decode cX7_comeFrom 40 = .ok (.iconst 0, 1) := by decide +kernel
theorem dX7_comeFrom_41 : decode cX7_comeFrom 41 = .ok (.invokestatic 184, 3) := by decide +kernel
theorem dX7_comeFrom_44 : decode cX7_comeFrom 44 = .ok (.iload 4, 2) := by decide +kernel
theorem dX7_comeFrom_46 : decode cX7_comeFrom 46 = .ok (.ishl, 1) := by decide +kernel
theorem dX7_comeFrom_47 : decode cX7_comeFrom 47 = .ok (.ior, 1) := by decide +kernel
theorem dX7_comeFrom_48 : decode cX7_comeFrom 48 = .ok (.istore_n 3, 1) := by decide +kernel
theorem dX7_comeFrom_49 : decode cX7_comeFrom 49 = .ok (.iinc 4 1, 3) := by decide +kernel
theorem dX7_comeFrom_52 : decode cX7_comeFrom 52 = .ok (.goto (-47), 3) := by decide +kernel
theorem dX7_comeFrom_55 : decode cX7_comeFrom 55 = .ok (.iload_n 3, 1) := by decide +kernel
theorem dX7_comeFrom_56 : decode cX7_comeFrom 56 = .ok (.ireturn, 1) := by decide +kernel
theorem dX7_bitsOf_0 : decode cX7_bitsOf 0 = .ok (.iconst 0, 1) := by decide +kernel
theorem dX7_bitsOf_1 : decode cX7_bitsOf 1 = .ok (.istore_n 1, 1) := by decide +kernel
theorem dX7_bitsOf_2 : decode cX7_bitsOf 2 = .ok (.iconst 0, 1) := by decide +kernel
theorem dX7_bitsOf_3 : decode cX7_bitsOf 3 = .ok (.istore_n 2, 1) := by decide +kernel
theorem dX7_bitsOf_4 : decode cX7_bitsOf 4 = .ok (.iload_n 2, 1) := by decide +kernel
theorem dX7_bitsOf_5 : decode cX7_bitsOf 5 = .ok (.bipush 6, 2) := by decide +kernel
theorem dX7_bitsOf_7 : decode cX7_bitsOf 7 = .ok (.if_icmp .ge 17, 3) := by decide +kernel
theorem dX7_bitsOf_10 : decode cX7_bitsOf 10 = .ok (.iload_n 1, 1) := by decide +kernel
theorem dX7_bitsOf_11 : decode cX7_bitsOf 11 = .ok (.iload_n 0, 1) := by decide +kernel
theorem dX7_bitsOf_12 : decode cX7_bitsOf 12 = .ok (.iload_n 2, 1) := by decide +kernel
theorem dX7_bitsOf_13 : decode cX7_bitsOf 13 = .ok (.ishr, 1) := by decide +kernel
theorem dX7_bitsOf_14 : decode cX7_bitsOf 14 = .ok (.iconst 1, 1) := by decide +kernel
theorem dX7_bitsOf_15 : decode cX7_bitsOf 15 = .ok (.iand, 1) := by decide +kernel
theorem dX7_bitsOf_16 : decode cX7_bitsOf 16 = .ok (.iadd, 1) := by decide +kernel
theorem dX7_bitsOf_17 : decode cX7_bitsOf 17 = .ok (.istore_n 1, 1) := by decide +kernel
theorem dX7_bitsOf_18 : decode cX7_bitsOf 18 = .ok (.iinc 2 1, 3) := by decide +kernel
theorem dX7_bitsOf_21 : decode cX7_bitsOf 21 = .ok (.goto (-17), 3) := by decide +kernel
theorem dX7_bitsOf_24 : decode cX7_bitsOf 24 = .ok (.iload_n 1, 1) := by decide +kernel
theorem dX7_bitsOf_25 : decode cX7_bitsOf 25 = .ok (.ireturn, 1) := by decide +kernel
theorem dX7_preferred_0 : decode cX7_preferred 0 = .ok (.aload_n 0, 1) := by decide +kernel
theorem dX7_preferred_1 : decode cX7_preferred 1 = .ok (.iload_n 1, 1) := by decide +kernel
theorem dX7_preferred_2 : decode cX7_preferred 2 = .ok (.iload_n 2, 1) := by decide +kernel
theorem dX7_preferred_3 : decode cX7_preferred 3 = .ok (.invokevirtual 188, 3) := by decide +kernel
theorem dX7_preferred_6 : decode cX7_preferred 6 = .ok (.istore_n 3, 1) := by decide +kernel
theorem dX7_preferred_7 : decode cX7_preferred 7 = .ok (.iload_n 3, 1) := by decide +kernel
theorem dX7_preferred_8 : decode cX7_preferred 8 = .ok (.ifCond .ne 7, 3) := by decide +kernel
theorem dX7_preferred_11 : decode cX7_preferred 11 = .ok (.iload_n 1, 1) := by decide +kernel
theorem dX7_preferred_12 : decode cX7_preferred 12 = .ok (.goto 4, 3) := by decide +kernel
theorem dX7_preferred_15 : decode cX7_preferred 15 = .ok (.iload_n 3, 1) := by decide +kernel
theorem dX7_preferred_16 : decode cX7_preferred 16 = .ok (.ireturn, 1) := by decide +kernel
theorem dX7_leastCargo_0 : decode cX7_leastCargo 0 = .ok (.ldc 191, 2) := by decide +kernel
theorem dX7_leastCargo_2 : decode cX7_leastCargo 2 = .ok (.istore_n 2, 1) := by decide +kernel
theorem dX7_leastCargo_3 : decode cX7_leastCargo 3 = .ok (.iconst 0, 1) := by decide +kernel
theorem dX7_leastCargo_4 : decode cX7_leastCargo 4 = .ok (.istore_n 3, 1) := by decide +kernel
theorem dX7_leastCargo_5 : decode cX7_leastCargo 5 = .ok (.iconst 0, 1) := by decide +kernel
theorem dX7_leastCargo_6 : decode cX7_leastCargo 6 = .ok (.istore 4, 2) := by decide +kernel
theorem dX7_leastCargo_8 : decode cX7_leastCargo 8 = .ok (.iload 4, 2) := by decide +kernel
theorem dX7_leastCargo_10 : decode cX7_leastCargo 10 = .ok (.aload_n 0, 1) := by decide +kernel
theorem dX7_leastCargo_11 : decode cX7_leastCargo 11 = .ok (.getfield 69, 3) := by decide +kernel
theorem dX7_leastCargo_14 : decode cX7_leastCargo 14 = .ok (.if_icmp .ge 70, 3) := by decide +kernel
theorem dX7_leastCargo_17 : decode cX7_leastCargo 17 = .ok (.iload_n 1, 1) := by decide +kernel
theorem dX7_leastCargo_18 : decode cX7_leastCargo 18 = .ok (.iload 4, 2) := by decide +kernel
theorem dX7_leastCargo_20 : decode cX7_leastCargo 20 = .ok (.ishr, 1) := by decide +kernel
theorem dX7_leastCargo_21 : decode cX7_leastCargo 21 = .ok (.iconst 1, 1) := by decide +kernel
theorem dX7_leastCargo_22 : decode cX7_leastCargo 22 = .ok (.iand, 1) := by decide +kernel
theorem dX7_leastCargo_23 : decode cX7_leastCargo 23 = .ok (.iconst 1, 1) := by decide +kernel
theorem dX7_leastCargo_24 : decode cX7_leastCargo 24 = .ok (.if_icmp .ne 54, 3) := by decide +kernel
theorem dX7_leastCargo_27 : decode cX7_leastCargo 27 = .ok (.aload_n 0, 1) := by decide +kernel
theorem dX7_leastCargo_28 : decode cX7_leastCargo 28 = .ok (.iload 4, 2) := by decide +kernel
theorem dX7_leastCargo_30 : decode cX7_leastCargo 30 = .ok (.invokevirtual 192, 3) := by decide +kernel
theorem dX7_leastCargo_33 : decode cX7_leastCargo 33 = .ok (.istore 5, 2) := by decide +kernel
theorem dX7_leastCargo_35 : decode cX7_leastCargo 35 = .ok (.iload 5, 2) := by decide +kernel
theorem dX7_leastCargo_37 : decode cX7_leastCargo 37 = .ok (.iload_n 2, 1) := by decide +kernel
theorem dX7_leastCargo_38 : decode cX7_leastCargo 38 = .ok (.if_icmp .ge 10, 3) := by decide +kernel
theorem dX7_leastCargo_41 : decode cX7_leastCargo 41 = .ok (.iconst 1, 1) := by decide +kernel
theorem dX7_leastCargo_42 : decode cX7_leastCargo 42 = .ok (.iload 4, 2) := by decide +kernel
theorem dX7_leastCargo_44 : decode cX7_leastCargo 44 = .ok (.ishl, 1) := by decide +kernel
theorem dX7_leastCargo_45 : decode cX7_leastCargo 45 = .ok (.goto 19, 3) := by decide +kernel
theorem dX7_leastCargo_48 : decode cX7_leastCargo 48 = .ok (.iload 5, 2) := by decide +kernel
theorem dX7_leastCargo_50 : decode cX7_leastCargo 50 = .ok (.iload_n 2, 1) := by decide +kernel
theorem dX7_leastCargo_51 : decode cX7_leastCargo 51 = .ok (.if_icmp .ne 12, 3) := by decide +kernel
theorem dX7_leastCargo_54 : decode cX7_leastCargo 54 = .ok (.iload_n 3, 1) := by decide +kernel
theorem dX7_leastCargo_55 : decode cX7_leastCargo 55 = .ok (.iconst 1, 1) := by decide +kernel
theorem dX7_leastCargo_56 : decode cX7_leastCargo 56 = .ok (.iload 4, 2) := by decide +kernel
theorem dX7_leastCargo_58 : decode cX7_leastCargo 58 = .ok (.ishl, 1) := by decide +kernel
theorem dX7_leastCargo_59 : decode cX7_leastCargo 59 = .ok (.ior, 1) := by decide +kernel
theorem dX7_leastCargo_60 : decode cX7_leastCargo 60 = .ok (.goto 4, 3) := by decide +kernel
theorem dX7_leastCargo_63 : decode cX7_leastCargo 63 = .ok (.iload_n 3, 1) := by decide +kernel
theorem dX7_leastCargo_64 : decode cX7_leastCargo 64 = .ok (.istore_n 3, 1) := by decide +kernel
theorem dX7_leastCargo_65 : decode cX7_leastCargo 65 = .ok (.iload 5, 2) := by decide +kernel
theorem dX7_leastCargo_67 : decode cX7_leastCargo 67 = .ok (.iload_n 2, 1) := by decide +kernel
theorem dX7_leastCargo_68 : decode cX7_leastCargo 68 = .ok (.if_icmp .ge 8, 3) := by decide +kernel
theorem dX7_leastCargo_71 : decode cX7_leastCargo 71 = .ok (.iload 5, 2) := by decide +kernel
theorem dX7_leastCargo_73 : decode cX7_leastCargo 73 = .ok (.goto 4, 3) := by decide +kernel
theorem dX7_leastCargo_76 : decode cX7_leastCargo 76 = .ok (.iload_n 2, 1) := by decide +kernel
theorem dX7_leastCargo_77 : decode cX7_leastCargo 77 = .ok (.istore_n 2, 1) := by decide +kernel
theorem dX7_leastCargo_78 : decode cX7_leastCargo 78 = .ok (.iinc 4 1, 3) := by decide +kernel
theorem dX7_leastCargo_81 : decode cX7_leastCargo 81 = .ok (.goto (-73), 3) := by decide +kernel
theorem dX7_leastCargo_84 : decode cX7_leastCargo 84 = .ok (.iload_n 3, 1) := by decide +kernel
theorem dX7_leastCargo_85 : decode cX7_leastCargo 85 = .ok (.ireturn, 1) := by decide +kernel
theorem dX7_taken_0 : decode cX7_taken 0 = .ok (.aload_n 0, 1) := by decide +kernel
theorem dX7_taken_1 : decode cX7_taken 1 = .ok (.getfield 169, 3) := by decide +kernel
theorem dX7_taken_4 : decode cX7_taken 4 = .ok (.istore_n 2, 1) := by decide +kernel
theorem dX7_taken_5 : decode cX7_taken 5 = .ok (.aload_n 0, 1) := by decide +kernel
theorem dX7_taken_6 : decode cX7_taken 6 = .ok (.iload_n 1, 1) := by decide +kernel
theorem dX7_taken_7 : decode cX7_taken 7 = .ok (.iconst 0, 1) := by decide +kernel
theorem dX7_taken_8 : decode cX7_taken 8 = .ok (.invokevirtual 188, 3) := by decide +kernel
theorem dX7_taken_11 : decode cX7_taken 11 = .ok (.invokestatic 195, 3) := by decide +kernel
theorem dX7_taken_14 : decode cX7_taken 14 = .ok (.istore_n 3, 1) := by decide +kernel
theorem dX7_taken_15 : decode cX7_taken 15 = .ok (.aload_n 0, 1) := by decide +kernel
theorem dX7_taken_16 : decode cX7_taken 16 = .ok (.iload_n 1, 1) := by decide +kernel
theorem dX7_taken_17 : decode cX7_taken 17 = .ok (.iconst 1, 1) := by decide +kernel
theorem dX7_taken_18 : decode cX7_taken 18 = .ok (.invokevirtual 188, 3) := by decide +kernel
theorem dX7_taken_21 : decode cX7_taken 21 = .ok (.invokestatic 195, 3) := by decide +kernel
theorem dX7_taken_24 : decode cX7_taken 24 = .ok (.istore 4, 2) := by decide +kernel
theorem dX7_taken_26 : decode cX7_taken 26 = .ok (.aload_n 0, 1) := by decide +kernel
theorem dX7_taken_27 : decode cX7_taken 27 = .ok (.getfield 13, 3) := by decide +kernel
theorem dX7_taken_30 : decode cX7_taken 30 = .ok (.iconst 3, 1) := by decide +kernel
theorem dX7_taken_31 : decode cX7_taken 31 = .ok (.iaload, 1) := by decide +kernel
theorem dX7_taken_32 : decode cX7_taken 32 = .ok (.tableswitch 138 1 4 #[32, 42, 102, 108], 32) := by decide +kernel
theorem dX7_taken_64 : decode cX7_taken 64 = .ok (.aload_n 0, 1) := by decide +kernel
theorem dX7_taken_65 : decode cX7_taken 65 = .ok (.iload_n 1, 1) := by decide +kernel
theorem dX7_taken_66 : decode cX7_taken 66 = .ok (.aload_n 0, 1) := by decide +kernel
theorem dX7_taken_67 : decode cX7_taken 67 = .ok (.getfield 175, 3) := by decide +kernel
theorem dX7_taken_70 : decode cX7_taken 70 = .ok (.invokevirtual 198, 3) := by decide +kernel
theorem dX7_taken_73 : decode cX7_taken 73 = .ok (.ireturn, 1) := by decide +kernel
theorem dX7_taken_74 : decode cX7_taken 74 = .ok (.aload_n 0, 1) := by decide +kernel
theorem dX7_taken_75 : decode cX7_taken 75 = .ok (.iload_n 1, 1) := by decide +kernel
theorem dX7_taken_76 : decode cX7_taken 76 = .ok (.iload_n 2, 1) := by decide +kernel
theorem dX7_taken_77 : decode cX7_taken 77 = .ok (.ifCond .ne 12, 3) := by decide +kernel
theorem dX7_taken_80 : decode cX7_taken 80 = .ok (.aload_n 0, 1) := by decide +kernel
theorem dX7_taken_81 : decode cX7_taken 81 = .ok (.getfield 13, 3) := by decide +kernel
theorem dX7_taken_84 : decode cX7_taken 84 = .ok (.iconst 2, 1) := by decide +kernel
theorem dX7_taken_85 : decode cX7_taken 85 = .ok (.iaload, 1) := by decide +kernel
theorem dX7_taken_86 : decode cX7_taken 86 = .ok (.goto 44, 3) := by decide +kernel
theorem dX7_taken_89 : decode cX7_taken 89 = .ok (.iload_n 2, 1) := by decide +kernel
theorem dX7_taken_90 : decode cX7_taken 90 = .ok (.iconst 1, 1) := by decide +kernel
theorem dX7_taken_91 : decode cX7_taken 91 = .ok (.if_icmp .le 32, 3) := by decide +kernel
theorem dX7_taken_94 : decode cX7_taken 94 = .ok (.aload_n 0, 1) := by decide +kernel
theorem dX7_taken_95 : decode cX7_taken 95 = .ok (.iload_n 2, 1) := by decide +kernel
theorem dX7_taken_96 : decode cX7_taken 96 = .ok (.iconst 1, 1) := by decide +kernel
theorem dX7_taken_97 : decode cX7_taken 97 = .ok (.isub, 1) := by decide +kernel
theorem dX7_taken_98 : decode cX7_taken 98 = .ok (.invokevirtual 201, 3) := by decide +kernel
theorem dX7_taken_101 : decode cX7_taken 101 = .ok (.aload_n 0, 1) := by decide +kernel
theorem dX7_taken_102 : decode cX7_taken 102 = .ok (.iload_n 2, 1) := by decide +kernel
theorem dX7_taken_103 : decode cX7_taken 103 = .ok (.iconst 2, 1) := by decide +kernel
theorem dX7_taken_104 : decode cX7_taken 104 = .ok (.isub, 1) := by decide +kernel
theorem dX7_taken_105 : decode cX7_taken 105 = .ok (.invokevirtual 201, 3) := by decide +kernel
theorem dX7_taken_108 : decode cX7_taken 108 = .ok (.if_icmp .ne 15, 3) := by decide +kernel
theorem dX7_taken_111 : decode cX7_taken 111 = .ok (.iconst 1, 1) := by decide +kernel
theorem dX7_taken_112 : decode cX7_taken 112 = .ok (.aload_n 0, 1) := by decide +kernel
theorem dX7_taken_113 : decode cX7_taken 113 = .ok (.iload_n 2, 1) := by decide +kernel
theorem dX7_taken_114 : decode cX7_taken 114 = .ok (.iconst 1, 1) := by decide +kernel
theorem dX7_taken_115 : decode cX7_taken 115 = .ok (.isub, 1) := by decide +kernel
theorem dX7_taken_116 : decode cX7_taken 116 = .ok (.invokevirtual 201, 3) := by decide +kernel
theorem dX7_taken_119 : decode cX7_taken 119 = .ok (.isub, 1) := by decide +kernel
theorem dX7_taken_120 : decode cX7_taken 120 = .ok (.goto 10, 3) := by decide +kernel
theorem dX7_taken_123 : decode cX7_taken 123 = .ok (.aload_n 0, 1) := by decide +kernel
theorem dX7_taken_124 : decode cX7_taken 124 = .ok (.iload_n 2, 1) := by decide +kernel
theorem dX7_taken_125 : decode cX7_taken 125 = .ok (.iconst 1, 1) := by decide +kernel
theorem dX7_taken_126 : decode cX7_taken 126 = .ok (.isub, 1) := by decide +kernel
theorem dX7_taken_127 : decode cX7_taken 127 = .ok (.invokevirtual 201, 3) := by decide +kernel
theorem dX7_taken_130 : decode cX7_taken 130 = .ok (.invokevirtual 198, 3) := by decide +kernel
theorem dX7_taken_133 : decode cX7_taken 133 = .ok (.ireturn, 1) := by decide +kernel
theorem dX7_taken_134 : decode cX7_taken 134 = .ok (.aload_n 0, 1) := by decide +kernel
theorem dX7_taken_135 : decode cX7_taken 135 = .ok (.iload_n 1, 1) := by decide +kernel
theorem dX7_taken_136 : decode cX7_taken 136 = .ok (.invokevirtual 204, 3) := by decide +kernel
theorem dX7_taken_139 : decode cX7_taken 139 = .ok (.ireturn, 1) := by decide +kernel
theorem dX7_taken_140 : decode cX7_taken 140 = .ok (.aload_n 0, 1) := by decide +kernel
theorem dX7_taken_141 : decode cX7_taken 141 = .ok (.iload_n 1, 1) := by decide +kernel
theorem dX7_taken_142 : decode cX7_taken 142 = .ok (.iload_n 3, 1) := by decide +kernel
theorem dX7_taken_143 : decode cX7_taken 143 = .ok (.iload 4, 2) := by decide +kernel
theorem dX7_taken_145 : decode cX7_taken 145 = .ok (.if_icmp .le 7, 3) := by decide +kernel
theorem dX7_taken_148 : decode cX7_taken 148 = .ok (.iconst 0, 1) := by decide +kernel
theorem dX7_taken_149 : decode cX7_taken 149 = .ok (.goto 17, 3) := by decide +kernel
theorem dX7_taken_152 : decode cX7_taken 152 = .ok (.iload 4, 2) := by decide +kernel
theorem dX7_taken_154 : decode cX7_taken 154 = .ok (.iload_n 3, 1) := by decide +kernel
theorem dX7_taken_155 : decode cX7_taken 155 = .ok (.if_icmp .le 7, 3) := by decide +kernel
theorem dX7_taken_158 : decode cX7_taken 158 = .ok (.iconst 1, 1) := by decide +kernel
theorem dX7_taken_159 : decode cX7_taken 159 = .ok (.goto 7, 3) := by decide +kernel
theorem dX7_taken_162 : decode cX7_taken 162 = .ok (.aload_n 0, 1) := by decide +kernel
theorem dX7_taken_163 : decode cX7_taken 163 = .ok (.getfield 175, 3) := by decide +kernel
theorem dX7_taken_166 : decode cX7_taken 166 = .ok (.invokevirtual 198, 3) := by decide +kernel
theorem dX7_taken_169 : decode cX7_taken 169 = .ok (.ireturn, 1) := by decide +kernel
theorem dX7_taken_170 : decode cX7_taken 170 = .ok (.iload_n 1, 1) := by decide +kernel
theorem dX7_taken_171 : decode cX7_taken 171 = .ok (.ireturn, 1) := by decide +kernel
theorem dX7_earliest_0 : decode cX7_earliest 0 = .ok (.bipush (-4), 2) := by decide +kernel
theorem dX7_earliest_2 : decode cX7_earliest 2 = .ok (.istore_n 2, 1) := by decide +kernel
theorem dX7_earliest_3 : decode cX7_earliest 3 = .ok (.iconst 0, 1) := by decide +kernel
theorem dX7_earliest_4 : decode cX7_earliest 4 = .ok (.istore_n 3, 1) := by decide +kernel
theorem dX7_earliest_5 : decode cX7_earliest 5 = .ok (.iload_n 3, 1) := by decide +kernel
theorem dX7_earliest_6 : decode cX7_earliest 6 = .ok (.aload_n 0, 1) := by decide +kernel
theorem dX7_earliest_7 : decode cX7_earliest 7 = .ok (.getfield 69, 3) := by decide +kernel
theorem dX7_earliest_10 : decode cX7_earliest 10 = .ok (.if_icmp .ge 55, 3) := by decide +kernel
theorem dX7_earliest_13 : decode cX7_earliest 13 = .ok (.iload_n 1, 1) := by decide +kernel
theorem dX7_earliest_14 : decode cX7_earliest 14 = .ok (.iload_n 3, 1) := by decide +kernel
theorem dX7_earliest_15 : decode cX7_earliest 15 = .ok (.ishr, 1) := by decide +kernel
theorem dX7_earliest_16 : decode cX7_earliest 16 = .ok (.iconst 1, 1) := by decide +kernel
theorem dX7_earliest_17 : decode cX7_earliest 17 = .ok (.iand, 1) := by decide +kernel
theorem dX7_earliest_18 : decode cX7_earliest 18 = .ok (.iconst 1, 1) := by decide +kernel
theorem dX7_earliest_19 : decode cX7_earliest 19 = .ok (.if_icmp .ne 26, 3) := by decide +kernel
theorem dX7_earliest_22 : decode cX7_earliest 22 = .ok (.iload_n 2, 1) := by decide +kernel
theorem dX7_earliest_23 : decode cX7_earliest 23 = .ok (.bipush (-4), 2) := by decide +kernel
theorem dX7_earliest_25 : decode cX7_earliest 25 = .ok (.if_icmp .eq 16, 3) := by decide +kernel
theorem dX7_earliest_28 : decode cX7_earliest 28 = .ok (.aload_n 0, 1) := by decide +kernel
theorem dX7_earliest_29 : decode cX7_earliest 29 = .ok (.iload_n 3, 1) := by decide +kernel
theorem dX7_earliest_30 : decode cX7_earliest 30 = .ok (.invokevirtual 207, 3) := by decide +kernel
theorem dX7_earliest_33 : decode cX7_earliest 33 = .ok (.aload_n 0, 1) := by decide +kernel
theorem dX7_earliest_34 : decode cX7_earliest 34 = .ok (.iload_n 2, 1) := by decide +kernel
theorem dX7_earliest_35 : decode cX7_earliest 35 = .ok (.invokevirtual 207, 3) := by decide +kernel
theorem dX7_earliest_38 : decode cX7_earliest 38 = .ok (.if_icmp .ge 7, 3) := by decide +kernel
theorem dX7_earliest_41 : decode cX7_earliest 41 = .ok (.iconst 1, 1) := by decide +kernel
theorem dX7_earliest_42 : decode cX7_earliest 42 = .ok (.goto 4, 3) := by decide +kernel
theorem dX7_earliest_45 : decode cX7_earliest 45 = .ok (.iconst 0, 1) := by decide +kernel
theorem dX7_earliest_46 : decode cX7_earliest 46 = .ok (.istore 4, 2) := by decide +kernel
theorem dX7_earliest_48 : decode cX7_earliest 48 = .ok (.iload 4, 2) := by decide +kernel
theorem dX7_earliest_50 : decode cX7_earliest 50 = .ok (.ifCond .eq 7, 3) := by decide +kernel
theorem dX7_earliest_53 : decode cX7_earliest 53 = .ok (.iload_n 3, 1) := by decide +kernel
theorem dX7_earliest_54 : decode cX7_earliest 54 = .ok (.goto 4, 3) := by decide +kernel
theorem dX7_earliest_57 : decode cX7_earliest 57 = .ok (.iload_n 2, 1) := by decide +kernel
theorem dX7_earliest_58 : decode cX7_earliest 58 = .ok (.istore_n 2, 1) := by decide +kernel
theorem dX7_earliest_59 : decode cX7_earliest 59 = .ok (.iinc 3 1, 3) := by decide +kernel
theorem dX7_earliest_62 : decode cX7_earliest 62 = .ok (.goto (-57), 3) := by decide +kernel
theorem dX7_earliest_65 : decode cX7_earliest 65 = .ok (.iload_n 2, 1) := by decide +kernel
theorem dX7_earliest_66 : decode cX7_earliest 66 = .ok (.ireturn, 1) := by decide +kernel
theorem dX7_counting_0 : decode cX7_counting 0 = .ok (.iconst 0, 1) := by decide +kernel
theorem dX7_counting_1 : decode cX7_counting 1 = .ok (.istore_n 2, 1) := by decide +kernel
theorem dX7_counting_2 : decode cX7_counting 2 = .ok (.iconst 0, 1) := by decide +kernel
theorem dX7_counting_3 : decode cX7_counting 3 = .ok (.istore_n 3, 1) := by decide +kernel
theorem dX7_counting_4 : decode cX7_counting 4 = .ok (.iload_n 3, 1) := by decide +kernel
theorem dX7_counting_5 : decode cX7_counting 5 = .ok (.aload_n 0, 1) := by decide +kernel
theorem dX7_counting_6 : decode cX7_counting 6 = .ok (.getfield 69, 3) := by decide +kernel
theorem dX7_counting_9 : decode cX7_counting 9 = .ok (.if_icmp .ge 43, 3) := by decide +kernel
theorem dX7_counting_12 : decode cX7_counting 12 = .ok (.iload_n 2, 1) := by decide +kernel
theorem dX7_counting_13 : decode cX7_counting 13 = .ok (.iload_n 1, 1) := by decide +kernel
theorem dX7_counting_14 : decode cX7_counting 14 = .ok (.iload_n 3, 1) := by decide +kernel
theorem dX7_counting_15 : decode cX7_counting 15 = .ok (.ishr, 1) := by decide +kernel
theorem dX7_counting_16 : decode cX7_counting 16 = .ok (.iconst 1, 1) := by decide +kernel
theorem dX7_counting_17 : decode cX7_counting 17 = .ok (.iand, 1) := by decide +kernel
theorem dX7_counting_18 : decode cX7_counting 18 = .ok (.iconst 1, 1) := by decide +kernel
theorem dX7_counting_19 : decode cX7_counting 19 = .ok (.if_icmp .ne 19, 3) := by decide +kernel
theorem dX7_counting_22 : decode cX7_counting 22 = .ok (.aload_n 0, 1) := by decide +kernel
theorem dX7_counting_23 : decode cX7_counting 23 = .ok (.iload_n 3, 1) := by decide +kernel
theorem dX7_counting_24 : decode cX7_counting 24 = .ok (.invokevirtual 207, 3) := by decide +kernel
theorem dX7_counting_27 : decode cX7_counting 27 = .ok (.aload_n 0, 1) := by decide +kernel
theorem dX7_counting_28 : decode cX7_counting 28 = .ok (.getfield 172, 3) := by decide +kernel
theorem dX7_counting_31 : decode cX7_counting 31 = .ok (.if_icmp .gt 7, 3) := by decide +kernel
theorem dX7_counting_34 : decode cX7_counting 34 = .ok (.iconst 1, 1) := by decide +kernel
theorem dX7_counting_35 : decode cX7_counting 35 = .ok (.goto 4, 3) := by decide +kernel
theorem dX7_counting_38 : decode cX7_counting 38 = .ok (.iconst 0, 1) := by decide +kernel
theorem dX7_counting_39 : decode cX7_counting 39 = .ok (.invokestatic 184, 3) := by decide +kernel
theorem dX7_counting_42 : decode cX7_counting 42 = .ok (.iload_n 3, 1) := by decide +kernel
theorem dX7_counting_43 : decode cX7_counting 43 = .ok (.ishl, 1) := by decide +kernel
theorem dX7_counting_44 : decode cX7_counting 44 = .ok (.ior, 1) := by decide +kernel
theorem dX7_counting_45 : decode cX7_counting 45 = .ok (.istore_n 2, 1) := by decide +kernel
theorem dX7_counting_46 : decode cX7_counting 46 = .ok (.iinc 3 1, 3) := by decide +kernel
theorem dX7_counting_49 : decode cX7_counting 49 = .ok (.goto (-45), 3) := by decide +kernel
theorem dX7_counting_52 : decode cX7_counting 52 = .ok (.iload_n 2, 1) := by decide +kernel
theorem dX7_counting_53 : decode cX7_counting 53 = .ok (.ireturn, 1) := by decide +kernel
theorem dX7_dayGoes_0 : decode cX7_dayGoes 0 = .ok (.iconst 1, 1) := by decide +kernel
theorem dX7_dayGoes_1 : decode cX7_dayGoes 1 = .ok (.aload_n 0, 1) := by decide +kernel
theorem dX7_dayGoes_2 : decode cX7_dayGoes 2 = .ok (.getfield 69, 3) := by decide +kernel
theorem dX7_dayGoes_5 : decode cX7_dayGoes 5 = .ok (.ishl, 1) := by decide +kernel
theorem dX7_dayGoes_6 : decode cX7_dayGoes 6 = .ok (.iconst 1, 1) := by decide +kernel
theorem dX7_dayGoes_7 : decode cX7_dayGoes 7 = .ok (.isub, 1) := by decide +kernel
theorem dX7_dayGoes_8 : decode cX7_dayGoes 8 = .ok (.istore_n 1, 1) := by decide +kernel
theorem dX7_dayGoes_9 : decode cX7_dayGoes 9 = .ok (.aload_n 0, 1) := by decide +kernel
theorem dX7_dayGoes_10 : decode cX7_dayGoes 10 = .ok (.invokevirtual 210, 3) := by decide +kernel
theorem dX7_dayGoes_13 : decode cX7_dayGoes 13 = .ok (.iload_n 1, 1) := by decide +kernel
theorem dX7_dayGoes_14 : decode cX7_dayGoes 14 = .ok (.ifCond .eq 54, 3) := by decide +kernel
theorem dX7_dayGoes_17 : decode cX7_dayGoes 17 = .ok (.aload_n 0, 1) := by decide +kernel
theorem dX7_dayGoes_18 : decode cX7_dayGoes 18 = .ok (.iload_n 1, 1) := by decide +kernel
theorem dX7_dayGoes_19 : decode cX7_dayGoes 19 = .ok (.invokevirtual 213, 3) := by decide +kernel
theorem dX7_dayGoes_22 : decode cX7_dayGoes 22 = .ok (.ifCond .ne 16, 3) := by decide +kernel
theorem dX7_dayGoes_25 : decode cX7_dayGoes 25 = .ok (.aload_n 0, 1) := by decide +kernel
theorem dX7_dayGoes_26 : decode cX7_dayGoes 26 = .ok (.aload_n 0, 1) := by decide +kernel
theorem dX7_dayGoes_27 : decode cX7_dayGoes 27 = .ok (.aload_n 0, 1) := by decide +kernel
theorem dX7_dayGoes_28 : decode cX7_dayGoes 28 = .ok (.iload_n 1, 1) := by decide +kernel
theorem dX7_dayGoes_29 : decode cX7_dayGoes 29 = .ok (.invokevirtual 216, 3) := by decide +kernel
theorem dX7_dayGoes_32 : decode cX7_dayGoes 32 = .ok (.invokevirtual 207, 3) := by decide +kernel
theorem dX7_dayGoes_35 : decode cX7_dayGoes 35 = .ok (.putfield 172, 3) := by decide +kernel
theorem dX7_dayGoes_38 : decode cX7_dayGoes 38 = .ok (.aload_n 0, 1) := by decide +kernel
theorem dX7_dayGoes_39 : decode cX7_dayGoes 39 = .ok (.aload_n 0, 1) := by decide +kernel
theorem dX7_dayGoes_40 : decode cX7_dayGoes 40 = .ok (.aload_n 0, 1) := by decide +kernel
theorem dX7_dayGoes_41 : decode cX7_dayGoes 41 = .ok (.iload_n 1, 1) := by decide +kernel
theorem dX7_dayGoes_42 : decode cX7_dayGoes 42 = .ok (.invokevirtual 213, 3) := by decide +kernel
theorem dX7_dayGoes_45 : decode cX7_dayGoes 45 = .ok (.invokevirtual 219, 3) := by decide +kernel
theorem dX7_dayGoes_48 : decode cX7_dayGoes 48 = .ok (.invokevirtual 216, 3) := by decide +kernel
theorem dX7_dayGoes_51 : decode cX7_dayGoes 51 = .ok (.istore_n 2, 1) := by decide +kernel
theorem dX7_dayGoes_52 : decode cX7_dayGoes 52 = .ok (.aload_n 0, 1) := by decide +kernel
theorem dX7_dayGoes_53 : decode cX7_dayGoes 53 = .ok (.iload_n 2, 1) := by decide +kernel
theorem dX7_dayGoes_54 : decode cX7_dayGoes 54 = .ok (.invokevirtual 222, 3) := by decide +kernel
theorem dX7_dayGoes_57 : decode cX7_dayGoes 57 = .ok (.iload_n 1, 1) := by decide +kernel
theorem dX7_dayGoes_58 : decode cX7_dayGoes 58 = .ok (.iconst 1, 1) := by decide +kernel
theorem dX7_dayGoes_59 : decode cX7_dayGoes 59 = .ok (.iload_n 2, 1) := by decide +kernel
theorem dX7_dayGoes_60 : decode cX7_dayGoes 60 = .ok (.ishl, 1) := by decide +kernel
theorem dX7_dayGoes_61 : decode cX7_dayGoes 61 = .ok (.iconst (-1), 1) := by decide +kernel
theorem dX7_dayGoes_62 : decode cX7_dayGoes 62 = .ok (.ixor, 1) := by decide +kernel
theorem dX7_dayGoes_63 : decode cX7_dayGoes 63 = .ok (.iand, 1) := by decide +kernel
theorem dX7_dayGoes_64 : decode cX7_dayGoes 64 = .ok (.istore_n 1, 1) := by decide +kernel
theorem dX7_dayGoes_65 : decode cX7_dayGoes 65 = .ok (.goto (-52), 3) := by decide +kernel
theorem dX7_dayGoes_68 : decode cX7_dayGoes 68 = .ok (.return_, 1) := by decide +kernel
theorem dX7_costNow_0 : decode cX7_costNow 0 = .ok (.iconst 0, 1) := by decide +kernel
theorem dX7_costNow_1 : decode cX7_costNow 1 = .ok (.istore_n 1, 1) := by decide +kernel
theorem dX7_costNow_2 : decode cX7_costNow 2 = .ok (.iconst 0, 1) := by decide +kernel
theorem dX7_costNow_3 : decode cX7_costNow 3 = .ok (.istore_n 2, 1) := by decide +kernel
theorem dX7_costNow_4 : decode cX7_costNow 4 = .ok (.iload_n 2, 1) := by decide +kernel
theorem dX7_costNow_5 : decode cX7_costNow 5 = .ok (.aload_n 0, 1) := by decide +kernel
theorem dX7_costNow_6 : decode cX7_costNow 6 = .ok (.getfield 69, 3) := by decide +kernel
theorem dX7_costNow_9 : decode cX7_costNow 9 = .ok (.if_icmp .ge 25, 3) := by decide +kernel
theorem dX7_costNow_12 : decode cX7_costNow 12 = .ok (.iload_n 1, 1) := by decide +kernel
theorem dX7_costNow_13 : decode cX7_costNow 13 = .ok (.aload_n 0, 1) := by decide +kernel
theorem dX7_costNow_14 : decode cX7_costNow 14 = .ok (.getfield 32, 3) := by decide +kernel
theorem dX7_costNow_17 : decode cX7_costNow 17 = .ok (.iload_n 2, 1) := by decide +kernel
theorem dX7_costNow_18 : decode cX7_costNow 18 = .ok (.iaload, 1) := by decide +kernel
theorem dX7_costNow_19 : decode cX7_costNow 19 = .ok (.aload_n 0, 1) := by decide +kernel
theorem dX7_costNow_20 : decode cX7_costNow 20 = .ok (.iload_n 2, 1) := by decide +kernel
theorem dX7_costNow_21 : decode cX7_costNow 21 = .ok (.iconst 3, 1) := by decide +kernel
theorem dX7_costNow_22 : decode cX7_costNow 22 = .ok (.invokevirtual 166, 3) := by decide +kernel
theorem dX7_costNow_25 : decode cX7_costNow 25 = .ok (.imul, 1) := by decide +kernel
theorem dX7_costNow_26 : decode cX7_costNow 26 = .ok (.iadd, 1) := by decide +kernel
theorem dX7_costNow_27 : decode cX7_costNow 27 = .ok (.istore_n 1, 1) := by decide +kernel
theorem dX7_costNow_28 : decode cX7_costNow 28 = .ok (.iinc 2 1, 3) := by decide +kernel
theorem dX7_costNow_31 : decode cX7_costNow 31 = .ok (.goto (-27), 3) := by decide +kernel
theorem dX7_costNow_34 : decode cX7_costNow 34 = .ok (.iload_n 1, 1) := by decide +kernel
theorem dX7_costNow_35 : decode cX7_costNow 35 = .ok (.ireturn, 1) := by decide +kernel
theorem dX7_tells_0 : decode cX7_tells 0 = .ok (.iconst 0, 1) := by decide +kernel
theorem dX7_tells_1 : decode cX7_tells 1 = .ok (.istore_n 2, 1) := by decide +kernel
theorem dX7_tells_2 : decode cX7_tells 2 = .ok (.iconst 0, 1) := by decide +kernel
theorem dX7_tells_3 : decode cX7_tells 3 = .ok (.istore_n 3, 1) := by decide +kernel
theorem dX7_tells_4 : decode cX7_tells 4 = .ok (.iload_n 3, 1) := by decide +kernel
theorem dX7_tells_5 : decode cX7_tells 5 = .ok (.aload_n 0, 1) := by decide +kernel
theorem dX7_tells_6 : decode cX7_tells 6 = .ok (.getfield 69, 3) := by decide +kernel
theorem dX7_tells_9 : decode cX7_tells 9 = .ok (.if_icmp .ge 30, 3) := by decide +kernel
theorem dX7_tells_12 : decode cX7_tells 12 = .ok (.aload_n 0, 1) := by decide +kernel
theorem dX7_tells_13 : decode cX7_tells 13 = .ok (.getfield 32, 3) := by decide +kernel
theorem dX7_tells_16 : decode cX7_tells 16 = .ok (.iload_n 3, 1) := by decide +kernel
theorem dX7_tells_17 : decode cX7_tells 17 = .ok (.iaload, 1) := by decide +kernel
theorem dX7_tells_18 : decode cX7_tells 18 = .ok (.iload_n 2, 1) := by decide +kernel
theorem dX7_tells_19 : decode cX7_tells 19 = .ok (.if_icmp .le 12, 3) := by decide +kernel
theorem dX7_tells_22 : decode cX7_tells 22 = .ok (.aload_n 0, 1) := by decide +kernel
theorem dX7_tells_23 : decode cX7_tells 23 = .ok (.getfield 32, 3) := by decide +kernel
theorem dX7_tells_26 : decode cX7_tells 26 = .ok (.iload_n 3, 1) := by decide +kernel
theorem dX7_tells_27 : decode cX7_tells 27 = .ok (.iaload, 1) := by decide +kernel
theorem dX7_tells_28 : decode cX7_tells 28 = .ok (.goto 4, 3) := by decide +kernel
theorem dX7_tells_31 : decode cX7_tells 31 = .ok (.iload_n 2, 1) := by decide +kernel
theorem dX7_tells_32 : decode cX7_tells 32 = .ok (.istore_n 2, 1) := by decide +kernel
theorem dX7_tells_33 : decode cX7_tells 33 = .ok (.iinc 3 1, 3) := by decide +kernel
theorem dX7_tells_36 : decode cX7_tells 36 = .ok (.goto (-32), 3) := by decide +kernel
theorem dX7_tells_39 : decode cX7_tells 39 = .ok (.iload_n 1, 1) := by decide +kernel
theorem dX7_tells_40 : decode cX7_tells 40 = .ok (.ifCond .ne 10, 3) := by decide +kernel
theorem dX7_tells_43 : decode cX7_tells 43 = .ok (.aload_n 0, 1) := by decide +kernel
theorem dX7_tells_44 : decode cX7_tells 44 = .ok (.invokevirtual 225, 3) := by decide +kernel
theorem dX7_tells_47 : decode cX7_tells 47 = .ok (.goto 51, 3) := by decide +kernel
theorem dX7_tells_50 : decode cX7_tells 50 = .ok (.iload_n 1, 1) := by decide +kernel
theorem dX7_tells_51 : decode cX7_tells 51 = .ok (.iconst 1, 1) := by decide +kernel
theorem dX7_tells_52 : decode cX7_tells 52 = .ok (.if_icmp .ne 7, 3) := by decide +kernel
theorem dX7_tells_55 : decode cX7_tells 55 = .ok (.iload_n 2, 1) := by decide +kernel
theorem dX7_tells_56 : decode cX7_tells 56 = .ok (.goto 42, 3) := by decide +kernel
theorem dX7_tells_59 : decode cX7_tells 59 = .ok (.iload_n 1, 1) := by decide +kernel
theorem dX7_tells_60 : decode cX7_tells 60 = .ok (.iconst 2, 1) := by decide +kernel
theorem dX7_tells_61 : decode cX7_tells 61 = .ok (.if_icmp .ne 10, 3) := by decide +kernel
theorem dX7_tells_64 : decode cX7_tells 64 = .ok (.aload_n 0, 1) := by decide +kernel
theorem dX7_tells_65 : decode cX7_tells 65 = .ok (.getfield 178, 3) := by decide +kernel
theorem dX7_tells_68 : decode cX7_tells 68 = .ok (.goto 30, 3) := by decide +kernel
theorem dX7_tells_71 : decode cX7_tells 71 = .ok (.iload_n 1, 1) := by decide +kernel
theorem dX7_tells_72 : decode cX7_tells 72 = .ok (.iconst 3, 1) := by decide +kernel
theorem dX7_tells_73 : decode cX7_tells 73 = .ok (.if_icmp .ne 21, 3) := by decide +kernel
theorem dX7_tells_76 : decode cX7_tells 76 = .ok (.aload_n 0, 1) := by decide +kernel
theorem dX7_tells_77 : decode cX7_tells 77 = .ok (.getfield 69, 3) := by decide +kernel
theorem dX7_tells_80 : decode cX7_tells 80 = .ok (.ifCond .ne 7, 3) := by decide +kernel
theorem dX7_tells_83 : decode cX7_tells 83 = .ok (.iconst 0, 1) := by decide +kernel
theorem dX7_tells_84 : decode cX7_tells 84 = .ok (.goto 14, 3) := by decide +kernel
theorem dX7_tells_87 : decode cX7_tells 87 = .ok (.aload_n 0, 1) := by decide +kernel
theorem dX7_tells_88 : decode cX7_tells 88 = .ok (.getfield 172, 3) := by decide +kernel
theorem dX7_tells_91 : decode cX7_tells 91 = .ok (.goto 7, 3) := by decide +kernel
theorem dX7_tells_94 : decode cX7_tells 94 = .ok (.aload_n 0, 1) := by decide +kernel
theorem dX7_tells_95 : decode cX7_tells 95 = .ok (.getfield 181, 3) := by decide +kernel
theorem dX7_tells_98 : decode cX7_tells 98 = .ok (.ireturn, 1) := by decide +kernel
theorem dX7_dayNow_0 : decode cX7_dayNow 0 = .ok (.aload_n 0, 1) := by decide +kernel
theorem dX7_dayNow_1 : decode cX7_dayNow 1 = .ok (.invokevirtual 228, 3) := by decide +kernel
theorem dX7_dayNow_4 : decode cX7_dayNow 4 = .ok (.aload_n 0, 1) := by decide +kernel
theorem dX7_dayNow_5 : decode cX7_dayNow 5 = .ok (.invokevirtual 231, 3) := by decide +kernel
theorem dX7_dayNow_8 : decode cX7_dayNow 8 = .ok (.return_, 1) := by decide +kernel
theorem dX7_placeOf_0 : decode cX7_placeOf 0 = .ok (.bipush (-4), 2) := by decide +kernel
theorem dX7_placeOf_2 : decode cX7_placeOf 2 = .ok (.istore_n 2, 1) := by decide +kernel
theorem dX7_placeOf_3 : decode cX7_placeOf 3 = .ok (.iconst 0, 1) := by decide +kernel
theorem dX7_placeOf_4 : decode cX7_placeOf 4 = .ok (.istore_n 3, 1) := by decide +kernel
theorem dX7_placeOf_5 : decode cX7_placeOf 5 = .ok (.iload_n 3, 1) := by decide +kernel
theorem dX7_placeOf_6 : decode cX7_placeOf 6 = .ok (.aload_n 0, 1) := by decide +kernel
theorem dX7_placeOf_7 : decode cX7_placeOf 7 = .ok (.getfield 169, 3) := by decide +kernel
theorem dX7_placeOf_10 : decode cX7_placeOf 10 = .ok (.if_icmp .ge 25, 3) := by decide +kernel
theorem dX7_placeOf_13 : decode cX7_placeOf 13 = .ok (.aload_n 0, 1) := by decide +kernel
theorem dX7_placeOf_14 : decode cX7_placeOf 14 = .ok (.getfield 26, 3) := by decide +kernel
theorem dX7_placeOf_17 : decode cX7_placeOf 17 = .ok (.iload_n 3, 1) := by decide +kernel
theorem dX7_placeOf_18 : decode cX7_placeOf 18 = .ok (.iaload, 1) := by decide +kernel
theorem dX7_placeOf_19 : decode cX7_placeOf 19 = .ok (.iload_n 1, 1) := by decide +kernel
theorem dX7_placeOf_20 : decode cX7_placeOf 20 = .ok (.if_icmp .ne 7, 3) := by decide +kernel
theorem dX7_placeOf_23 : decode cX7_placeOf 23 = .ok (.iload_n 3, 1) := by decide +kernel
theorem dX7_placeOf_24 : decode cX7_placeOf 24 = .ok (.goto 4, 3) := by decide +kernel
theorem dX7_placeOf_27 : decode cX7_placeOf 27 = .ok (.iload_n 2, 1) := by decide +kernel
theorem dX7_placeOf_28 : decode cX7_placeOf 28 = .ok (.istore_n 2, 1) := by decide +kernel
theorem dX7_placeOf_29 : decode cX7_placeOf 29 = .ok (.iinc 3 1, 3) := by decide +kernel
theorem dX7_placeOf_32 : decode cX7_placeOf 32 = .ok (.goto (-27), 3) := by decide +kernel
theorem dX7_placeOf_35 : decode cX7_placeOf 35 = .ok (.iload_n 2, 1) := by decide +kernel
theorem dX7_placeOf_36 : decode cX7_placeOf 36 = .ok (.ireturn, 1) := by decide +kernel
theorem dX7_liars_0 : decode cX7_liars 0 = .ok (.iconst 0, 1) := by decide +kernel
theorem dX7_liars_1 : decode cX7_liars 1 = .ok (.istore_n 1, 1) := by decide +kernel
theorem dX7_liars_2 : decode cX7_liars 2 = .ok (.iconst 0, 1) := by decide +kernel
theorem dX7_liars_3 : decode cX7_liars 3 = .ok (.istore_n 2, 1) := by decide +kernel
theorem dX7_liars_4 : decode cX7_liars 4 = .ok (.iload_n 2, 1) := by decide +kernel
theorem dX7_liars_5 : decode cX7_liars 5 = .ok (.aload_n 0, 1) := by decide +kernel
theorem dX7_liars_6 : decode cX7_liars 6 = .ok (.getfield 69, 3) := by decide +kernel
theorem dX7_liars_9 : decode cX7_liars 9 = .ok (.if_icmp .ge 28, 3) := by decide +kernel
theorem dX7_liars_12 : decode cX7_liars 12 = .ok (.iload_n 1, 1) := by decide +kernel
theorem dX7_liars_13 : decode cX7_liars 13 = .ok (.aload_n 0, 1) := by decide +kernel
theorem dX7_liars_14 : decode cX7_liars 14 = .ok (.getfield 7, 3) := by decide +kernel
theorem dX7_liars_17 : decode cX7_liars 17 = .ok (.bipush 6, 2) := by decide +kernel
theorem dX7_liars_19 : decode cX7_liars 19 = .ok (.bipush 6, 2) := by decide +kernel
theorem dX7_liars_21 : decode cX7_liars 21 = .ok (.iload_n 2, 1) := by decide +kernel
theorem dX7_liars_22 : decode cX7_liars 22 = .ok (.imul, 1) := by decide +kernel
theorem dX7_liars_23 : decode cX7_liars 23 = .ok (.iadd, 1) := by decide +kernel
theorem dX7_liars_24 : decode cX7_liars 24 = .ok (.iconst 5, 1) := by decide +kernel
theorem dX7_liars_25 : decode cX7_liars 25 = .ok (.iadd, 1) := by decide +kernel
theorem dX7_liars_26 : decode cX7_liars 26 = .ok (.iaload, 1) := by decide +kernel
theorem dX7_liars_27 : decode cX7_liars 27 = .ok (.iload_n 2, 1) := by decide +kernel
theorem dX7_liars_28 : decode cX7_liars 28 = .ok (.ishl, 1) := by decide +kernel
theorem dX7_liars_29 : decode cX7_liars 29 = .ok (.ior, 1) := by decide +kernel
theorem dX7_liars_30 : decode cX7_liars 30 = .ok (.istore_n 1, 1) := by decide +kernel
theorem dX7_liars_31 : decode cX7_liars 31 = .ok (.iinc 2 1, 3) := by decide +kernel
theorem dX7_liars_34 : decode cX7_liars 34 = .ok (.goto (-30), 3) := by decide +kernel
theorem dX7_liars_37 : decode cX7_liars 37 = .ok (.iload_n 1, 1) := by decide +kernel
theorem dX7_liars_38 : decode cX7_liars 38 = .ok (.ireturn, 1) := by decide +kernel
theorem dX7_rule_0 : decode cX7_rule 0 = .ok (.iload_n 1, 1) := by decide +kernel
theorem dX7_rule_1 : decode cX7_rule 1 = .ok (.i2l, 1) := by decide +kernel
theorem dX7_rule_2 : decode cX7_rule 2 = .ok (.lconst 0, 1) := by decide +kernel
theorem dX7_rule_3 : decode cX7_rule 3 = .ok (.ldc2_w 155, 3) := by decide +kernel
theorem dX7_rule_6 : decode cX7_rule 6 = .ok (.invokestatic 74, 3) := by decide +kernel
theorem dX7_rule_9 : decode cX7_rule 9 = .ok (.ifCond .eq 12, 3) := by decide +kernel
theorem dX7_rule_12 : decode cX7_rule 12 = .ok (.aload_n 0, 1) := by decide +kernel
theorem dX7_rule_13 : decode cX7_rule 13 = .ok (.getfield 7, 3) := by decide +kernel
theorem dX7_rule_16 : decode cX7_rule 16 = .ok (.iload_n 1, 1) := by decide +kernel
theorem dX7_rule_17 : decode cX7_rule 17 = .ok (.iaload, 1) := by decide +kernel
theorem dX7_rule_18 : decode cX7_rule 18 = .ok (.goto 30, 3) := by decide +kernel
theorem dX7_rule_21 : decode cX7_rule 21 = .ok (.iload_n 1, 1) := by decide +kernel
theorem dX7_rule_22 : decode cX7_rule 22 = .ok (.bipush 6, 2) := by decide +kernel
theorem dX7_rule_24 : decode cX7_rule 24 = .ok (.if_icmp .ne 10, 3) := by decide +kernel
theorem dX7_rule_27 : decode cX7_rule 27 = .ok (.aload_n 0, 1) := by decide +kernel
theorem dX7_rule_28 : decode cX7_rule 28 = .ok (.getfield 69, 3) := by decide +kernel
theorem dX7_rule_31 : decode cX7_rule 31 = .ok (.goto 17, 3) := by decide +kernel
theorem dX7_rule_34 : decode cX7_rule 34 = .ok (.iload_n 1, 1) := by decide +kernel
theorem dX7_rule_35 : decode cX7_rule 35 = .ok (.bipush 7, 2) := by decide +kernel
theorem dX7_rule_37 : decode cX7_rule 37 = .ok (.if_icmp .ne 10, 3) := by decide +kernel
theorem dX7_rule_40 : decode cX7_rule 40 = .ok (.aload_n 0, 1) := by decide +kernel
theorem dX7_rule_41 : decode cX7_rule 41 = .ok (.invokevirtual 234, 3) := by decide +kernel
theorem dX7_rule_44 : decode cX7_rule 44 = .ok (.goto 4, 3) := by decide +kernel
theorem dX7_rule_47 : decode cX7_rule 47 = .ok (.iconst (-1), 1) := by decide +kernel
theorem dX7_rule_48 : decode cX7_rule 48 = .ok (.ireturn, 1) := by decide +kernel
theorem dX7_boat_0 : decode cX7_boat 0 = .ok (.aload_n 0, 1) := by decide +kernel
theorem dX7_boat_1 : decode cX7_boat 1 = .ok (.iload_n 1, 1) := by decide +kernel
theorem dX7_boat_2 : decode cX7_boat 2 = .ok (.invokevirtual 237, 3) := by decide +kernel
theorem dX7_boat_5 : decode cX7_boat 5 = .ok (.ifCond .eq 15, 3) := by decide +kernel
theorem dX7_boat_8 : decode cX7_boat 8 = .ok (.iload_n 2, 1) := by decide +kernel
theorem dX7_boat_9 : decode cX7_boat 9 = .ok (.i2l, 1) := by decide +kernel
theorem dX7_boat_10 : decode cX7_boat 10 = .ok (.lconst 0, 1) := by decide +kernel
theorem dX7_boat_11 : decode cX7_boat 11 = .ok (.ldc2_w 240, 3) := by decide +kernel
theorem dX7_boat_14 : decode cX7_boat 14 = .ok (.invokestatic 74, 3) := by decide +kernel
theorem dX7_boat_17 : decode cX7_boat 17 = .ok (.ifCond .ne 5, 3) := by decide +kernel
theorem dX7_boat_20 : decode cX7_boat 20 = .ok (.iconst (-1), 1) := by decide +kernel
