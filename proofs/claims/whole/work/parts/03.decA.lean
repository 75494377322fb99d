theorem dX0_init_0 : decode cX0_init 0 = .ok (.aload_n 0, 1) := by decide +kernel
theorem dX0_init_1 : decode cX0_init 1 = .ok (.invokespecial 3, 3) := by decide +kernel
theorem dX0_init_4 : decode cX0_init 4 = .ok (.aload_n 0, 1) := by decide +kernel
theorem dX0_init_5 : decode cX0_init 5 = .ok (.bipush 6, 2) := by decide +kernel
theorem dX0_init_7 : decode cX0_init 7 = .ok (.newarray .int, 2) := by decide +kernel
theorem dX0_init_9 : decode cX0_init 9 = .ok (.putfield 9, 3) := by decide +kernel
theorem dX0_init_12 : decode cX0_init 12 = .ok (.aload_n 0, 1) := by decide +kernel
theorem dX0_init_13 : decode cX0_init 13 = .ok (.bipush 6, 2) := by decide +kernel
theorem dX0_init_15 : decode cX0_init 15 = .ok (.newarray .int, 2) := by decide +kernel
theorem dX0_init_17 : decode cX0_init 17 = .ok (.putfield 15, 3) := by decide +kernel
theorem dX0_init_20 : decode cX0_init 20 = .ok (.aload_n 0, 1) := by decide +kernel
theorem dX0_init_21 : decode cX0_init 21 = .ok (.bipush 6, 2) := by decide +kernel
theorem dX0_init_23 : decode cX0_init 23 = .ok (.newarray .int, 2) := by decide +kernel
theorem dX0_init_25 : decode cX0_init 25 = .ok (.putfield 18, 3) := by decide +kernel
theorem dX0_init_28 : decode cX0_init 28 = .ok (.aload_n 0, 1) := by decide +kernel
theorem dX0_init_29 : decode cX0_init 29 = .ok (.bipush 6, 2) := by decide +kernel
theorem dX0_init_31 : decode cX0_init 31 = .ok (.newarray .int, 2) := by decide +kernel
theorem dX0_init_33 : decode cX0_init 33 = .ok (.putfield 21, 3) := by decide +kernel
theorem dX0_init_36 : decode cX0_init 36 = .ok (.aload_n 0, 1) := by decide +kernel
theorem dX0_init_37 : decode cX0_init 37 = .ok (.bipush 6, 2) := by decide +kernel
theorem dX0_init_39 : decode cX0_init 39 = .ok (.newarray .int, 2) := by decide +kernel
theorem dX0_init_41 : decode cX0_init 41 = .ok (.putfield 24, 3) := by decide +kernel
theorem dX0_init_44 : decode cX0_init 44 = .ok (.return_, 1) := by decide +kernel
theorem dX0_by_0 : decode cX0_by 0 = .ok (.aload_n 0, 1) := by decide +kernel
theorem dX0_by_1 : decode cX0_by 1 = .ok (.aload_n 1, 1) := by decide +kernel
theorem dX0_by_2 : decode cX0_by 2 = .ok (.invokevirtual 27, 3) := by decide +kernel
theorem dX0_by_5 : decode cX0_by 5 = .ok (.iconst 0, 1) := by decide +kernel
theorem dX0_by_6 : decode cX0_by 6 = .ok (.istore 5, 2) := by decide +kernel
theorem dX0_by_8 : decode cX0_by 8 = .ok (.iload 5, 2) := by decide +kernel
theorem dX0_by_10 : decode cX0_by 10 = .ok (.aload_n 1, 1) := by decide +kernel
theorem dX0_by_11 : decode cX0_by 11 = .ok (.getfield 31, 3) := by decide +kernel
theorem dX0_by_14 : decode cX0_by 14 = .ok (.if_icmp .ge 69, 3) := by decide +kernel
theorem dX0_by_17 : decode cX0_by 17 = .ok (.aload_n 0, 1) := by decide +kernel
theorem dX0_by_18 : decode cX0_by 18 = .ok (.getfield 21, 3) := by decide +kernel
theorem dX0_by_21 : decode cX0_by 21 = .ok (.iload 5, 2) := by decide +kernel
theorem dX0_by_23 : decode cX0_by 23 = .ok (.aload_n 1, 1) := by decide +kernel
theorem dX0_by_24 : decode cX0_by 24 = .ok (.iload 5, 2) := by decide +kernel
theorem dX0_by_26 : decode cX0_by 26 = .ok (.invokevirtual 37, 3) := by decide +kernel
theorem dX0_by_29 : decode cX0_by 29 = .ok (.iastore, 1) := by decide +kernel
theorem dX0_by_30 : decode cX0_by 30 = .ok (.aload_n 0, 1) := by decide +kernel
theorem dX0_by_31 : decode cX0_by 31 = .ok (.getfield 24, 3) := by decide +kernel
theorem dX0_by_34 : decode cX0_by 34 = .ok (.iload 5, 2) := by decide +kernel
theorem dX0_by_36 : decode cX0_by 36 = .ok (.aload_n 1, 1) := by decide +kernel
theorem dX0_by_37 : decode cX0_by 37 = .ok (.iload 5, 2) := by decide +kernel
theorem dX0_by_39 : decode cX0_by 39 = .ok (.iconst 1, 1) := by decide +kernel
theorem dX0_by_40 : decode cX0_by 40 = .ok (.invokevirtual 41, 3) := by decide +kernel
theorem dX0_by_43 : decode cX0_by 43 = .ok (.iastore, 1) := by decide +kernel
theorem dX0_by_44 : decode cX0_by 44 = .ok (.iload_n 3, 1) := by decide +kernel
theorem dX0_by_45 : decode cX0_by 45 = .ok (.iload 5, 2) := by decide +kernel
theorem dX0_by_47 : decode cX0_by 47 = .ok (.ishr, 1) := by decide +kernel
theorem dX0_by_48 : decode cX0_by 48 = .ok (.iconst 1, 1) := by decide +kernel
theorem dX0_by_49 : decode cX0_by 49 = .ok (.iand, 1) := by decide +kernel
theorem dX0_by_50 : decode cX0_by 50 = .ok (.iconst 1, 1) := by decide +kernel
theorem dX0_by_51 : decode cX0_by 51 = .ok (.if_icmp .ne 26, 3) := by decide +kernel
theorem dX0_by_54 : decode cX0_by 54 = .ok (.aload_n 0, 1) := by decide +kernel
theorem dX0_by_55 : decode cX0_by 55 = .ok (.getfield 24, 3) := by decide +kernel
theorem dX0_by_58 : decode cX0_by 58 = .ok (.iload 5, 2) := by decide +kernel
theorem dX0_by_60 : decode cX0_by 60 = .ok (.iload 4, 2) := by decide +kernel
theorem dX0_by_62 : decode cX0_by 62 = .ok (.iload 5, 2) := by decide +kernel
theorem dX0_by_64 : decode cX0_by 64 = .ok (.ishr, 1) := by decide +kernel
theorem dX0_by_65 : decode cX0_by 65 = .ok (.iconst 1, 1) := by decide +kernel
theorem dX0_by_66 : decode cX0_by 66 = .ok (.iand, 1) := by decide +kernel
theorem dX0_by_67 : decode cX0_by 67 = .ok (.iconst 1, 1) := by decide +kernel
theorem dX0_by_68 : decode cX0_by 68 = .ok (.if_icmp .ne 7, 3) := by decide +kernel
theorem dX0_by_71 : decode cX0_by 71 = .ok (.iconst 4, 1) := by decide +kernel
theorem dX0_by_72 : decode cX0_by 72 = .ok (.goto 4, 3) := by decide +kernel
theorem dX0_by_75 : decode cX0_by 75 = .ok (.iconst 0, 1) := by decide +kernel
theorem dX0_by_76 : decode cX0_by 76 = .ok (.iastore, 1) := by decide +kernel
theorem dX0_by_77 : decode cX0_by 77 = .ok (.iinc 5 1, 3) := by decide +kernel
theorem dX0_by_80 : decode cX0_by 80 = .ok (.goto (-72), 3) := by decide +kernel
theorem dX0_by_83 : decode cX0_by 83 = .ok (.iconst 0, 1) := by decide +kernel
theorem dX0_by_84 : decode cX0_by 84 = .ok (.istore 5, 2) := by decide +kernel
theorem dX0_by_86 : decode cX0_by 86 = .ok (.iload 5, 2) := by decide +kernel
theorem dX0_by_88 : decode cX0_by 88 = .ok (.aload_n 1, 1) := by decide +kernel
theorem dX0_by_89 : decode cX0_by 89 = .ok (.getfield 31, 3) := by decide +kernel
theorem dX0_by_92 : decode cX0_by 92 = .ok (.if_icmp .ge 34, 3) := by decide +kernel
theorem dX0_by_95 : decode cX0_by 95 = .ok (.aload_n 0, 1) := by decide +kernel
theorem dX0_by_96 : decode cX0_by 96 = .ok (.aload_n 1, 1) := by decide +kernel
theorem dX0_by_97 : decode cX0_by 97 = .ok (.getfield 31, 3) := by decide +kernel
theorem dX0_by_100 : decode cX0_by 100 = .ok (.invokevirtual 45, 3) := by decide +kernel
theorem dX0_by_103 : decode cX0_by 103 = .ok (.aload_n 0, 1) := by decide +kernel
theorem dX0_by_104 : decode cX0_by 104 = .ok (.aload_n 1, 1) := by decide +kernel
theorem dX0_by_105 : decode cX0_by 105 = .ok (.aload_n 0, 1) := by decide +kernel
theorem dX0_by_106 : decode cX0_by 106 = .ok (.aload_n 1, 1) := by decide +kernel
theorem dX0_by_107 : decode cX0_by 107 = .ok (.iload_n 2, 1) := by decide +kernel
theorem dX0_by_108 : decode cX0_by 108 = .ok (.aload_n 0, 1) := by decide +kernel
theorem dX0_by_109 : decode cX0_by 109 = .ok (.aload_n 1, 1) := by decide +kernel
theorem dX0_by_110 : decode cX0_by 110 = .ok (.iload_n 2, 1) := by decide +kernel
theorem dX0_by_111 : decode cX0_by 111 = .ok (.invokevirtual 49, 3) := by decide +kernel
theorem dX0_by_114 : decode cX0_by 114 = .ok (.invokevirtual 53, 3) := by decide +kernel
theorem dX0_by_117 : decode cX0_by 117 = .ok (.invokevirtual 57, 3) := by decide +kernel
theorem dX0_by_120 : decode cX0_by 120 = .ok (.iinc 5 1, 3) := by decide +kernel
theorem dX0_by_123 : decode cX0_by 123 = .ok (.goto (-37), 3) := by decide +kernel
theorem dX0_by_126 : decode cX0_by 126 = .ok (.return_, 1) := by decide +kernel
theorem dX0_inOrder_0 : decode cX0_inOrder 0 = .ok (.aload_n 0, 1) := by decide +kernel
theorem dX0_inOrder_1 : decode cX0_inOrder 1 = .ok (.aload_n 1, 1) := by decide +kernel
theorem dX0_inOrder_2 : decode cX0_inOrder 2 = .ok (.invokevirtual 27, 3) := by decide +kernel
theorem dX0_inOrder_5 : decode cX0_inOrder 5 = .ok (.iconst 0, 1) := by decide +kernel
theorem dX0_inOrder_6 : decode cX0_inOrder 6 = .ok (.istore_n 3, 1) := by decide +kernel
theorem dX0_inOrder_7 : decode cX0_inOrder 7 = .ok (.iload_n 3, 1) := by decide +kernel
theorem dX0_inOrder_8 : decode cX0_inOrder 8 = .ok (.aload_n 1, 1) := by decide +kernel
theorem dX0_inOrder_9 : decode cX0_inOrder 9 = .ok (.getfield 31, 3) := by decide +kernel
theorem dX0_inOrder_12 : decode cX0_inOrder 12 = .ok (.if_icmp .ge 17, 3) := by decide +kernel
theorem dX0_inOrder_15 : decode cX0_inOrder 15 = .ok (.aload_n 0, 1) := by decide +kernel
theorem dX0_inOrder_16 : decode cX0_inOrder 16 = .ok (.aload_n 1, 1) := by decide +kernel
theorem dX0_inOrder_17 : decode cX0_inOrder 17 = .ok (.aload_n 2, 1) := by decide +kernel
theorem dX0_inOrder_18 : decode cX0_inOrder 18 = .ok (.iload_n 3, 1) := by decide +kernel
theorem dX0_inOrder_19 : decode cX0_inOrder 19 = .ok (.iaload, 1) := by decide +kernel
theorem dX0_inOrder_20 : decode cX0_inOrder 20 = .ok (.invokevirtual 57, 3) := by decide +kernel
theorem dX0_inOrder_23 : decode cX0_inOrder 23 = .ok (.iinc 3 1, 3) := by decide +kernel
theorem dX0_inOrder_26 : decode cX0_inOrder 26 = .ok (.goto (-19), 3) := by decide +kernel
theorem dX0_inOrder_29 : decode cX0_inOrder 29 = .ok (.return_, 1) := by decide +kernel
theorem dX0_measure_0 : decode cX0_measure 0 = .ok (.iload_n 1, 1) := by decide +kernel
theorem dX0_measure_1 : decode cX0_measure 1 = .ok (.tableswitch 51 0 3 #[31, 36, 41, 46], 31) := by decide +kernel
theorem dX0_measure_32 : decode cX0_measure 32 = .ok (.aload_n 0, 1) := by decide +kernel
theorem dX0_measure_33 : decode cX0_measure 33 = .ok (.getfield 61, 3) := by decide +kernel
theorem dX0_measure_36 : decode cX0_measure 36 = .ok (.ireturn, 1) := by decide +kernel
theorem dX0_measure_37 : decode cX0_measure 37 = .ok (.aload_n 0, 1) := by decide +kernel
theorem dX0_measure_38 : decode cX0_measure 38 = .ok (.getfield 64, 3) := by decide +kernel
theorem dX0_measure_41 : decode cX0_measure 41 = .ok (.ireturn, 1) := by decide +kernel
theorem dX0_measure_42 : decode cX0_measure 42 = .ok (.aload_n 0, 1) := by decide +kernel
theorem dX0_measure_43 : decode cX0_measure 43 = .ok (.getfield 67, 3) := by decide +kernel
theorem dX0_measure_46 : decode cX0_measure 46 = .ok (.ireturn, 1) := by decide +kernel
theorem dX0_measure_47 : decode cX0_measure 47 = .ok (.aload_n 0, 1) := by decide +kernel
theorem dX0_measure_48 : decode cX0_measure 48 = .ok (.getfield 70, 3) := by decide +kernel
theorem dX0_measure_51 : decode cX0_measure 51 = .ok (.ireturn, 1) := by decide +kernel
theorem dX0_measure_52 : decode cX0_measure 52 = .ok (.aload_n 0, 1) := by decide +kernel
theorem dX0_measure_53 : decode cX0_measure 53 = .ok (.getfield 73, 3) := by decide +kernel
theorem dX0_measure_56 : decode cX0_measure 56 = .ok (.ireturn, 1) := by decide +kernel
theorem dX0_costOf_0 : decode cX0_costOf 0 = .ok (.aload_n 0, 1) := by decide +kernel
theorem dX0_costOf_1 : decode cX0_costOf 1 = .ok (.getfield 18, 3) := by decide +kernel
theorem dX0_costOf_4 : decode cX0_costOf 4 = .ok (.iload_n 2, 1) := by decide +kernel
theorem dX0_costOf_5 : decode cX0_costOf 5 = .ok (.iaload, 1) := by decide +kernel
theorem dX0_costOf_6 : decode cX0_costOf 6 = .ok (.aload_n 1, 1) := by decide +kernel
theorem dX0_costOf_7 : decode cX0_costOf 7 = .ok (.iload_n 2, 1) := by decide +kernel
theorem dX0_costOf_8 : decode cX0_costOf 8 = .ok (.iconst 3, 1) := by decide +kernel
theorem dX0_costOf_9 : decode cX0_costOf 9 = .ok (.invokevirtual 41, 3) := by decide +kernel
theorem dX0_costOf_12 : decode cX0_costOf 12 = .ok (.imul, 1) := by decide +kernel
theorem dX0_costOf_13 : decode cX0_costOf 13 = .ok (.ireturn, 1) := by decide +kernel
theorem dX0_isAsSeen_0 : decode cX0_isAsSeen 0 = .ok (.aload_n 1, 1) := by decide +kernel
theorem dX0_isAsSeen_1 : decode cX0_isAsSeen 1 = .ok (.aload_n 0, 1) := by decide +kernel
theorem dX0_isAsSeen_2 : decode cX0_isAsSeen 2 = .ok (.getfield 9, 3) := by decide +kernel
theorem dX0_isAsSeen_5 : decode cX0_isAsSeen 5 = .ok (.invokevirtual 76, 3) := by decide +kernel
theorem dX0_isAsSeen_8 : decode cX0_isAsSeen 8 = .ok (.ireturn, 1) := by decide +kernel
theorem dX0_begin_0 : decode cX0_begin 0 = .ok (.aload_n 0, 1) := by decide +kernel
theorem dX0_begin_1 : decode cX0_begin 1 = .ok (.iconst 0, 1) := by decide +kernel
theorem dX0_begin_2 : decode cX0_begin 2 = .ok (.putfield 80, 3) := by decide +kernel
theorem dX0_begin_5 : decode cX0_begin 5 = .ok (.aload_n 0, 1) := by decide +kernel
theorem dX0_begin_6 : decode cX0_begin 6 = .ok (.iconst 0, 1) := by decide +kernel
theorem dX0_begin_7 : decode cX0_begin 7 = .ok (.putfield 83, 3) := by decide +kernel
theorem dX0_begin_10 : decode cX0_begin 10 = .ok (.aload_n 0, 1) := by decide +kernel
theorem dX0_begin_11 : decode cX0_begin 11 = .ok (.iconst 0, 1) := by decide +kernel
theorem dX0_begin_12 : decode cX0_begin 12 = .ok (.putfield 70, 3) := by decide +kernel
theorem dX0_begin_15 : decode cX0_begin 15 = .ok (.aload_n 0, 1) := by decide +kernel
theorem dX0_begin_16 : decode cX0_begin 16 = .ok (.aload_n 1, 1) := by decide +kernel
theorem dX0_begin_17 : decode cX0_begin 17 = .ok (.getfield 86, 3) := by decide +kernel
theorem dX0_begin_20 : decode cX0_begin 20 = .ok (.iconst 2, 1) := by decide +kernel
theorem dX0_begin_21 : decode cX0_begin 21 = .ok (.iaload, 1) := by decide +kernel
theorem dX0_begin_22 : decode cX0_begin 22 = .ok (.putfield 89, 3) := by decide +kernel
theorem dX0_begin_25 : decode cX0_begin 25 = .ok (.aload_n 0, 1) := by decide +kernel
theorem dX0_begin_26 : decode cX0_begin 26 = .ok (.iconst 0, 1) := by decide +kernel
theorem dX0_begin_27 : decode cX0_begin 27 = .ok (.putfield 64, 3) := by decide +kernel
theorem dX0_begin_30 : decode cX0_begin 30 = .ok (.aload_n 0, 1) := by decide +kernel
theorem dX0_begin_31 : decode cX0_begin 31 = .ok (.iconst 0, 1) := by decide +kernel
theorem dX0_begin_32 : decode cX0_begin 32 = .ok (.putfield 67, 3) := by decide +kernel
theorem dX0_begin_35 : decode cX0_begin 35 = .ok (.aload_n 0, 1) := by decide +kernel
theorem dX0_begin_36 : decode cX0_begin 36 = .ok (.iconst 0, 1) := by decide +kernel
theorem dX0_begin_37 : decode cX0_begin 37 = .ok (.putfield 73, 3) := by decide +kernel
theorem dX0_begin_40 : decode cX0_begin 40 = .ok (.aload_n 0, 1) := by decide +kernel
theorem dX0_begin_41 : decode cX0_begin 41 = .ok (.iconst 0, 1) := by decide +kernel
theorem dX0_begin_42 : decode cX0_begin 42 = .ok (.putfield 61, 3) := by decide +kernel
theorem dX0_begin_45 : decode cX0_begin 45 = .ok (.return_, 1) := by decide +kernel
theorem dX0_waitForOne_0 : decode cX0_waitForOne 0 = .ok (.ldc 92, 2) := by decide +kernel
theorem dX0_waitForOne_2 : decode cX0_waitForOne 2 = .ok (.istore_n 2, 1) := by decide +kernel
theorem dX0_waitForOne_3 : decode cX0_waitForOne 3 = .ok (.iconst 0, 1) := by decide +kernel
theorem dX0_waitForOne_4 : decode cX0_waitForOne 4 = .ok (.istore_n 3, 1) := by decide +kernel
theorem dX0_waitForOne_5 : decode cX0_waitForOne 5 = .ok (.iload_n 3, 1) := by decide +kernel
theorem dX0_waitForOne_6 : decode cX0_waitForOne 6 = .ok (.iload_n 1, 1) := by decide +kernel
theorem dX0_waitForOne_7 : decode cX0_waitForOne 7 = .ok (.if_icmp .ge 31, 3) := by decide +kernel
theorem dX0_waitForOne_10 : decode cX0_waitForOne 10 = .ok (.aload_n 0, 1) := by decide +kernel
theorem dX0_waitForOne_11 : decode cX0_waitForOne 11 = .ok (.getfield 83, 3) := by decide +kernel
theorem dX0_waitForOne_14 : decode cX0_waitForOne 14 = .ok (.iload_n 3, 1) := by decide +kernel
theorem dX0_waitForOne_15 : decode cX0_waitForOne 15 = .ok (.ishr, 1) := by decide +kernel
theorem dX0_waitForOne_16 : decode cX0_waitForOne 16 = .ok (.iconst 1, 1) := by decide +kernel
theorem dX0_waitForOne_17 : decode cX0_waitForOne 17 = .ok (.iand, 1) := by decide +kernel
theorem dX0_waitForOne_18 : decode cX0_waitForOne 18 = .ok (.ifCond .ne 14, 3) := by decide +kernel
theorem dX0_waitForOne_21 : decode cX0_waitForOne 21 = .ok (.iload_n 2, 1) := by decide +kernel
theorem dX0_waitForOne_22 : decode cX0_waitForOne 22 = .ok (.aload_n 0, 1) := by decide +kernel
theorem dX0_waitForOne_23 : decode cX0_waitForOne 23 = .ok (.getfield 21, 3) := by decide +kernel
theorem dX0_waitForOne_26 : decode cX0_waitForOne 26 = .ok (.iload_n 3, 1) := by decide +kernel
theorem dX0_waitForOne_27 : decode cX0_waitForOne 27 = .ok (.iaload, 1) := by decide +kernel
theorem dX0_waitForOne_28 : decode cX0_waitForOne 28 = .ok (.invokestatic 93, 3) := by decide +kernel
theorem dX0_waitForOne_31 : decode cX0_waitForOne 31 = .ok (.istore_n 2, 1) := by decide +kernel
theorem dX0_waitForOne_32 : decode cX0_waitForOne 32 = .ok (.iinc 3 1, 3) := by decide +kernel
theorem dX0_waitForOne_35 : decode cX0_waitForOne 35 = .ok (.goto (-30), 3) := by decide +kernel
theorem dX0_waitForOne_38 : decode cX0_waitForOne 38 = .ok (.aload_n 0, 1) := by decide +kernel
theorem dX0_waitForOne_39 : decode cX0_waitForOne 39 = .ok (.aload_n 0, 1) := by decide +kernel
theorem dX0_waitForOne_40 : decode cX0_waitForOne 40 = .ok (.getfield 70, 3) := by decide +kernel
theorem dX0_waitForOne_43 : decode cX0_waitForOne 43 = .ok (.iload_n 2, 1) := by decide +kernel
theorem dX0_waitForOne_44 : decode cX0_waitForOne 44 = .ok (.invokestatic 98, 3) := by decide +kernel
theorem dX0_waitForOne_47 : decode cX0_waitForOne 47 = .ok (.putfield 70, 3) := by decide +kernel
theorem dX0_waitForOne_50 : decode cX0_waitForOne 50 = .ok (.return_, 1) := by decide +kernel
theorem dX0_waits_0 : decode cX0_waits 0 = .ok (.aload_n 0, 1) := by decide +kernel
theorem dX0_waits_1 : decode cX0_waits 1 = .ok (.getfield 83, 3) := by decide +kernel
theorem dX0_waits_4 : decode cX0_waits 4 = .ok (.iload_n 1, 1) := by decide +kernel
theorem dX0_waits_5 : decode cX0_waits 5 = .ok (.ishr, 1) := by decide +kernel
theorem dX0_waits_6 : decode cX0_waits 6 = .ok (.iconst 1, 1) := by decide +kernel
theorem dX0_waits_7 : decode cX0_waits 7 = .ok (.iand, 1) := by decide +kernel
theorem dX0_waits_8 : decode cX0_waits 8 = .ok (.ifCond .ne 20, 3) := by decide +kernel
theorem dX0_waits_11 : decode cX0_waits 11 = .ok (.aload_n 0, 1) := by decide +kernel
theorem dX0_waits_12 : decode cX0_waits 12 = .ok (.getfield 21, 3) := by decide +kernel
theorem dX0_waits_15 : decode cX0_waits 15 = .ok (.iload_n 1, 1) := by decide +kernel
theorem dX0_waits_16 : decode cX0_waits 16 = .ok (.iaload, 1) := by decide +kernel
theorem dX0_waits_17 : decode cX0_waits 17 = .ok (.aload_n 0, 1) := by decide +kernel
theorem dX0_waits_18 : decode cX0_waits 18 = .ok (.getfield 70, 3) := by decide +kernel
theorem dX0_waits_21 : decode cX0_waits 21 = .ok (.if_icmp .gt 7, 3) := by decide +kernel
theorem dX0_waits_24 : decode cX0_waits 24 = .ok (.iconst 1, 1) := by decide +kernel
theorem dX0_waits_25 : decode cX0_waits 25 = .ok (.goto 4, 3) := by decide +kernel
theorem dX0_waits_28 : decode cX0_waits 28 = .ok (.iconst 0, 1) := by decide +kernel
theorem dX0_waits_29 : decode cX0_waits 29 = .ok (.ireturn, 1) := by decide +kernel
theorem dX0_chosen_0 : decode cX0_chosen 0 = .ok (.bipush (-4), 2) := by decide +kernel
theorem dX0_chosen_2 : decode cX0_chosen 2 = .ok (.istore 4, 2) := by decide +kernel
theorem dX0_chosen_4 : decode cX0_chosen 4 = .ok (.iconst 0, 1) := by decide +kernel
theorem dX0_chosen_5 : decode cX0_chosen 5 = .ok (.istore 5, 2) := by decide +kernel
theorem dX0_chosen_7 : decode cX0_chosen 7 = .ok (.iconst 0, 1) := by decide +kernel
theorem dX0_chosen_8 : decode cX0_chosen 8 = .ok (.istore 6, 2) := by decide +kernel
theorem dX0_chosen_10 : decode cX0_chosen 10 = .ok (.iload 6, 2) := by decide +kernel
theorem dX0_chosen_12 : decode cX0_chosen 12 = .ok (.aload_n 1, 1) := by decide +kernel
theorem dX0_chosen_13 : decode cX0_chosen 13 = .ok (.getfield 31, 3) := by decide +kernel
theorem dX0_chosen_16 : decode cX0_chosen 16 = .ok (.if_icmp .ge 73, 3) := by decide +kernel
theorem dX0_chosen_19 : decode cX0_chosen 19 = .ok (.aload_n 0, 1) := by decide +kernel
theorem dX0_chosen_20 : decode cX0_chosen 20 = .ok (.iload 6, 2) := by decide +kernel
theorem dX0_chosen_22 : decode cX0_chosen 22 = .ok (.invokevirtual 101, 3) := by decide +kernel
theorem dX0_chosen_25 : decode cX0_chosen 25 = .ok (.ifCond .eq 58, 3) := by decide +kernel
theorem dX0_chosen_28 : decode cX0_chosen 28 = .ok (.aload_n 0, 1) := by decide +kernel
theorem dX0_chosen_29 : decode cX0_chosen 29 = .ok (.aload_n 1, 1) := by decide +kernel
theorem dX0_chosen_30 : decode cX0_chosen 30 = .ok (.iload_n 2, 1) := by decide +kernel
theorem dX0_chosen_31 : decode cX0_chosen 31 = .ok (.iload_n 3, 1) := by decide +kernel
theorem dX0_chosen_32 : decode cX0_chosen 32 = .ok (.iload 6, 2) := by decide +kernel
theorem dX0_chosen_34 : decode cX0_chosen 34 = .ok (.invokevirtual 105, 3) := by decide +kernel
theorem dX0_chosen_37 : decode cX0_chosen 37 = .ok (.istore 7, 2) := by decide +kernel
theorem dX0_chosen_39 : decode cX0_chosen 39 = .ok (.iload 4, 2) := by decide +kernel
theorem dX0_chosen_41 : decode cX0_chosen 41 = .ok (.ifCond .lt 34, 3) := by decide +kernel
theorem dX0_chosen_44 : decode cX0_chosen 44 = .ok (.iload 7, 2) := by decide +kernel
theorem dX0_chosen_46 : decode cX0_chosen 46 = .ok (.iload 5, 2) := by decide +kernel
theorem dX0_chosen_48 : decode cX0_chosen 48 = .ok (.if_icmp .lt 27, 3) := by decide +kernel
theorem dX0_chosen_51 : decode cX0_chosen 51 = .ok (.iload 7, 2) := by decide +kernel
theorem dX0_chosen_53 : decode cX0_chosen 53 = .ok (.iload 5, 2) := by decide +kernel
theorem dX0_chosen_55 : decode cX0_chosen 55 = .ok (.if_icmp .ne 28, 3) := by decide +kernel
theorem dX0_chosen_58 : decode cX0_chosen 58 = .ok (.aload_n 0, 1) := by decide +kernel
theorem dX0_chosen_59 : decode cX0_chosen 59 = .ok (.getfield 21, 3) := by decide +kernel
theorem dX0_chosen_62 : decode cX0_chosen 62 = .ok (.iload 6, 2) := by decide +kernel
theorem dX0_chosen_64 : decode cX0_chosen 64 = .ok (.iaload, 1) := by decide +kernel
theorem dX0_chosen_65 : decode cX0_chosen 65 = .ok (.aload_n 0, 1) := by decide +kernel
theorem dX0_chosen_66 : decode cX0_chosen 66 = .ok (.getfield 21, 3) := by decide +kernel
theorem dX0_chosen_69 : decode cX0_chosen 69 = .ok (.iload 4, 2) := by decide +kernel
theorem dX0_chosen_71 : decode cX0_chosen 71 = .ok (.iaload, 1) := by decide +kernel
theorem dX0_chosen_72 : decode cX0_chosen 72 = .ok (.if_icmp .ge 11, 3) := by decide +kernel
theorem dX0_chosen_75 : decode cX0_chosen 75 = .ok (.iload 6, 2) := by decide +kernel
theorem dX0_chosen_77 : decode cX0_chosen 77 = .ok (.istore 4, 2) := by decide +kernel
theorem dX0_chosen_79 : decode cX0_chosen 79 = .ok (.iload 7, 2) := by decide +kernel
theorem dX0_chosen_81 : decode cX0_chosen 81 = .ok (.istore 5, 2) := by decide +kernel
theorem dX0_chosen_83 : decode cX0_chosen 83 = .ok (.iinc 6 1, 3) := by decide +kernel
theorem dX0_chosen_86 : decode cX0_chosen 86 = .ok (.goto (-76), 3) := by decide +kernel
theorem dX0_chosen_89 : decode cX0_chosen 89 = .ok (.iload 4, 2) := by decide +kernel
theorem dX0_chosen_91 : decode cX0_chosen 91 = .ok (.ireturn, 1) := by decide +kernel
theorem dX0_rank_0 : decode cX0_rank 0 = .ok (.iload_n 2, 1) := by decide +kernel
theorem dX0_rank_1 : decode cX0_rank 1 = .ok (.tableswitch 56 1 4 #[31, 31, 48, 31], 31) := by decide +kernel
theorem dX0_rank_32 : decode cX0_rank 32 = .ok (.aload_n 1, 1) := by decide +kernel
theorem dX0_rank_33 : decode cX0_rank 33 = .ok (.iload 4, 2) := by decide +kernel
theorem dX0_rank_35 : decode cX0_rank 35 = .ok (.iconst 0, 1) := by decide +kernel
theorem dX0_rank_36 : decode cX0_rank 36 = .ok (.invokevirtual 41, 3) := by decide +kernel
theorem dX0_rank_39 : decode cX0_rank 39 = .ok (.iload_n 3, 1) := by decide +kernel
theorem dX0_rank_40 : decode cX0_rank 40 = .ok (.if_icmp .ne 7, 3) := by decide +kernel
theorem dX0_rank_43 : decode cX0_rank 43 = .ok (.iconst 0, 1) := by decide +kernel
theorem dX0_rank_44 : decode cX0_rank 44 = .ok (.goto 4, 3) := by decide +kernel
theorem dX0_rank_47 : decode cX0_rank 47 = .ok (.iconst 1, 1) := by decide +kernel
theorem dX0_rank_48 : decode cX0_rank 48 = .ok (.ireturn, 1) := by decide +kernel
theorem dX0_rank_49 : decode cX0_rank 49 = .ok (.aload_n 0, 1) := by decide +kernel
theorem dX0_rank_50 : decode cX0_rank 50 = .ok (.getfield 24, 3) := by decide +kernel
theorem dX0_rank_53 : decode cX0_rank 53 = .ok (.iload 4, 2) := by decide +kernel
theorem dX0_rank_55 : decode cX0_rank 55 = .ok (.iaload, 1) := by decide +kernel
theorem dX0_rank_56 : decode cX0_rank 56 = .ok (.ireturn, 1) := by decide +kernel
theorem dX0_rank_57 : decode cX0_rank 57 = .ok (.iconst 0, 1) := by decide +kernel
theorem dX0_rank_58 : decode cX0_rank 58 = .ok (.ireturn, 1) := by decide +kernel
theorem dX0_sideAhead_0 : decode cX0_sideAhead 0 = .ok (.iload_n 2, 1) := by decide +kernel
theorem dX0_sideAhead_1 : decode cX0_sideAhead 1 = .ok (.iconst 2, 1) := by decide +kernel
theorem dX0_sideAhead_2 : decode cX0_sideAhead 2 = .ok (.if_icmp .ne 9, 3) := by decide +kernel
theorem dX0_sideAhead_5 : decode cX0_sideAhead 5 = .ok (.aload_n 0, 1) := by decide +kernel
theorem dX0_sideAhead_6 : decode cX0_sideAhead 6 = .ok (.aload_n 1, 1) := by decide +kernel
theorem dX0_sideAhead_7 : decode cX0_sideAhead 7 = .ok (.invokevirtual 109, 3) := by decide +kernel
theorem dX0_sideAhead_10 : decode cX0_sideAhead 10 = .ok (.ireturn, 1) := by decide +kernel
theorem dX0_sideAhead_11 : decode cX0_sideAhead 11 = .ok (.iload_n 2, 1) := by decide +kernel
theorem dX0_sideAhead_12 : decode cX0_sideAhead 12 = .ok (.iconst 4, 1) := by decide +kernel
theorem dX0_sideAhead_13 : decode cX0_sideAhead 13 = .ok (.if_icmp .ne 11, 3) := by decide +kernel
theorem dX0_sideAhead_16 : decode cX0_sideAhead 16 = .ok (.aload_n 0, 1) := by decide +kernel
theorem dX0_sideAhead_17 : decode cX0_sideAhead 17 = .ok (.aload_n 1, 1) := by decide +kernel
theorem dX0_sideAhead_18 : decode cX0_sideAhead 18 = .ok (.invokevirtual 113, 3) := by decide +kernel
theorem dX0_sideAhead_21 : decode cX0_sideAhead 21 = .ok (.goto 7, 3) := by decide +kernel
theorem dX0_sideAhead_24 : decode cX0_sideAhead 24 = .ok (.aload_n 0, 1) := by decide +kernel
theorem dX0_sideAhead_25 : decode cX0_sideAhead 25 = .ok (.getfield 89, 3) := by decide +kernel
theorem dX0_sideAhead_28 : decode cX0_sideAhead 28 = .ok (.ireturn, 1) := by decide +kernel
theorem dX0_sideByTwos_0 : decode cX0_sideByTwos 0 = .ok (.aload_n 0, 1) := by decide +kernel
theorem dX0_sideByTwos_1 : decode cX0_sideByTwos 1 = .ok (.getfield 80, 3) := by decide +kernel
theorem dX0_sideByTwos_4 : decode cX0_sideByTwos 4 = .ok (.iconst 1, 1) := by decide +kernel
theorem dX0_sideByTwos_5 : decode cX0_sideByTwos 5 = .ok (.if_icmp .ge 8, 3) := by decide +kernel
theorem dX0_sideByTwos_8 : decode cX0_sideByTwos 8 = .ok (.aload_n 0, 1) := by decide +kernel
theorem dX0_sideByTwos_9 : decode cX0_sideByTwos 9 = .ok (.getfield 89, 3) := by decide +kernel
theorem dX0_sideByTwos_12 : decode cX0_sideByTwos 12 = .ok (.ireturn, 1) := by decide +kernel
theorem dX0_sideByTwos_13 : decode cX0_sideByTwos 13 = .ok (.aload_n 1, 1) := by decide +kernel
theorem dX0_sideByTwos_14 : decode cX0_sideByTwos 14 = .ok (.aload_n 0, 1) := by decide +kernel
theorem dX0_sideByTwos_15 : decode cX0_sideByTwos 15 = .ok (.getfield 9, 3) := by decide +kernel
theorem dX0_sideByTwos_18 : decode cX0_sideByTwos 18 = .ok (.aload_n 0, 1) := by decide +kernel
theorem dX0_sideByTwos_19 : decode cX0_sideByTwos 19 = .ok (.getfield 80, 3) := by decide +kernel
theorem dX0_sideByTwos_22 : decode cX0_sideByTwos 22 = .ok (.iconst 1, 1) := by decide +kernel
theorem dX0_sideByTwos_23 : decode cX0_sideByTwos 23 = .ok (.isub, 1) := by decide +kernel
theorem dX0_sideByTwos_24 : decode cX0_sideByTwos 24 = .ok (.iaload, 1) := by decide +kernel
theorem dX0_sideByTwos_25 : decode cX0_sideByTwos 25 = .ok (.iconst 0, 1) := by decide +kernel
theorem dX0_sideByTwos_26 : decode cX0_sideByTwos 26 = .ok (.invokevirtual 41, 3) := by decide +kernel
theorem dX0_sideByTwos_29 : decode cX0_sideByTwos 29 = .ok (.istore_n 2, 1) := by decide +kernel
theorem dX0_sideByTwos_30 : decode cX0_sideByTwos 30 = .ok (.aload_n 0, 1) := by decide +kernel
theorem dX0_sideByTwos_31 : decode cX0_sideByTwos 31 = .ok (.getfield 80, 3) := by decide +kernel
theorem dX0_sideByTwos_34 : decode cX0_sideByTwos 34 = .ok (.iconst 2, 1) := by decide +kernel
theorem dX0_sideByTwos_35 : decode cX0_sideByTwos 35 = .ok (.if_icmp .lt 23, 3) := by decide +kernel
theorem dX0_sideByTwos_38 : decode cX0_sideByTwos 38 = .ok (.aload_n 1, 1) := by decide +kernel
theorem dX0_sideByTwos_39 : decode cX0_sideByTwos 39 = .ok (.aload_n 0, 1) := by decide +kernel
theorem dX0_sideByTwos_40 : decode cX0_sideByTwos 40 = .ok (.getfield 9, 3) := by decide +kernel
theorem dX0_sideByTwos_43 : decode cX0_sideByTwos 43 = .ok (.aload_n 0, 1) := by decide +kernel
theorem dX0_sideByTwos_44 : decode cX0_sideByTwos 44 = .ok (.getfield 80, 3) := by decide +kernel
theorem dX0_sideByTwos_47 : decode cX0_sideByTwos 47 = .ok (.iconst 2, 1) := by decide +kernel
theorem dX0_sideByTwos_48 : decode cX0_sideByTwos 48 = .ok (.isub, 1) := by decide +kernel
theorem dX0_sideByTwos_49 : decode cX0_sideByTwos 49 = .ok (.iaload, 1) := by decide +kernel
theorem dX0_sideByTwos_50 : decode cX0_sideByTwos 50 = .ok (.iconst 0, 1) := by decide +kernel
theorem dX0_sideByTwos_51 : decode cX0_sideByTwos 51 = .ok (.invokevirtual 41, 3) := by decide +kernel
theorem dX0_sideByTwos_54 : decode cX0_sideByTwos 54 = .ok (.iload_n 2, 1) := by decide +kernel
theorem dX0_sideByTwos_55 : decode cX0_sideByTwos 55 = .ok (.if_icmp .eq 5, 3) := by decide +kernel
theorem dX0_sideByTwos_58 : decode cX0_sideByTwos 58 = .ok (.iload_n 2, 1) := by decide +kernel
theorem dX0_sideByTwos_59 : decode cX0_sideByTwos 59 = .ok (.ireturn, 1) := by decide +kernel
theorem dX0_sideByTwos_60 : decode cX0_sideByTwos 60 = .ok (.iload_n 2, 1) := by decide +kernel
theorem dX0_sideByTwos_61 : decode cX0_sideByTwos 61 = .ok (.invokestatic 116, 3) := by decide +kernel
theorem dX0_sideByTwos_64 : decode cX0_sideByTwos 64 = .ok (.ireturn, 1) := by decide +kernel
theorem dX0_sideByQueue_0 : decode cX0_sideByQueue 0 = .ok (.iconst 0, 1) := by decide +kernel
theorem dX0_sideByQueue_1 : decode cX0_sideByQueue 1 = .ok (.istore_n 2, 1) := by decide +kernel
theorem dX0_sideByQueue_2 : decode cX0_sideByQueue 2 = .ok (.iconst 0, 1) := by decide +kernel
theorem dX0_sideByQueue_3 : decode cX0_sideByQueue 3 = .ok (.istore_n 3, 1) := by decide +kernel
theorem dX0_sideByQueue_4 : decode cX0_sideByQueue 4 = .ok (.iload_n 3, 1) := by decide +kernel
theorem dX0_sideByQueue_5 : decode cX0_sideByQueue 5 = .ok (.aload_n 1, 1) := by decide +kernel
theorem dX0_sideByQueue_6 : decode cX0_sideByQueue 6 = .ok (.getfield 31, 3) := by decide +kernel
theorem dX0_sideByQueue_9 : decode cX0_sideByQueue 9 = .ok (.if_icmp .ge 35, 3) := by decide +kernel
theorem dX0_sideByQueue_12 : decode cX0_sideByQueue 12 = .ok (.aload_n 0, 1) := by decide +kernel
theorem dX0_sideByQueue_13 : decode cX0_sideByQueue 13 = .ok (.iload_n 3, 1) := by decide +kernel
theorem dX0_sideByQueue_14 : decode cX0_sideByQueue 14 = .ok (.invokevirtual 101, 3) := by decide +kernel
theorem dX0_sideByQueue_17 : decode cX0_sideByQueue 17 = .ok (.ifCond .eq 21, 3) := by decide +kernel
theorem dX0_sideByQueue_20 : decode cX0_sideByQueue 20 = .ok (.iload_n 2, 1) := by decide +kernel
theorem dX0_sideByQueue_21 : decode cX0_sideByQueue 21 = .ok (.aload_n 1, 1) := by decide +kernel
theorem dX0_sideByQueue_22 : decode cX0_sideByQueue 22 = .ok (.iload_n 3, 1) := by decide +kernel
theorem dX0_sideByQueue_23 : decode cX0_sideByQueue 23 = .ok (.iconst 0, 1) := by decide +kernel
theorem dX0_sideByQueue_24 : decode cX0_sideByQueue 24 = .ok (.invokevirtual 41, 3) := by decide +kernel
theorem dX0_sideByQueue_27 : decode cX0_sideByQueue 27 = .ok (.iconst 1, 1) := by decide +kernel
theorem dX0_sideByQueue_28 : decode cX0_sideByQueue 28 = .ok (.if_icmp .ne 7, 3) := by decide +kernel
theorem dX0_sideByQueue_31 : decode cX0_sideByQueue 31 = .ok (.iconst 1, 1) := by decide +kernel
theorem dX0_sideByQueue_32 : decode cX0_sideByQueue 32 = .ok (.goto 4, 3) := by decide +kernel
theorem dX0_sideByQueue_35 : decode cX0_sideByQueue 35 = .ok (.iconst (-1), 1) := by decide +kernel
theorem dX0_sideByQueue_36 : decode cX0_sideByQueue 36 = .ok (.iadd, 1) := by decide +kernel
theorem dX0_sideByQueue_37 : decode cX0_sideByQueue 37 = .ok (.istore_n 2, 1) := by decide +kernel
theorem dX0_sideByQueue_38 : decode cX0_sideByQueue 38 = .ok (.iinc 3 1, 3) := by decide +kernel
theorem dX0_sideByQueue_41 : decode cX0_sideByQueue 41 = .ok (.goto (-37), 3) := by decide +kernel
theorem dX0_sideByQueue_44 : decode cX0_sideByQueue 44 = .ok (.iload_n 2, 1) := by decide +kernel
theorem dX0_sideByQueue_45 : decode cX0_sideByQueue 45 = .ok (.ifCond .ne 8, 3) := by decide +kernel
theorem dX0_sideByQueue_48 : decode cX0_sideByQueue 48 = .ok (.aload_n 0, 1) := by decide +kernel
theorem dX0_sideByQueue_49 : decode cX0_sideByQueue 49 = .ok (.getfield 89, 3) := by decide +kernel
theorem dX0_sideByQueue_52 : decode cX0_sideByQueue 52 = .ok (.ireturn, 1) := by decide +kernel
theorem dX0_sideByQueue_53 : decode cX0_sideByQueue 53 = .ok (.iload_n 2, 1) := by decide +kernel
theorem dX0_sideByQueue_54 : decode cX0_sideByQueue 54 = .ok (.ifCond .le 7, 3) := by decide +kernel
theorem dX0_sideByQueue_57 : decode cX0_sideByQueue 57 = .ok (.iconst 1, 1) := by decide +kernel
theorem dX0_sideByQueue_58 : decode cX0_sideByQueue 58 = .ok (.goto 4, 3) := by decide +kernel
theorem dX0_sideByQueue_61 : decode cX0_sideByQueue 61 = .ok (.iconst 0, 1) := by decide +kernel
theorem dX0_sideByQueue_62 : decode cX0_sideByQueue 62 = .ok (.ireturn, 1) := by decide +kernel
theorem dX0_admit_0 : decode cX0_admit 0 = .ok (.iload_n 2, 1) := by decide +kernel
theorem dX0_admit_1 : decode cX0_admit 1 = .ok (.iconst 0, 1) := by decide +kernel
theorem dX0_admit_2 : decode cX0_admit 2 = .ok (.aload_n 1, 1) := by decide +kernel
theorem dX0_admit_3 : decode cX0_admit 3 = .ok (.getfield 31, 3) := by decide +kernel
theorem dX0_admit_6 : decode cX0_admit 6 = .ok (.iconst 1, 1) := by decide +kernel
theorem dX0_admit_7 : decode cX0_admit 7 = .ok (.isub, 1) := by decide +kernel
theorem dX0_admit_8 : decode cX0_admit 8 = .ok (.invokestatic 119, 3) := by decide +kernel
theorem dX0_admit_11 : decode cX0_admit 11 = .ok (.ifCond .eq 12, 3) := by decide +kernel
theorem dX0_admit_14 : decode cX0_admit 14 = .ok (.aload_n 0, 1) := by decide +kernel
theorem dX0_admit_15 : decode cX0_admit 15 = .ok (.getfield 80, 3) := by decide +kernel
theorem dX0_admit_18 : decode cX0_admit 18 = .ok (.bipush 6, 2) := by decide +kernel
theorem dX0_admit_20 : decode cX0_admit 20 = .ok (.if_icmp .lt 4, 3) := by decide +kernel
theorem dX0_admit_23 : decode cX0_admit 23 = .ok (.return_, 1) := by decide +kernel
theorem dX0_admit_24 : decode cX0_admit 24 = .ok (.aload_n 1, 1) := by decide +kernel
theorem dX0_admit_25 : decode cX0_admit 25 = .ok (.iload_n 2, 1) := by decide +kernel
theorem dX0_admit_26 : decode cX0_admit 26 = .ok (.iconst 0, 1) := by decide +kernel
theorem dX0_admit_27 : decode cX0_admit 27 = .ok (.invokevirtual 41, 3) := by decide +kernel
theorem dX0_admit_30 : decode cX0_admit 30 = .ok (.istore_n 3, 1) := by decide +kernel
theorem dX0_admit_31 : decode cX0_admit 31 = .ok (.aload_n 0, 1) := by decide +kernel
theorem dX0_admit_32 : decode cX0_admit 32 = .ok (.getfield 89, 3) := by decide +kernel
theorem dX0_admit_35 : decode cX0_admit 35 = .ok (.iload_n 3, 1) := by decide +kernel
theorem dX0_admit_36 : decode cX0_admit 36 = .ok (.if_icmp .eq 47, 3) := by decide +kernel
theorem dX0_admit_39 : decode cX0_admit 39 = .ok (.aload_n 0, 1) := by decide +kernel
theorem dX0_admit_40 : decode cX0_admit 40 = .ok (.dup, 1) := by decide +kernel
theorem dX0_admit_41 : decode cX0_admit 41 = .ok (.getfield 70, 3) := by decide +kernel
theorem dX0_admit_44 : decode cX0_admit 44 = .ok (.aload_n 1, 1) := by decide +kernel
theorem dX0_admit_45 : decode cX0_admit 45 = .ok (.getfield 86, 3) := by decide +kernel
theorem dX0_admit_48 : decode cX0_admit 48 = .ok (.iconst 1, 1) := by decide +kernel
theorem dX0_admit_49 : decode cX0_admit 49 = .ok (.iaload, 1) := by decide +kernel
theorem dX0_admit_50 : decode cX0_admit 50 = .ok (.iadd, 1) := by decide +kernel
theorem dX0_admit_51 : decode cX0_admit 51 = .ok (.putfield 70, 3) := by decide +kernel
theorem dX0_admit_54 : decode cX0_admit 54 = .ok (.aload_n 0, 1) := by decide +kernel
theorem dX0_admit_55 : decode cX0_admit 55 = .ok (.dup, 1) := by decide +kernel
theorem dX0_admit_56 : decode cX0_admit 56 = .ok (.getfield 73, 3) := by decide +kernel
theorem dX0_admit_59 : decode cX0_admit 59 = .ok (.iconst 1, 1) := by decide +kernel
theorem dX0_admit_60 : decode cX0_admit 60 = .ok (.iadd, 1) := by decide +kernel
theorem dX0_admit_61 : decode cX0_admit 61 = .ok (.putfield 73, 3) := by decide +kernel
theorem dX0_admit_64 : decode cX0_admit 64 = .ok (.aload_n 0, 1) := by decide +kernel
theorem dX0_admit_65 : decode cX0_admit 65 = .ok (.dup, 1) := by decide +kernel
theorem dX0_admit_66 : decode cX0_admit 66 = .ok (.getfield 67, 3) := by decide +kernel
theorem dX0_admit_69 : decode cX0_admit 69 = .ok (.iload_n 3, 1) := by decide +kernel
theorem dX0_admit_70 : decode cX0_admit 70 = .ok (.iconst 1, 1) := by decide +kernel
theorem dX0_admit_71 : decode cX0_admit 71 = .ok (.if_icmp .ne 7, 3) := by decide +kernel
theorem dX0_admit_74 : decode cX0_admit 74 = .ok (.iconst 1, 1) := by decide +kernel
theorem dX0_admit_75 : decode cX0_admit 75 = .ok (.goto 4, 3) := by decide +kernel
theorem dX0_admit_78 : decode cX0_admit 78 = .ok (.iconst 0, 1) := by decide +kernel
theorem dX0_admit_79 : decode cX0_admit 79 = .ok (.iadd, 1) := by decide +kernel
theorem dX0_admit_80 : decode cX0_admit 80 = .ok (.putfield 67, 3) := by decide +kernel
theorem dX0_admit_83 : decode cX0_admit 83 = .ok (.aload_n 0, 1) := by decide +kernel
theorem dX0_admit_84 : decode cX0_admit 84 = .ok (.dup, 1) := by decide +kernel
theorem dX0_admit_85 : decode cX0_admit 85 = .ok (.getfield 67, 3) := by decide +kernel
theorem dX0_admit_88 : decode cX0_admit 88 = .ok (.iload_n 3, 1) := by decide +kernel
theorem dX0_admit_89 : decode cX0_admit 89 = .ok (.ifCond .ne 7, 3) := by decide +kernel
theorem dX0_admit_92 : decode cX0_admit 92 = .ok (.iconst 1, 1) := by decide +kernel
theorem dX0_admit_93 : decode cX0_admit 93 = .ok (.goto 4, 3) := by decide +kernel
theorem dX0_admit_96 : decode cX0_admit 96 = .ok (.iconst 0, 1) := by decide +kernel
theorem dX0_admit_97 : decode cX0_admit 97 = .ok (.iadd, 1) := by decide +kernel
theorem dX0_admit_98 : decode cX0_admit 98 = .ok (.putfield 67, 3) := by decide +kernel
theorem dX0_admit_101 : decode cX0_admit 101 = .ok (.aload_n 1, 1) := by decide +kernel
theorem dX0_admit_102 : decode cX0_admit 102 = .ok (.iload_n 2, 1) := by decide +kernel
theorem dX0_admit_103 : decode cX0_admit 103 = .ok (.iconst 2, 1) := by decide +kernel
theorem dX0_admit_104 : decode cX0_admit 104 = .ok (.invokevirtual 41, 3) := by decide +kernel
theorem dX0_admit_107 : decode cX0_admit 107 = .ok (.istore 4, 2) := by decide +kernel
theorem dX0_admit_109 : decode cX0_admit 109 = .ok (.aload_n 0, 1) := by decide +kernel
theorem dX0_admit_110 : decode cX0_admit 110 = .ok (.getfield 70, 3) := by decide +kernel
theorem dX0_admit_113 : decode cX0_admit 113 = .ok (.iload 4, 2) := by decide +kernel
theorem dX0_admit_115 : decode cX0_admit 115 = .ok (.invokestatic 98, 3) := by decide +kernel
theorem dX0_admit_118 : decode cX0_admit 118 = .ok (.istore 5, 2) := by decide +kernel
theorem dX0_admit_120 : decode cX0_admit 120 = .ok (.aload_n 0, 1) := by decide +kernel
theorem dX0_admit_121 : decode cX0_admit 121 = .ok (.iload 5, 2) := by decide +kernel
theorem dX0_admit_123 : decode cX0_admit 123 = .ok (.aload_n 1, 1) := by decide +kernel
theorem dX0_admit_124 : decode cX0_admit 124 = .ok (.getfield 86, 3) := by decide +kernel
theorem dX0_admit_127 : decode cX0_admit 127 = .ok (.iconst 0, 1) := by decide +kernel
theorem dX0_admit_128 : decode cX0_admit 128 = .ok (.iaload, 1) := by decide +kernel
theorem dX0_admit_129 : decode cX0_admit 129 = .ok (.iadd, 1) := by decide +kernel
theorem dX0_admit_130 : decode cX0_admit 130 = .ok (.putfield 70, 3) := by decide +kernel
theorem dX0_admit_133 : decode cX0_admit 133 = .ok (.aload_n 0, 1) := by decide +kernel
theorem dX0_admit_134 : decode cX0_admit 134 = .ok (.iload_n 3, 1) := by decide +kernel
theorem dX0_admit_135 : decode cX0_admit 135 = .ok (.invokestatic 116, 3) := by decide +kernel
theorem dX0_admit_138 : decode cX0_admit 138 = .ok (.putfield 89, 3) := by decide +kernel
theorem dX0_admit_141 : decode cX0_admit 141 = .ok (.aload_n 0, 1) := by decide +kernel
theorem dX0_admit_142 : decode cX0_admit 142 = .ok (.getfield 18, 3) := by decide +kernel
theorem dX0_admit_145 : decode cX0_admit 145 = .ok (.iload_n 2, 1) := by decide +kernel
theorem dX0_admit_146 : decode cX0_admit 146 = .ok (.iload 5, 2) := by decide +kernel
theorem dX0_admit_148 : decode cX0_admit 148 = .ok (.iload 4, 2) := by decide +kernel
theorem dX0_admit_150 : decode cX0_admit 150 = .ok (.isub, 1) := by decide +kernel
theorem dX0_admit_151 : decode cX0_admit 151 = .ok (.iastore, 1) := by decide +kernel
theorem dX0_admit_152 : decode cX0_admit 152 = .ok (.aload_n 0, 1) := by decide +kernel
theorem dX0_admit_153 : decode cX0_admit 153 = .ok (.getfield 15, 3) := by decide +kernel
theorem dX0_admit_156 : decode cX0_admit 156 = .ok (.iload_n 2, 1) := by decide +kernel
theorem dX0_admit_157 : decode cX0_admit 157 = .ok (.aload_n 0, 1) := by decide +kernel
theorem dX0_admit_158 : decode cX0_admit 158 = .ok (.getfield 70, 3) := by decide +kernel
theorem dX0_admit_161 : decode cX0_admit 161 = .ok (.iastore, 1) := by decide +kernel
theorem dX0_admit_162 : decode cX0_admit 162 = .ok (.aload_n 0, 1) := by decide +kernel
theorem dX0_admit_163 : decode cX0_admit 163 = .ok (.getfield 9, 3) := by decide +kernel
theorem dX0_admit_166 : decode cX0_admit 166 = .ok (.aload_n 0, 1) := by decide +kernel
theorem dX0_admit_167 : decode cX0_admit 167 = .ok (.getfield 80, 3) := by decide +kernel
theorem dX0_admit_170 : decode cX0_admit 170 = .ok (.iload_n 2, 1) := by decide +kernel
theorem dX0_admit_171 : decode cX0_admit 171 = .ok (.iastore, 1) := by decide +kernel
theorem dX0_admit_172 : decode cX0_admit 172 = .ok (.aload_n 0, 1) := by decide +kernel
theorem dX0_admit_173 : decode cX0_admit 173 = .ok (.dup, 1) := by decide +kernel
theorem dX0_admit_174 : decode cX0_admit 174 = .ok (.getfield 80, 3) := by decide +kernel
theorem dX0_admit_177 : decode cX0_admit 177 = .ok (.iconst 1, 1) := by decide +kernel
theorem dX0_admit_178 : decode cX0_admit 178 = .ok (.iadd, 1) := by decide +kernel
theorem dX0_admit_179 : decode cX0_admit 179 = .ok (.putfield 80, 3) := by decide +kernel
theorem dX0_admit_182 : decode cX0_admit 182 = .ok (.aload_n 0, 1) := by decide +kernel
theorem dX0_admit_183 : decode cX0_admit 183 = .ok (.dup, 1) := by decide +kernel
theorem dX0_admit_184 : decode cX0_admit 184 = .ok (.getfield 83, 3) := by decide +kernel
theorem dX0_admit_187 : decode cX0_admit 187 = .ok (.iconst 1, 1) := by decide +kernel
theorem dX0_admit_188 : decode cX0_admit 188 = .ok (.iload_n 2, 1) := by decide +kernel
theorem dX0_admit_189 : decode cX0_admit 189 = .ok (.ishl, 1) := by decide +kernel
theorem dX0_admit_190 : decode cX0_admit 190 = .ok (.ior, 1) := by decide +kernel
theorem dX0_admit_191 : decode cX0_admit 191 = .ok (.putfield 83, 3) := by decide +kernel
theorem dX0_admit_194 : decode cX0_admit 194 = .ok (.aload_n 0, 1) := by decide +kernel
theorem dX0_admit_195 : decode cX0_admit 195 = .ok (.aload_n 0, 1) := by decide +kernel
theorem dX0_admit_196 : decode cX0_admit 196 = .ok (.getfield 64, 3) := by decide +kernel
theorem dX0_admit_199 : decode cX0_admit 199 = .ok (.aload_n 0, 1) := by decide +kernel
theorem dX0_admit_200 : decode cX0_admit 200 = .ok (.getfield 18, 3) := by decide +kernel
theorem dX0_admit_203 : decode cX0_admit 203 = .ok (.iload_n 2, 1) := by decide +kernel
theorem dX0_admit_204 : decode cX0_admit 204 = .ok (.iaload, 1) := by decide +kernel
theorem dX0_admit_205 : decode cX0_admit 205 = .ok (.invokestatic 98, 3) := by decide +kernel
theorem dX0_admit_208 : decode cX0_admit 208 = .ok (.putfield 64, 3) := by decide +kernel
theorem dX0_admit_211 : decode cX0_admit 211 = .ok (.aload_n 0, 1) := by decide +kernel
theorem dX0_admit_212 : decode cX0_admit 212 = .ok (.dup, 1) := by decide +kernel
theorem dX0_admit_213 : decode cX0_admit 213 = .ok (.getfield 61, 3) := by decide +kernel
theorem dX0_admit_216 : decode cX0_admit 216 = .ok (.aload_n 0, 1) := by decide +kernel
theorem dX0_admit_217 : decode cX0_admit 217 = .ok (.aload_n 1, 1) := by decide +kernel
theorem dX0_admit_218 : decode cX0_admit 218 = .ok (.iload_n 2, 1) := by decide +kernel
theorem dX0_admit_219 : decode cX0_admit 219 = .ok (.invokevirtual 123, 3) := by decide +kernel
theorem dX0_admit_222 : decode cX0_admit 222 = .ok (.iadd, 1) := by decide +kernel
theorem dX0_admit_223 : decode cX0_admit 223 = .ok (.putfield 61, 3) := by decide +kernel
theorem dX0_admit_226 : decode cX0_admit 226 = .ok (.return_, 1) := by decide +kernel
theorem dX1_init_0 : decode cX1_init 0 = .ok (.aload_n 0, 1) := by decide +kernel
theorem dX1_init_1 : decode cX1_init 1 = .ok (.invokespecial 3, 3) := by decide +kernel
theorem dX1_init_4 : decode cX1_init 4 = .ok (.aload_n 0, 1) := by decide +kernel
theorem dX1_init_5 : decode cX1_init 5 = .ok (.getstatic 9, 3) := by decide +kernel
theorem dX1_init_8 : decode cX1_init 8 = .ok (.invokevirtual 13, 3) := by decide +kernel
theorem dX1_init_11 : decode cX1_init 11 = .ok (.checkcast 14, 3) := by decide +kernel
theorem dX1_init_14 : decode cX1_init 14 = .ok (.putfield 18, 3) := by decide +kernel
theorem dX1_init_17 : decode cX1_init 17 = .ok (.aload_n 0, 1) := by decide +kernel
theorem dX1_init_18 : decode cX1_init 18 = .ok (.bipush 30, 2) := by decide +kernel
theorem dX1_init_20 : decode cX1_init 20 = .ok (.newarray .int, 2) := by decide +kernel
theorem dX1_init_22 : decode cX1_init 22 = .ok (.putfield 23, 3) := by decide +kernel
theorem dX1_init_25 : decode cX1_init 25 = .ok (.aload_n 0, 1) := by decide +kernel
theorem dX1_init_26 : decode cX1_init 26 = .ok (.bipush 6, 2) := by decide +kernel
theorem dX1_init_28 : decode cX1_init 28 = .ok (.newarray .int, 2) := by decide +kernel
theorem dX1_init_30 : decode cX1_init 30 = .ok (.putfield 26, 3) := by decide +kernel
theorem dX1_init_33 : decode cX1_init 33 = .ok (.aload_n 0, 1) := by decide +kernel
theorem dX1_init_34 : decode cX1_init 34 = .ok (.bipush 6, 2) := by decide +kernel
theorem dX1_init_36 : decode cX1_init 36 = .ok (.newarray .int, 2) := by decide +kernel
theorem dX1_init_38 : decode cX1_init 38 = .ok (.putfield 29, 3) := by decide +kernel
theorem dX1_init_41 : decode cX1_init 41 = .ok (.return_, 1) := by decide +kernel
theorem dX1_clear_0 : decode cX1_clear 0 = .ok (.getstatic 9, 3) := by decide +kernel
theorem dX1_clear_3 : decode cX1_clear 3 = .ok (.iconst 0, 1) := by decide +kernel
theorem dX1_clear_4 : decode cX1_clear 4 = .ok (.aload_n 0, 1) := by decide +kernel
theorem dX1_clear_5 : decode cX1_clear 5 = .ok (.getfield 18, 3) := by decide +kernel
theorem dX1_clear_8 : decode cX1_clear 8 = .ok (.iconst 0, 1) := by decide +kernel
theorem dX1_clear_9 : decode cX1_clear 9 = .ok (.bipush 6, 2) := by decide +kernel
theorem dX1_clear_11 : decode cX1_clear 11 = .ok (.invokestatic 32, 3) := by decide +kernel
theorem dX1_clear_14 : decode cX1_clear 14 = .ok (.aload_n 0, 1) := by decide +kernel
theorem dX1_clear_15 : decode cX1_clear 15 = .ok (.iconst 0, 1) := by decide +kernel
theorem dX1_clear_16 : decode cX1_clear 16 = .ok (.putfield 38, 3) := by decide +kernel
theorem dX1_clear_19 : decode cX1_clear 19 = .ok (.aload_n 0, 1) := by decide +kernel
theorem dX1_clear_20 : decode cX1_clear 20 = .ok (.iconst 0, 1) := by decide +kernel
theorem dX1_clear_21 : decode cX1_clear 21 = .ok (.putfield 42, 3) := by decide +kernel
theorem dX1_clear_24 : decode cX1_clear 24 = .ok (.aload_n 0, 1) := by decide +kernel
theorem dX1_clear_25 : decode cX1_clear 25 = .ok (.iconst 0, 1) := by decide +kernel
theorem dX1_clear_26 : decode cX1_clear 26 = .ok (.putfield 45, 3) := by decide +kernel
theorem dX1_clear_29 : decode cX1_clear 29 = .ok (.return_, 1) := by decide +kernel
theorem dX1_copyFrom_0 : decode cX1_copyFrom 0 = .ok (.aload_n 1, 1) := by decide +kernel
theorem dX1_copyFrom_1 : decode cX1_copyFrom 1 = .ok (.getfield 18, 3) := by decide +kernel
theorem dX1_copyFrom_4 : decode cX1_copyFrom 4 = .ok (.iconst 0, 1) := by decide +kernel
theorem dX1_copyFrom_5 : decode cX1_copyFrom 5 = .ok (.aload_n 0, 1) := by decide +kernel
theorem dX1_copyFrom_6 : decode cX1_copyFrom 6 = .ok (.getfield 18, 3) := by decide +kernel
theorem dX1_copyFrom_9 : decode cX1_copyFrom 9 = .ok (.iconst 0, 1) := by decide +kernel
theorem dX1_copyFrom_10 : decode cX1_copyFrom 10 = .ok (.bipush 6, 2) := by decide +kernel
theorem dX1_copyFrom_12 : decode cX1_copyFrom 12 = .ok (.invokestatic 32, 3) := by decide +kernel
theorem dX1_copyFrom_15 : decode cX1_copyFrom 15 = .ok (.aload_n 1, 1) := by decide +kernel
theorem dX1_copyFrom_16 : decode cX1_copyFrom 16 = .ok (.getfield 23, 3) := by decide +kernel
theorem dX1_copyFrom_19 : decode cX1_copyFrom 19 = .ok (.iconst 0, 1) := by decide +kernel
theorem dX1_copyFrom_20 : decode cX1_copyFrom 20 = .ok (.aload_n 0, 1) := by decide +kernel
theorem dX1_copyFrom_21 : decode cX1_copyFrom 21 = .ok (.getfield 23, 3) := by decide +kernel
theorem dX1_copyFrom_24 : decode cX1_copyFrom 24 = .ok (.iconst 0, 1) := by decide +kernel
theorem dX1_copyFrom_25 : decode cX1_copyFrom 25 = .ok (.bipush 30, 2) := by decide +kernel
theorem dX1_copyFrom_27 : decode cX1_copyFrom 27 = .ok (.invokestatic 32, 3) := by decide +kernel
theorem dX1_copyFrom_30 : decode cX1_copyFrom 30 = .ok (.aload_n 1, 1) := by decide +kernel
theorem dX1_copyFrom_31 : decode cX1_copyFrom 31 = .ok (.getfield 26, 3) := by decide +kernel
theorem dX1_copyFrom_34 : decode cX1_copyFrom 34 = .ok (.iconst 0, 1) := by decide +kernel
theorem dX1_copyFrom_35 : decode cX1_copyFrom 35 = .ok (.aload_n 0, 1) := by decide +kernel
theorem dX1_copyFrom_36 : decode cX1_copyFrom 36 = .ok (.getfield 26, 3) := by decide +kernel
theorem dX1_copyFrom_39 : decode cX1_copyFrom 39 = .ok (.iconst 0, 1) := by decide +kernel
theorem dX1_copyFrom_40 : decode cX1_copyFrom 40 = .ok (.bipush 6, 2) := by decide +kernel
theorem dX1_copyFrom_42 : decode cX1_copyFrom 42 = .ok (.invokestatic 32, 3) := by decide +kernel
theorem dX1_copyFrom_45 : decode cX1_copyFrom 45 = .ok (.aload_n 1, 1) := by decide +kernel
theorem dX1_copyFrom_46 : decode cX1_copyFrom 46 = .ok (.getfield 29, 3) := by decide +kernel
theorem dX1_copyFrom_49 : decode cX1_copyFrom 49 = .ok (.iconst 0, 1) := by decide +kernel
theorem dX1_copyFrom_50 : decode cX1_copyFrom 50 = .ok (.aload_n 0, 1) := by decide +kernel
theorem dX1_copyFrom_51 : decode cX1_copyFrom 51 = .ok (.getfield 29, 3) := by decide +kernel
theorem dX1_copyFrom_54 : decode cX1_copyFrom 54 = .ok (.iconst 0, 1) := by decide +kernel
theorem dX1_copyFrom_55 : decode cX1_copyFrom 55 = .ok (.bipush 6, 2) := by decide +kernel
theorem dX1_copyFrom_57 : decode cX1_copyFrom 57 = .ok (.invokestatic 32, 3) := by decide +kernel
theorem dX1_copyFrom_60 : decode cX1_copyFrom 60 = .ok (.aload_n 0, 1) := by decide +kernel
theorem dX1_copyFrom_61 : decode cX1_copyFrom 61 = .ok (.aload_n 1, 1) := by decide +kernel
theorem dX1_copyFrom_62 : decode cX1_copyFrom 62 = .ok (.getfield 38, 3) := by decide +kernel
theorem dX1_copyFrom_65 : decode cX1_copyFrom 65 = .ok (.putfield 38, 3) := by decide +kernel
theorem dX1_copyFrom_68 : decode cX1_copyFrom 68 = .ok (.aload_n 0, 1) := by decide +kernel
theorem dX1_copyFrom_69 : decode cX1_copyFrom 69 = .ok (.aload_n 1, 1) := by decide +kernel
theorem dX1_copyFrom_70 : decode cX1_copyFrom 70 = .ok (.getfield 42, 3) := by decide +kernel
theorem dX1_copyFrom_73 : decode cX1_copyFrom 73 = .ok (.putfield 42, 3) := by decide +kernel
theorem dX1_copyFrom_76 : decode cX1_copyFrom 76 = .ok (.aload_n 0, 1) := by decide +kernel
theorem dX1_copyFrom_77 : decode cX1_copyFrom 77 = .ok (.aload_n 1, 1) := by decide +kernel
theorem dX1_copyFrom_78 : decode cX1_copyFrom 78 = .ok (.getfield 45, 3) := by decide +kernel
theorem dX1_copyFrom_81 : decode cX1_copyFrom 81 = .ok (.putfield 45, 3) := by decide +kernel
theorem dX1_copyFrom_84 : decode cX1_copyFrom 84 = .ok (.return_, 1) := by decide +kernel
theorem dX1_mark_0 : decode cX1_mark 0 = .ok (.aload_n 0, 1) := by decide +kernel
theorem dX1_mark_1 : decode cX1_mark 1 = .ok (.getfield 23, 3) := by decide +kernel
theorem dX1_mark_4 : decode cX1_mark 4 = .ok (.iload_n 1, 1) := by decide +kernel
theorem dX1_mark_5 : decode cX1_mark 5 = .ok (.iconst 5, 1) := by decide +kernel
theorem dX1_mark_6 : decode cX1_mark 6 = .ok (.imul, 1) := by decide +kernel
theorem dX1_mark_7 : decode cX1_mark 7 = .ok (.iload_n 2, 1) := by decide +kernel
theorem dX1_mark_8 : decode cX1_mark 8 = .ok (.iadd, 1) := by decide +kernel
theorem dX1_mark_9 : decode cX1_mark 9 = .ok (.iaload, 1) := by decide +kernel
theorem dX1_mark_10 : decode cX1_mark 10 = .ok (.ireturn, 1) := by decide +kernel
theorem dX1_setMark_0 : decode cX1_setMark 0 = .ok (.aload_n 0, 1) := by decide +kernel
theorem dX1_setMark_1 : decode cX1_setMark 1 = .ok (.getfield 23, 3) := by decide +kernel
theorem dX1_setMark_4 : decode cX1_setMark 4 = .ok (.iload_n 1, 1) := by decide +kernel
theorem dX1_setMark_5 : decode cX1_setMark 5 = .ok (.iconst 5, 1) := by decide +kernel
theorem dX1_setMark_6 : decode cX1_setMark 6 = .ok (.imul, 1) := by decide +kernel
theorem dX1_setMark_7 : decode cX1_setMark 7 = .ok (.iload_n 2, 1) := by decide +kernel
theorem dX1_setMark_8 : decode cX1_setMark 8 = .ok (.iadd, 1) := by decide +kernel
theorem dX1_setMark_9 : decode cX1_setMark 9 = .ok (.iload_n 3, 1) := by decide +kernel
theorem dX1_setMark_10 : decode cX1_setMark 10 = .ok (.iastore, 1) := by decide +kernel
theorem dX1_setMark_11 : decode cX1_setMark 11 = .ok (.return_, 1) := by decide +kernel
theorem dX1_countsFrom_0 : decode cX1_countsFrom 0 = .ok (.aload_n 0, 1) := by decide +kernel
theorem dX1_countsFrom_1 : decode cX1_countsFrom 1 = .ok (.getfield 18, 3) := by decide +kernel
theorem dX1_countsFrom_4 : decode cX1_countsFrom 4 = .ok (.iconst 4, 1) := by decide +kernel
theorem dX1_countsFrom_5 : decode cX1_countsFrom 5 = .ok (.iaload, 1) := by decide +kernel
theorem dX1_countsFrom_6 : decode cX1_countsFrom 6 = .ok (.istore_n 2, 1) := by decide +kernel
theorem dX1_countsFrom_7 : decode cX1_countsFrom 7 = .ok (.aload_n 0, 1) := by decide +kernel
theorem dX1_countsFrom_8 : decode cX1_countsFrom 8 = .ok (.getfield 18, 3) := by decide +kernel
theorem dX1_countsFrom_11 : decode cX1_countsFrom 11 = .ok (.iconst 5, 1) := by decide +kernel
theorem dX1_countsFrom_12 : decode cX1_countsFrom 12 = .ok (.iaload, 1) := by decide +kernel
theorem dX1_countsFrom_13 : decode cX1_countsFrom 13 = .ok (.iconst 1, 1) := by decide +kernel
theorem dX1_countsFrom_14 : decode cX1_countsFrom 14 = .ok (.if_icmp .ne 14, 3) := by decide +kernel
theorem dX1_countsFrom_17 : decode cX1_countsFrom 17 = .ok (.iload_n 2, 1) := by decide +kernel
theorem dX1_countsFrom_18 : decode cX1_countsFrom 18 = .ok (.aload_n 0, 1) := by decide +kernel
theorem dX1_countsFrom_19 : decode cX1_countsFrom 19 = .ok (.iload_n 1, 1) := by decide +kernel
theorem dX1_countsFrom_20 : decode cX1_countsFrom 20 = .ok (.iconst 4, 1) := by decide +kernel
theorem dX1_countsFrom_21 : decode cX1_countsFrom 21 = .ok (.invokevirtual 48, 3) := by decide +kernel
theorem dX1_countsFrom_24 : decode cX1_countsFrom 24 = .ok (.invokestatic 52, 3) := by decide +kernel
theorem dX1_countsFrom_27 : decode cX1_countsFrom 27 = .ok (.istore_n 2, 1) := by decide +kernel
theorem dX1_countsFrom_28 : decode cX1_countsFrom 28 = .ok (.iconst 0, 1) := by decide +kernel
theorem dX1_countsFrom_29 : decode cX1_countsFrom 29 = .ok (.aload_n 0, 1) := by decide +kernel
theorem dX1_countsFrom_30 : decode cX1_countsFrom 30 = .ok (.iload_n 1, 1) := by decide +kernel
theorem dX1_countsFrom_31 : decode cX1_countsFrom 31 = .ok (.iconst 2, 1) := by decide +kernel
theorem dX1_countsFrom_32 : decode cX1_countsFrom 32 = .ok (.invokevirtual 48, 3) := by decide +kernel
theorem dX1_countsFrom_35 : decode cX1_countsFrom 35 = .ok (.iload_n 2, 1) := by decide +kernel
theorem dX1_countsFrom_36 : decode cX1_countsFrom 36 = .ok (.isub, 1) := by decide +kernel
theorem dX1_countsFrom_37 : decode cX1_countsFrom 37 = .ok (.invokestatic 52, 3) := by decide +kernel
theorem dX1_countsFrom_40 : decode cX1_countsFrom 40 = .ok (.ireturn, 1) := by decide +kernel
theorem dX1_boatsFrom_0 : decode cX1_boatsFrom 0 = .ok (.iconst 0, 1) := by decide +kernel
theorem dX1_boatsFrom_1 : decode cX1_boatsFrom 1 = .ok (.istore_n 2, 1) := by decide +kernel
theorem dX1_boatsFrom_2 : decode cX1_boatsFrom 2 = .ok (.iconst 0, 1) := by decide +kernel
theorem dX1_boatsFrom_3 : decode cX1_boatsFrom 3 = .ok (.istore_n 3, 1) := by decide +kernel
theorem dX1_boatsFrom_4 : decode cX1_boatsFrom 4 = .ok (.iload_n 3, 1) := by decide +kernel
theorem dX1_boatsFrom_5 : decode cX1_boatsFrom 5 = .ok (.aload_n 0, 1) := by decide +kernel
theorem dX1_boatsFrom_6 : decode cX1_boatsFrom 6 = .ok (.getfield 38, 3) := by decide +kernel
theorem dX1_boatsFrom_9 : decode cX1_boatsFrom 9 = .ok (.if_icmp .ge 27, 3) := by decide +kernel
theorem dX1_boatsFrom_12 : decode cX1_boatsFrom 12 = .ok (.iload_n 2, 1) := by decide +kernel
theorem dX1_boatsFrom_13 : decode cX1_boatsFrom 13 = .ok (.aload_n 0, 1) := by decide +kernel
theorem dX1_boatsFrom_14 : decode cX1_boatsFrom 14 = .ok (.iload_n 3, 1) := by decide +kernel
theorem dX1_boatsFrom_15 : decode cX1_boatsFrom 15 = .ok (.iconst 0, 1) := by decide +kernel
theorem dX1_boatsFrom_16 : decode cX1_boatsFrom 16 = .ok (.invokevirtual 48, 3) := by decide +kernel
theorem dX1_boatsFrom_19 : decode cX1_boatsFrom 19 = .ok (.iload_n 1, 1) := by decide +kernel
theorem dX1_boatsFrom_20 : decode cX1_boatsFrom 20 = .ok (.if_icmp .ne 7, 3) := by decide +kernel
theorem dX1_boatsFrom_23 : decode cX1_boatsFrom 23 = .ok (.iconst 1, 1) := by decide +kernel
theorem dX1_boatsFrom_24 : decode cX1_boatsFrom 24 = .ok (.goto 4, 3) := by decide +kernel
theorem dX1_boatsFrom_27 : decode cX1_boatsFrom 27 = .ok (.iconst 0, 1) := by decide +kernel
theorem dX1_boatsFrom_28 : decode cX1_boatsFrom 28 = .ok (.iadd, 1) := by decide +kernel
theorem dX1_boatsFrom_29 : decode cX1_boatsFrom 29 = .ok (.istore_n 2, 1) := by decide +kernel
theorem dX1_boatsFrom_30 : decode cX1_boatsFrom 30 = .ok (.iinc 3 1, 3) := by decide +kernel
theorem dX1_boatsFrom_33 : decode cX1_boatsFrom 33 = .ok (.goto (-29), 3) := by decide +kernel
theorem dX1_boatsFrom_36 : decode cX1_boatsFrom 36 = .ok (.iload_n 2, 1) := by decide +kernel
theorem dX1_boatsFrom_37 : decode cX1_boatsFrom 37 = .ok (.ireturn, 1) := by decide +kernel
theorem dX1_addSeen_0 : decode cX1_addSeen 0 = .ok (.aload_n 0, 1) := by decide +kernel
theorem dX1_addSeen_1 : decode cX1_addSeen 1 = .ok (.getfield 45, 3) := by decide +kernel
theorem dX1_addSeen_4 : decode cX1_addSeen 4 = .ok (.bipush 6, 2) := by decide +kernel
theorem dX1_addSeen_6 : decode cX1_addSeen 6 = .ok (.if_icmp .lt 5, 3) := by decide +kernel
theorem dX1_addSeen_9 : decode cX1_addSeen 9 = .ok (.iconst 0, 1) := by decide +kernel
theorem dX1_addSeen_10 : decode cX1_addSeen 10 = .ok (.ireturn, 1) := by decide +kernel
theorem dX1_addSeen_11 : decode cX1_addSeen 11 = .ok (.aload_n 0, 1) := by decide +kernel
theorem dX1_addSeen_12 : decode cX1_addSeen 12 = .ok (.getfield 26, 3) := by decide +kernel
theorem dX1_addSeen_15 : decode cX1_addSeen 15 = .ok (.aload_n 0, 1) := by decide +kernel
theorem dX1_addSeen_16 : decode cX1_addSeen 16 = .ok (.getfield 45, 3) := by decide +kernel
theorem dX1_addSeen_19 : decode cX1_addSeen 19 = .ok (.iload_n 1, 1) := by decide +kernel
theorem dX1_addSeen_20 : decode cX1_addSeen 20 = .ok (.iastore, 1) := by decide +kernel
theorem dX1_addSeen_21 : decode cX1_addSeen 21 = .ok (.aload_n 0, 1) := by decide +kernel
theorem dX1_addSeen_22 : decode cX1_addSeen 22 = .ok (.getfield 29, 3) := by decide +kernel
theorem dX1_addSeen_25 : decode cX1_addSeen 25 = .ok (.aload_n 0, 1) := by decide +kernel
theorem dX1_addSeen_26 : decode cX1_addSeen 26 = .ok (.getfield 45, 3) := by decide +kernel
theorem dX1_addSeen_29 : decode cX1_addSeen 29 = .ok (.iload_n 2, 1) := by decide +kernel
theorem dX1_addSeen_30 : decode cX1_addSeen 30 = .ok (.iastore, 1) := by decide +kernel
theorem dX1_addSeen_31 : decode cX1_addSeen 31 = .ok (.aload_n 0, 1) := by decide +kernel
theorem dX1_addSeen_32 : decode cX1_addSeen 32 = .ok (.dup, 1) := by decide +kernel
theorem dX1_addSeen_33 : decode cX1_addSeen 33 = .ok (.getfield 45, 3) := by decide +kernel
theorem dX1_addSeen_36 : decode cX1_addSeen 36 = .ok (.iconst 1, 1) := by decide +kernel
theorem dX1_addSeen_37 : decode cX1_addSeen 37 = .ok (.iadd, 1) := by decide +kernel
theorem dX1_addSeen_38 : decode cX1_addSeen 38 = .ok (.putfield 45, 3) := by decide +kernel
theorem dX1_addSeen_41 : decode cX1_addSeen 41 = .ok (.iconst 1, 1) := by decide +kernel
theorem dX1_addSeen_42 : decode cX1_addSeen 42 = .ok (.ireturn, 1) := by decide +kernel
theorem dX1_wasSeenAs_0 : decode cX1_wasSeenAs 0 = .ok (.iconst 0, 1) := by decide +kernel
theorem dX1_wasSeenAs_1 : decode cX1_wasSeenAs 1 = .ok (.istore_n 2, 1) := by decide +kernel
theorem dX1_wasSeenAs_2 : decode cX1_wasSeenAs 2 = .ok (.iload_n 2, 1) := by decide +kernel
theorem dX1_wasSeenAs_3 : decode cX1_wasSeenAs 3 = .ok (.aload_n 0, 1) := by decide +kernel
theorem dX1_wasSeenAs_4 : decode cX1_wasSeenAs 4 = .ok (.getfield 45, 3) := by decide +kernel
theorem dX1_wasSeenAs_7 : decode cX1_wasSeenAs 7 = .ok (.if_icmp .ge 28, 3) := by decide +kernel
theorem dX1_wasSeenAs_10 : decode cX1_wasSeenAs 10 = .ok (.aload_n 1, 1) := by decide +kernel
theorem dX1_wasSeenAs_11 : decode cX1_wasSeenAs 11 = .ok (.aload_n 0, 1) := by decide +kernel
theorem dX1_wasSeenAs_12 : decode cX1_wasSeenAs 12 = .ok (.getfield 26, 3) := by decide +kernel
theorem dX1_wasSeenAs_15 : decode cX1_wasSeenAs 15 = .ok (.iload_n 2, 1) := by decide +kernel
theorem dX1_wasSeenAs_16 : decode cX1_wasSeenAs 16 = .ok (.iaload, 1) := by decide +kernel
theorem dX1_wasSeenAs_17 : decode cX1_wasSeenAs 17 = .ok (.iaload, 1) := by decide +kernel
theorem dX1_wasSeenAs_18 : decode cX1_wasSeenAs 18 = .ok (.aload_n 0, 1) := by decide +kernel
theorem dX1_wasSeenAs_19 : decode cX1_wasSeenAs 19 = .ok (.getfield 29, 3) := by decide +kernel
theorem dX1_wasSeenAs_22 : decode cX1_wasSeenAs 22 = .ok (.iload_n 2, 1) := by decide +kernel
theorem dX1_wasSeenAs_23 : decode cX1_wasSeenAs 23 = .ok (.iaload, 1) := by decide +kernel
theorem dX1_wasSeenAs_24 : decode cX1_wasSeenAs 24 = .ok (.if_icmp .eq 5, 3) := by decide +kernel
theorem dX1_wasSeenAs_27 : decode cX1_wasSeenAs 27 = .ok (.iconst 0, 1) := by decide +kernel
theorem dX1_wasSeenAs_28 : decode cX1_wasSeenAs 28 = .ok (.ireturn, 1) := by decide +kernel
theorem dX1_wasSeenAs_29 : decode cX1_wasSeenAs 29 = .ok (.iinc 2 1, 3) := by decide +kernel
theorem dX1_wasSeenAs_32 : decode cX1_wasSeenAs 32 = .ok (.goto (-30), 3) := by decide +kernel
theorem dX1_wasSeenAs_35 : decode cX1_wasSeenAs 35 = .ok (.iconst 1, 1) := by decide +kernel
theorem dX1_wasSeenAs_36 : decode cX1_wasSeenAs 36 = .ok (.ireturn, 1) := by decide +kernel
theorem dX2_init_0 : decode cX2_init 0 = .ok (.aload_n 0, 1) := by decide +kernel
theorem dX2_init_1 : decode cX2_init 1 = .ok (.invokespecial 3, 3) := by decide +kernel
theorem dX2_init_4 : decode cX2_init 4 = .ok (.aload_n 0, 1) := by decide +kernel
theorem dX2_init_5 : decode cX2_init 5 = .ok (.bipush 6, 2) := by decide +kernel
theorem dX2_init_7 : decode cX2_init 7 = .ok (.newarray .int, 2) := by decide +kernel
theorem dX2_init_9 : decode cX2_init 9 = .ok (.putfield 9, 3) := by decide +kernel
theorem dX2_init_12 : decode cX2_init 12 = .ok (.aload_n 0, 1) := by decide +kernel
theorem dX2_init_13 : decode cX2_init 13 = .ok (.bipush 6, 2) := by decide +kernel
theorem dX2_init_15 : decode cX2_init 15 = .ok (.newarray .int, 2) := by decide +kernel
theorem dX2_init_17 : decode cX2_init 17 = .ok (.putfield 15, 3) := by decide +kernel
theorem dX2_init_20 : decode cX2_init 20 = .ok (.return_, 1) := by decide +kernel
theorem dX2_seekLeastCost_0 : decode cX2_seekLeastCost 0 = .ok (.aload_n 0, 1) := by decide +kernel
theorem dX2_seekLeastCost_1 : decode cX2_seekLeastCost 1 = .ok (.ldc 18, 2) := by decide +kernel
theorem dX2_seekLeastCost_3 : decode cX2_seekLeastCost 3 = .ok (.putfield 19, 3) := by decide +kernel
theorem dX2_seekLeastCost_6 : decode cX2_seekLeastCost 6 = .ok (.aload_n 0, 1) := by decide +kernel
theorem dX2_seekLeastCost_7 : decode cX2_seekLeastCost 7 = .ok (.aload_n 1, 1) := by decide +kernel
theorem dX2_seekLeastCost_8 : decode cX2_seekLeastCost 8 = .ok (.iconst 0, 1) := by decide +kernel
theorem dX2_seekLeastCost_9 : decode cX2_seekLeastCost 9 = .ok (.iconst 0, 1) := by decide +kernel
theorem dX2_seekLeastCost_10 : decode cX2_seekLeastCost 10 = .ok (.iconst 0, 1) := by decide +kernel
theorem dX2_seekLeastCost_11 : decode cX2_seekLeastCost 11 = .ok (.aload_n 1, 1) := by decide +kernel
theorem dX2_seekLeastCost_12 : decode cX2_seekLeastCost 12 = .ok (.getfield 23, 3) := by decide +kernel
theorem dX2_seekLeastCost_15 : decode cX2_seekLeastCost 15 = .ok (.iconst 2, 1) := by decide +kernel
theorem dX2_seekLeastCost_16 : decode cX2_seekLeastCost 16 = .ok (.iaload, 1) := by decide +kernel
theorem dX2_seekLeastCost_17 : decode cX2_seekLeastCost 17 = .ok (.iconst 0, 1) := by decide +kernel
theorem dX2_seekLeastCost_18 : decode cX2_seekLeastCost 18 = .ok (.invokevirtual 28, 3) := by decide +kernel
theorem dX2_seekLeastCost_21 : decode cX2_seekLeastCost 21 = .ok (.return_, 1) := by decide +kernel
theorem dX2_seek_0 : decode cX2_seek 0 = .ok (.iload 6, 2) := by decide +kernel
theorem dX2_seek_2 : decode cX2_seek 2 = .ok (.aload_n 0, 1) := by decide +kernel
theorem dX2_seek_3 : decode cX2_seek 3 = .ok (.getfield 19, 3) := by decide +kernel
theorem dX2_seek_6 : decode cX2_seek 6 = .ok (.if_icmp .lt 4, 3) := by decide +kernel
theorem dX2_seek_9 : decode cX2_seek 9 = .ok (.return_, 1) := by decide +kernel
theorem dX2_seek_10 : decode cX2_seek 10 = .ok (.iload_n 2, 1) := by decide +kernel
theorem dX2_seek_11 : decode cX2_seek 11 = .ok (.aload_n 1, 1) := by decide +kernel
theorem dX2_seek_12 : decode cX2_seek 12 = .ok (.getfield 32, 3) := by decide +kernel
theorem dX2_seek_15 : decode cX2_seek 15 = .ok (.if_icmp .ge 9, 3) := by decide +kernel
theorem dX2_seek_18 : decode cX2_seek 18 = .ok (.iload_n 2, 1) := by decide +kernel
theorem dX2_seek_19 : decode cX2_seek 19 = .ok (.bipush 6, 2) := by decide +kernel
theorem dX2_seek_21 : decode cX2_seek 21 = .ok (.if_icmp .lt 25, 3) := by decide +kernel
theorem dX2_seek_24 : decode cX2_seek 24 = .ok (.aload_n 0, 1) := by decide +kernel
theorem dX2_seek_25 : decode cX2_seek 25 = .ok (.iload 6, 2) := by decide +kernel
theorem dX2_seek_27 : decode cX2_seek 27 = .ok (.putfield 19, 3) := by decide +kernel
theorem dX2_seek_30 : decode cX2_seek 30 = .ok (.aload_n 0, 1) := by decide +kernel
theorem dX2_seek_31 : decode cX2_seek 31 = .ok (.getfield 15, 3) := by decide +kernel
theorem dX2_seek_34 : decode cX2_seek 34 = .ok (.iconst 0, 1) := by decide +kernel
theorem dX2_seek_35 : decode cX2_seek 35 = .ok (.aload_n 0, 1) := by decide +kernel
theorem dX2_seek_36 : decode cX2_seek 36 = .ok (.getfield 9, 3) := by decide +kernel
theorem dX2_seek_39 : decode cX2_seek 39 = .ok (.iconst 0, 1) := by decide +kernel
theorem dX2_seek_40 : decode cX2_seek 40 = .ok (.bipush 6, 2) := by decide +kernel
theorem dX2_seek_42 : decode cX2_seek 42 = .ok (.invokestatic 35, 3) := by decide +kernel
theorem dX2_seek_45 : decode cX2_seek 45 = .ok (.return_, 1) := by decide +kernel
theorem dX2_seek_46 : decode cX2_seek 46 = .ok (.iconst 0, 1) := by decide +kernel
theorem dX2_seek_47 : decode cX2_seek 47 = .ok (.istore 7, 2) := by decide +kernel
theorem dX2_seek_49 : decode cX2_seek 49 = .ok (.iload 7, 2) := by decide +kernel
theorem dX2_seek_51 : decode cX2_seek 51 = .ok (.aload_n 1, 1) := by decide +kernel
theorem dX2_seek_52 : decode cX2_seek 52 = .ok (.getfield 32, 3) := by decide +kernel
theorem dX2_seek_55 : decode cX2_seek 55 = .ok (.if_icmp .ge 120, 3) := by decide +kernel
theorem dX2_seek_58 : decode cX2_seek 58 = .ok (.iload_n 3, 1) := by decide +kernel
theorem dX2_seek_59 : decode cX2_seek 59 = .ok (.iload 7, 2) := by decide +kernel
theorem dX2_seek_61 : decode cX2_seek 61 = .ok (.ishr, 1) := by decide +kernel
theorem dX2_seek_62 : decode cX2_seek 62 = .ok (.iconst 1, 1) := by decide +kernel
theorem dX2_seek_63 : decode cX2_seek 63 = .ok (.iand, 1) := by decide +kernel
theorem dX2_seek_64 : decode cX2_seek 64 = .ok (.ifCond .ne 105, 3) := by decide +kernel
theorem dX2_seek_67 : decode cX2_seek 67 = .ok (.aload_n 1, 1) := by decide +kernel
theorem dX2_seek_68 : decode cX2_seek 68 = .ok (.iload 7, 2) := by decide +kernel
theorem dX2_seek_70 : decode cX2_seek 70 = .ok (.iconst 0, 1) := by decide +kernel
theorem dX2_seek_71 : decode cX2_seek 71 = .ok (.invokevirtual 41, 3) := by decide +kernel
theorem dX2_seek_74 : decode cX2_seek 74 = .ok (.istore 8, 2) := by decide +kernel
theorem dX2_seek_76 : decode cX2_seek 76 = .ok (.aload_n 1, 1) := by decide +kernel
theorem dX2_seek_77 : decode cX2_seek 77 = .ok (.iload 7, 2) := by decide +kernel
theorem dX2_seek_79 : decode cX2_seek 79 = .ok (.iconst 2, 1) := by decide +kernel
theorem dX2_seek_80 : decode cX2_seek 80 = .ok (.invokevirtual 41, 3) := by decide +kernel
theorem dX2_seek_83 : decode cX2_seek 83 = .ok (.istore 9, 2) := by decide +kernel
theorem dX2_seek_85 : decode cX2_seek 85 = .ok (.iload 9, 2) := by decide +kernel
theorem dX2_seek_87 : decode cX2_seek 87 = .ok (.iload 5, 2) := by decide +kernel
theorem dX2_seek_89 : decode cX2_seek 89 = .ok (.iload 8, 2) := by decide +kernel
theorem dX2_seek_91 : decode cX2_seek 91 = .ok (.if_icmp .ne 8, 3) := by decide +kernel
theorem dX2_seek_94 : decode cX2_seek 94 = .ok (.iload 4, 2) := by decide +kernel
theorem dX2_seek_96 : decode cX2_seek 96 = .ok (.goto 12, 3) := by decide +kernel
theorem dX2_seek_99 : decode cX2_seek 99 = .ok (.iload 4, 2) := by decide +kernel
theorem dX2_seek_101 : decode cX2_seek 101 = .ok (.aload_n 1, 1) := by decide +kernel
theorem dX2_seek_102 : decode cX2_seek 102 = .ok (.getfield 23, 3) := by decide +kernel
theorem dX2_seek_105 : decode cX2_seek 105 = .ok (.iconst 1, 1) := by decide +kernel
theorem dX2_seek_106 : decode cX2_seek 106 = .ok (.iaload, 1) := by decide +kernel
theorem dX2_seek_107 : decode cX2_seek 107 = .ok (.iadd, 1) := by decide +kernel
theorem dX2_seek_108 : decode cX2_seek 108 = .ok (.invokestatic 45, 3) := by decide +kernel
theorem dX2_seek_111 : decode cX2_seek 111 = .ok (.istore 10, 2) := by decide +kernel
theorem dX2_seek_113 : decode cX2_seek 113 = .ok (.iload 10, 2) := by decide +kernel
theorem dX2_seek_115 : decode cX2_seek 115 = .ok (.iload 9, 2) := by decide +kernel
theorem dX2_seek_117 : decode cX2_seek 117 = .ok (.isub, 1) := by decide +kernel
theorem dX2_seek_118 : decode cX2_seek 118 = .ok (.aload_n 1, 1) := by decide +kernel
theorem dX2_seek_119 : decode cX2_seek 119 = .ok (.iload 7, 2) := by decide +kernel
theorem dX2_seek_121 : decode cX2_seek 121 = .ok (.iconst 3, 1) := by decide +kernel
theorem dX2_seek_122 : decode cX2_seek 122 = .ok (.invokevirtual 41, 3) := by decide +kernel
theorem dX2_seek_125 : decode cX2_seek 125 = .ok (.imul, 1) := by decide +kernel
theorem dX2_seek_126 : decode cX2_seek 126 = .ok (.istore 11, 2) := by decide +kernel
theorem dX2_seek_128 : decode cX2_seek 128 = .ok (.aload_n 0, 1) := by decide +kernel
theorem dX2_seek_129 : decode cX2_seek 129 = .ok (.getfield 15, 3) := by decide +kernel
theorem dX2_seek_132 : decode cX2_seek 132 = .ok (.iload_n 2, 1) := by decide +kernel
theorem dX2_seek_133 : decode cX2_seek 133 = .ok (.iload 7, 2) := by decide +kernel
theorem dX2_seek_135 : decode cX2_seek 135 = .ok (.iastore, 1) := by decide +kernel
theorem dX2_seek_136 : decode cX2_seek 136 = .ok (.aload_n 0, 1) := by decide +kernel
theorem dX2_seek_137 : decode cX2_seek 137 = .ok (.aload_n 1, 1) := by decide +kernel
theorem dX2_seek_138 : decode cX2_seek 138 = .ok (.iload_n 2, 1) := by decide +kernel
theorem dX2_seek_139 : decode cX2_seek 139 = .ok (.iconst 1, 1) := by decide +kernel
theorem dX2_seek_140 : decode cX2_seek 140 = .ok (.iadd, 1) := by decide +kernel
theorem dX2_seek_141 : decode cX2_seek 141 = .ok (.iload_n 3, 1) := by decide +kernel
theorem dX2_seek_142 : decode cX2_seek 142 = .ok (.iconst 1, 1) := by decide +kernel
theorem dX2_seek_143 : decode cX2_seek 143 = .ok (.iload 7, 2) := by decide +kernel
theorem dX2_seek_145 : decode cX2_seek 145 = .ok (.ishl, 1) := by decide +kernel
theorem dX2_seek_146 : decode cX2_seek 146 = .ok (.ior, 1) := by decide +kernel
theorem dX2_seek_147 : decode cX2_seek 147 = .ok (.iload 10, 2) := by decide +kernel
theorem dX2_seek_149 : decode cX2_seek 149 = .ok (.aload_n 1, 1) := by decide +kernel
theorem dX2_seek_150 : decode cX2_seek 150 = .ok (.getfield 23, 3) := by decide +kernel
theorem dX2_seek_153 : decode cX2_seek 153 = .ok (.iconst 0, 1) := by decide +kernel
theorem dX2_seek_154 : decode cX2_seek 154 = .ok (.iaload, 1) := by decide +kernel
theorem dX2_seek_155 : decode cX2_seek 155 = .ok (.iadd, 1) := by decide +kernel
theorem dX2_seek_156 : decode cX2_seek 156 = .ok (.iload 8, 2) := by decide +kernel
theorem dX2_seek_158 : decode cX2_seek 158 = .ok (.invokestatic 50, 3) := by decide +kernel
theorem dX2_seek_161 : decode cX2_seek 161 = .ok (.iload 6, 2) := by decide +kernel
theorem dX2_seek_163 : decode cX2_seek 163 = .ok (.iload 11, 2) := by decide +kernel
theorem dX2_seek_165 : decode cX2_seek 165 = .ok (.iadd, 1) := by decide +kernel
theorem dX2_seek_166 : decode cX2_seek 166 = .ok (.invokevirtual 28, 3) := by decide +kernel
theorem dX2_seek_169 : decode cX2_seek 169 = .ok (.iinc 7 1, 3) := by decide +kernel
theorem dX2_seek_172 : decode cX2_seek 172 = .ok (.goto (-123), 3) := by decide +kernel
theorem dX2_seek_175 : decode cX2_seek 175 = .ok (.return_, 1) := by decide +kernel
theorem dX3_init_0 : decode cX3_init 0 = .ok (.aload_n 0, 1) := by decide +kernel
theorem dX3_init_1 : decode cX3_init 1 = .ok (.invokespecial 3, 3) := by decide +kernel
theorem dX3_init_4 : decode cX3_init 4 = .ok (.aload_n 0, 1) := by decide +kernel
theorem dX3_init_5 : decode cX3_init 5 = .ok (.bipush 40, 2) := by decide +kernel
theorem dX3_init_7 : decode cX3_init 7 = .ok (.newarray .int, 2) := by decide +kernel
theorem dX3_init_9 : decode cX3_init 9 = .ok (.putfield 11, 3) := by decide +kernel
theorem dX3_init_12 : decode cX3_init 12 = .ok (.aload_n 0, 1) := by decide +kernel
theorem dX3_init_13 : decode cX3_init 13 = .ok (.iconst (-1), 1) := by decide +kernel
theorem dX3_init_14 : decode cX3_init 14 = .ok (.putfield 15, 3) := by decide +kernel
theorem dX3_init_17 : decode cX3_init 17 = .ok (.return_, 1) := by decide +kernel
theorem dX3_isLane_0 : decode cX3_isLane 0 = .ok (.iload_n 0, 1) := by decide +kernel
theorem dX3_isLane_1 : decode cX3_isLane 1 = .ok (.iconst 0, 1) := by decide +kernel
theorem dX3_isLane_2 : decode cX3_isLane 2 = .ok (.iconst 2, 1) := by decide +kernel
theorem dX3_isLane_3 : decode cX3_isLane 3 = .ok (.invokestatic 19, 3) := by decide +kernel
theorem dX3_isLane_6 : decode cX3_isLane 6 = .ok (.ireturn, 1) := by decide +kernel
theorem dX3_isNothing_0 : decode cX3_isNothing 0 = .ok (.aload_n 0, 1) := by decide +kernel
theorem dX3_isNothing_1 : decode cX3_isNothing 1 = .ok (.getfield 15, 3) := by decide +kernel
theorem dX3_isNothing_4 : decode cX3_isNothing 4 = .ok (.iconst (-1), 1) := by decide +kernel
theorem dX3_isNothing_5 : decode cX3_isNothing 5 = .ok (.if_icmp .ne 7, 3) := by decide +kernel
theorem dX3_isNothing_8 : decode cX3_isNothing 8 = .ok (.iconst 1, 1) := by decide +kernel
theorem dX3_isNothing_9 : decode cX3_isNothing 9 = .ok (.goto 4, 3) := by decide +kernel
theorem dX3_isNothing_12 : decode cX3_isNothing 12 = .ok (.iconst 0, 1) := by decide +kernel
theorem dX3_isNothing_13 : decode cX3_isNothing 13 = .ok (.ireturn, 1) := by decide +kernel
theorem dX3_renew_0 : decode cX3_renew 0 = .ok (.aload_n 0, 1) := by decide +kernel
theorem dX3_renew_1 : decode cX3_renew 1 = .ok (.iload_n 1, 1) := by decide +kernel
theorem dX3_renew_2 : decode cX3_renew 2 = .ok (.putfield 23, 3) := by decide +kernel
theorem dX3_renew_5 : decode cX3_renew 5 = .ok (.aload_n 0, 1) := by decide +kernel
theorem dX3_renew_6 : decode cX3_renew 6 = .ok (.iload_n 2, 1) := by decide +kernel
theorem dX3_renew_7 : decode cX3_renew 7 = .ok (.putfield 15, 3) := by decide +kernel
theorem dX3_renew_10 : decode cX3_renew 10 = .ok (.aload_n 0, 1) := by decide +kernel
theorem dX3_renew_11 : decode cX3_renew 11 = .ok (.getfield 11, 3) := by decide +kernel
theorem dX3_renew_14 : decode cX3_renew 14 = .ok (.iconst 0, 1) := by decide +kernel
theorem dX3_renew_15 : decode cX3_renew 15 = .ok (.invokestatic 26, 3) := by decide +kernel
theorem dX3_renew_18 : decode cX3_renew 18 = .ok (.return_, 1) := by decide +kernel
theorem dX3_put_0 : decode cX3_put 0 = .ok (.aload_n 0, 1) := by decide +kernel
theorem dX3_put_1 : decode cX3_put 1 = .ok (.getfield 11, 3) := by decide +kernel
theorem dX3_put_4 : decode cX3_put 4 = .ok (.iload_n 1, 1) := by decide +kernel
theorem dX3_put_5 : decode cX3_put 5 = .ok (.aload_n 0, 1) := by decide +kernel
theorem dX3_put_6 : decode cX3_put 6 = .ok (.getfield 23, 3) := by decide +kernel
theorem dX3_put_9 : decode cX3_put 9 = .ok (.ifCond .ne 8, 3) := by decide +kernel
theorem dX3_put_12 : decode cX3_put 12 = .ok (.iload_n 2, 1) := by decide +kernel
theorem dX3_put_13 : decode cX3_put 13 = .ok (.i2b, 1) := by decide +kernel
theorem dX3_put_14 : decode cX3_put 14 = .ok (.goto 17, 3) := by decide +kernel
theorem dX3_put_17 : decode cX3_put 17 = .ok (.aload_n 0, 1) := by decide +kernel
theorem dX3_put_18 : decode cX3_put 18 = .ok (.getfield 23, 3) := by decide +kernel
theorem dX3_put_21 : decode cX3_put 21 = .ok (.iconst 1, 1) := by decide +kernel
theorem dX3_put_22 : decode cX3_put 22 = .ok (.if_icmp .ne 8, 3) := by decide +kernel
theorem dX3_put_25 : decode cX3_put 25 = .ok (.iload_n 2, 1) := by decide +kernel
theorem dX3_put_26 : decode cX3_put 26 = .ok (.i2s, 1) := by decide +kernel
theorem dX3_put_27 : decode cX3_put 27 = .ok (.goto 4, 3) := by decide +kernel
theorem dX3_put_30 : decode cX3_put 30 = .ok (.iload_n 2, 1) := by decide +kernel
theorem dX3_put_31 : decode cX3_put 31 = .ok (.iastore, 1) := by decide +kernel
theorem dX3_put_32 : decode cX3_put 32 = .ok (.return_, 1) := by decide +kernel
theorem dX3_cell_0 : decode cX3_cell 0 = .ok (.aload_n 0, 1) := by decide +kernel
theorem dX3_cell_1 : decode cX3_cell 1 = .ok (.getfield 11, 3) := by decide +kernel
theorem dX3_cell_4 : decode cX3_cell 4 = .ok (.iload_n 1, 1) := by decide +kernel
theorem dX3_cell_5 : decode cX3_cell 5 = .ok (.iaload, 1) := by decide +kernel
theorem dX3_cell_6 : decode cX3_cell 6 = .ok (.ireturn, 1) := by decide +kernel
theorem dX3_faultAt_0 : decode cX3_faultAt 0 = .ok (.aload_n 0, 1) := by decide +kernel
theorem dX3_faultAt_1 : decode cX3_faultAt 1 = .ok (.invokevirtual 32, 3) := by decide +kernel
theorem dX3_faultAt_4 : decode cX3_faultAt 4 = .ok (.ifCond .eq 5, 3) := by decide +kernel
theorem dX3_faultAt_7 : decode cX3_faultAt 7 = .ok (.iconst 1, 1) := by decide +kernel
theorem dX3_faultAt_8 : decode cX3_faultAt 8 = .ok (.ireturn, 1) := by decide +kernel
theorem dX3_faultAt_9 : decode cX3_faultAt 9 = .ok (.iload_n 1, 1) := by decide +kernel
theorem dX3_faultAt_10 : decode cX3_faultAt 10 = .ok (.iconst 0, 1) := by decide +kernel
theorem dX3_faultAt_11 : decode cX3_faultAt 11 = .ok (.aload_n 0, 1) := by decide +kernel
theorem dX3_faultAt_12 : decode cX3_faultAt 12 = .ok (.getfield 15, 3) := by decide +kernel
theorem dX3_faultAt_15 : decode cX3_faultAt 15 = .ok (.iconst 1, 1) := by decide +kernel
theorem dX3_faultAt_16 : decode cX3_faultAt 16 = .ok (.isub, 1) := by decide +kernel
theorem dX3_faultAt_17 : decode cX3_faultAt 17 = .ok (.invokestatic 19, 3) := by decide +kernel
theorem dX3_faultAt_20 : decode cX3_faultAt 20 = .ok (.ifCond .eq 7, 3) := by decide +kernel
theorem dX3_faultAt_23 : decode cX3_faultAt 23 = .ok (.iconst 0, 1) := by decide +kernel
theorem dX3_faultAt_24 : decode cX3_faultAt 24 = .ok (.goto 4, 3) := by decide +kernel
theorem dX3_faultAt_27 : decode cX3_faultAt 27 = .ok (.iconst 2, 1) := by decide +kernel
theorem dX3_faultAt_28 : decode cX3_faultAt 28 = .ok (.ireturn, 1) := by decide +kernel
theorem dX3_faultOfPair_0 : decode cX3_faultOfPair 0 = .ok (.aload_n 0, 1) := by decide +kernel
theorem dX3_faultOfPair_1 : decode cX3_faultOfPair 1 = .ok (.invokevirtual 32, 3) := by decide +kernel
theorem dX3_faultOfPair_4 : decode cX3_faultOfPair 4 = .ok (.ifCond .ne 13, 3) := by decide +kernel
theorem dX3_faultOfPair_7 : decode cX3_faultOfPair 7 = .ok (.aload_n 0, 1) := by decide +kernel
theorem dX3_faultOfPair_8 : decode cX3_faultOfPair 8 = .ok (.getfield 23, 3) := by decide +kernel
theorem dX3_faultOfPair_11 : decode cX3_faultOfPair 11 = .ok (.iload_n 1, 1) := by decide +kernel
theorem dX3_faultOfPair_12 : decode cX3_faultOfPair 12 = .ok (.if_icmp .eq 5, 3) := by decide +kernel
theorem dX3_faultOfPair_15 : decode cX3_faultOfPair 15 = .ok (.iconst 3, 1) := by decide +kernel
theorem dX3_faultOfPair_16 : decode cX3_faultOfPair 16 = .ok (.ireturn, 1) := by decide +kernel
theorem dX3_faultOfPair_17 : decode cX3_faultOfPair 17 = .ok (.aload_n 0, 1) := by decide +kernel
theorem dX3_faultOfPair_18 : decode cX3_faultOfPair 18 = .ok (.iload_n 2, 1) := by decide +kernel
theorem dX3_faultOfPair_19 : decode cX3_faultOfPair 19 = .ok (.invokevirtual 36, 3) := by decide +kernel
theorem dX3_faultOfPair_22 : decode cX3_faultOfPair 22 = .ok (.istore_n 3, 1) := by decide +kernel
theorem dX3_faultOfPair_23 : decode cX3_faultOfPair 23 = .ok (.iload_n 3, 1) := by decide +kernel
theorem dX3_faultOfPair_24 : decode cX3_faultOfPair 24 = .ok (.ifCond .eq 7, 3) := by decide +kernel
theorem dX3_faultOfPair_27 : decode cX3_faultOfPair 27 = .ok (.iload_n 3, 1) := by decide +kernel
theorem dX3_faultOfPair_28 : decode cX3_faultOfPair 28 = .ok (.goto 10, 3) := by decide +kernel
theorem dX3_faultOfPair_31 : decode cX3_faultOfPair 31 = .ok (.aload_n 0, 1) := by decide +kernel
theorem dX3_faultOfPair_32 : decode cX3_faultOfPair 32 = .ok (.iload_n 2, 1) := by decide +kernel
theorem dX3_faultOfPair_33 : decode cX3_faultOfPair 33 = .ok (.iconst 1, 1) := by decide +kernel
theorem dX3_faultOfPair_34 : decode cX3_faultOfPair 34 = .ok (.iadd, 1) := by decide +kernel
theorem dX3_faultOfPair_35 : decode cX3_faultOfPair 35 = .ok (.invokevirtual 36, 3) := by decide +kernel
theorem dX3_faultOfPair_38 : decode cX3_faultOfPair 38 = .ok (.ireturn, 1) := by decide +kernel
theorem dX4_init_0 : decode cX4_init 0 = .ok (.aload_n 0, 1) := by decide +kernel
theorem dX4_init_1 : decode cX4_init 1 = .ok (.invokespecial 1, 3) := by decide +kernel
theorem dX4_init_4 : decode cX4_init 4 = .ok (.aload_n 0, 1) := by decide +kernel
theorem dX4_init_5 : decode cX4_init 5 = .ok (.sipush 160, 3) := by decide +kernel
theorem dX4_init_8 : decode cX4_init 8 = .ok (.newarray .byte, 2) := by decide +kernel
theorem dX4_init_10 : decode cX4_init 10 = .ok (.putfield 9, 3) := by decide +kernel
theorem dX4_init_13 : decode cX4_init 13 = .ok (.return_, 1) := by decide +kernel
theorem dX4_append_0 : decode cX4_append 0 = .ok (.aload_n 0, 1) := by decide +kernel
theorem dX4_append_1 : decode cX4_append 1 = .ok (.getfield 13, 3) := by decide +kernel
theorem dX4_append_4 : decode cX4_append 4 = .ok (.sipush 160, 3) := by decide +kernel
theorem dX4_append_7 : decode cX4_append 7 = .ok (.if_icmp .lt 5, 3) := by decide +kernel
theorem dX4_append_10 : decode cX4_append 10 = .ok (.iconst 0, 1) := by decide +kernel
theorem dX4_append_11 : decode cX4_append 11 = .ok (.ireturn, 1) := by decide +kernel
theorem dX4_append_12 : decode cX4_append 12 = .ok (.aload_n 0, 1) := by decide +kernel
theorem dX4_append_13 : decode cX4_append 13 = .ok (.getfield 9, 3) := by decide +kernel
theorem dX4_append_16 : decode cX4_append 16 = .ok (.aload_n 0, 1) := by decide +kernel
theorem dX4_append_17 : decode cX4_append 17 = .ok (.getfield 13, 3) := by decide +kernel
theorem dX4_append_20 : decode cX4_append 20 = .ok (.iload_n 1, 1) := by decide +kernel
theorem dX4_append_21 : decode cX4_append 21 = .ok (.i2b, 1) := by decide +kernel
theorem dX4_append_22 : decode cX4_append 22 = .ok (.bastore, 1) := by decide +kernel
theorem dX4_append_23 : decode cX4_append 23 = .ok (.aload_n 0, 1) := by decide +kernel
theorem dX4_append_24 : decode cX4_append 24 = .ok (.dup, 1) := by decide +kernel
theorem dX4_append_25 : decode cX4_append 25 = .ok (.getfield 13, 3) := by decide +kernel
theorem dX4_append_28 : decode cX4_append 28 = .ok (.iconst 1, 1) := by decide +kernel
theorem dX4_append_29 : decode cX4_append 29 = .ok (.iadd, 1) := by decide +kernel
theorem dX4_append_30 : decode cX4_append 30 = .ok (.putfield 13, 3) := by decide +kernel
theorem dX4_append_33 : decode cX4_append 33 = .ok (.iconst 1, 1) := by decide +kernel
theorem dX4_append_34 : decode cX4_append 34 = .ok (.ireturn, 1) := by decide +kernel
theorem dX4_rewind_0 : decode cX4_rewind 0 = .ok (.aload_n 0, 1) := by decide +kernel
theorem dX4_rewind_1 : decode cX4_rewind 1 = .ok (.iconst 0, 1) := by decide +kernel
theorem dX4_rewind_2 : decode cX4_rewind 2 = .ok (.putfield 17, 3) := by decide +kernel
theorem dX4_rewind_5 : decode cX4_rewind 5 = .ok (.return_, 1) := by decide +kernel
theorem dX4_next_0 : decode cX4_next 0 = .ok (.aload_n 0, 1) := by decide +kernel
theorem dX4_next_1 : decode cX4_next 1 = .ok (.getfield 17, 3) := by decide +kernel
theorem dX4_next_4 : decode cX4_next 4 = .ok (.aload_n 0, 1) := by decide +kernel
theorem dX4_next_5 : decode cX4_next 5 = .ok (.getfield 13, 3) := by decide +kernel
theorem dX4_next_8 : decode cX4_next 8 = .ok (.if_icmp .ge 30, 3) := by decide +kernel
theorem dX4_next_11 : decode cX4_next 11 = .ok (.aload_n 0, 1) := by decide +kernel
theorem dX4_next_12 : decode cX4_next 12 = .ok (.getfield 9, 3) := by decide +kernel
theorem dX4_next_15 : decode cX4_next 15 = .ok (.aload_n 0, 1) := by decide +kernel
theorem dX4_next_16 : decode cX4_next 16 = .ok (.getfield 17, 3) := by decide +kernel
theorem dX4_next_19 : decode cX4_next 19 = .ok (.baload, 1) := by decide +kernel
theorem dX4_next_20 : decode cX4_next 20 = .ok (.bipush 32, 2) := by decide +kernel
theorem dX4_next_22 : decode cX4_next 22 = .ok (.if_icmp .ne 16, 3) := by decide +kernel
theorem dX4_next_25 : decode cX4_next 25 = .ok (.aload_n 0, 1) := by decide +kernel
theorem dX4_next_26 : decode cX4_next 26 = .ok (.dup, 1) := by decide +kernel
theorem dX4_next_27 : decode cX4_next 27 = .ok (.getfield 17, 3) := by decide +kernel
theorem dX4_next_30 : decode cX4_next 30 = .ok (.iconst 1, 1) := by decide +kernel
theorem dX4_next_31 : decode cX4_next 31 = .ok (.iadd, 1) := by decide +kernel
theorem dX4_next_32 : decode cX4_next 32 = .ok (.putfield 17, 3) := by decide +kernel
theorem dX4_next_35 : decode cX4_next 35 = .ok (.goto (-35), 3) := by decide +kernel
theorem dX4_next_38 : decode cX4_next 38 = .ok (.aload_n 0, 1) := by decide +kernel
theorem dX4_next_39 : decode cX4_next 39 = .ok (.aload_n 0, 1) := by decide +kernel
theorem dX4_next_40 : decode cX4_next 40 = .ok (.getfield 17, 3) := by decide +kernel
theorem dX4_next_43 : decode cX4_next 43 = .ok (.putfield 20, 3) := by decide +kernel
theorem dX4_next_46 : decode cX4_next 46 = .ok (.aload_n 0, 1) := by decide +kernel
theorem dX4_next_47 : decode cX4_next 47 = .ok (.iconst 0, 1) := by decide +kernel
theorem dX4_next_48 : decode cX4_next 48 = .ok (.putfield 23, 3) := by decide +kernel
theorem dX4_next_51 : decode cX4_next 51 = .ok (.aload_n 0, 1) := by decide +kernel
theorem dX4_next_52 : decode cX4_next 52 = .ok (.aload_n 0, 1) := by decide +kernel
theorem dX4_next_53 : decode cX4_next 53 = .ok (.getfield 17, 3) := by decide +kernel
theorem dX4_next_56 : decode cX4_next 56 = .ok (.aload_n 0, 1) := by decide +kernel
theorem dX4_next_57 : decode cX4_next 57 = .ok (.getfield 13, 3) := by decide +kernel
theorem dX4_next_60 : decode cX4_next 60 = .ok (.if_icmp .ge 18, 3) := by decide +kernel
theorem dX4_next_63 : decode cX4_next 63 = .ok (.aload_n 0, 1) := by decide +kernel
theorem dX4_next_64 : decode cX4_next 64 = .ok (.getfield 9, 3) := by decide +kernel
theorem dX4_next_67 : decode cX4_next 67 = .ok (.aload_n 0, 1) := by decide +kernel
theorem dX4_next_68 : decode cX4_next 68 = .ok (.getfield 17, 3) := by decide +kernel
theorem dX4_next_71 : decode cX4_next 71 = .ok (.baload, 1) := by decide +kernel
theorem dX4_next_72 : decode cX4_next 72 = .ok (.invokestatic 26, 3) := by decide +kernel
theorem dX4_next_75 : decode cX4_next 75 = .ok (.goto 4, 3) := by decide +kernel
theorem dX4_next_78 : decode cX4_next 78 = .ok (.iconst 3, 1) := by decide +kernel
theorem dX4_next_79 : decode cX4_next 79 = .ok (.putfield 30, 3) := by decide +kernel
theorem dX4_next_82 : decode cX4_next 82 = .ok (.aload_n 0, 1) := by decide +kernel
theorem dX4_next_83 : decode cX4_next 83 = .ok (.getfield 30, 3) := by decide +kernel
theorem dX4_next_86 : decode cX4_next 86 = .ok (.iconst 3, 1) := by decide +kernel
theorem dX4_next_87 : decode cX4_next 87 = .ok (.if_icmp .eq 13, 3) := by decide +kernel
theorem dX4_next_90 : decode cX4_next 90 = .ok (.aload_n 0, 1) := by decide +kernel
theorem dX4_next_91 : decode cX4_next 91 = .ok (.dup, 1) := by decide +kernel
theorem dX4_next_92 : decode cX4_next 92 = .ok (.getfield 17, 3) := by decide +kernel
theorem dX4_next_95 : decode cX4_next 95 = .ok (.iconst 1, 1) := by decide +kernel
theorem dX4_next_96 : decode cX4_next 96 = .ok (.iadd, 1) := by decide +kernel
theorem dX4_next_97 : decode cX4_next 97 = .ok (.putfield 17, 3) := by decide +kernel
theorem dX4_next_100 : decode cX4_next 100 = .ok (.aload_n 0, 1) := by decide +kernel
theorem dX4_next_101 : decode cX4_next 101 = .ok (.getfield 30, 3) := by decide +kernel
theorem dX4_next_104 : decode cX4_next 104 = .ok (.ifCond .eq 11, 3) := by decide +kernel
theorem dX4_next_107 : decode cX4_next 107 = .ok (.aload_n 0, 1) := by decide +kernel
theorem dX4_next_108 : decode cX4_next 108 = .ok (.getfield 30, 3) := by decide +kernel
theorem dX4_next_111 : decode cX4_next 111 = .ok (.iconst 1, 1) := by decide +kernel
theorem dX4_next_112 : decode cX4_next 112 = .ok (.if_icmp .ne 46, 3) := by decide +kernel
theorem dX4_next_115 : decode cX4_next 115 = .ok (.aload_n 0, 1) := by decide +kernel
theorem dX4_next_116 : decode cX4_next 116 = .ok (.getfield 17, 3) := by decide +kernel
theorem dX4_next_119 : decode cX4_next 119 = .ok (.aload_n 0, 1) := by decide +kernel
theorem dX4_next_120 : decode cX4_next 120 = .ok (.getfield 13, 3) := by decide +kernel
theorem dX4_next_123 : decode cX4_next 123 = .ok (.if_icmp .ge 35, 3) := by decide +kernel
theorem dX4_next_126 : decode cX4_next 126 = .ok (.aload_n 0, 1) := by decide +kernel
theorem dX4_next_127 : decode cX4_next 127 = .ok (.getfield 9, 3) := by decide +kernel
theorem dX4_next_130 : decode cX4_next 130 = .ok (.aload_n 0, 1) := by decide +kernel
theorem dX4_next_131 : decode cX4_next 131 = .ok (.getfield 17, 3) := by decide +kernel
theorem dX4_next_134 : decode cX4_next 134 = .ok (.baload, 1) := by decide +kernel
theorem dX4_next_135 : decode cX4_next 135 = .ok (.invokestatic 26, 3) := by decide +kernel
theorem dX4_next_138 : decode cX4_next 138 = .ok (.aload_n 0, 1) := by decide +kernel
theorem dX4_next_139 : decode cX4_next 139 = .ok (.getfield 30, 3) := by decide +kernel
theorem dX4_next_142 : decode cX4_next 142 = .ok (.if_icmp .ne 16, 3) := by decide +kernel
theorem dX4_next_145 : decode cX4_next 145 = .ok (.aload_n 0, 1) := by decide +kernel
theorem dX4_next_146 : decode cX4_next 146 = .ok (.dup, 1) := by decide +kernel
theorem dX4_next_147 : decode cX4_next 147 = .ok (.getfield 17, 3) := by decide +kernel
theorem dX4_next_150 : decode cX4_next 150 = .ok (.iconst 1, 1) := by decide +kernel
theorem dX4_next_151 : decode cX4_next 151 = .ok (.iadd, 1) := by decide +kernel
theorem dX4_next_152 : decode cX4_next 152 = .ok (.putfield 17, 3) := by decide +kernel
theorem dX4_next_155 : decode cX4_next 155 = .ok (.goto (-40), 3) := by decide +kernel
theorem dX4_next_158 : decode cX4_next 158 = .ok (.aload_n 0, 1) := by decide +kernel
theorem dX4_next_159 : decode cX4_next 159 = .ok (.getfield 30, 3) := by decide +kernel
theorem dX4_next_162 : decode cX4_next 162 = .ok (.iconst 1, 1) := by decide +kernel
theorem dX4_next_163 : decode cX4_next 163 = .ok (.if_icmp .ne 7, 3) := by decide +kernel
theorem dX4_next_166 : decode cX4_next 166 = .ok (.aload_n 0, 1) := by decide +kernel
theorem dX4_next_167 : decode cX4_next 167 = .ok (.invokevirtual 33, 3) := by decide +kernel
theorem dX4_next_170 : decode cX4_next 170 = .ok (.return_, 1) := by decide +kernel
theorem dX4_kindOf_0 : decode cX4_kindOf 0 = .ok (.iload_n 0, 1) := by decide +kernel
theorem dX4_kindOf_1 : decode cX4_kindOf 1 = .ok (.bipush 97, 2) := by decide +kernel
theorem dX4_kindOf_3 : decode cX4_kindOf 3 = .ok (.if_icmp .lt 11, 3) := by decide +kernel
theorem dX4_kindOf_6 : decode cX4_kindOf 6 = .ok (.iload_n 0, 1) := by decide +kernel
theorem dX4_kindOf_7 : decode cX4_kindOf 7 = .ok (.bipush 122, 2) := by decide +kernel
theorem dX4_kindOf_9 : decode cX4_kindOf 9 = .ok (.if_icmp .gt 5, 3) := by decide +kernel
theorem dX4_kindOf_12 : decode cX4_kindOf 12 = .ok (.iconst 0, 1) := by decide +kernel
theorem dX4_kindOf_13 : decode cX4_kindOf 13 = .ok (.ireturn, 1) := by decide +kernel
theorem dX4_kindOf_14 : decode cX4_kindOf 14 = .ok (.iload_n 0, 1) := by decide +kernel
theorem dX4_kindOf_15 : decode cX4_kindOf 15 = .ok (.bipush 48, 2) := by decide +kernel
theorem dX4_kindOf_17 : decode cX4_kindOf 17 = .ok (.if_icmp .lt 11, 3) := by decide +kernel
theorem dX4_kindOf_20 : decode cX4_kindOf 20 = .ok (.iload_n 0, 1) := by decide +kernel
theorem dX4_kindOf_21 : decode cX4_kindOf 21 = .ok (.bipush 57, 2) := by decide +kernel
theorem dX4_kindOf_23 : decode cX4_kindOf 23 = .ok (.if_icmp .gt 5, 3) := by decide +kernel
theorem dX4_kindOf_26 : decode cX4_kindOf 26 = .ok (.iconst 1, 1) := by decide +kernel
theorem dX4_kindOf_27 : decode cX4_kindOf 27 = .ok (.ireturn, 1) := by decide +kernel
theorem dX4_kindOf_28 : decode cX4_kindOf 28 = .ok (.iload_n 0, 1) := by decide +kernel
theorem dX4_kindOf_29 : decode cX4_kindOf 29 = .ok (.bipush 59, 2) := by decide +kernel
theorem dX4_kindOf_31 : decode cX4_kindOf 31 = .ok (.if_icmp .ne 7, 3) := by decide +kernel
theorem dX4_kindOf_34 : decode cX4_kindOf 34 = .ok (.iconst 2, 1) := by decide +kernel
theorem dX4_kindOf_35 : decode cX4_kindOf 35 = .ok (.goto 4, 3) := by decide +kernel
theorem dX4_kindOf_38 : decode cX4_kindOf 38 = .ok (.iconst 4, 1) := by decide +kernel
theorem dX4_kindOf_39 : decode cX4_kindOf 39 = .ok (.ireturn, 1) := by decide +kernel
theorem dX4_valueNumber_0 : decode cX4_valueNumber 0 = .ok (.aload_n 0, 1) := by decide +kernel
theorem dX4_valueNumber_1 : decode cX4_valueNumber 1 = .ok (.getfield 17, 3) := by decide +kernel
theorem dX4_valueNumber_4 : decode cX4_valueNumber 4 = .ok (.aload_n 0, 1) := by decide +kernel
theorem dX4_valueNumber_5 : decode cX4_valueNumber 5 = .ok (.getfield 20, 3) := by decide +kernel
theorem dX4_valueNumber_8 : decode cX4_valueNumber 8 = .ok (.isub, 1) := by decide +kernel
theorem dX4_valueNumber_9 : decode cX4_valueNumber 9 = .ok (.iconst 2, 1) := by decide +kernel
theorem dX4_valueNumber_10 : decode cX4_valueNumber 10 = .ok (.if_icmp .le 9, 3) := by decide +kernel
theorem dX4_valueNumber_13 : decode cX4_valueNumber 13 = .ok (.aload_n 0, 1) := by decide +kernel
theorem dX4_valueNumber_14 : decode cX4_valueNumber 14 = .ok (.iconst 4, 1) := by decide +kernel
theorem dX4_valueNumber_15 : decode cX4_valueNumber 15 = .ok (.putfield 30, 3) := by decide +kernel
theorem dX4_valueNumber_18 : decode cX4_valueNumber 18 = .ok (.return_, 1) := by decide +kernel
theorem dX4_valueNumber_19 : decode cX4_valueNumber 19 = .ok (.aload_n 0, 1) := by decide +kernel
theorem dX4_valueNumber_20 : decode cX4_valueNumber 20 = .ok (.getfield 20, 3) := by decide +kernel
theorem dX4_valueNumber_23 : decode cX4_valueNumber 23 = .ok (.istore_n 1, 1) := by decide +kernel
theorem dX4_valueNumber_24 : decode cX4_valueNumber 24 = .ok (.iload_n 1, 1) := by decide +kernel
theorem dX4_valueNumber_25 : decode cX4_valueNumber 25 = .ok (.aload_n 0, 1) := by decide +kernel
theorem dX4_valueNumber_26 : decode cX4_valueNumber 26 = .ok (.getfield 17, 3) := by decide +kernel
theorem dX4_valueNumber_29 : decode cX4_valueNumber 29 = .ok (.if_icmp .ge 30, 3) := by decide +kernel
theorem dX4_valueNumber_32 : decode cX4_valueNumber 32 = .ok (.aload_n 0, 1) := by decide +kernel
theorem dX4_valueNumber_33 : decode cX4_valueNumber 33 = .ok (.aload_n 0, 1) := by decide +kernel
theorem dX4_valueNumber_34 : decode cX4_valueNumber 34 = .ok (.getfield 23, 3) := by decide +kernel
theorem dX4_valueNumber_37 : decode cX4_valueNumber 37 = .ok (.bipush 10, 2) := by decide +kernel
theorem dX4_valueNumber_39 : decode cX4_valueNumber 39 = .ok (.imul, 1) := by decide +kernel
theorem dX4_valueNumber_40 : decode cX4_valueNumber 40 = .ok (.aload_n 0, 1) := by decide +kernel
theorem dX4_valueNumber_41 : decode cX4_valueNumber 41 = .ok (.getfield 9, 3) := by decide +kernel
theorem dX4_valueNumber_44 : decode cX4_valueNumber 44 = .ok (.iload_n 1, 1) := by decide +kernel
theorem dX4_valueNumber_45 : decode cX4_valueNumber 45 = .ok (.baload, 1) := by decide +kernel
theorem dX4_valueNumber_46 : decode cX4_valueNumber 46 = .ok (.iadd, 1) := by decide +kernel
theorem dX4_valueNumber_47 : decode cX4_valueNumber 47 = .ok (.bipush 48, 2) := by decide +kernel
theorem dX4_valueNumber_49 : decode cX4_valueNumber 49 = .ok (.isub, 1) := by decide +kernel
theorem dX4_valueNumber_50 : decode cX4_valueNumber 50 = .ok (.putfield 23, 3) := by decide +kernel
theorem dX4_valueNumber_53 : decode cX4_valueNumber 53 = .ok (.iinc 1 1, 3) := by decide +kernel
theorem dX4_valueNumber_56 : decode cX4_valueNumber 56 = .ok (.goto (-32), 3) := by decide +kernel
theorem dX4_valueNumber_59 : decode cX4_valueNumber 59 = .ok (.return_, 1) := by decide +kernel
theorem dX4_isName_0 : decode cX4_isName 0 = .ok (.aload_n 0, 1) := by decide +kernel
theorem dX4_isName_1 : decode cX4_isName 1 = .ok (.getfield 30, 3) := by decide +kernel
theorem dX4_isName_4 : decode cX4_isName 4 = .ok (.ifCond .ne 19, 3) := by decide +kernel
theorem dX4_isName_7 : decode cX4_isName 7 = .ok (.aload_n 0, 1) := by decide +kernel
theorem dX4_isName_8 : decode cX4_isName 8 = .ok (.getfield 17, 3) := by decide +kernel
theorem dX4_isName_11 : decode cX4_isName 11 = .ok (.aload_n 0, 1) := by decide +kernel
theorem dX4_isName_12 : decode cX4_isName 12 = .ok (.getfield 20, 3) := by decide +kernel
theorem dX4_isName_15 : decode cX4_isName 15 = .ok (.isub, 1) := by decide +kernel
theorem dX4_isName_16 : decode cX4_isName 16 = .ok (.aload_n 1, 1) := by decide +kernel
theorem dX4_isName_17 : decode cX4_isName 17 = .ok (.invokevirtual 36, 3) := by decide +kernel
theorem dX4_isName_20 : decode cX4_isName 20 = .ok (.if_icmp .eq 5, 3) := by decide +kernel
theorem dX4_isName_23 : decode cX4_isName 23 = .ok (.iconst 0, 1) := by decide +kernel
theorem dX4_isName_24 : decode cX4_isName 24 = .ok (.ireturn, 1) := by decide +kernel
theorem dX4_isName_25 : decode cX4_isName 25 = .ok (.iconst 0, 1) := by decide +kernel
theorem dX4_isName_26 : decode cX4_isName 26 = .ok (.istore_n 2, 1) := by decide +kernel
theorem dX4_isName_27 : decode cX4_isName 27 = .ok (.iload_n 2, 1) := by decide +kernel
theorem dX4_isName_28 : decode cX4_isName 28 = .ok (.aload_n 1, 1) := by decide +kernel
theorem dX4_isName_29 : decode cX4_isName 29 = .ok (.invokevirtual 36, 3) := by decide +kernel
theorem dX4_isName_32 : decode cX4_isName 32 = .ok (.if_icmp .ge 30, 3) := by decide +kernel
theorem dX4_isName_35 : decode cX4_isName 35 = .ok (.aload_n 0, 1) := by decide +kernel
theorem dX4_isName_36 : decode cX4_isName 36 = .ok (.getfield 9, 3) := by decide +kernel
theorem dX4_isName_39 : decode cX4_isName 39 = .ok (.aload_n 0, 1) := by decide +kernel
theorem dX4_isName_40 : decode cX4_isName 40 = .ok (.getfield 20, 3) := by decide +kernel
theorem dX4_isName_43 : decode cX4_isName 43 = .ok (.iload_n 2, 1) := by decide +kernel
theorem dX4_isName_44 : decode cX4_isName 44 = .ok (.iadd, 1) := by decide +kernel
theorem dX4_isName_45 : decode cX4_isName 45 = .ok (.baload, 1) := by decide +kernel
theorem dX4_isName_46 : decode cX4_isName 46 = .ok (.aload_n 1, 1) := by decide +kernel
theorem dX4_isName_47 : decode cX4_isName 47 = .ok (.iload_n 2, 1) := by decide +kernel
theorem dX4_isName_48 : decode cX4_isName 48 = .ok (.invokevirtual 41, 3) := by decide +kernel
theorem dX4_isName_51 : decode cX4_isName 51 = .ok (.if_icmp .eq 5, 3) := by decide +kernel
theorem dX4_isName_54 : decode cX4_isName 54 = .ok (.iconst 0, 1) := by decide +kernel
theorem dX4_isName_55 : decode cX4_isName 55 = .ok (.ireturn, 1) := by decide +kernel
theorem dX4_isName_56 : decode cX4_isName 56 = .ok (.iinc 2 1, 3) := by decide +kernel
theorem dX4_isName_59 : decode cX4_isName 59 = .ok (.goto (-32), 3) := by decide +kernel
theorem dX4_isName_62 : decode cX4_isName 62 = .ok (.iconst 1, 1) := by decide +kernel
theorem dX4_isName_63 : decode cX4_isName 63 = .ok (.ireturn, 1) := by decide +kernel
theorem dX5_init_0 : decode cX5_init 0 = .ok (.aload_n 0, 1) := by decide +kernel
theorem dX5_init_1 : decode cX5_init 1 = .ok (.invokespecial 3, 3) := by decide +kernel
theorem dX5_init_4 : decode cX5_init 4 = .ok (.aload_n 0, 1) := by decide +kernel
theorem dX5_init_5 : decode cX5_init 5 = .ok (.aload_n 1, 1) := by decide +kernel
theorem dX5_init_6 : decode cX5_init 6 = .ok (.putfield 9, 3) := by decide +kernel
theorem dX5_init_9 : decode cX5_init 9 = .ok (.aload_n 0, 1) := by decide +kernel
theorem dX5_init_10 : decode cX5_init 10 = .ok (.new 15, 3) := by decide +kernel
theorem dX5_init_13 : decode cX5_init 13 = .ok (.dup, 1) := by decide +kernel
theorem dX5_init_14 : decode cX5_init 14 = .ok (.invokespecial 17, 3) := by decide +kernel
theorem dX5_init_17 : decode cX5_init 17 = .ok (.putfield 18, 3) := by decide +kernel
theorem dX5_init_20 : decode cX5_init 20 = .ok (.return_, 1) := by decide +kernel
theorem dX5_tell_0 : decode cX5_tell 0 = .ok (.aload_n 0, 1) := by decide +kernel
theorem dX5_tell_1 : decode cX5_tell 1 = .ok (.getfield 18, 3) := by decide +kernel
theorem dX5_tell_4 : decode cX5_tell 4 = .ok (.invokevirtual 22, 3) := by decide +kernel
theorem dX5_tell_7 : decode cX5_tell 7 = .ok (.aload_n 0, 1) := by decide +kernel
theorem dX5_tell_8 : decode cX5_tell 8 = .ok (.getfield 9, 3) := by decide +kernel
theorem dX5_tell_11 : decode cX5_tell 11 = .ok (.invokevirtual 25, 3) := by decide +kernel
theorem dX5_tell_14 : decode cX5_tell 14 = .ok (.aload_n 0, 1) := by decide +kernel
theorem dX5_tell_15 : decode cX5_tell 15 = .ok (.iconst 0, 1) := by decide +kernel
theorem dX5_tell_16 : decode cX5_tell 16 = .ok (.putfield 30, 3) := by decide +kernel
theorem dX5_tell_19 : decode cX5_tell 19 = .ok (.aload_n 0, 1) := by decide +kernel
theorem dX5_tell_20 : decode cX5_tell 20 = .ok (.iconst 0, 1) := by decide +kernel
theorem dX5_tell_21 : decode cX5_tell 21 = .ok (.putfield 34, 3) := by decide +kernel
theorem dX5_tell_24 : decode cX5_tell 24 = .ok (.iconst 0, 1) := by decide +kernel
theorem dX5_tell_25 : decode cX5_tell 25 = .ok (.istore_n 1, 1) := by decide +kernel
theorem dX5_tell_26 : decode cX5_tell 26 = .ok (.aload_n 0, 1) := by decide +kernel
theorem dX5_tell_27 : decode cX5_tell 27 = .ok (.getfield 9, 3) := by decide +kernel
theorem dX5_tell_30 : decode cX5_tell 30 = .ok (.invokevirtual 37, 3) := by decide +kernel
theorem dX5_tell_33 : decode cX5_tell 33 = .ok (.iload_n 1, 1) := by decide +kernel
theorem dX5_tell_34 : decode cX5_tell 34 = .ok (.sipush 160, 3) := by decide +kernel
theorem dX5_tell_37 : decode cX5_tell 37 = .ok (.if_icmp .ge 34, 3) := by decide +kernel
theorem dX5_tell_40 : decode cX5_tell 40 = .ok (.aload_n 0, 1) := by decide +kernel
theorem dX5_tell_41 : decode cX5_tell 41 = .ok (.getfield 9, 3) := by decide +kernel
theorem dX5_tell_44 : decode cX5_tell 44 = .ok (.getfield 40, 3) := by decide +kernel
theorem dX5_tell_47 : decode cX5_tell 47 = .ok (.iconst 3, 1) := by decide +kernel
theorem dX5_tell_48 : decode cX5_tell 48 = .ok (.if_icmp .eq 23, 3) := by decide +kernel
theorem dX5_tell_51 : decode cX5_tell 51 = .ok (.aload_n 0, 1) := by decide +kernel
theorem dX5_tell_52 : decode cX5_tell 52 = .ok (.invokevirtual 43, 3) := by decide +kernel
theorem dX5_tell_55 : decode cX5_tell 55 = .ok (.ifCond .eq 16, 3) := by decide +kernel
theorem dX5_tell_58 : decode cX5_tell 58 = .ok (.iinc 1 1, 3) := by decide +kernel
theorem dX5_tell_61 : decode cX5_tell 61 = .ok (.aload_n 0, 1) := by decide +kernel
theorem dX5_tell_62 : decode cX5_tell 62 = .ok (.getfield 9, 3) := by decide +kernel
theorem dX5_tell_65 : decode cX5_tell 65 = .ok (.invokevirtual 37, 3) := by decide +kernel
theorem dX5_tell_68 : decode cX5_tell 68 = .ok (.goto (-35), 3) := by decide +kernel
theorem dX5_tell_71 : decode cX5_tell 71 = .ok (.aload_n 0, 1) := by decide +kernel
theorem dX5_tell_72 : decode cX5_tell 72 = .ok (.getfield 30, 3) := by decide +kernel
theorem dX5_tell_75 : decode cX5_tell 75 = .ok (.ifCond .ne 35, 3) := by decide +kernel
theorem dX5_tell_78 : decode cX5_tell 78 = .ok (.aload_n 0, 1) := by decide +kernel
theorem dX5_tell_79 : decode cX5_tell 79 = .ok (.getfield 18, 3) := by decide +kernel
theorem dX5_tell_82 : decode cX5_tell 82 = .ok (.getfield 47, 3) := by decide +kernel
theorem dX5_tell_85 : decode cX5_tell 85 = .ok (.aload_n 0, 1) := by decide +kernel
theorem dX5_tell_86 : decode cX5_tell 86 = .ok (.getfield 18, 3) := by decide +kernel
theorem dX5_tell_89 : decode cX5_tell 89 = .ok (.getfield 50, 3) := by decide +kernel
theorem dX5_tell_92 : decode cX5_tell 92 = .ok (.ishr, 1) := by decide +kernel
theorem dX5_tell_93 : decode cX5_tell 93 = .ok (.ifCond .eq 17, 3) := by decide +kernel
theorem dX5_tell_96 : decode cX5_tell 96 = .ok (.aload_n 0, 1) := by decide +kernel
theorem dX5_tell_97 : decode cX5_tell 97 = .ok (.bipush 6, 2) := by decide +kernel
theorem dX5_tell_99 : decode cX5_tell 99 = .ok (.aload_n 0, 1) := by decide +kernel
theorem dX5_tell_100 : decode cX5_tell 100 = .ok (.getfield 9, 3) := by decide +kernel
theorem dX5_tell_103 : decode cX5_tell 103 = .ok (.getfield 53, 3) := by decide +kernel
theorem dX5_tell_106 : decode cX5_tell 106 = .ok (.invokevirtual 56, 3) := by decide +kernel
theorem dX5_tell_109 : decode cX5_tell 109 = .ok (.pop, 1) := by decide +kernel
theorem dX5_tell_110 : decode cX5_tell 110 = .ok (.aload_n 0, 1) := by decide +kernel
theorem dX5_tell_111 : decode cX5_tell 111 = .ok (.getfield 30, 3) := by decide +kernel
theorem dX5_tell_114 : decode cX5_tell 114 = .ok (.ifCond .ne 7, 3) := by decide +kernel
theorem dX5_tell_117 : decode cX5_tell 117 = .ok (.iload_n 1, 1) := by decide +kernel
theorem dX5_tell_118 : decode cX5_tell 118 = .ok (.goto 10, 3) := by decide +kernel
theorem dX5_tell_121 : decode cX5_tell 121 = .ok (.bipush (-10), 2) := by decide +kernel
theorem dX5_tell_123 : decode cX5_tell 123 = .ok (.aload_n 0, 1) := by decide +kernel
theorem dX5_tell_124 : decode cX5_tell 124 = .ok (.getfield 60, 3) := by decide +kernel
theorem dX5_tell_127 : decode cX5_tell 127 = .ok (.isub, 1) := by decide +kernel
theorem dX5_tell_128 : decode cX5_tell 128 = .ok (.ireturn, 1) := by decide +kernel
theorem dX5_takeLine_0 : decode cX5_takeLine 0 = .ok (.aload_n 0, 1) := by decide +kernel
theorem dX5_takeLine_1 : decode cX5_takeLine 1 = .ok (.getfield 9, 3) := by decide +kernel
theorem dX5_takeLine_4 : decode cX5_takeLine 4 = .ok (.ldc 63, 2) := by decide +kernel
theorem dX5_takeLine_6 : decode cX5_takeLine 6 = .ok (.invokevirtual 65, 3) := by decide +kernel
theorem dX5_takeLine_9 : decode cX5_takeLine 9 = .ok (.ifCond .eq 24, 3) := by decide +kernel
theorem dX5_takeLine_12 : decode cX5_takeLine 12 = .ok (.aload_n 0, 1) := by decide +kernel
theorem dX5_takeLine_13 : decode cX5_takeLine 13 = .ok (.iconst 0, 1) := by decide +kernel
theorem dX5_takeLine_14 : decode cX5_takeLine 14 = .ok (.invokevirtual 69, 3) := by decide +kernel
theorem dX5_takeLine_17 : decode cX5_takeLine 17 = .ok (.ifCond .eq 14, 3) := by decide +kernel
theorem dX5_takeLine_20 : decode cX5_takeLine 20 = .ok (.aload_n 0, 1) := by decide +kernel
theorem dX5_takeLine_21 : decode cX5_takeLine 21 = .ok (.invokevirtual 73, 3) := by decide +kernel
theorem dX5_takeLine_24 : decode cX5_takeLine 24 = .ok (.ifCond .eq 7, 3) := by decide +kernel
theorem dX5_takeLine_27 : decode cX5_takeLine 27 = .ok (.iconst 1, 1) := by decide +kernel
theorem dX5_takeLine_28 : decode cX5_takeLine 28 = .ok (.goto 4, 3) := by decide +kernel
theorem dX5_takeLine_31 : decode cX5_takeLine 31 = .ok (.iconst 0, 1) := by decide +kernel
theorem dX5_takeLine_32 : decode cX5_takeLine 32 = .ok (.ireturn, 1) := by decide +kernel
theorem dX5_takeLine_33 : decode cX5_takeLine 33 = .ok (.aload_n 0, 1) := by decide +kernel
theorem dX5_takeLine_34 : decode cX5_takeLine 34 = .ok (.getfield 9, 3) := by decide +kernel
theorem dX5_takeLine_37 : decode cX5_takeLine 37 = .ok (.ldc 76, 2) := by decide +kernel
theorem dX5_takeLine_39 : decode cX5_takeLine 39 = .ok (.invokevirtual 65, 3) := by decide +kernel
theorem dX5_takeLine_42 : decode cX5_takeLine 42 = .ok (.ifCond .eq 24, 3) := by decide +kernel
theorem dX5_takeLine_45 : decode cX5_takeLine 45 = .ok (.aload_n 0, 1) := by decide +kernel
theorem dX5_takeLine_46 : decode cX5_takeLine 46 = .ok (.iconst 1, 1) := by decide +kernel
theorem dX5_takeLine_47 : decode cX5_takeLine 47 = .ok (.invokevirtual 69, 3) := by decide +kernel
theorem dX5_takeLine_50 : decode cX5_takeLine 50 = .ok (.ifCond .eq 14, 3) := by decide +kernel
theorem dX5_takeLine_53 : decode cX5_takeLine 53 = .ok (.aload_n 0, 1) := by decide +kernel
theorem dX5_takeLine_54 : decode cX5_takeLine 54 = .ok (.invokevirtual 73, 3) := by decide +kernel
theorem dX5_takeLine_57 : decode cX5_takeLine 57 = .ok (.ifCond .eq 7, 3) := by decide +kernel
theorem dX5_takeLine_60 : decode cX5_takeLine 60 = .ok (.iconst 1, 1) := by decide +kernel
theorem dX5_takeLine_61 : decode cX5_takeLine 61 = .ok (.goto 4, 3) := by decide +kernel
theorem dX5_takeLine_64 : decode cX5_takeLine 64 = .ok (.iconst 0, 1) := by decide +kernel
theorem dX5_takeLine_65 : decode cX5_takeLine 65 = .ok (.ireturn, 1) := by decide +kernel
theorem dX5_takeLine_66 : decode cX5_takeLine 66 = .ok (.aload_n 0, 1) := by decide +kernel
theorem dX5_takeLine_67 : decode cX5_takeLine 67 = .ok (.getfield 9, 3) := by decide +kernel
theorem dX5_takeLine_70 : decode cX5_takeLine 70 = .ok (.ldc 78, 2) := by decide +kernel
theorem dX5_takeLine_72 : decode cX5_takeLine 72 = .ok (.invokevirtual 65, 3) := by decide +kernel
theorem dX5_takeLine_75 : decode cX5_takeLine 75 = .ok (.ifCond .eq 23, 3) := by decide +kernel
theorem dX5_takeLine_78 : decode cX5_takeLine 78 = .ok (.aload_n 0, 1) := by decide +kernel
theorem dX5_takeLine_79 : decode cX5_takeLine 79 = .ok (.invokevirtual 80, 3) := by decide +kernel
theorem dX5_takeLine_82 : decode cX5_takeLine 82 = .ok (.ifCond .eq 14, 3) := by decide +kernel
theorem dX5_takeLine_85 : decode cX5_takeLine 85 = .ok (.aload_n 0, 1) := by decide +kernel
theorem dX5_takeLine_86 : decode cX5_takeLine 86 = .ok (.invokevirtual 73, 3) := by decide +kernel
theorem dX5_takeLine_89 : decode cX5_takeLine 89 = .ok (.ifCond .eq 7, 3) := by decide +kernel
theorem dX5_takeLine_92 : decode cX5_takeLine 92 = .ok (.iconst 1, 1) := by decide +kernel
theorem dX5_takeLine_93 : decode cX5_takeLine 93 = .ok (.goto 4, 3) := by decide +kernel
theorem dX5_takeLine_96 : decode cX5_takeLine 96 = .ok (.iconst 0, 1) := by decide +kernel
theorem dX5_takeLine_97 : decode cX5_takeLine 97 = .ok (.ireturn, 1) := by decide +kernel
theorem dX5_takeLine_98 : decode cX5_takeLine 98 = .ok (.aload_n 0, 1) := by decide +kernel
theorem dX5_takeLine_99 : decode cX5_takeLine 99 = .ok (.getfield 9, 3) := by decide +kernel
theorem dX5_takeLine_102 : decode cX5_takeLine 102 = .ok (.ldc 83, 2) := by decide +kernel
theorem dX5_takeLine_104 : decode cX5_takeLine 104 = .ok (.invokevirtual 65, 3) := by decide +kernel
theorem dX5_takeLine_107 : decode cX5_takeLine 107 = .ok (.ifCond .eq 33, 3) := by decide +kernel
theorem dX5_takeLine_110 : decode cX5_takeLine 110 = .ok (.aload_n 0, 1) := by decide +kernel
theorem dX5_takeLine_111 : decode cX5_takeLine 111 = .ok (.iconst 1, 1) := by decide +kernel
theorem dX5_takeLine_112 : decode cX5_takeLine 112 = .ok (.invokevirtual 85, 3) := by decide +kernel
theorem dX5_takeLine_115 : decode cX5_takeLine 115 = .ok (.ifCond .eq 23, 3) := by decide +kernel
theorem dX5_takeLine_118 : decode cX5_takeLine 118 = .ok (.aload_n 0, 1) := by decide +kernel
theorem dX5_takeLine_119 : decode cX5_takeLine 119 = .ok (.iconst 0, 1) := by decide +kernel
theorem dX5_takeLine_120 : decode cX5_takeLine 120 = .ok (.iconst 2, 1) := by decide +kernel
theorem dX5_takeLine_121 : decode cX5_takeLine 121 = .ok (.invokevirtual 88, 3) := by decide +kernel
theorem dX5_takeLine_124 : decode cX5_takeLine 124 = .ok (.ifCond .eq 14, 3) := by decide +kernel
theorem dX5_takeLine_127 : decode cX5_takeLine 127 = .ok (.aload_n 0, 1) := by decide +kernel
theorem dX5_takeLine_128 : decode cX5_takeLine 128 = .ok (.invokevirtual 73, 3) := by decide +kernel
theorem dX5_takeLine_131 : decode cX5_takeLine 131 = .ok (.ifCond .eq 7, 3) := by decide +kernel
theorem dX5_takeLine_134 : decode cX5_takeLine 134 = .ok (.iconst 1, 1) := by decide +kernel
theorem dX5_takeLine_135 : decode cX5_takeLine 135 = .ok (.goto 4, 3) := by decide +kernel
theorem dX5_takeLine_138 : decode cX5_takeLine 138 = .ok (.iconst 0, 1) := by decide +kernel
theorem dX5_takeLine_139 : decode cX5_takeLine 139 = .ok (.ireturn, 1) := by decide +kernel
theorem dX5_takeLine_140 : decode cX5_takeLine 140 = .ok (.aload_n 0, 1) := by decide +kernel
theorem dX5_takeLine_141 : decode cX5_takeLine 141 = .ok (.getfield 9, 3) := by decide +kernel
theorem dX5_takeLine_144 : decode cX5_takeLine 144 = .ok (.ldc 91, 2) := by decide +kernel
theorem dX5_takeLine_146 : decode cX5_takeLine 146 = .ok (.invokevirtual 65, 3) := by decide +kernel
theorem dX5_takeLine_149 : decode cX5_takeLine 149 = .ok (.ifCond .eq 31, 3) := by decide +kernel
theorem dX5_takeLine_152 : decode cX5_takeLine 152 = .ok (.aload_n 0, 1) := by decide +kernel
theorem dX5_takeLine_153 : decode cX5_takeLine 153 = .ok (.iconst 2, 1) := by decide +kernel
theorem dX5_takeLine_154 : decode cX5_takeLine 154 = .ok (.invokevirtual 85, 3) := by decide +kernel
theorem dX5_takeLine_157 : decode cX5_takeLine 157 = .ok (.ifCond .eq 21, 3) := by decide +kernel
theorem dX5_takeLine_160 : decode cX5_takeLine 160 = .ok (.aload_n 0, 1) := by decide +kernel
theorem dX5_takeLine_161 : decode cX5_takeLine 161 = .ok (.invokevirtual 93, 3) := by decide +kernel
theorem dX5_takeLine_164 : decode cX5_takeLine 164 = .ok (.ifCond .eq 14, 3) := by decide +kernel
theorem dX5_takeLine_167 : decode cX5_takeLine 167 = .ok (.aload_n 0, 1) := by decide +kernel
theorem dX5_takeLine_168 : decode cX5_takeLine 168 = .ok (.invokevirtual 73, 3) := by decide +kernel
theorem dX5_takeLine_171 : decode cX5_takeLine 171 = .ok (.ifCond .eq 7, 3) := by decide +kernel
theorem dX5_takeLine_174 : decode cX5_takeLine 174 = .ok (.iconst 1, 1) := by decide +kernel
theorem dX5_takeLine_175 : decode cX5_takeLine 175 = .ok (.goto 4, 3) := by decide +kernel
theorem dX5_takeLine_178 : decode cX5_takeLine 178 = .ok (.iconst 0, 1) := by decide +kernel
theorem dX5_takeLine_179 : decode cX5_takeLine 179 = .ok (.ireturn, 1) := by decide +kernel
theorem dX5_takeLine_180 : decode cX5_takeLine 180 = .ok (.aload_n 0, 1) := by decide +kernel
theorem dX5_takeLine_181 : decode cX5_takeLine 181 = .ok (.getfield 9, 3) := by decide +kernel
theorem dX5_takeLine_184 : decode cX5_takeLine 184 = .ok (.ldc 96, 2) := by decide +kernel
theorem dX5_takeLine_186 : decode cX5_takeLine 186 = .ok (.invokevirtual 65, 3) := by decide +kernel
theorem dX5_takeLine_189 : decode cX5_takeLine 189 = .ok (.ifCond .eq 33, 3) := by decide +kernel
theorem dX5_takeLine_192 : decode cX5_takeLine 192 = .ok (.aload_n 0, 1) := by decide +kernel
theorem dX5_takeLine_193 : decode cX5_takeLine 193 = .ok (.iconst 4, 1) := by decide +kernel
theorem dX5_takeLine_194 : decode cX5_takeLine 194 = .ok (.invokevirtual 85, 3) := by decide +kernel
theorem dX5_takeLine_197 : decode cX5_takeLine 197 = .ok (.ifCond .eq 23, 3) := by decide +kernel
theorem dX5_takeLine_200 : decode cX5_takeLine 200 = .ok (.aload_n 0, 1) := by decide +kernel
theorem dX5_takeLine_201 : decode cX5_takeLine 201 = .ok (.iconst 4, 1) := by decide +kernel
theorem dX5_takeLine_202 : decode cX5_takeLine 202 = .ok (.iconst 4, 1) := by decide +kernel
theorem dX5_takeLine_203 : decode cX5_takeLine 203 = .ok (.invokevirtual 88, 3) := by decide +kernel
theorem dX5_takeLine_206 : decode cX5_takeLine 206 = .ok (.ifCond .eq 14, 3) := by decide +kernel
theorem dX5_takeLine_209 : decode cX5_takeLine 209 = .ok (.aload_n 0, 1) := by decide +kernel
theorem dX5_takeLine_210 : decode cX5_takeLine 210 = .ok (.invokevirtual 73, 3) := by decide +kernel
theorem dX5_takeLine_213 : decode cX5_takeLine 213 = .ok (.ifCond .eq 7, 3) := by decide +kernel
theorem dX5_takeLine_216 : decode cX5_takeLine 216 = .ok (.iconst 1, 1) := by decide +kernel
theorem dX5_takeLine_217 : decode cX5_takeLine 217 = .ok (.goto 4, 3) := by decide +kernel
theorem dX5_takeLine_220 : decode cX5_takeLine 220 = .ok (.iconst 0, 1) := by decide +kernel
theorem dX5_takeLine_221 : decode cX5_takeLine 221 = .ok (.ireturn, 1) := by decide +kernel
theorem dX5_takeLine_222 : decode cX5_takeLine 222 = .ok (.aload_n 0, 1) := by decide +kernel
theorem dX5_takeLine_223 : decode cX5_takeLine 223 = .ok (.getfield 9, 3) := by decide +kernel
theorem dX5_takeLine_226 : decode cX5_takeLine 226 = .ok (.ldc 98, 2) := by decide +kernel
theorem dX5_takeLine_228 : decode cX5_takeLine 228 = .ok (.invokevirtual 65, 3) := by decide +kernel
theorem dX5_takeLine_231 : decode cX5_takeLine 231 = .ok (.ifCond .eq 35, 3) := by decide +kernel
theorem dX5_takeLine_234 : decode cX5_takeLine 234 = .ok (.aload_n 0, 1) := by decide +kernel
theorem dX5_takeLine_235 : decode cX5_takeLine 235 = .ok (.getfield 18, 3) := by decide +kernel
theorem dX5_takeLine_238 : decode cX5_takeLine 238 = .ok (.getfield 100, 3) := by decide +kernel
theorem dX5_takeLine_241 : decode cX5_takeLine 241 = .ok (.iconst 5, 1) := by decide +kernel
theorem dX5_takeLine_242 : decode cX5_takeLine 242 = .ok (.iconst 1, 1) := by decide +kernel
theorem dX5_takeLine_243 : decode cX5_takeLine 243 = .ok (.iastore, 1) := by decide +kernel
theorem dX5_takeLine_244 : decode cX5_takeLine 244 = .ok (.aload_n 0, 1) := by decide +kernel
theorem dX5_takeLine_245 : decode cX5_takeLine 245 = .ok (.bipush 8, 2) := by decide +kernel
theorem dX5_takeLine_247 : decode cX5_takeLine 247 = .ok (.invokevirtual 85, 3) := by decide +kernel
theorem dX5_takeLine_250 : decode cX5_takeLine 250 = .ok (.ifCond .eq 14, 3) := by decide +kernel
theorem dX5_takeLine_253 : decode cX5_takeLine 253 = .ok (.aload_n 0, 1) := by decide +kernel
theorem dX5_takeLine_254 : decode cX5_takeLine 254 = .ok (.invokevirtual 73, 3) := by decide +kernel
theorem dX5_takeLine_257 : decode cX5_takeLine 257 = .ok (.ifCond .eq 7, 3) := by decide +kernel
theorem dX5_takeLine_260 : decode cX5_takeLine 260 = .ok (.iconst 1, 1) := by decide +kernel
theorem dX5_takeLine_261 : decode cX5_takeLine 261 = .ok (.goto 4, 3) := by decide +kernel
theorem dX5_takeLine_264 : decode cX5_takeLine 264 = .ok (.iconst 0, 1) := by decide +kernel
theorem dX5_takeLine_265 : decode cX5_takeLine 265 = .ok (.ireturn, 1) := by decide +kernel
theorem dX5_takeLine_266 : decode cX5_takeLine 266 = .ok (.aload_n 0, 1) := by decide +kernel
theorem dX5_takeLine_267 : decode cX5_takeLine 267 = .ok (.iconst 2, 1) := by decide +kernel
theorem dX5_takeLine_268 : decode cX5_takeLine 268 = .ok (.invokevirtual 104, 3) := by decide +kernel
theorem dX5_takeLine_271 : decode cX5_takeLine 271 = .ok (.ireturn, 1) := by decide +kernel
theorem dX5_isFirst_0 : decode cX5_isFirst 0 = .ok (.aload_n 0, 1) := by decide +kernel
theorem dX5_isFirst_1 : decode cX5_isFirst 1 = .ok (.getfield 34, 3) := by decide +kernel
theorem dX5_isFirst_4 : decode cX5_isFirst 4 = .ok (.iload_n 1, 1) := by decide +kernel
theorem dX5_isFirst_5 : decode cX5_isFirst 5 = .ok (.iand, 1) := by decide +kernel
theorem dX5_isFirst_6 : decode cX5_isFirst 6 = .ok (.ifCond .eq 9, 3) := by decide +kernel
theorem dX5_isFirst_9 : decode cX5_isFirst 9 = .ok (.aload_n 0, 1) := by decide +kernel
theorem dX5_isFirst_10 : decode cX5_isFirst 10 = .ok (.iconst 4, 1) := by decide +kernel
theorem dX5_isFirst_11 : decode cX5_isFirst 11 = .ok (.invokevirtual 104, 3) := by decide +kernel
theorem dX5_isFirst_14 : decode cX5_isFirst 14 = .ok (.ireturn, 1) := by decide +kernel
theorem dX5_isFirst_15 : decode cX5_isFirst 15 = .ok (.aload_n 0, 1) := by decide +kernel
theorem dX5_isFirst_16 : decode cX5_isFirst 16 = .ok (.dup, 1) := by decide +kernel
theorem dX5_isFirst_17 : decode cX5_isFirst 17 = .ok (.getfield 34, 3) := by decide +kernel
theorem dX5_isFirst_20 : decode cX5_isFirst 20 = .ok (.iload_n 1, 1) := by decide +kernel
theorem dX5_isFirst_21 : decode cX5_isFirst 21 = .ok (.ior, 1) := by decide +kernel
theorem dX5_isFirst_22 : decode cX5_isFirst 22 = .ok (.putfield 34, 3) := by decide +kernel
theorem dX5_isFirst_25 : decode cX5_isFirst 25 = .ok (.iconst 1, 1) := by decide +kernel
theorem dX5_isFirst_26 : decode cX5_isFirst 26 = .ok (.ireturn, 1) := by decide +kernel
theorem dX5_takeBoat_0 : decode cX5_takeBoat 0 = .ok (.aload_n 0, 1) := by decide +kernel
theorem dX5_takeBoat_1 : decode cX5_takeBoat 1 = .ok (.getfield 18, 3) := by decide +kernel
theorem dX5_takeBoat_4 : decode cX5_takeBoat 4 = .ok (.getfield 50, 3) := by decide +kernel
theorem dX5_takeBoat_7 : decode cX5_takeBoat 7 = .ok (.istore_n 2, 1) := by decide +kernel
theorem dX5_takeBoat_8 : decode cX5_takeBoat 8 = .ok (.iload_n 2, 1) := by decide +kernel
theorem dX5_takeBoat_9 : decode cX5_takeBoat 9 = .ok (.bipush 6, 2) := by decide +kernel
theorem dX5_takeBoat_11 : decode cX5_takeBoat 11 = .ok (.if_icmp .lt 9, 3) := by decide +kernel
theorem dX5_takeBoat_14 : decode cX5_takeBoat 14 = .ok (.aload_n 0, 1) := by decide +kernel
theorem dX5_takeBoat_15 : decode cX5_takeBoat 15 = .ok (.iconst 5, 1) := by decide +kernel
theorem dX5_takeBoat_16 : decode cX5_takeBoat 16 = .ok (.invokevirtual 104, 3) := by decide +kernel
theorem dX5_takeBoat_19 : decode cX5_takeBoat 19 = .ok (.ireturn, 1) := by decide +kernel
theorem dX5_takeBoat_20 : decode cX5_takeBoat 20 = .ok (.aload_n 0, 1) := by decide +kernel
theorem dX5_takeBoat_21 : decode cX5_takeBoat 21 = .ok (.getfield 18, 3) := by decide +kernel
theorem dX5_takeBoat_24 : decode cX5_takeBoat 24 = .ok (.iload_n 2, 1) := by decide +kernel
theorem dX5_takeBoat_25 : decode cX5_takeBoat 25 = .ok (.iconst 0, 1) := by decide +kernel
theorem dX5_takeBoat_26 : decode cX5_takeBoat 26 = .ok (.iload_n 1, 1) := by decide +kernel
theorem dX5_takeBoat_27 : decode cX5_takeBoat 27 = .ok (.invokevirtual 107, 3) := by decide +kernel
theorem dX5_takeBoat_30 : decode cX5_takeBoat 30 = .ok (.aload_n 0, 1) := by decide +kernel
theorem dX5_takeBoat_31 : decode cX5_takeBoat 31 = .ok (.getfield 18, 3) := by decide +kernel
theorem dX5_takeBoat_34 : decode cX5_takeBoat 34 = .ok (.dup, 1) := by decide +kernel
theorem dX5_takeBoat_35 : decode cX5_takeBoat 35 = .ok (.getfield 50, 3) := by decide +kernel
theorem dX5_takeBoat_38 : decode cX5_takeBoat 38 = .ok (.iconst 1, 1) := by decide +kernel
theorem dX5_takeBoat_39 : decode cX5_takeBoat 39 = .ok (.iadd, 1) := by decide +kernel
theorem dX5_takeBoat_40 : decode cX5_takeBoat 40 = .ok (.putfield 50, 3) := by decide +kernel
theorem dX5_takeBoat_43 : decode cX5_takeBoat 43 = .ok (.aload_n 0, 1) := by decide +kernel
theorem dX5_takeBoat_44 : decode cX5_takeBoat 44 = .ok (.iload_n 2, 1) := by decide +kernel
theorem dX5_takeBoat_45 : decode cX5_takeBoat 45 = .ok (.invokevirtual 111, 3) := by decide +kernel
theorem dX5_takeBoat_48 : decode cX5_takeBoat 48 = .ok (.ifCond .ne 5, 3) := by decide +kernel
theorem dX5_takeBoat_51 : decode cX5_takeBoat 51 = .ok (.iconst 0, 1) := by decide +kernel
theorem dX5_takeBoat_52 : decode cX5_takeBoat 52 = .ok (.ireturn, 1) := by decide +kernel
theorem dX5_takeBoat_53 : decode cX5_takeBoat 53 = .ok (.iconst 2, 1) := by decide +kernel
theorem dX5_takeBoat_54 : decode cX5_takeBoat 54 = .ok (.istore_n 3, 1) := by decide +kernel
theorem dX5_takeBoat_55 : decode cX5_takeBoat 55 = .ok (.iload_n 3, 1) := by decide +kernel
theorem dX5_takeBoat_56 : decode cX5_takeBoat 56 = .ok (.iconst 4, 1) := by decide +kernel
theorem dX5_takeBoat_57 : decode cX5_takeBoat 57 = .ok (.if_icmp .gt 40, 3) := by decide +kernel
theorem dX5_takeBoat_60 : decode cX5_takeBoat 60 = .ok (.aload_n 0, 1) := by decide +kernel
theorem dX5_takeBoat_61 : decode cX5_takeBoat 61 = .ok (.iconst 0, 1) := by decide +kernel
theorem dX5_takeBoat_62 : decode cX5_takeBoat 62 = .ok (.getstatic 114, 3) := by decide +kernel
theorem dX5_takeBoat_65 : decode cX5_takeBoat 65 = .ok (.iload_n 3, 1) := by decide +kernel
theorem dX5_takeBoat_66 : decode cX5_takeBoat 66 = .ok (.iaload, 1) := by decide +kernel
theorem dX5_takeBoat_67 : decode cX5_takeBoat 67 = .ok (.invokevirtual 117, 3) := by decide +kernel
theorem dX5_takeBoat_70 : decode cX5_takeBoat 70 = .ok (.ifCond .ne 5, 3) := by decide +kernel
theorem dX5_takeBoat_73 : decode cX5_takeBoat 73 = .ok (.iconst 0, 1) := by decide +kernel
theorem dX5_takeBoat_74 : decode cX5_takeBoat 74 = .ok (.ireturn, 1) := by decide +kernel
theorem dX5_takeBoat_75 : decode cX5_takeBoat 75 = .ok (.aload_n 0, 1) := by decide +kernel
theorem dX5_takeBoat_76 : decode cX5_takeBoat 76 = .ok (.getfield 18, 3) := by decide +kernel
theorem dX5_takeBoat_79 : decode cX5_takeBoat 79 = .ok (.iload_n 2, 1) := by decide +kernel
theorem dX5_takeBoat_80 : decode cX5_takeBoat 80 = .ok (.iload_n 3, 1) := by decide +kernel
theorem dX5_takeBoat_81 : decode cX5_takeBoat 81 = .ok (.aload_n 0, 1) := by decide +kernel
theorem dX5_takeBoat_82 : decode cX5_takeBoat 82 = .ok (.getfield 9, 3) := by decide +kernel
theorem dX5_takeBoat_85 : decode cX5_takeBoat 85 = .ok (.getfield 120, 3) := by decide +kernel
theorem dX5_takeBoat_88 : decode cX5_takeBoat 88 = .ok (.invokevirtual 107, 3) := by decide +kernel
theorem dX5_takeBoat_91 : decode cX5_takeBoat 91 = .ok (.iinc 3 1, 3) := by decide +kernel
theorem dX5_takeBoat_94 : decode cX5_takeBoat 94 = .ok (.goto (-39), 3) := by decide +kernel
theorem dX5_takeBoat_97 : decode cX5_takeBoat 97 = .ok (.iconst 1, 1) := by decide +kernel
theorem dX5_takeBoat_98 : decode cX5_takeBoat 98 = .ok (.ireturn, 1) := by decide +kernel
theorem dX5_takeCargo_0 : decode cX5_takeCargo 0 = .ok (.aload_n 0, 1) := by decide +kernel
theorem dX5_takeCargo_1 : decode cX5_takeCargo 1 = .ok (.getfield 9, 3) := by decide +kernel
theorem dX5_takeCargo_4 : decode cX5_takeCargo 4 = .ok (.invokevirtual 37, 3) := by decide +kernel
theorem dX5_takeCargo_7 : decode cX5_takeCargo 7 = .ok (.aload_n 0, 1) := by decide +kernel
theorem dX5_takeCargo_8 : decode cX5_takeCargo 8 = .ok (.getfield 9, 3) := by decide +kernel
theorem dX5_takeCargo_11 : decode cX5_takeCargo 11 = .ok (.ldc 123, 2) := by decide +kernel
theorem dX5_takeCargo_13 : decode cX5_takeCargo 13 = .ok (.invokevirtual 65, 3) := by decide +kernel
theorem dX5_takeCargo_16 : decode cX5_takeCargo 16 = .ok (.ifCond .eq 7, 3) := by decide +kernel
theorem dX5_takeCargo_19 : decode cX5_takeCargo 19 = .ok (.iconst 0, 1) := by decide +kernel
theorem dX5_takeCargo_20 : decode cX5_takeCargo 20 = .ok (.goto 53, 3) := by decide +kernel
theorem dX5_takeCargo_23 : decode cX5_takeCargo 23 = .ok (.aload_n 0, 1) := by decide +kernel
theorem dX5_takeCargo_24 : decode cX5_takeCargo 24 = .ok (.getfield 9, 3) := by decide +kernel
theorem dX5_takeCargo_27 : decode cX5_takeCargo 27 = .ok (.ldc 125, 2) := by decide +kernel
theorem dX5_takeCargo_29 : decode cX5_takeCargo 29 = .ok (.invokevirtual 65, 3) := by decide +kernel
theorem dX5_takeCargo_32 : decode cX5_takeCargo 32 = .ok (.ifCond .eq 7, 3) := by decide +kernel
theorem dX5_takeCargo_35 : decode cX5_takeCargo 35 = .ok (.iconst 1, 1) := by decide +kernel
theorem dX5_takeCargo_36 : decode cX5_takeCargo 36 = .ok (.goto 37, 3) := by decide +kernel
theorem dX5_takeCargo_39 : decode cX5_takeCargo 39 = .ok (.aload_n 0, 1) := by decide +kernel
theorem dX5_takeCargo_40 : decode cX5_takeCargo 40 = .ok (.getfield 9, 3) := by decide +kernel
theorem dX5_takeCargo_43 : decode cX5_takeCargo 43 = .ok (.ldc 127, 2) := by decide +kernel
theorem dX5_takeCargo_45 : decode cX5_takeCargo 45 = .ok (.invokevirtual 65, 3) := by decide +kernel
theorem dX5_takeCargo_48 : decode cX5_takeCargo 48 = .ok (.ifCond .eq 7, 3) := by decide +kernel
theorem dX5_takeCargo_51 : decode cX5_takeCargo 51 = .ok (.iconst 2, 1) := by decide +kernel
theorem dX5_takeCargo_52 : decode cX5_takeCargo 52 = .ok (.goto 21, 3) := by decide +kernel
theorem dX5_takeCargo_55 : decode cX5_takeCargo 55 = .ok (.aload_n 0, 1) := by decide +kernel
theorem dX5_takeCargo_56 : decode cX5_takeCargo 56 = .ok (.getfield 9, 3) := by decide +kernel
theorem dX5_takeCargo_59 : decode cX5_takeCargo 59 = .ok (.ldc 129, 2) := by decide +kernel
theorem dX5_takeCargo_61 : decode cX5_takeCargo 61 = .ok (.invokevirtual 65, 3) := by decide +kernel
theorem dX5_takeCargo_64 : decode cX5_takeCargo 64 = .ok (.ifCond .eq 7, 3) := by decide +kernel
theorem dX5_takeCargo_67 : decode cX5_takeCargo 67 = .ok (.iconst 3, 1) := by decide +kernel
theorem dX5_takeCargo_68 : decode cX5_takeCargo 68 = .ok (.goto 5, 3) := by decide +kernel
theorem dX5_takeCargo_71 : decode cX5_takeCargo 71 = .ok (.bipush (-4), 2) := by decide +kernel
theorem dX5_takeCargo_73 : decode cX5_takeCargo 73 = .ok (.istore_n 2, 1) := by decide +kernel
theorem dX5_takeCargo_74 : decode cX5_takeCargo 74 = .ok (.iload_n 2, 1) := by decide +kernel
theorem dX5_takeCargo_75 : decode cX5_takeCargo 75 = .ok (.bipush (-4), 2) := by decide +kernel
theorem dX5_takeCargo_77 : decode cX5_takeCargo 77 = .ok (.if_icmp .ne 9, 3) := by decide +kernel
theorem dX5_takeCargo_80 : decode cX5_takeCargo 80 = .ok (.aload_n 0, 1) := by decide +kernel
theorem dX5_takeCargo_81 : decode cX5_takeCargo 81 = .ok (.iconst 2, 1) := by decide +kernel
theorem dX5_takeCargo_82 : decode cX5_takeCargo 82 = .ok (.invokevirtual 104, 3) := by decide +kernel
theorem dX5_takeCargo_85 : decode cX5_takeCargo 85 = .ok (.ireturn, 1) := by decide +kernel
theorem dX5_takeCargo_86 : decode cX5_takeCargo 86 = .ok (.aload_n 0, 1) := by decide +kernel
theorem dX5_takeCargo_87 : decode cX5_takeCargo 87 = .ok (.getfield 18, 3) := by decide +kernel
theorem dX5_takeCargo_90 : decode cX5_takeCargo 90 = .ok (.iload_n 1, 1) := by decide +kernel
theorem dX5_takeCargo_91 : decode cX5_takeCargo 91 = .ok (.iconst 1, 1) := by decide +kernel
theorem dX5_takeCargo_92 : decode cX5_takeCargo 92 = .ok (.iload_n 2, 1) := by decide +kernel
theorem dX5_takeCargo_93 : decode cX5_takeCargo 93 = .ok (.invokevirtual 107, 3) := by decide +kernel
theorem dX5_takeCargo_96 : decode cX5_takeCargo 96 = .ok (.iconst 1, 1) := by decide +kernel
theorem dX5_takeCargo_97 : decode cX5_takeCargo 97 = .ok (.ireturn, 1) := by decide +kernel
theorem dX5_takeRules_0 : decode cX5_takeRules 0 = .ok (.iload_n 1, 1) := by decide +kernel
theorem dX5_takeRules_1 : decode cX5_takeRules 1 = .ok (.istore_n 3, 1) := by decide +kernel
theorem dX5_takeRules_2 : decode cX5_takeRules 2 = .ok (.iload_n 3, 1) := by decide +kernel
theorem dX5_takeRules_3 : decode cX5_takeRules 3 = .ok (.iload_n 2, 1) := by decide +kernel
theorem dX5_takeRules_4 : decode cX5_takeRules 4 = .ok (.if_icmp .gt 44, 3) := by decide +kernel
theorem dX5_takeRules_7 : decode cX5_takeRules 7 = .ok (.aload_n 0, 1) := by decide +kernel
theorem dX5_takeRules_8 : decode cX5_takeRules 8 = .ok (.getstatic 131, 3) := by decide +kernel
theorem dX5_takeRules_11 : decode cX5_takeRules 11 = .ok (.iload_n 3, 1) := by decide +kernel
theorem dX5_takeRules_12 : decode cX5_takeRules 12 = .ok (.iaload, 1) := by decide +kernel
theorem dX5_takeRules_13 : decode cX5_takeRules 13 = .ok (.getstatic 134, 3) := by decide +kernel
theorem dX5_takeRules_16 : decode cX5_takeRules 16 = .ok (.iload_n 3, 1) := by decide +kernel
theorem dX5_takeRules_17 : decode cX5_takeRules 17 = .ok (.iaload, 1) := by decide +kernel
theorem dX5_takeRules_18 : decode cX5_takeRules 18 = .ok (.invokevirtual 117, 3) := by decide +kernel
theorem dX5_takeRules_21 : decode cX5_takeRules 21 = .ok (.ifCond .ne 5, 3) := by decide +kernel
theorem dX5_takeRules_24 : decode cX5_takeRules 24 = .ok (.iconst 0, 1) := by decide +kernel
theorem dX5_takeRules_25 : decode cX5_takeRules 25 = .ok (.ireturn, 1) := by decide +kernel
theorem dX5_takeRules_26 : decode cX5_takeRules 26 = .ok (.aload_n 0, 1) := by decide +kernel
theorem dX5_takeRules_27 : decode cX5_takeRules 27 = .ok (.getfield 18, 3) := by decide +kernel
theorem dX5_takeRules_30 : decode cX5_takeRules 30 = .ok (.getfield 100, 3) := by decide +kernel
theorem dX5_takeRules_33 : decode cX5_takeRules 33 = .ok (.iload_n 3, 1) := by decide +kernel
theorem dX5_takeRules_34 : decode cX5_takeRules 34 = .ok (.aload_n 0, 1) := by decide +kernel
theorem dX5_takeRules_35 : decode cX5_takeRules 35 = .ok (.getfield 9, 3) := by decide +kernel
theorem dX5_takeRules_38 : decode cX5_takeRules 38 = .ok (.getfield 120, 3) := by decide +kernel
theorem dX5_takeRules_41 : decode cX5_takeRules 41 = .ok (.iastore, 1) := by decide +kernel
theorem dX5_takeRules_42 : decode cX5_takeRules 42 = .ok (.iinc 3 1, 3) := by decide +kernel
theorem dX5_takeRules_45 : decode cX5_takeRules 45 = .ok (.goto (-43), 3) := by decide +kernel
theorem dX5_takeRules_48 : decode cX5_takeRules 48 = .ok (.iconst 1, 1) := by decide +kernel
theorem dX5_takeRules_49 : decode cX5_takeRules 49 = .ok (.ireturn, 1) := by decide +kernel
theorem dX5_takeLaw_0 : decode cX5_takeLaw 0 = .ok (.aload_n 0, 1) := by decide +kernel
theorem dX5_takeLaw_1 : decode cX5_takeLaw 1 = .ok (.getfield 9, 3) := by decide +kernel
theorem dX5_takeLaw_4 : decode cX5_takeLaw 4 = .ok (.invokevirtual 37, 3) := by decide +kernel
theorem dX5_takeLaw_7 : decode cX5_takeLaw 7 = .ok (.aload_n 0, 1) := by decide +kernel
theorem dX5_takeLaw_8 : decode cX5_takeLaw 8 = .ok (.getfield 9, 3) := by decide +kernel
theorem dX5_takeLaw_11 : decode cX5_takeLaw 11 = .ok (.ldc 137, 2) := by decide +kernel
theorem dX5_takeLaw_13 : decode cX5_takeLaw 13 = .ok (.invokevirtual 65, 3) := by decide +kernel
theorem dX5_takeLaw_16 : decode cX5_takeLaw 16 = .ok (.ifCond .eq 7, 3) := by decide +kernel
theorem dX5_takeLaw_19 : decode cX5_takeLaw 19 = .ok (.iconst 0, 1) := by decide +kernel
theorem dX5_takeLaw_20 : decode cX5_takeLaw 20 = .ok (.goto 69, 3) := by decide +kernel
theorem dX5_takeLaw_23 : decode cX5_takeLaw 23 = .ok (.aload_n 0, 1) := by decide +kernel
theorem dX5_takeLaw_24 : decode cX5_takeLaw 24 = .ok (.getfield 9, 3) := by decide +kernel
theorem dX5_takeLaw_27 : decode cX5_takeLaw 27 = .ok (.ldc 139, 2) := by decide +kernel
theorem dX5_takeLaw_29 : decode cX5_takeLaw 29 = .ok (.invokevirtual 65, 3) := by decide +kernel
theorem dX5_takeLaw_32 : decode cX5_takeLaw 32 = .ok (.ifCond .eq 7, 3) := by decide +kernel
theorem dX5_takeLaw_35 : decode cX5_takeLaw 35 = .ok (.iconst 1, 1) := by decide +kernel
theorem dX5_takeLaw_36 : decode cX5_takeLaw 36 = .ok (.goto 53, 3) := by decide +kernel
theorem dX5_takeLaw_39 : decode cX5_takeLaw 39 = .ok (.aload_n 0, 1) := by decide +kernel
theorem dX5_takeLaw_40 : decode cX5_takeLaw 40 = .ok (.getfield 9, 3) := by decide +kernel
theorem dX5_takeLaw_43 : decode cX5_takeLaw 43 = .ok (.ldc 141, 2) := by decide +kernel
theorem dX5_takeLaw_45 : decode cX5_takeLaw 45 = .ok (.invokevirtual 65, 3) := by decide +kernel
theorem dX5_takeLaw_48 : decode cX5_takeLaw 48 = .ok (.ifCond .eq 7, 3) := by decide +kernel
theorem dX5_takeLaw_51 : decode cX5_takeLaw 51 = .ok (.iconst 2, 1) := by decide +kernel
theorem dX5_takeLaw_52 : decode cX5_takeLaw 52 = .ok (.goto 37, 3) := by decide +kernel
theorem dX5_takeLaw_55 : decode cX5_takeLaw 55 = .ok (.aload_n 0, 1) := by decide +kernel
theorem dX5_takeLaw_56 : decode cX5_takeLaw 56 = .ok (.getfield 9, 3) := by decide +kernel
theorem dX5_takeLaw_59 : decode cX5_takeLaw 59 = .ok (.ldc 143, 2) := by decide +kernel
theorem dX5_takeLaw_61 : decode cX5_takeLaw 61 = .ok (.invokevirtual 65, 3) := by decide +kernel
theorem dX5_takeLaw_64 : decode cX5_takeLaw 64 = .ok (.ifCond .eq 7, 3) := by decide +kernel
theorem dX5_takeLaw_67 : decode cX5_takeLaw 67 = .ok (.iconst 3, 1) := by decide +kernel
theorem dX5_takeLaw_68 : decode cX5_takeLaw 68 = .ok (.goto 21, 3) := by decide +kernel
theorem dX5_takeLaw_71 : decode cX5_takeLaw 71 = .ok (.aload_n 0, 1) := by decide +kernel
theorem dX5_takeLaw_72 : decode cX5_takeLaw 72 = .ok (.getfield 9, 3) := by decide +kernel
theorem dX5_takeLaw_75 : decode cX5_takeLaw 75 = .ok (.ldc 145, 2) := by decide +kernel
theorem dX5_takeLaw_77 : decode cX5_takeLaw 77 = .ok (.invokevirtual 65, 3) := by decide +kernel
theorem dX5_takeLaw_80 : decode cX5_takeLaw 80 = .ok (.ifCond .eq 7, 3) := by decide +kernel
theorem dX5_takeLaw_83 : decode cX5_takeLaw 83 = .ok (.iconst 4, 1) := by decide +kernel
theorem dX5_takeLaw_84 : decode cX5_takeLaw 84 = .ok (.goto 5, 3) := by decide +kernel
theorem dX5_takeLaw_87 : decode cX5_takeLaw 87 = .ok (.bipush (-4), 2) := by decide +kernel
theorem dX5_takeLaw_89 : decode cX5_takeLaw 89 = .ok (.istore_n 1, 1) := by decide +kernel
theorem dX5_takeLaw_90 : decode cX5_takeLaw 90 = .ok (.iload_n 1, 1) := by decide +kernel
theorem dX5_takeLaw_91 : decode cX5_takeLaw 91 = .ok (.bipush (-4), 2) := by decide +kernel
theorem dX5_takeLaw_93 : decode cX5_takeLaw 93 = .ok (.if_icmp .ne 9, 3) := by decide +kernel
theorem dX5_takeLaw_96 : decode cX5_takeLaw 96 = .ok (.aload_n 0, 1) := by decide +kernel
theorem dX5_takeLaw_97 : decode cX5_takeLaw 97 = .ok (.iconst 2, 1) := by decide +kernel
theorem dX5_takeLaw_98 : decode cX5_takeLaw 98 = .ok (.invokevirtual 104, 3) := by decide +kernel
theorem dX5_takeLaw_101 : decode cX5_takeLaw 101 = .ok (.ireturn, 1) := by decide +kernel
theorem dX5_takeLaw_102 : decode cX5_takeLaw 102 = .ok (.aload_n 0, 1) := by decide +kernel
theorem dX5_takeLaw_103 : decode cX5_takeLaw 103 = .ok (.getfield 18, 3) := by decide +kernel
theorem dX5_takeLaw_106 : decode cX5_takeLaw 106 = .ok (.getfield 100, 3) := by decide +kernel
theorem dX5_takeLaw_109 : decode cX5_takeLaw 109 = .ok (.iconst 3, 1) := by decide +kernel
theorem dX5_takeLaw_110 : decode cX5_takeLaw 110 = .ok (.iload_n 1, 1) := by decide +kernel
theorem dX5_takeLaw_111 : decode cX5_takeLaw 111 = .ok (.iastore, 1) := by decide +kernel
theorem dX5_takeLaw_112 : decode cX5_takeLaw 112 = .ok (.iconst 1, 1) := by decide +kernel
theorem dX5_takeLaw_113 : decode cX5_takeLaw 113 = .ok (.ireturn, 1) := by decide +kernel
theorem dX5_takeLiar_0 : decode cX5_takeLiar 0 = .ok (.aload_n 0, 1) := by decide +kernel
theorem dX5_takeLiar_1 : decode cX5_takeLiar 1 = .ok (.iconst 0, 1) := by decide +kernel
theorem dX5_takeLiar_2 : decode cX5_takeLiar 2 = .ok (.iconst 5, 1) := by decide +kernel
theorem dX5_takeLiar_3 : decode cX5_takeLiar 3 = .ok (.invokevirtual 117, 3) := by decide +kernel
theorem dX5_takeLiar_6 : decode cX5_takeLiar 6 = .ok (.ifCond .ne 5, 3) := by decide +kernel
theorem dX5_takeLiar_9 : decode cX5_takeLiar 9 = .ok (.iconst 0, 1) := by decide +kernel
theorem dX5_takeLiar_10 : decode cX5_takeLiar 10 = .ok (.ireturn, 1) := by decide +kernel
theorem dX5_takeLiar_11 : decode cX5_takeLiar 11 = .ok (.aload_n 0, 1) := by decide +kernel
theorem dX5_takeLiar_12 : decode cX5_takeLiar 12 = .ok (.getfield 18, 3) := by decide +kernel
theorem dX5_takeLiar_15 : decode cX5_takeLiar 15 = .ok (.getfield 47, 3) := by decide +kernel
theorem dX5_takeLiar_18 : decode cX5_takeLiar 18 = .ok (.aload_n 0, 1) := by decide +kernel
theorem dX5_takeLiar_19 : decode cX5_takeLiar 19 = .ok (.getfield 9, 3) := by decide +kernel
theorem dX5_takeLiar_22 : decode cX5_takeLiar 22 = .ok (.getfield 120, 3) := by decide +kernel
theorem dX5_takeLiar_25 : decode cX5_takeLiar 25 = .ok (.ishr, 1) := by decide +kernel
theorem dX5_takeLiar_26 : decode cX5_takeLiar 26 = .ok (.iconst 1, 1) := by decide +kernel
theorem dX5_takeLiar_27 : decode cX5_takeLiar 27 = .ok (.iand, 1) := by decide +kernel
theorem dX5_takeLiar_28 : decode cX5_takeLiar 28 = .ok (.iconst 1, 1) := by decide +kernel
theorem dX5_takeLiar_29 : decode cX5_takeLiar 29 = .ok (.if_icmp .ne 9, 3) := by decide +kernel
theorem dX5_takeLiar_32 : decode cX5_takeLiar 32 = .ok (.aload_n 0, 1) := by decide +kernel
theorem dX5_takeLiar_33 : decode cX5_takeLiar 33 = .ok (.iconst 4, 1) := by decide +kernel
theorem dX5_takeLiar_34 : decode cX5_takeLiar 34 = .ok (.invokevirtual 104, 3) := by decide +kernel
theorem dX5_takeLiar_37 : decode cX5_takeLiar 37 = .ok (.ireturn, 1) := by decide +kernel
theorem dX5_takeLiar_38 : decode cX5_takeLiar 38 = .ok (.aload_n 0, 1) := by decide +kernel
theorem dX5_takeLiar_39 : decode cX5_takeLiar 39 = .ok (.getfield 18, 3) := by decide +kernel
theorem dX5_takeLiar_42 : decode cX5_takeLiar 42 = .ok (.dup, 1) := by decide +kernel
theorem dX5_takeLiar_43 : decode cX5_takeLiar 43 = .ok (.getfield 47, 3) := by decide +kernel
theorem dX5_takeLiar_46 : decode cX5_takeLiar 46 = .ok (.iconst 1, 1) := by decide +kernel
theorem dX5_takeLiar_47 : decode cX5_takeLiar 47 = .ok (.aload_n 0, 1) := by decide +kernel
theorem dX5_takeLiar_48 : decode cX5_takeLiar 48 = .ok (.getfield 9, 3) := by decide +kernel
theorem dX5_takeLiar_51 : decode cX5_takeLiar 51 = .ok (.getfield 120, 3) := by decide +kernel
theorem dX5_takeLiar_54 : decode cX5_takeLiar 54 = .ok (.ishl, 1) := by decide +kernel
theorem dX5_takeLiar_55 : decode cX5_takeLiar 55 = .ok (.ior, 1) := by decide +kernel
theorem dX5_takeLiar_56 : decode cX5_takeLiar 56 = .ok (.putfield 47, 3) := by decide +kernel
theorem dX5_takeLiar_59 : decode cX5_takeLiar 59 = .ok (.iconst 1, 1) := by decide +kernel
theorem dX5_takeLiar_60 : decode cX5_takeLiar 60 = .ok (.ireturn, 1) := by decide +kernel
theorem dX5_takeNumber_0 : decode cX5_takeNumber 0 = .ok (.aload_n 0, 1) := by decide +kernel
theorem dX5_takeNumber_1 : decode cX5_takeNumber 1 = .ok (.getfield 9, 3) := by decide +kernel
theorem dX5_takeNumber_4 : decode cX5_takeNumber 4 = .ok (.invokevirtual 37, 3) := by decide +kernel
theorem dX5_takeNumber_7 : decode cX5_takeNumber 7 = .ok (.aload_n 0, 1) := by decide +kernel
theorem dX5_takeNumber_8 : decode cX5_takeNumber 8 = .ok (.getfield 9, 3) := by decide +kernel
theorem dX5_takeNumber_11 : decode cX5_takeNumber 11 = .ok (.getfield 40, 3) := by decide +kernel
theorem dX5_takeNumber_14 : decode cX5_takeNumber 14 = .ok (.iconst 1, 1) := by decide +kernel
theorem dX5_takeNumber_15 : decode cX5_takeNumber 15 = .ok (.if_icmp .eq 9, 3) := by decide +kernel
theorem dX5_takeNumber_18 : decode cX5_takeNumber 18 = .ok (.aload_n 0, 1) := by decide +kernel
theorem dX5_takeNumber_19 : decode cX5_takeNumber 19 = .ok (.iconst 2, 1) := by decide +kernel
theorem dX5_takeNumber_20 : decode cX5_takeNumber 20 = .ok (.invokevirtual 104, 3) := by decide +kernel
theorem dX5_takeNumber_23 : decode cX5_takeNumber 23 = .ok (.ireturn, 1) := by decide +kernel
theorem dX5_takeNumber_24 : decode cX5_takeNumber 24 = .ok (.aload_n 0, 1) := by decide +kernel
theorem dX5_takeNumber_25 : decode cX5_takeNumber 25 = .ok (.getfield 9, 3) := by decide +kernel
theorem dX5_takeNumber_28 : decode cX5_takeNumber 28 = .ok (.getfield 120, 3) := by decide +kernel
theorem dX5_takeNumber_31 : decode cX5_takeNumber 31 = .ok (.iload_n 1, 1) := by decide +kernel
theorem dX5_takeNumber_32 : decode cX5_takeNumber 32 = .ok (.iload_n 2, 1) := by decide +kernel
theorem dX5_takeNumber_33 : decode cX5_takeNumber 33 = .ok (.invokestatic 147, 3) := by decide +kernel
theorem dX5_takeNumber_36 : decode cX5_takeNumber 36 = .ok (.ifCond .ne 11, 3) := by decide +kernel
theorem dX5_takeNumber_39 : decode cX5_takeNumber 39 = .ok (.aload_n 0, 1) := by decide +kernel
theorem dX5_takeNumber_40 : decode cX5_takeNumber 40 = .ok (.iconst 3, 1) := by decide +kernel
theorem dX5_takeNumber_41 : decode cX5_takeNumber 41 = .ok (.invokevirtual 104, 3) := by decide +kernel
theorem dX5_takeNumber_44 : decode cX5_takeNumber 44 = .ok (.ifCond .eq 7, 3) := by decide +kernel
theorem dX5_takeNumber_47 : decode cX5_takeNumber 47 = .ok (.iconst 1, 1) := by decide +kernel
theorem dX5_takeNumber_48 : decode cX5_takeNumber 48 = .ok (.goto 4, 3) := by decide +kernel
theorem dX5_takeNumber_51 : decode cX5_takeNumber 51 = .ok (.iconst 0, 1) := by decide +kernel
theorem dX5_takeNumber_52 : decode cX5_takeNumber 52 = .ok (.ireturn, 1) := by decide +kernel
theorem dX5_takeStop_0 : decode cX5_takeStop 0 = .ok (.aload_n 0, 1) := by decide +kernel
theorem dX5_takeStop_1 : decode cX5_takeStop 1 = .ok (.getfield 9, 3) := by decide +kernel
theorem dX5_takeStop_4 : decode cX5_takeStop 4 = .ok (.invokevirtual 37, 3) := by decide +kernel
theorem dX5_takeStop_7 : decode cX5_takeStop 7 = .ok (.aload_n 0, 1) := by decide +kernel
theorem dX5_takeStop_8 : decode cX5_takeStop 8 = .ok (.getfield 9, 3) := by decide +kernel
theorem dX5_takeStop_11 : decode cX5_takeStop 11 = .ok (.getfield 40, 3) := by decide +kernel
theorem dX5_takeStop_14 : decode cX5_takeStop 14 = .ok (.iconst 2, 1) := by decide +kernel
theorem dX5_takeStop_15 : decode cX5_takeStop 15 = .ok (.if_icmp .eq 11, 3) := by decide +kernel
theorem dX5_takeStop_18 : decode cX5_takeStop 18 = .ok (.aload_n 0, 1) := by decide +kernel
theorem dX5_takeStop_19 : decode cX5_takeStop 19 = .ok (.iconst 2, 1) := by decide +kernel
theorem dX5_takeStop_20 : decode cX5_takeStop 20 = .ok (.invokevirtual 104, 3) := by decide +kernel
theorem dX5_takeStop_23 : decode cX5_takeStop 23 = .ok (.ifCond .eq 7, 3) := by decide +kernel
theorem dX5_takeStop_26 : decode cX5_takeStop 26 = .ok (.iconst 1, 1) := by decide +kernel
theorem dX5_takeStop_27 : decode cX5_takeStop 27 = .ok (.goto 4, 3) := by decide +kernel
theorem dX5_takeStop_30 : decode cX5_takeStop 30 = .ok (.iconst 0, 1) := by decide +kernel
theorem dX5_takeStop_31 : decode cX5_takeStop 31 = .ok (.ireturn, 1) := by decide +kernel
theorem dX5_blameToken_0 : decode cX5_blameToken 0 = .ok (.aload_n 0, 1) := by decide +kernel
theorem dX5_blameToken_1 : decode cX5_blameToken 1 = .ok (.aload_n 0, 1) := by decide +kernel
theorem dX5_blameToken_2 : decode cX5_blameToken 2 = .ok (.getfield 9, 3) := by decide +kernel
theorem dX5_blameToken_5 : decode cX5_blameToken 5 = .ok (.getfield 40, 3) := by decide +kernel
theorem dX5_blameToken_8 : decode cX5_blameToken 8 = .ok (.iconst 4, 1) := by decide +kernel
theorem dX5_blameToken_9 : decode cX5_blameToken 9 = .ok (.if_icmp .ne 7, 3) := by decide +kernel
theorem dX5_blameToken_12 : decode cX5_blameToken 12 = .ok (.iconst 1, 1) := by decide +kernel
theorem dX5_blameToken_13 : decode cX5_blameToken 13 = .ok (.goto 4, 3) := by decide +kernel
theorem dX5_blameToken_16 : decode cX5_blameToken 16 = .ok (.iload_n 1, 1) := by decide +kernel
theorem dX5_blameToken_17 : decode cX5_blameToken 17 = .ok (.aload_n 0, 1) := by decide +kernel
theorem dX5_blameToken_18 : decode cX5_blameToken 18 = .ok (.getfield 9, 3) := by decide +kernel
theorem dX5_blameToken_21 : decode cX5_blameToken 21 = .ok (.getfield 151, 3) := by decide +kernel
theorem dX5_blameToken_24 : decode cX5_blameToken 24 = .ok (.invokevirtual 56, 3) := by decide +kernel
theorem dX5_blameToken_27 : decode cX5_blameToken 27 = .ok (.ireturn, 1) := by decide +kernel
theorem dX5_blame_0 : decode cX5_blame 0 = .ok (.aload_n 0, 1) := by decide +kernel
theorem dX5_blame_1 : decode cX5_blame 1 = .ok (.iload_n 1, 1) := by decide +kernel
theorem dX5_blame_2 : decode cX5_blame 2 = .ok (.putfield 30, 3) := by decide +kernel
theorem dX5_blame_5 : decode cX5_blame 5 = .ok (.aload_n 0, 1) := by decide +kernel
theorem dX5_blame_6 : decode cX5_blame 6 = .ok (.iload_n 2, 1) := by decide +kernel
theorem dX5_blame_7 : decode cX5_blame 7 = .ok (.putfield 60, 3) := by decide +kernel
theorem dX5_blame_10 : decode cX5_blame 10 = .ok (.iconst 0, 1) := by decide +kernel
theorem dX5_blame_11 : decode cX5_blame 11 = .ok (.ireturn, 1) := by decide +kernel
theorem dJ6_bitCount_0f7a4_0 : decode cJ6_bitCount_0f7a4 0 = .ok (.iload_n 0, 1) := by decide +kernel
theorem dJ6_bitCount_0f7a4_1 : decode cJ6_bitCount_0f7a4 1 = .ok (.iload_n 0, 1) := by decide +kernel
theorem dJ6_bitCount_0f7a4_2 : decode cJ6_bitCount_0f7a4 2 = .ok (.iconst 1, 1) := by decide +kernel
theorem dJ6_bitCount_0f7a4_3 : decode cJ6_bitCount_0f7a4 3 = .ok (.iushr, 1) := by decide +kernel
theorem dJ6_bitCount_0f7a4_4 : decode cJ6_bitCount_0f7a4 4 = .ok (.ldc_w 265, 3) := by decide +kernel
theorem dJ6_bitCount_0f7a4_7 : decode cJ6_bitCount_0f7a4 7 = .ok (.iand, 1) := by decide +kernel
theorem dJ6_bitCount_0f7a4_8 : decode cJ6_bitCount_0f7a4 8 = .ok (.isub, 1) := by decide +kernel
theorem dJ6_bitCount_0f7a4_9 : decode cJ6_bitCount_0f7a4 9 = .ok (.istore_n 0, 1) := by decide +kernel
theorem dJ6_bitCount_0f7a4_10 : decode cJ6_bitCount_0f7a4 10 = .ok (.iload_n 0, 1) := by decide +kernel
theorem dJ6_bitCount_0f7a4_11 : decode cJ6_bitCount_0f7a4 11 = .ok (.ldc_w 266, 3) := by decide +kernel
theorem dJ6_bitCount_0f7a4_14 : decode cJ6_bitCount_0f7a4 14 = .ok (.iand, 1) := by decide +kernel
theorem dJ6_bitCount_0f7a4_15 : decode cJ6_bitCount_0f7a4 15 = .ok (.iload_n 0, 1) := by decide +kernel
theorem dJ6_bitCount_0f7a4_16 : decode cJ6_bitCount_0f7a4 16 = .ok (.iconst 2, 1) := by decide +kernel
theorem dJ6_bitCount_0f7a4_17 : decode cJ6_bitCount_0f7a4 17 = .ok (.iushr, 1) := by decide +kernel
theorem dJ6_bitCount_0f7a4_18 : decode cJ6_bitCount_0f7a4 18 = .ok (.ldc_w 266, 3) := by decide +kernel
theorem dJ6_bitCount_0f7a4_21 : decode cJ6_bitCount_0f7a4 21 = .ok (.iand, 1) := by decide +kernel
theorem dJ6_bitCount_0f7a4_22 : decode cJ6_bitCount_0f7a4 22 = .ok (.iadd, 1) := by decide +kernel
theorem dJ6_bitCount_0f7a4_23 : decode cJ6_bitCount_0f7a4 23 = .ok (.istore_n 0, 1) := by decide +kernel
theorem dJ6_bitCount_0f7a4_24 : decode cJ6_bitCount_0f7a4 24 = .ok (.iload_n 0, 1) := by decide +kernel
theorem dJ6_bitCount_0f7a4_25 : decode cJ6_bitCount_0f7a4 25 = .ok (.iload_n 0, 1) := by decide +kernel
theorem dJ6_bitCount_0f7a4_26 : decode cJ6_bitCount_0f7a4 26 = .ok (.iconst 4, 1) := by decide +kernel
theorem dJ6_bitCount_0f7a4_27 : decode cJ6_bitCount_0f7a4 27 = .ok (.iushr, 1) := by decide +kernel
theorem dJ6_bitCount_0f7a4_28 : decode cJ6_bitCount_0f7a4 28 = .ok (.iadd, 1) := by decide +kernel
theorem dJ6_bitCount_0f7a4_29 : decode cJ6_bitCount_0f7a4 29 = .ok (.ldc_w 267, 3) := by decide +kernel
theorem dJ6_bitCount_0f7a4_32 : decode cJ6_bitCount_0f7a4 32 = .ok (.iand, 1) := by decide +kernel
theorem dJ6_bitCount_0f7a4_33 : decode cJ6_bitCount_0f7a4 33 = .ok (.istore_n 0, 1) := by decide +kernel
theorem dJ6_bitCount_0f7a4_34 : decode cJ6_bitCount_0f7a4 34 = .ok (.iload_n 0, 1) := by decide +kernel
theorem dJ6_bitCount_0f7a4_35 : decode cJ6_bitCount_0f7a4 35 = .ok (.iload_n 0, 1) := by decide +kernel
theorem dJ6_bitCount_0f7a4_36 : decode cJ6_bitCount_0f7a4 36 = .ok (.bipush 8, 2) := by decide +kernel
theorem dJ6_bitCount_0f7a4_38 : decode cJ6_bitCount_0f7a4 38 = .ok (.iushr, 1) := by decide +kernel
theorem dJ6_bitCount_0f7a4_39 : decode cJ6_bitCount_0f7a4 39 = .ok (.iadd, 1) := by decide +kernel
theorem dJ6_bitCount_0f7a4_40 : decode cJ6_bitCount_0f7a4 40 = .ok (.istore_n 0, 1) := by decide +kernel
theorem dJ6_bitCount_0f7a4_41 : decode cJ6_bitCount_0f7a4 41 = .ok (.iload_n 0, 1) := by decide +kernel
theorem dJ6_bitCount_0f7a4_42 : decode cJ6_bitCount_0f7a4 42 = .ok (.iload_n 0, 1) := by decide +kernel
theorem dJ6_bitCount_0f7a4_43 : decode cJ6_bitCount_0f7a4 43 = .ok (.bipush 16, 2) := by decide +kernel
theorem dJ6_bitCount_0f7a4_45 : decode cJ6_bitCount_0f7a4 45 = .ok (.iushr, 1) := by decide +kernel
theorem dJ6_bitCount_0f7a4_46 : decode cJ6_bitCount_0f7a4 46 = .ok (.iadd, 1) := by decide +kernel
theorem dJ6_bitCount_0f7a4_47 : decode cJ6_bitCount_0f7a4 47 = .ok (.istore_n 0, 1) := by decide +kernel
theorem dJ6_bitCount_0f7a4_48 : decode cJ6_bitCount_0f7a4 48 = .ok (.iload_n 0, 1) := by decide +kernel
theorem dJ6_bitCount_0f7a4_49 : decode cJ6_bitCount_0f7a4 49 = .ok (.bipush 63, 2) := by decide +kernel
theorem dJ6_bitCount_0f7a4_51 : decode cJ6_bitCount_0f7a4 51 = .ok (.iand, 1) := by decide +kernel
theorem dJ6_bitCount_0f7a4_52 : decode cJ6_bitCount_0f7a4 52 = .ok (.ireturn, 1) := by decide +kernel
theorem dJ9_max_7cf53_0 : decode cJ9_max_7cf53 0 = .ok (.iload_n 0, 1) := by decide +kernel
theorem dJ9_max_7cf53_1 : decode cJ9_max_7cf53 1 = .ok (.iload_n 1, 1) := by decide +kernel
theorem dJ9_max_7cf53_2 : decode cJ9_max_7cf53 2 = .ok (.if_icmp .lt 7, 3) := by decide +kernel
theorem dJ9_max_7cf53_5 : decode cJ9_max_7cf53 5 = .ok (.iload_n 0, 1) := by decide +kernel
theorem dJ9_max_7cf53_6 : decode cJ9_max_7cf53 6 = .ok (.goto 4, 3) := by decide +kernel
theorem dJ9_max_7cf53_9 : decode cJ9_max_7cf53 9 = .ok (.iload_n 1, 1) := by decide +kernel
theorem dJ9_max_7cf53_10 : decode cJ9_max_7cf53 10 = .ok (.ireturn, 1) := by decide +kernel
theorem dJ9_min_7cf53_0 : decode cJ9_min_7cf53 0 = .ok (.iload_n 0, 1) := by decide +kernel
theorem dJ9_min_7cf53_1 : decode cJ9_min_7cf53 1 = .ok (.iload_n 1, 1) := by decide +kernel
theorem dJ9_min_7cf53_2 : decode cJ9_min_7cf53 2 = .ok (.if_icmp .gt 7, 3) := by decide +kernel
theorem dJ9_min_7cf53_5 : decode cJ9_min_7cf53 5 = .ok (.iload_n 0, 1) := by decide +kernel
theorem dJ9_min_7cf53_6 : decode cJ9_min_7cf53 6 = .ok (.goto 4, 3) := by decide +kernel
theorem dJ9_min_7cf53_9 : decode cJ9_min_7cf53 9 = .ok (.iload_n 1, 1) := by decide +kernel
theorem dJ9_min_7cf53_10 : decode cJ9_min_7cf53 10 = .ok (.ireturn, 1) := by decide +kernel
theorem dJ0_length_8abf5_0 : decode cJ0_length_8abf5 0 = .ok (.aload_n 0, 1) := by decide +kernel
theorem dJ0_length_8abf5_1 : decode cJ0_length_8abf5 1 = .ok (.getfield 9, 3) := by decide +kernel
theorem dJ0_length_8abf5_4 : decode cJ0_length_8abf5 4 = .ok (.arraylength, 1) := by decide +kernel
theorem dJ0_length_8abf5_5 : decode cJ0_length_8abf5 5 = .ok (.aload_n 0, 1) := by decide +kernel
theorem dJ0_length_8abf5_6 : decode cJ0_length_8abf5 6 = .ok (.invokevirtual 335, 3) := by decide +kernel
theorem dJ0_length_8abf5_9 : decode cJ0_length_8abf5 9 = .ok (.ishr, 1) := by decide +kernel
theorem dJ0_length_8abf5_10 : decode cJ0_length_8abf5 10 = .ok (.ireturn, 1) := by decide +kernel
theorem dJ0_charAt_5068e_0 : decode cJ0_charAt_5068e 0 = .ok (.aload_n 0, 1) := by decide +kernel
theorem dJ0_charAt_5068e_1 : decode cJ0_charAt_5068e 1 = .ok (.invokevirtual 492, 3) := by decide +kernel
theorem dJ0_charAt_5068e_4 : decode cJ0_charAt_5068e 4 = .ok (.ifCond .eq 12, 3) := by decide +kernel
theorem dJ0_charAt_5068e_7 : decode cJ0_charAt_5068e 7 = .ok (.aload_n 0, 1) := by decide +kernel
theorem dJ0_charAt_5068e_8 : decode cJ0_charAt_5068e 8 = .ok (.getfield 9, 3) := by decide +kernel
theorem dJ0_charAt_5068e_11 : decode cJ0_charAt_5068e 11 = .ok (.iload_n 1, 1) := by decide +kernel
theorem dJ0_charAt_5068e_12 : decode cJ0_charAt_5068e 12 = .ok (.invokestatic 495, 3) := by decide +kernel
theorem dJ0_charAt_5068e_15 : decode cJ0_charAt_5068e 15 = .ok (.ireturn, 1) := by decide +kernel
theorem dJ0_charAt_5068e_16 : decode cJ0_charAt_5068e 16 = .ok (.aload_n 0, 1) := by decide +kernel
theorem dJ0_charAt_5068e_17 : decode cJ0_charAt_5068e 17 = .ok (.getfield 9, 3) := by decide +kernel
theorem dJ0_charAt_5068e_20 : decode cJ0_charAt_5068e 20 = .ok (.iload_n 1, 1) := by decide +kernel
theorem dJ0_charAt_5068e_21 : decode cJ0_charAt_5068e 21 = .ok (.invokestatic 498, 3) := by decide +kernel
theorem dJ0_charAt_5068e_24 : decode cJ0_charAt_5068e 24 = .ok (.ireturn, 1) := by decide +kernel
theorem dJ0_coder_7d493_0 : decode cJ0_coder_7d493 0 = .ok (.getstatic 38, 3) := by decide +kernel
theorem dJ0_coder_7d493_3 : decode cJ0_coder_7d493 3 = .ok (.ifCond .eq 10, 3) := by decide +kernel
theorem dJ0_coder_7d493_6 : decode cJ0_coder_7d493 6 = .ok (.aload_n 0, 1) := by decide +kernel
theorem dJ0_coder_7d493_7 : decode cJ0_coder_7d493 7 = .ok (.getfield 15, 3) := by decide +kernel
theorem dJ0_coder_7d493_10 : decode cJ0_coder_7d493 10 = .ok (.goto 4, 3) := by decide +kernel
theorem dJ0_coder_7d493_13 : decode cJ0_coder_7d493 13 = .ok (.iconst 1, 1) := by decide +kernel
theorem dJ0_coder_7d493_14 : decode cJ0_coder_7d493 14 = .ok (.ireturn, 1) := by decide +kernel
theorem dJ0_isLatin1_aae02_0 : decode cJ0_isLatin1_aae02 0 = .ok (.getstatic 38, 3) := by decide +kernel
theorem dJ0_isLatin1_aae02_3 : decode cJ0_isLatin1_aae02 3 = .ok (.ifCond .eq 14, 3) := by decide +kernel
theorem dJ0_isLatin1_aae02_6 : decode cJ0_isLatin1_aae02 6 = .ok (.aload_n 0, 1) := by decide +kernel
theorem dJ0_isLatin1_aae02_7 : decode cJ0_isLatin1_aae02 7 = .ok (.getfield 15, 3) := by decide +kernel
theorem dJ0_isLatin1_aae02_10 : decode cJ0_isLatin1_aae02 10 = .ok (.ifCond .ne 7, 3) := by decide +kernel
theorem dJ0_isLatin1_aae02_13 : decode cJ0_isLatin1_aae02 13 = .ok (.iconst 1, 1) := by decide +kernel
theorem dJ0_isLatin1_aae02_14 : decode cJ0_isLatin1_aae02 14 = .ok (.goto 4, 3) := by decide +kernel
theorem dJ0_isLatin1_aae02_17 : decode cJ0_isLatin1_aae02 17 = .ok (.iconst 0, 1) := by decide +kernel
theorem dJ0_isLatin1_aae02_18 : decode cJ0_isLatin1_aae02 18 = .ok (.ireturn, 1) := by decide +kernel
theorem dJ0_checkIndex_df160_0 : decode cJ0_checkIndex_df160 0 = .ok (.iload_n 0, 1) := by decide +kernel
theorem dJ0_checkIndex_df160_1 : decode cJ0_checkIndex_df160 1 = .ok (.iload_n 1, 1) := by decide +kernel
theorem dJ0_checkIndex_df160_2 : decode cJ0_checkIndex_df160 2 = .ok (.getstatic 1053, 3) := by decide +kernel
theorem dJ0_checkIndex_df160_5 : decode cJ0_checkIndex_df160 5 = .ok (.invokestatic 1059, 3) := by decide +kernel
theorem dJ0_checkIndex_df160_8 : decode cJ0_checkIndex_df160 8 = .ok (.pop, 1) := by decide +kernel
theorem dJ0_checkIndex_df160_9 : decode cJ0_checkIndex_df160 9 = .ok (.return_, 1) := by decide +kernel
theorem dJ1_charAt_3b067_0 : decode cJ1_charAt_3b067 0 = .ok (.iload_n 1, 1) := by decide +kernel
theorem dJ1_charAt_3b067_1 : decode cJ1_charAt_3b067 1 = .ok (.aload_n 0, 1) := by decide +kernel
theorem dJ1_charAt_3b067_2 : decode cJ1_charAt_3b067 2 = .ok (.arraylength, 1) := by decide +kernel
theorem dJ1_charAt_3b067_3 : decode cJ1_charAt_3b067 3 = .ok (.invokestatic 9, 3) := by decide +kernel
theorem dJ1_charAt_3b067_6 : decode cJ1_charAt_3b067 6 = .ok (.aload_n 0, 1) := by decide +kernel
theorem dJ1_charAt_3b067_7 : decode cJ1_charAt_3b067 7 = .ok (.iload_n 1, 1) := by decide +kernel
theorem dJ1_charAt_3b067_8 : decode cJ1_charAt_3b067 8 = .ok (.baload, 1) := by decide +kernel
theorem dJ1_charAt_3b067_9 : decode cJ1_charAt_3b067 9 = .ok (.sipush 255, 3) := by decide +kernel
theorem dJ1_charAt_3b067_12 : decode cJ1_charAt_3b067 12 = .ok (.iand, 1) := by decide +kernel
theorem dJ1_charAt_3b067_13 : decode cJ1_charAt_3b067 13 = .ok (.i2c, 1) := by decide +kernel
theorem dJ1_charAt_3b067_14 : decode cJ1_charAt_3b067 14 = .ok (.ireturn, 1) := by decide +kernel
theorem dJ2_getChar_3b067_0 : decode cJ2_getChar_3b067 0 = .ok (.getstatic 44, 3) := by decide +kernel
theorem dJ2_getChar_3b067_3 : decode cJ2_getChar_3b067 3 = .ok (.ifCond .ne 25, 3) := by decide +kernel
theorem dJ2_getChar_3b067_6 : decode cJ2_getChar_3b067 6 = .ok (.iload_n 1, 1) := by decide +kernel
theorem dJ2_getChar_3b067_7 : decode cJ2_getChar_3b067 7 = .ok (.ifCond .lt 11, 3) := by decide +kernel
theorem dJ2_getChar_3b067_10 : decode cJ2_getChar_3b067 10 = .ok (.iload_n 1, 1) := by decide +kernel
theorem dJ2_getChar_3b067_11 : decode cJ2_getChar_3b067 11 = .ok (.aload_n 0, 1) := by decide +kernel
theorem dJ2_getChar_3b067_12 : decode cJ2_getChar_3b067 12 = .ok (.invokestatic 48, 3) := by decide +kernel
theorem dJ2_getChar_3b067_15 : decode cJ2_getChar_3b067 15 = .ok (.if_icmp .lt 13, 3) := by decide +kernel
theorem dJ2_getChar_3b067_18 : decode cJ2_getChar_3b067 18 = .ok (.new 52, 3) := by decide +kernel
theorem dJ2_getChar_3b067_21 : decode cJ2_getChar_3b067 21 = .ok (.dup, 1) := by decide +kernel
theorem dJ2_getChar_3b067_22 : decode cJ2_getChar_3b067 22 = .ok (.ldc 54, 2) := by decide +kernel
theorem dJ2_getChar_3b067_24 : decode cJ2_getChar_3b067 24 = .ok (.invokespecial 56, 3) := by decide +kernel
theorem dJ2_getChar_3b067_27 : decode cJ2_getChar_3b067 27 = .ok (.athrow, 1) := by decide +kernel
theorem dJ2_getChar_3b067_28 : decode cJ2_getChar_3b067 28 = .ok (.iload_n 1, 1) := by decide +kernel
theorem dJ2_getChar_3b067_29 : decode cJ2_getChar_3b067 29 = .ok (.iconst 1, 1) := by decide +kernel
theorem dJ2_getChar_3b067_30 : decode cJ2_getChar_3b067 30 = .ok (.ishl, 1) := by decide +kernel
theorem dJ2_getChar_3b067_31 : decode cJ2_getChar_3b067 31 = .ok (.istore_n 1, 1) := by decide +kernel
theorem dJ2_getChar_3b067_32 : decode cJ2_getChar_3b067 32 = .ok (.aload_n 0, 1) := by decide +kernel
theorem dJ2_getChar_3b067_33 : decode cJ2_getChar_3b067 33 = .ok (.iload_n 1, 1) := by decide +kernel
theorem dJ2_getChar_3b067_34 : decode cJ2_getChar_3b067 34 = .ok (.iinc 1 1, 3) := by decide +kernel
theorem dJ2_getChar_3b067_37 : decode cJ2_getChar_3b067 37 = .ok (.baload, 1) := by decide +kernel
theorem dJ2_getChar_3b067_38 : decode cJ2_getChar_3b067 38 = .ok (.sipush 255, 3) := by decide +kernel
theorem dJ2_getChar_3b067_41 : decode cJ2_getChar_3b067 41 = .ok (.iand, 1) := by decide +kernel
theorem dJ2_getChar_3b067_42 : decode cJ2_getChar_3b067 42 = .ok (.getstatic 59, 3) := by decide +kernel
theorem dJ2_getChar_3b067_45 : decode cJ2_getChar_3b067 45 = .ok (.ishl, 1) := by decide +kernel
theorem dJ2_getChar_3b067_46 : decode cJ2_getChar_3b067 46 = .ok (.aload_n 0, 1) := by decide +kernel
theorem dJ2_getChar_3b067_47 : decode cJ2_getChar_3b067 47 = .ok (.iload_n 1, 1) := by decide +kernel
theorem dJ2_getChar_3b067_48 : decode cJ2_getChar_3b067 48 = .ok (.baload, 1) := by decide +kernel
theorem dJ2_getChar_3b067_49 : decode cJ2_getChar_3b067 49 = .ok (.sipush 255, 3) := by decide +kernel
theorem dJ2_getChar_3b067_52 : decode cJ2_getChar_3b067 52 = .ok (.iand, 1) := by decide +kernel
theorem dJ2_getChar_3b067_53 : decode cJ2_getChar_3b067 53 = .ok (.getstatic 63, 3) := by decide +kernel
theorem dJ2_getChar_3b067_56 : decode cJ2_getChar_3b067 56 = .ok (.ishl, 1) := by decide +kernel
theorem dJ2_getChar_3b067_57 : decode cJ2_getChar_3b067 57 = .ok (.ior, 1) := by decide +kernel
theorem dJ2_getChar_3b067_58 : decode cJ2_getChar_3b067 58 = .ok (.i2c, 1) := by decide +kernel
theorem dJ2_getChar_3b067_59 : decode cJ2_getChar_3b067 59 = .ok (.ireturn, 1) := by decide +kernel
theorem dJ2_length_9d52b_0 : decode cJ2_length_9d52b 0 = .ok (.aload_n 0, 1) := by decide +kernel
theorem dJ2_length_9d52b_1 : decode cJ2_length_9d52b 1 = .ok (.arraylength, 1) := by decide +kernel
theorem dJ2_length_9d52b_2 : decode cJ2_length_9d52b 2 = .ok (.iconst 1, 1) := by decide +kernel
theorem dJ2_length_9d52b_3 : decode cJ2_length_9d52b 3 = .ok (.ishr, 1) := by decide +kernel
theorem dJ2_length_9d52b_4 : decode cJ2_length_9d52b 4 = .ok (.ireturn, 1) := by decide +kernel
theorem dJ2_charAt_3b067_0 : decode cJ2_charAt_3b067 0 = .ok (.iload_n 1, 1) := by decide +kernel
theorem dJ2_charAt_3b067_1 : decode cJ2_charAt_3b067 1 = .ok (.aload_n 0, 1) := by decide +kernel
theorem dJ2_charAt_3b067_2 : decode cJ2_charAt_3b067 2 = .ok (.invokestatic 67, 3) := by decide +kernel
theorem dJ2_charAt_3b067_5 : decode cJ2_charAt_3b067 5 = .ok (.aload_n 0, 1) := by decide +kernel
theorem dJ2_charAt_3b067_6 : decode cJ2_charAt_3b067 6 = .ok (.iload_n 1, 1) := by decide +kernel
theorem dJ2_charAt_3b067_7 : decode cJ2_charAt_3b067 7 = .ok (.invokestatic 71, 3) := by decide +kernel
theorem dJ2_charAt_3b067_10 : decode cJ2_charAt_3b067 10 = .ok (.ireturn, 1) := by decide +kernel
theorem dJ2_checkIndex_2214a_0 : decode cJ2_checkIndex_2214a 0 = .ok (.iload_n 0, 1) := by decide +kernel
theorem dJ2_checkIndex_2214a_1 : decode cJ2_checkIndex_2214a 1 = .ok (.aload_n 1, 1) := by decide +kernel
theorem dJ2_checkIndex_2214a_2 : decode cJ2_checkIndex_2214a 2 = .ok (.invokestatic 48, 3) := by decide +kernel
theorem dJ2_checkIndex_2214a_5 : decode cJ2_checkIndex_2214a 5 = .ok (.invokestatic 414, 3) := by decide +kernel
theorem dJ2_checkIndex_2214a_8 : decode cJ2_checkIndex_2214a 8 = .ok (.return_, 1) := by decide +kernel
theorem dJ7_fill_53178_0 : decode cJ7_fill_53178 0 = .ok (.iconst 0, 1) := by decide +kernel
theorem dJ7_fill_53178_1 : decode cJ7_fill_53178 1 = .ok (.istore_n 2, 1) := by decide +kernel
theorem dJ7_fill_53178_2 : decode cJ7_fill_53178 2 = .ok (.aload_n 0, 1) := by decide +kernel
theorem dJ7_fill_53178_3 : decode cJ7_fill_53178 3 = .ok (.arraylength, 1) := by decide +kernel
theorem dJ7_fill_53178_4 : decode cJ7_fill_53178 4 = .ok (.istore_n 3, 1) := by decide +kernel
theorem dJ7_fill_53178_5 : decode cJ7_fill_53178 5 = .ok (.iload_n 2, 1) := by decide +kernel
theorem dJ7_fill_53178_6 : decode cJ7_fill_53178 6 = .ok (.iload_n 3, 1) := by decide +kernel
theorem dJ7_fill_53178_7 : decode cJ7_fill_53178 7 = .ok (.if_icmp .ge 13, 3) := by decide +kernel
theorem dJ7_fill_53178_10 : decode cJ7_fill_53178 10 = .ok (.aload_n 0, 1) := by decide +kernel
theorem dJ7_fill_53178_11 : decode cJ7_fill_53178 11 = .ok (.iload_n 2, 1) := by decide +kernel
theorem dJ7_fill_53178_12 : decode cJ7_fill_53178 12 = .ok (.iload_n 1, 1) := by decide +kernel
theorem dJ7_fill_53178_13 : decode cJ7_fill_53178 13 = .ok (.iastore, 1) := by decide +kernel
theorem dJ7_fill_53178_14 : decode cJ7_fill_53178 14 = .ok (.iinc 2 1, 3) := by decide +kernel
theorem dJ7_fill_53178_17 : decode cJ7_fill_53178 17 = .ok (.goto (-12), 3) := by decide +kernel
theorem dJ7_fill_53178_20 : decode cJ7_fill_53178 20 = .ok (.return_, 1) := by decide +kernel
theorem dJ3_checkIndex_8e157_0 : decode cJ3_checkIndex_8e157 0 = .ok (.iload_n 0, 1) := by decide +kernel
theorem dJ3_checkIndex_8e157_1 : decode cJ3_checkIndex_8e157 1 = .ok (.ifCond .lt 8, 3) := by decide +kernel
theorem dJ3_checkIndex_8e157_4 : decode cJ3_checkIndex_8e157 4 = .ok (.iload_n 0, 1) := by decide +kernel
theorem dJ3_checkIndex_8e157_5 : decode cJ3_checkIndex_8e157 5 = .ok (.iload_n 1, 1) := by decide +kernel
theorem dJ3_checkIndex_8e157_6 : decode cJ3_checkIndex_8e157 6 = .ok (.if_icmp .lt 10, 3) := by decide +kernel
theorem dJ3_checkIndex_8e157_9 : decode cJ3_checkIndex_8e157 9 = .ok (.aload_n 2, 1) := by decide +kernel
theorem dJ3_checkIndex_8e157_10 : decode cJ3_checkIndex_8e157 10 = .ok (.iload_n 0, 1) := by decide +kernel
theorem dJ3_checkIndex_8e157_11 : decode cJ3_checkIndex_8e157 11 = .ok (.iload_n 1, 1) := by decide +kernel
theorem dJ3_checkIndex_8e157_12 : decode cJ3_checkIndex_8e157 12 = .ok (.invokestatic 95, 3) := by decide +kernel
theorem dJ3_checkIndex_8e157_15 : decode cJ3_checkIndex_8e157 15 = .ok (.athrow, 1) := by decide +kernel
theorem dJ3_checkIndex_8e157_16 : decode cJ3_checkIndex_8e157 16 = .ok (.iload_n 0, 1) := by decide +kernel
theorem dJ3_checkIndex_8e157_17 : decode cJ3_checkIndex_8e157 17 = .ok (.ireturn, 1) := by decide +kernel
