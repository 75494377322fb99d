theorem dX6_init_0 : decode cX6_init 0 = .ok (.aload_n 0, 1) := by decide +kernel
theorem dX6_init_1 : decode cX6_init 1 = .ok (.invokespecial 1, 3) := by decide +kernel
theorem dX6_init_4 : decode cX6_init 4 = .ok (.aload_n 0, 1) := by decide +kernel
theorem dX6_init_5 : decode cX6_init 5 = .ok (.new 7, 3) := by decide +kernel
theorem dX6_init_8 : decode cX6_init 8 = .ok (.dup, 1) := by decide +kernel
theorem dX6_init_9 : decode cX6_init 9 = .ok (.invokespecial 9, 3) := by decide +kernel
theorem dX6_init_12 : decode cX6_init 12 = .ok (.putfield 10, 3) := by decide +kernel
theorem dX6_init_15 : decode cX6_init 15 = .ok (.aload_n 0, 1) := by decide +kernel
theorem dX6_init_16 : decode cX6_init 16 = .ok (.new 7, 3) := by decide +kernel
theorem dX6_init_19 : decode cX6_init 19 = .ok (.dup, 1) := by decide +kernel
theorem dX6_init_20 : decode cX6_init 20 = .ok (.invokespecial 9, 3) := by decide +kernel
theorem dX6_init_23 : decode cX6_init 23 = .ok (.putfield 16, 3) := by decide +kernel
theorem dX6_init_26 : decode cX6_init 26 = .ok (.aload_n 0, 1) := by decide +kernel
theorem dX6_init_27 : decode cX6_init 27 = .ok (.iconst 2, 1) := by decide +kernel
theorem dX6_init_28 : decode cX6_init 28 = .ok (.anewarray 7, 3) := by decide +kernel
theorem dX6_init_31 : decode cX6_init 31 = .ok (.putfield 19, 3) := by decide +kernel
theorem dX6_init_34 : decode cX6_init 34 = .ok (.iconst 0, 1) := by decide +kernel
theorem dX6_init_35 : decode cX6_init 35 = .ok (.istore_n 1, 1) := by decide +kernel
theorem dX6_init_36 : decode cX6_init 36 = .ok (.iload_n 1, 1) := by decide +kernel
theorem dX6_init_37 : decode cX6_init 37 = .ok (.iconst 2, 1) := by decide +kernel
theorem dX6_init_38 : decode cX6_init 38 = .ok (.if_icmp .ge 22, 3) := by decide +kernel
theorem dX6_init_41 : decode cX6_init 41 = .ok (.aload_n 0, 1) := by decide +kernel
theorem dX6_init_42 : decode cX6_init 42 = .ok (.getfield 19, 3) := by decide +kernel
theorem dX6_init_45 : decode cX6_init 45 = .ok (.iload_n 1, 1) := by decide +kernel
theorem dX6_init_46 : decode cX6_init 46 = .ok (.new 7, 3) := by decide +kernel
theorem dX6_init_49 : decode cX6_init 49 = .ok (.dup, 1) := by decide +kernel
theorem dX6_init_50 : decode cX6_init 50 = .ok (.invokespecial 9, 3) := by decide +kernel
theorem dX6_init_53 : decode cX6_init 53 = .ok (.aastore, 1) := by decide +kernel
theorem dX6_init_54 : decode cX6_init 54 = .ok (.iinc 1 1, 3) := by decide +kernel
theorem dX6_init_57 : decode cX6_init 57 = .ok (.goto (-21), 3) := by decide +kernel
theorem dX6_init_60 : decode cX6_init 60 = .ok (.aload_n 0, 1) := by decide +kernel
theorem dX6_init_61 : decode cX6_init 61 = .ok (.new 23, 3) := by decide +kernel
theorem dX6_init_64 : decode cX6_init 64 = .ok (.dup, 1) := by decide +kernel
theorem dX6_init_65 : decode cX6_init 65 = .ok (.invokespecial 25, 3) := by decide +kernel
theorem dX6_init_68 : decode cX6_init 68 = .ok (.putfield 26, 3) := by decide +kernel
theorem dX6_init_71 : decode cX6_init 71 = .ok (.aload_n 0, 1) := by decide +kernel
theorem dX6_init_72 : decode cX6_init 72 = .ok (.new 30, 3) := by decide +kernel
theorem dX6_init_75 : decode cX6_init 75 = .ok (.dup, 1) := by decide +kernel
theorem dX6_init_76 : decode cX6_init 76 = .ok (.aload_n 0, 1) := by decide +kernel
theorem dX6_init_77 : decode cX6_init 77 = .ok (.getfield 26, 3) := by decide +kernel
theorem dX6_init_80 : decode cX6_init 80 = .ok (.invokespecial 32, 3) := by decide +kernel
theorem dX6_init_83 : decode cX6_init 83 = .ok (.putfield 35, 3) := by decide +kernel
theorem dX6_init_86 : decode cX6_init 86 = .ok (.aload_n 0, 1) := by decide +kernel
theorem dX6_init_87 : decode cX6_init 87 = .ok (.new 39, 3) := by decide +kernel
theorem dX6_init_90 : decode cX6_init 90 = .ok (.dup, 1) := by decide +kernel
theorem dX6_init_91 : decode cX6_init 91 = .ok (.invokespecial 41, 3) := by decide +kernel
theorem dX6_init_94 : decode cX6_init 94 = .ok (.putfield 42, 3) := by decide +kernel
theorem dX6_init_97 : decode cX6_init 97 = .ok (.aload_n 0, 1) := by decide +kernel
theorem dX6_init_98 : decode cX6_init 98 = .ok (.new 46, 3) := by decide +kernel
theorem dX6_init_101 : decode cX6_init 101 = .ok (.dup, 1) := by decide +kernel
theorem dX6_init_102 : decode cX6_init 102 = .ok (.invokespecial 48, 3) := by decide +kernel
theorem dX6_init_105 : decode cX6_init 105 = .ok (.putfield 49, 3) := by decide +kernel
theorem dX6_init_108 : decode cX6_init 108 = .ok (.aload_n 0, 1) := by decide +kernel
theorem dX6_init_109 : decode cX6_init 109 = .ok (.bipush 6, 2) := by decide +kernel
theorem dX6_init_111 : decode cX6_init 111 = .ok (.newarray .int, 2) := by decide +kernel
theorem dX6_init_113 : decode cX6_init 113 = .ok (.putfield 53, 3) := by decide +kernel
theorem dX6_init_116 : decode cX6_init 116 = .ok (.aload_n 0, 1) := by decide +kernel
theorem dX6_init_117 : decode cX6_init 117 = .ok (.sipush 384, 3) := by decide +kernel
theorem dX6_init_120 : decode cX6_init 120 = .ok (.newarray .int, 2) := by decide +kernel
theorem dX6_init_122 : decode cX6_init 122 = .ok (.putfield 57, 3) := by decide +kernel
theorem dX6_init_125 : decode cX6_init 125 = .ok (.aload_n 0, 1) := by decide +kernel
theorem dX6_init_126 : decode cX6_init 126 = .ok (.iconst 4, 1) := by decide +kernel
theorem dX6_init_127 : decode cX6_init 127 = .ok (.anewarray 60, 3) := by decide +kernel
theorem dX6_init_130 : decode cX6_init 130 = .ok (.putfield 62, 3) := by decide +kernel
theorem dX6_init_133 : decode cX6_init 133 = .ok (.iconst 0, 1) := by decide +kernel
theorem dX6_init_134 : decode cX6_init 134 = .ok (.istore_n 1, 1) := by decide +kernel
theorem dX6_init_135 : decode cX6_init 135 = .ok (.iload_n 1, 1) := by decide +kernel
theorem dX6_init_136 : decode cX6_init 136 = .ok (.iconst 4, 1) := by decide +kernel
theorem dX6_init_137 : decode cX6_init 137 = .ok (.if_icmp .ge 22, 3) := by decide +kernel
theorem dX6_init_140 : decode cX6_init 140 = .ok (.aload_n 0, 1) := by decide +kernel
theorem dX6_init_141 : decode cX6_init 141 = .ok (.getfield 62, 3) := by decide +kernel
theorem dX6_init_144 : decode cX6_init 144 = .ok (.iload_n 1, 1) := by decide +kernel
theorem dX6_init_145 : decode cX6_init 145 = .ok (.new 60, 3) := by decide +kernel
theorem dX6_init_148 : decode cX6_init 148 = .ok (.dup, 1) := by decide +kernel
theorem dX6_init_149 : decode cX6_init 149 = .ok (.invokespecial 66, 3) := by decide +kernel
theorem dX6_init_152 : decode cX6_init 152 = .ok (.aastore, 1) := by decide +kernel
theorem dX6_init_153 : decode cX6_init 153 = .ok (.iinc 1 1, 3) := by decide +kernel
theorem dX6_init_156 : decode cX6_init 156 = .ok (.goto (-21), 3) := by decide +kernel
theorem dX6_init_159 : decode cX6_init 159 = .ok (.return_, 1) := by decide +kernel
theorem dX6_feed_0 : decode cX6_feed 0 = .ok (.iload_n 1, 1) := by decide +kernel
theorem dX6_feed_1 : decode cX6_feed 1 = .ok (.iconst 0, 1) := by decide +kernel
theorem dX6_feed_2 : decode cX6_feed 2 = .ok (.bipush 127, 2) := by decide +kernel
theorem dX6_feed_4 : decode cX6_feed 4 = .ok (.invokestatic 67, 3) := by decide +kernel
theorem dX6_feed_7 : decode cX6_feed 7 = .ok (.ifCond .ne 5, 3) := by decide +kernel
theorem dX6_feed_10 : decode cX6_feed 10 = .ok (.iconst (-1), 1) := by decide +kernel
theorem dX6_feed_11 : decode cX6_feed 11 = .ok (.ireturn, 1) := by decide +kernel
theorem dX6_feed_12 : decode cX6_feed 12 = .ok (.aload_n 0, 1) := by decide +kernel
theorem dX6_feed_13 : decode cX6_feed 13 = .ok (.getfield 26, 3) := by decide +kernel
theorem dX6_feed_16 : decode cX6_feed 16 = .ok (.iload_n 1, 1) := by decide +kernel
theorem dX6_feed_17 : decode cX6_feed 17 = .ok (.invokevirtual 71, 3) := by decide +kernel
theorem dX6_feed_20 : decode cX6_feed 20 = .ok (.ifCond .eq 13, 3) := by decide +kernel
theorem dX6_feed_23 : decode cX6_feed 23 = .ok (.aload_n 0, 1) := by decide +kernel
theorem dX6_feed_24 : decode cX6_feed 24 = .ok (.getfield 26, 3) := by decide +kernel
theorem dX6_feed_27 : decode cX6_feed 27 = .ok (.getfield 75, 3) := by decide +kernel
theorem dX6_feed_30 : decode cX6_feed 30 = .ok (.goto 5, 3) := by decide +kernel
theorem dX6_feed_33 : decode cX6_feed 33 = .ok (.bipush (-3), 2) := by decide +kernel
theorem dX6_feed_35 : decode cX6_feed 35 = .ok (.ireturn, 1) := by decide +kernel
theorem dX6_end_0 : decode cX6_end 0 = .ok (.iload_n 1, 1) := by decide +kernel
theorem dX6_end_1 : decode cX6_end 1 = .ok (.iconst 0, 1) := by decide +kernel
theorem dX6_end_2 : decode cX6_end 2 = .ok (.aload_n 0, 1) := by decide +kernel
theorem dX6_end_3 : decode cX6_end 3 = .ok (.getfield 26, 3) := by decide +kernel
theorem dX6_end_6 : decode cX6_end 6 = .ok (.getfield 75, 3) := by decide +kernel
theorem dX6_end_9 : decode cX6_end 9 = .ok (.invokestatic 67, 3) := by decide +kernel
theorem dX6_end_12 : decode cX6_end 12 = .ok (.ifCond .ne 5, 3) := by decide +kernel
theorem dX6_end_15 : decode cX6_end 15 = .ok (.iconst (-1), 1) := by decide +kernel
theorem dX6_end_16 : decode cX6_end 16 = .ok (.ireturn, 1) := by decide +kernel
theorem dX6_end_17 : decode cX6_end 17 = .ok (.aload_n 0, 1) := by decide +kernel
theorem dX6_end_18 : decode cX6_end 18 = .ok (.getfield 26, 3) := by decide +kernel
theorem dX6_end_21 : decode cX6_end 21 = .ok (.getfield 75, 3) := by decide +kernel
theorem dX6_end_24 : decode cX6_end 24 = .ok (.istore_n 2, 1) := by decide +kernel
theorem dX6_end_25 : decode cX6_end 25 = .ok (.aload_n 0, 1) := by decide +kernel
theorem dX6_end_26 : decode cX6_end 26 = .ok (.getfield 26, 3) := by decide +kernel
theorem dX6_end_29 : decode cX6_end 29 = .ok (.iload_n 1, 1) := by decide +kernel
theorem dX6_end_30 : decode cX6_end 30 = .ok (.putfield 75, 3) := by decide +kernel
theorem dX6_end_33 : decode cX6_end 33 = .ok (.iload_n 2, 1) := by decide +kernel
theorem dX6_end_34 : decode cX6_end 34 = .ok (.ireturn, 1) := by decide +kernel
theorem dX6_text_0 : decode cX6_text 0 = .ok (.aload_n 0, 1) := by decide +kernel
theorem dX6_text_1 : decode cX6_text 1 = .ok (.getfield 35, 3) := by decide +kernel
theorem dX6_text_4 : decode cX6_text 4 = .ok (.invokevirtual 79, 3) := by decide +kernel
theorem dX6_text_7 : decode cX6_text 7 = .ok (.istore_n 1, 1) := by decide +kernel
theorem dX6_text_8 : decode cX6_text 8 = .ok (.aload_n 0, 1) := by decide +kernel
theorem dX6_text_9 : decode cX6_text 9 = .ok (.getfield 26, 3) := by decide +kernel
theorem dX6_text_12 : decode cX6_text 12 = .ok (.iconst 0, 1) := by decide +kernel
theorem dX6_text_13 : decode cX6_text 13 = .ok (.putfield 75, 3) := by decide +kernel
theorem dX6_text_16 : decode cX6_text 16 = .ok (.iload_n 1, 1) := by decide +kernel
theorem dX6_text_17 : decode cX6_text 17 = .ok (.ifCond .lt 22, 3) := by decide +kernel
theorem dX6_text_20 : decode cX6_text 20 = .ok (.aload_n 0, 1) := by decide +kernel
theorem dX6_text_21 : decode cX6_text 21 = .ok (.getfield 10, 3) := by decide +kernel
theorem dX6_text_24 : decode cX6_text 24 = .ok (.aload_n 0, 1) := by decide +kernel
theorem dX6_text_25 : decode cX6_text 25 = .ok (.getfield 35, 3) := by decide +kernel
theorem dX6_text_28 : decode cX6_text 28 = .ok (.getfield 83, 3) := by decide +kernel
theorem dX6_text_31 : decode cX6_text 31 = .ok (.invokevirtual 86, 3) := by decide +kernel
theorem dX6_text_34 : decode cX6_text 34 = .ok (.aload_n 0, 1) := by decide +kernel
theorem dX6_text_35 : decode cX6_text 35 = .ok (.iconst 0, 1) := by decide +kernel
theorem dX6_text_36 : decode cX6_text 36 = .ok (.putfield 90, 3) := by decide +kernel
theorem dX6_text_39 : decode cX6_text 39 = .ok (.iload_n 1, 1) := by decide +kernel
theorem dX6_text_40 : decode cX6_text 40 = .ok (.ireturn, 1) := by decide +kernel
theorem dX6_fault_0 : decode cX6_fault 0 = .ok (.aload_n 0, 1) := by decide +kernel
theorem dX6_fault_1 : decode cX6_fault 1 = .ok (.getfield 35, 3) := by decide +kernel
theorem dX6_fault_4 : decode cX6_fault 4 = .ok (.getfield 93, 3) := by decide +kernel
theorem dX6_fault_7 : decode cX6_fault 7 = .ok (.ireturn, 1) := by decide +kernel
theorem dX6_rule_0 : decode cX6_rule 0 = .ok (.iload_n 1, 1) := by decide +kernel
theorem dX6_rule_1 : decode cX6_rule 1 = .ok (.iconst 0, 1) := by decide +kernel
theorem dX6_rule_2 : decode cX6_rule 2 = .ok (.bipush 7, 2) := by decide +kernel
theorem dX6_rule_4 : decode cX6_rule 4 = .ok (.invokestatic 67, 3) := by decide +kernel
theorem dX6_rule_7 : decode cX6_rule 7 = .ok (.ifCond .ne 5, 3) := by decide +kernel
theorem dX6_rule_10 : decode cX6_rule 10 = .ok (.iconst (-1), 1) := by decide +kernel
theorem dX6_rule_11 : decode cX6_rule 11 = .ok (.ireturn, 1) := by decide +kernel
theorem dX6_rule_12 : decode cX6_rule 12 = .ok (.iload_n 1, 1) := by decide +kernel
theorem dX6_rule_13 : decode cX6_rule 13 = .ok (.bipush 6, 2) := by decide +kernel
theorem dX6_rule_15 : decode cX6_rule 15 = .ok (.if_icmp .ne 11, 3) := by decide +kernel
theorem dX6_rule_18 : decode cX6_rule 18 = .ok (.aload_n 0, 1) := by decide +kernel
theorem dX6_rule_19 : decode cX6_rule 19 = .ok (.getfield 10, 3) := by decide +kernel
theorem dX6_rule_22 : decode cX6_rule 22 = .ok (.getfield 96, 3) := by decide +kernel
theorem dX6_rule_25 : decode cX6_rule 25 = .ok (.ireturn, 1) := by decide +kernel
theorem dX6_rule_26 : decode cX6_rule 26 = .ok (.iload_n 1, 1) := by decide +kernel
theorem dX6_rule_27 : decode cX6_rule 27 = .ok (.bipush 7, 2) := by decide +kernel
theorem dX6_rule_29 : decode cX6_rule 29 = .ok (.if_icmp .ne 13, 3) := by decide +kernel
theorem dX6_rule_32 : decode cX6_rule 32 = .ok (.aload_n 0, 1) := by decide +kernel
theorem dX6_rule_33 : decode cX6_rule 33 = .ok (.getfield 10, 3) := by decide +kernel
theorem dX6_rule_36 : decode cX6_rule 36 = .ok (.getfield 99, 3) := by decide +kernel
theorem dX6_rule_39 : decode cX6_rule 39 = .ok (.goto 12, 3) := by decide +kernel
theorem dX6_rule_42 : decode cX6_rule 42 = .ok (.aload_n 0, 1) := by decide +kernel
theorem dX6_rule_43 : decode cX6_rule 43 = .ok (.getfield 10, 3) := by decide +kernel
theorem dX6_rule_46 : decode cX6_rule 46 = .ok (.getfield 102, 3) := by decide +kernel
theorem dX6_rule_49 : decode cX6_rule 49 = .ok (.iload_n 1, 1) := by decide +kernel
theorem dX6_rule_50 : decode cX6_rule 50 = .ok (.iaload, 1) := by decide +kernel
theorem dX6_rule_51 : decode cX6_rule 51 = .ok (.ireturn, 1) := by decide +kernel
theorem dX6_boat_0 : decode cX6_boat 0 = .ok (.aload_n 0, 1) := by decide +kernel
theorem dX6_boat_1 : decode cX6_boat 1 = .ok (.iload_n 1, 1) := by decide +kernel
theorem dX6_boat_2 : decode cX6_boat 2 = .ok (.invokevirtual 105, 3) := by decide +kernel
theorem dX6_boat_5 : decode cX6_boat 5 = .ok (.ifCond .eq 13, 3) := by decide +kernel
theorem dX6_boat_8 : decode cX6_boat 8 = .ok (.iload_n 2, 1) := by decide +kernel
theorem dX6_boat_9 : decode cX6_boat 9 = .ok (.iconst 0, 1) := by decide +kernel
theorem dX6_boat_10 : decode cX6_boat 10 = .ok (.bipush 6, 2) := by decide +kernel
theorem dX6_boat_12 : decode cX6_boat 12 = .ok (.invokestatic 67, 3) := by decide +kernel
theorem dX6_boat_15 : decode cX6_boat 15 = .ok (.ifCond .ne 5, 3) := by decide +kernel
theorem dX6_boat_18 : decode cX6_boat 18 = .ok (.iconst (-1), 1) := by decide +kernel
theorem dX6_boat_19 : decode cX6_boat 19 = .ok (.ireturn, 1) := by decide +kernel
theorem dX6_boat_20 : decode cX6_boat 20 = .ok (.iload_n 2, 1) := by decide +kernel
theorem dX6_boat_21 : decode cX6_boat 21 = .ok (.iconst 5, 1) := by decide +kernel
theorem dX6_boat_22 : decode cX6_boat 22 = .ok (.if_icmp .ne 15, 3) := by decide +kernel
theorem dX6_boat_25 : decode cX6_boat 25 = .ok (.aload_n 0, 1) := by decide +kernel
theorem dX6_boat_26 : decode cX6_boat 26 = .ok (.getfield 10, 3) := by decide +kernel
theorem dX6_boat_29 : decode cX6_boat 29 = .ok (.getfield 99, 3) := by decide +kernel
theorem dX6_boat_32 : decode cX6_boat 32 = .ok (.iload_n 1, 1) := by decide +kernel
theorem dX6_boat_33 : decode cX6_boat 33 = .ok (.ishr, 1) := by decide +kernel
theorem dX6_boat_34 : decode cX6_boat 34 = .ok (.iconst 1, 1) := by decide +kernel
theorem dX6_boat_35 : decode cX6_boat 35 = .ok (.iand, 1) := by decide +kernel
theorem dX6_boat_36 : decode cX6_boat 36 = .ok (.ireturn, 1) := by decide +kernel
theorem dX6_boat_37 : decode cX6_boat 37 = .ok (.iload_n 2, 1) := by decide +kernel
theorem dX6_boat_38 : decode cX6_boat 38 = .ok (.bipush 6, 2) := by decide +kernel
theorem dX6_boat_40 : decode cX6_boat 40 = .ok (.if_icmp .ne 14, 3) := by decide +kernel
theorem dX6_boat_43 : decode cX6_boat 43 = .ok (.aload_n 0, 1) := by decide +kernel
theorem dX6_boat_44 : decode cX6_boat 44 = .ok (.getfield 10, 3) := by decide +kernel
theorem dX6_boat_47 : decode cX6_boat 47 = .ok (.iload_n 1, 1) := by decide +kernel
theorem dX6_boat_48 : decode cX6_boat 48 = .ok (.invokevirtual 108, 3) := by decide +kernel
theorem dX6_boat_51 : decode cX6_boat 51 = .ok (.goto 12, 3) := by decide +kernel
theorem dX6_boat_54 : decode cX6_boat 54 = .ok (.aload_n 0, 1) := by decide +kernel
theorem dX6_boat_55 : decode cX6_boat 55 = .ok (.getfield 10, 3) := by decide +kernel
theorem dX6_boat_58 : decode cX6_boat 58 = .ok (.iload_n 1, 1) := by decide +kernel
theorem dX6_boat_59 : decode cX6_boat 59 = .ok (.iload_n 2, 1) := by decide +kernel
theorem dX6_boat_60 : decode cX6_boat 60 = .ok (.invokevirtual 112, 3) := by decide +kernel
theorem dX6_boat_63 : decode cX6_boat 63 = .ok (.ireturn, 1) := by decide +kernel
theorem dX6_set_0 : decode cX6_set 0 = .ok (.iload_n 1, 1) := by decide +kernel
theorem dX6_set_1 : decode cX6_set 1 = .ok (.iconst 0, 1) := by decide +kernel
theorem dX6_set_2 : decode cX6_set 2 = .ok (.iconst 5, 1) := by decide +kernel
theorem dX6_set_3 : decode cX6_set 3 = .ok (.invokestatic 67, 3) := by decide +kernel
theorem dX6_set_6 : decode cX6_set 6 = .ok (.ifCond .eq 20, 3) := by decide +kernel
theorem dX6_set_9 : decode cX6_set 9 = .ok (.iload_n 2, 1) := by decide +kernel
theorem dX6_set_10 : decode cX6_set 10 = .ok (.getstatic 116, 3) := by decide +kernel
theorem dX6_set_13 : decode cX6_set 13 = .ok (.iload_n 1, 1) := by decide +kernel
theorem dX6_set_14 : decode cX6_set 14 = .ok (.iaload, 1) := by decide +kernel
theorem dX6_set_15 : decode cX6_set 15 = .ok (.getstatic 119, 3) := by decide +kernel
theorem dX6_set_18 : decode cX6_set 18 = .ok (.iload_n 1, 1) := by decide +kernel
theorem dX6_set_19 : decode cX6_set 19 = .ok (.iaload, 1) := by decide +kernel
theorem dX6_set_20 : decode cX6_set 20 = .ok (.invokestatic 67, 3) := by decide +kernel
theorem dX6_set_23 : decode cX6_set 23 = .ok (.ifCond .ne 5, 3) := by decide +kernel
theorem dX6_set_26 : decode cX6_set 26 = .ok (.iconst (-1), 1) := by decide +kernel
theorem dX6_set_27 : decode cX6_set 27 = .ok (.ireturn, 1) := by decide +kernel
theorem dX6_set_28 : decode cX6_set 28 = .ok (.aload_n 0, 1) := by decide +kernel
theorem dX6_set_29 : decode cX6_set 29 = .ok (.getfield 10, 3) := by decide +kernel
theorem dX6_set_32 : decode cX6_set 32 = .ok (.getfield 102, 3) := by decide +kernel
theorem dX6_set_35 : decode cX6_set 35 = .ok (.iload_n 1, 1) := by decide +kernel
theorem dX6_set_36 : decode cX6_set 36 = .ok (.iaload, 1) := by decide +kernel
theorem dX6_set_37 : decode cX6_set 37 = .ok (.istore_n 3, 1) := by decide +kernel
theorem dX6_set_38 : decode cX6_set 38 = .ok (.aload_n 0, 1) := by decide +kernel
theorem dX6_set_39 : decode cX6_set 39 = .ok (.getfield 10, 3) := by decide +kernel
theorem dX6_set_42 : decode cX6_set 42 = .ok (.getfield 102, 3) := by decide +kernel
theorem dX6_set_45 : decode cX6_set 45 = .ok (.iload_n 1, 1) := by decide +kernel
theorem dX6_set_46 : decode cX6_set 46 = .ok (.iload_n 2, 1) := by decide +kernel
theorem dX6_set_47 : decode cX6_set 47 = .ok (.iastore, 1) := by decide +kernel
theorem dX6_set_48 : decode cX6_set 48 = .ok (.iload_n 3, 1) := by decide +kernel
theorem dX6_set_49 : decode cX6_set 49 = .ok (.ireturn, 1) := by decide +kernel
theorem dX6_alter_0 : decode cX6_alter 0 = .ok (.aload_n 0, 1) := by decide +kernel
theorem dX6_alter_1 : decode cX6_alter 1 = .ok (.iload_n 1, 1) := by decide +kernel
theorem dX6_alter_2 : decode cX6_alter 2 = .ok (.invokevirtual 105, 3) := by decide +kernel
theorem dX6_alter_5 : decode cX6_alter 5 = .ok (.ifCond .eq 25, 3) := by decide +kernel
theorem dX6_alter_8 : decode cX6_alter 8 = .ok (.iload_n 2, 1) := by decide +kernel
theorem dX6_alter_9 : decode cX6_alter 9 = .ok (.iconst 1, 1) := by decide +kernel
theorem dX6_alter_10 : decode cX6_alter 10 = .ok (.iconst 4, 1) := by decide +kernel
theorem dX6_alter_11 : decode cX6_alter 11 = .ok (.invokestatic 67, 3) := by decide +kernel
theorem dX6_alter_14 : decode cX6_alter 14 = .ok (.ifCond .eq 16, 3) := by decide +kernel
theorem dX6_alter_17 : decode cX6_alter 17 = .ok (.iload_n 3, 1) := by decide +kernel
theorem dX6_alter_18 : decode cX6_alter 18 = .ok (.iconst 0, 1) := by decide +kernel
theorem dX6_alter_19 : decode cX6_alter 19 = .ok (.getstatic 122, 3) := by decide +kernel
theorem dX6_alter_22 : decode cX6_alter 22 = .ok (.iload_n 2, 1) := by decide +kernel
theorem dX6_alter_23 : decode cX6_alter 23 = .ok (.iaload, 1) := by decide +kernel
theorem dX6_alter_24 : decode cX6_alter 24 = .ok (.invokestatic 67, 3) := by decide +kernel
theorem dX6_alter_27 : decode cX6_alter 27 = .ok (.ifCond .ne 5, 3) := by decide +kernel
theorem dX6_alter_30 : decode cX6_alter 30 = .ok (.iconst (-1), 1) := by decide +kernel
theorem dX6_alter_31 : decode cX6_alter 31 = .ok (.ireturn, 1) := by decide +kernel
theorem dX6_alter_32 : decode cX6_alter 32 = .ok (.aload_n 0, 1) := by decide +kernel
theorem dX6_alter_33 : decode cX6_alter 33 = .ok (.getfield 10, 3) := by decide +kernel
theorem dX6_alter_36 : decode cX6_alter 36 = .ok (.iload_n 1, 1) := by decide +kernel
theorem dX6_alter_37 : decode cX6_alter 37 = .ok (.iload_n 2, 1) := by decide +kernel
theorem dX6_alter_38 : decode cX6_alter 38 = .ok (.invokevirtual 112, 3) := by decide +kernel
theorem dX6_alter_41 : decode cX6_alter 41 = .ok (.istore 4, 2) := by decide +kernel
theorem dX6_alter_43 : decode cX6_alter 43 = .ok (.aload_n 0, 1) := by decide +kernel
theorem dX6_alter_44 : decode cX6_alter 44 = .ok (.getfield 10, 3) := by decide +kernel
theorem dX6_alter_47 : decode cX6_alter 47 = .ok (.iload_n 1, 1) := by decide +kernel
theorem dX6_alter_48 : decode cX6_alter 48 = .ok (.iload_n 2, 1) := by decide +kernel
theorem dX6_alter_49 : decode cX6_alter 49 = .ok (.iload_n 3, 1) := by decide +kernel
theorem dX6_alter_50 : decode cX6_alter 50 = .ok (.invokevirtual 125, 3) := by decide +kernel
theorem dX6_alter_53 : decode cX6_alter 53 = .ok (.iload 4, 2) := by decide +kernel
theorem dX6_alter_55 : decode cX6_alter 55 = .ok (.ireturn, 1) := by decide +kernel
theorem dX6_lie_0 : decode cX6_lie 0 = .ok (.aload_n 0, 1) := by decide +kernel
theorem dX6_lie_1 : decode cX6_lie 1 = .ok (.iload_n 1, 1) := by decide +kernel
theorem dX6_lie_2 : decode cX6_lie 2 = .ok (.invokevirtual 105, 3) := by decide +kernel
theorem dX6_lie_5 : decode cX6_lie 5 = .ok (.ifCond .ne 5, 3) := by decide +kernel
theorem dX6_lie_8 : decode cX6_lie 8 = .ok (.iconst (-1), 1) := by decide +kernel
theorem dX6_lie_9 : decode cX6_lie 9 = .ok (.ireturn, 1) := by decide +kernel
theorem dX6_lie_10 : decode cX6_lie 10 = .ok (.aload_n 0, 1) := by decide +kernel
theorem dX6_lie_11 : decode cX6_lie 11 = .ok (.getfield 10, 3) := by decide +kernel
theorem dX6_lie_14 : decode cX6_lie 14 = .ok (.getfield 99, 3) := by decide +kernel
theorem dX6_lie_17 : decode cX6_lie 17 = .ok (.iload_n 1, 1) := by decide +kernel
theorem dX6_lie_18 : decode cX6_lie 18 = .ok (.ishr, 1) := by decide +kernel
theorem dX6_lie_19 : decode cX6_lie 19 = .ok (.iconst 1, 1) := by decide +kernel
theorem dX6_lie_20 : decode cX6_lie 20 = .ok (.iand, 1) := by decide +kernel
theorem dX6_lie_21 : decode cX6_lie 21 = .ok (.istore_n 3, 1) := by decide +kernel
theorem dX6_lie_22 : decode cX6_lie 22 = .ok (.aload_n 0, 1) := by decide +kernel
theorem dX6_lie_23 : decode cX6_lie 23 = .ok (.getfield 10, 3) := by decide +kernel
theorem dX6_lie_26 : decode cX6_lie 26 = .ok (.iload_n 2, 1) := by decide +kernel
theorem dX6_lie_27 : decode cX6_lie 27 = .ok (.ifCond .eq 17, 3) := by decide +kernel
theorem dX6_lie_30 : decode cX6_lie 30 = .ok (.aload_n 0, 1) := by decide +kernel
theorem dX6_lie_31 : decode cX6_lie 31 = .ok (.getfield 10, 3) := by decide +kernel
theorem dX6_lie_34 : decode cX6_lie 34 = .ok (.getfield 99, 3) := by decide +kernel
theorem dX6_lie_37 : decode cX6_lie 37 = .ok (.iconst 1, 1) := by decide +kernel
theorem dX6_lie_38 : decode cX6_lie 38 = .ok (.iload_n 1, 1) := by decide +kernel
theorem dX6_lie_39 : decode cX6_lie 39 = .ok (.ishl, 1) := by decide +kernel
theorem dX6_lie_40 : decode cX6_lie 40 = .ok (.ior, 1) := by decide +kernel
theorem dX6_lie_41 : decode cX6_lie 41 = .ok (.goto 16, 3) := by decide +kernel
theorem dX6_lie_44 : decode cX6_lie 44 = .ok (.aload_n 0, 1) := by decide +kernel
theorem dX6_lie_45 : decode cX6_lie 45 = .ok (.getfield 10, 3) := by decide +kernel
theorem dX6_lie_48 : decode cX6_lie 48 = .ok (.getfield 99, 3) := by decide +kernel
theorem dX6_lie_51 : decode cX6_lie 51 = .ok (.iconst 1, 1) := by decide +kernel
theorem dX6_lie_52 : decode cX6_lie 52 = .ok (.iload_n 1, 1) := by decide +kernel
theorem dX6_lie_53 : decode cX6_lie 53 = .ok (.ishl, 1) := by decide +kernel
theorem dX6_lie_54 : decode cX6_lie 54 = .ok (.iconst (-1), 1) := by decide +kernel
theorem dX6_lie_55 : decode cX6_lie 55 = .ok (.ixor, 1) := by decide +kernel
theorem dX6_lie_56 : decode cX6_lie 56 = .ok (.iand, 1) := by decide +kernel
theorem dX6_lie_57 : decode cX6_lie 57 = .ok (.putfield 99, 3) := by decide +kernel
theorem dX6_lie_60 : decode cX6_lie 60 = .ok (.iload_n 3, 1) := by decide +kernel
theorem dX6_lie_61 : decode cX6_lie 61 = .ok (.ireturn, 1) := by decide +kernel
theorem dX6_cross_0 : decode cX6_cross 0 = .ok (.aload_n 0, 1) := by decide +kernel
theorem dX6_cross_1 : decode cX6_cross 1 = .ok (.iload_n 1, 1) := by decide +kernel
theorem dX6_cross_2 : decode cX6_cross 2 = .ok (.invokevirtual 105, 3) := by decide +kernel
theorem dX6_cross_5 : decode cX6_cross 5 = .ok (.ifCond .ne 5, 3) := by decide +kernel
theorem dX6_cross_8 : decode cX6_cross 8 = .ok (.iconst (-1), 1) := by decide +kernel
theorem dX6_cross_9 : decode cX6_cross 9 = .ok (.ireturn, 1) := by decide +kernel
theorem dX6_cross_10 : decode cX6_cross 10 = .ok (.aload_n 0, 1) := by decide +kernel
theorem dX6_cross_11 : decode cX6_cross 11 = .ok (.getfield 10, 3) := by decide +kernel
theorem dX6_cross_14 : decode cX6_cross 14 = .ok (.iload_n 1, 1) := by decide +kernel
theorem dX6_cross_15 : decode cX6_cross 15 = .ok (.iconst 0, 1) := by decide +kernel
theorem dX6_cross_16 : decode cX6_cross 16 = .ok (.invokevirtual 112, 3) := by decide +kernel
theorem dX6_cross_19 : decode cX6_cross 19 = .ok (.istore_n 2, 1) := by decide +kernel
theorem dX6_cross_20 : decode cX6_cross 20 = .ok (.aload_n 0, 1) := by decide +kernel
theorem dX6_cross_21 : decode cX6_cross 21 = .ok (.getfield 10, 3) := by decide +kernel
theorem dX6_cross_24 : decode cX6_cross 24 = .ok (.iload_n 1, 1) := by decide +kernel
theorem dX6_cross_25 : decode cX6_cross 25 = .ok (.iconst 0, 1) := by decide +kernel
theorem dX6_cross_26 : decode cX6_cross 26 = .ok (.iload_n 2, 1) := by decide +kernel
theorem dX6_cross_27 : decode cX6_cross 27 = .ok (.invokestatic 129, 3) := by decide +kernel
theorem dX6_cross_30 : decode cX6_cross 30 = .ok (.invokevirtual 125, 3) := by decide +kernel
theorem dX6_cross_33 : decode cX6_cross 33 = .ok (.iload_n 2, 1) := by decide +kernel
theorem dX6_cross_34 : decode cX6_cross 34 = .ok (.ireturn, 1) := by decide +kernel
theorem dX6_passes_0 : decode cX6_passes 0 = .ok (.aload_n 0, 1) := by decide +kernel
theorem dX6_passes_1 : decode cX6_passes 1 = .ok (.iload_n 1, 1) := by decide +kernel
theorem dX6_passes_2 : decode cX6_passes 2 = .ok (.invokevirtual 105, 3) := by decide +kernel
theorem dX6_passes_5 : decode cX6_passes 5 = .ok (.ifCond .ne 5, 3) := by decide +kernel
theorem dX6_passes_8 : decode cX6_passes 8 = .ok (.iconst (-1), 1) := by decide +kernel
theorem dX6_passes_9 : decode cX6_passes 9 = .ok (.ireturn, 1) := by decide +kernel
theorem dX6_passes_10 : decode cX6_passes 10 = .ok (.aload_n 0, 1) := by decide +kernel
theorem dX6_passes_11 : decode cX6_passes 11 = .ok (.aload_n 0, 1) := by decide +kernel
theorem dX6_passes_12 : decode cX6_passes 12 = .ok (.getfield 10, 3) := by decide +kernel
theorem dX6_passes_15 : decode cX6_passes 15 = .ok (.invokevirtual 132, 3) := by decide +kernel
theorem dX6_passes_18 : decode cX6_passes 18 = .ok (.aload_n 0, 1) := by decide +kernel
theorem dX6_passes_19 : decode cX6_passes 19 = .ok (.getfield 42, 3) := by decide +kernel
theorem dX6_passes_22 : decode cX6_passes 22 = .ok (.getfield 135, 3) := by decide +kernel
theorem dX6_passes_25 : decode cX6_passes 25 = .ok (.iload_n 1, 1) := by decide +kernel
theorem dX6_passes_26 : decode cX6_passes 26 = .ok (.iaload, 1) := by decide +kernel
theorem dX6_passes_27 : decode cX6_passes 27 = .ok (.ireturn, 1) := by decide +kernel
theorem dX6_through_0 : decode cX6_through 0 = .ok (.aload_n 0, 1) := by decide +kernel
theorem dX6_through_1 : decode cX6_through 1 = .ok (.iload_n 1, 1) := by decide +kernel
theorem dX6_through_2 : decode cX6_through 2 = .ok (.invokevirtual 105, 3) := by decide +kernel
theorem dX6_through_5 : decode cX6_through 5 = .ok (.ifCond .ne 5, 3) := by decide +kernel
theorem dX6_through_8 : decode cX6_through 8 = .ok (.iconst (-1), 1) := by decide +kernel
theorem dX6_through_9 : decode cX6_through 9 = .ok (.ireturn, 1) := by decide +kernel
theorem dX6_through_10 : decode cX6_through 10 = .ok (.aload_n 0, 1) := by decide +kernel
theorem dX6_through_11 : decode cX6_through 11 = .ok (.aload_n 0, 1) := by decide +kernel
theorem dX6_through_12 : decode cX6_through 12 = .ok (.getfield 10, 3) := by decide +kernel
theorem dX6_through_15 : decode cX6_through 15 = .ok (.invokevirtual 132, 3) := by decide +kernel
theorem dX6_through_18 : decode cX6_through 18 = .ok (.aload_n 0, 1) := by decide +kernel
theorem dX6_through_19 : decode cX6_through 19 = .ok (.getfield 42, 3) := by decide +kernel
theorem dX6_through_22 : decode cX6_through 22 = .ok (.getfield 138, 3) := by decide +kernel
theorem dX6_through_25 : decode cX6_through 25 = .ok (.iload_n 1, 1) := by decide +kernel
theorem dX6_through_26 : decode cX6_through 26 = .ok (.iaload, 1) := by decide +kernel
theorem dX6_through_27 : decode cX6_through 27 = .ok (.ireturn, 1) := by decide +kernel
theorem dX6_stood_0 : decode cX6_stood 0 = .ok (.aload_n 0, 1) := by decide +kernel
theorem dX6_stood_1 : decode cX6_stood 1 = .ok (.iload_n 1, 1) := by decide +kernel
theorem dX6_stood_2 : decode cX6_stood 2 = .ok (.invokevirtual 105, 3) := by decide +kernel
theorem dX6_stood_5 : decode cX6_stood 5 = .ok (.ifCond .ne 5, 3) := by decide +kernel
theorem dX6_stood_8 : decode cX6_stood 8 = .ok (.iconst (-1), 1) := by decide +kernel
theorem dX6_stood_9 : decode cX6_stood 9 = .ok (.ireturn, 1) := by decide +kernel
theorem dX6_stood_10 : decode cX6_stood 10 = .ok (.aload_n 0, 1) := by decide +kernel
theorem dX6_stood_11 : decode cX6_stood 11 = .ok (.aload_n 0, 1) := by decide +kernel
theorem dX6_stood_12 : decode cX6_stood 12 = .ok (.getfield 10, 3) := by decide +kernel
theorem dX6_stood_15 : decode cX6_stood 15 = .ok (.invokevirtual 132, 3) := by decide +kernel
theorem dX6_stood_18 : decode cX6_stood 18 = .ok (.aload_n 0, 1) := by decide +kernel
theorem dX6_stood_19 : decode cX6_stood 19 = .ok (.getfield 42, 3) := by decide +kernel
theorem dX6_stood_22 : decode cX6_stood 22 = .ok (.getfield 141, 3) := by decide +kernel
theorem dX6_stood_25 : decode cX6_stood 25 = .ok (.iload_n 1, 1) := by decide +kernel
theorem dX6_stood_26 : decode cX6_stood 26 = .ok (.iaload, 1) := by decide +kernel
theorem dX6_stood_27 : decode cX6_stood 27 = .ok (.ireturn, 1) := by decide +kernel
theorem dX6_day_0 : decode cX6_day 0 = .ok (.aload_n 0, 1) := by decide +kernel
theorem dX6_day_1 : decode cX6_day 1 = .ok (.aload_n 0, 1) := by decide +kernel
theorem dX6_day_2 : decode cX6_day 2 = .ok (.getfield 10, 3) := by decide +kernel
theorem dX6_day_5 : decode cX6_day 5 = .ok (.getfield 102, 3) := by decide +kernel
theorem dX6_day_8 : decode cX6_day 8 = .ok (.iconst 3, 1) := by decide +kernel
theorem dX6_day_9 : decode cX6_day 9 = .ok (.iaload, 1) := by decide +kernel
theorem dX6_day_10 : decode cX6_day 10 = .ok (.iload_n 1, 1) := by decide +kernel
theorem dX6_day_11 : decode cX6_day 11 = .ok (.invokevirtual 144, 3) := by decide +kernel
theorem dX6_day_14 : decode cX6_day 14 = .ok (.ireturn, 1) := by decide +kernel
theorem dX6_table_0 : decode cX6_table 0 = .ok (.iload_n 1, 1) := by decide +kernel
theorem dX6_table_1 : decode cX6_table 1 = .ok (.invokestatic 147, 3) := by decide +kernel
theorem dX6_table_4 : decode cX6_table 4 = .ok (.ifCond .eq 10, 3) := by decide +kernel
theorem dX6_table_7 : decode cX6_table 7 = .ok (.iload_n 2, 1) := by decide +kernel
theorem dX6_table_8 : decode cX6_table 8 = .ok (.invokestatic 150, 3) := by decide +kernel
theorem dX6_table_11 : decode cX6_table 11 = .ok (.ifCond .ne 5, 3) := by decide +kernel
theorem dX6_table_14 : decode cX6_table 14 = .ok (.iconst (-1), 1) := by decide +kernel
theorem dX6_table_15 : decode cX6_table 15 = .ok (.ireturn, 1) := by decide +kernel
theorem dX6_table_16 : decode cX6_table 16 = .ok (.aload_n 0, 1) := by decide +kernel
theorem dX6_table_17 : decode cX6_table 17 = .ok (.getfield 42, 3) := by decide +kernel
theorem dX6_table_20 : decode cX6_table 20 = .ok (.aload_n 0, 1) := by decide +kernel
theorem dX6_table_21 : decode cX6_table 21 = .ok (.getfield 10, 3) := by decide +kernel
theorem dX6_table_24 : decode cX6_table 24 = .ok (.iload_n 1, 1) := by decide +kernel
theorem dX6_table_25 : decode cX6_table 25 = .ok (.aload_n 0, 1) := by decide +kernel
theorem dX6_table_26 : decode cX6_table 26 = .ok (.getfield 10, 3) := by decide +kernel
theorem dX6_table_29 : decode cX6_table 29 = .ok (.getfield 99, 3) := by decide +kernel
theorem dX6_table_32 : decode cX6_table 32 = .ok (.iconst 0, 1) := by decide +kernel
theorem dX6_table_33 : decode cX6_table 33 = .ok (.invokevirtual 153, 3) := by decide +kernel
theorem dX6_table_36 : decode cX6_table 36 = .ok (.aload_n 0, 1) := by decide +kernel
theorem dX6_table_37 : decode cX6_table 37 = .ok (.getfield 42, 3) := by decide +kernel
theorem dX6_table_40 : decode cX6_table 40 = .ok (.iload_n 2, 1) := by decide +kernel
theorem dX6_table_41 : decode cX6_table 41 = .ok (.invokevirtual 157, 3) := by decide +kernel
theorem dX6_table_44 : decode cX6_table 44 = .ok (.ireturn, 1) := by decide +kernel
theorem dX6_best_0 : decode cX6_best 0 = .ok (.iload_n 1, 1) := by decide +kernel
theorem dX6_best_1 : decode cX6_best 1 = .ok (.invokestatic 150, 3) := by decide +kernel
theorem dX6_best_4 : decode cX6_best 4 = .ok (.ifCond .ne 5, 3) := by decide +kernel
theorem dX6_best_7 : decode cX6_best 7 = .ok (.iconst (-1), 1) := by decide +kernel
theorem dX6_best_8 : decode cX6_best 8 = .ok (.ireturn, 1) := by decide +kernel
theorem dX6_best_9 : decode cX6_best 9 = .ok (.iconst 0, 1) := by decide +kernel
theorem dX6_best_10 : decode cX6_best 10 = .ok (.istore_n 2, 1) := by decide +kernel
theorem dX6_best_11 : decode cX6_best 11 = .ok (.ldc 160, 2) := by decide +kernel
theorem dX6_best_13 : decode cX6_best 13 = .ok (.istore_n 3, 1) := by decide +kernel
theorem dX6_best_14 : decode cX6_best 14 = .ok (.iconst 0, 1) := by decide +kernel
theorem dX6_best_15 : decode cX6_best 15 = .ok (.istore 4, 2) := by decide +kernel
theorem dX6_best_17 : decode cX6_best 17 = .ok (.iload 4, 2) := by decide +kernel
theorem dX6_best_19 : decode cX6_best 19 = .ok (.iconst 5, 1) := by decide +kernel
theorem dX6_best_20 : decode cX6_best 20 = .ok (.if_icmp .ge 52, 3) := by decide +kernel
theorem dX6_best_23 : decode cX6_best 23 = .ok (.aload_n 0, 1) := by decide +kernel
theorem dX6_best_24 : decode cX6_best 24 = .ok (.getfield 42, 3) := by decide +kernel
theorem dX6_best_27 : decode cX6_best 27 = .ok (.aload_n 0, 1) := by decide +kernel
theorem dX6_best_28 : decode cX6_best 28 = .ok (.getfield 10, 3) := by decide +kernel
theorem dX6_best_31 : decode cX6_best 31 = .ok (.iload 4, 2) := by decide +kernel
theorem dX6_best_33 : decode cX6_best 33 = .ok (.aload_n 0, 1) := by decide +kernel
theorem dX6_best_34 : decode cX6_best 34 = .ok (.getfield 10, 3) := by decide +kernel
theorem dX6_best_37 : decode cX6_best 37 = .ok (.getfield 99, 3) := by decide +kernel
theorem dX6_best_40 : decode cX6_best 40 = .ok (.iconst 0, 1) := by decide +kernel
theorem dX6_best_41 : decode cX6_best 41 = .ok (.invokevirtual 153, 3) := by decide +kernel
theorem dX6_best_44 : decode cX6_best 44 = .ok (.aload_n 0, 1) := by decide +kernel
theorem dX6_best_45 : decode cX6_best 45 = .ok (.getfield 42, 3) := by decide +kernel
theorem dX6_best_48 : decode cX6_best 48 = .ok (.iload_n 1, 1) := by decide +kernel
theorem dX6_best_49 : decode cX6_best 49 = .ok (.invokevirtual 157, 3) := by decide +kernel
theorem dX6_best_52 : decode cX6_best 52 = .ok (.istore 5, 2) := by decide +kernel
theorem dX6_best_54 : decode cX6_best 54 = .ok (.iload 5, 2) := by decide +kernel
theorem dX6_best_56 : decode cX6_best 56 = .ok (.iload_n 3, 1) := by decide +kernel
theorem dX6_best_57 : decode cX6_best 57 = .ok (.if_icmp .ge 9, 3) := by decide +kernel
theorem dX6_best_60 : decode cX6_best 60 = .ok (.iload 5, 2) := by decide +kernel
theorem dX6_best_62 : decode cX6_best 62 = .ok (.istore_n 3, 1) := by decide +kernel
theorem dX6_best_63 : decode cX6_best 63 = .ok (.iload 4, 2) := by decide +kernel
theorem dX6_best_65 : decode cX6_best 65 = .ok (.istore_n 2, 1) := by decide +kernel
theorem dX6_best_66 : decode cX6_best 66 = .ok (.iinc 4 1, 3) := by decide +kernel
theorem dX6_best_69 : decode cX6_best 69 = .ok (.goto (-52), 3) := by decide +kernel
theorem dX6_best_72 : decode cX6_best 72 = .ok (.iload_n 2, 1) := by decide +kernel
theorem dX6_best_73 : decode cX6_best 73 = .ok (.ireturn, 1) := by decide +kernel
theorem dX6_order_0 : decode cX6_order 0 = .ok (.iload_n 1, 1) := by decide +kernel
theorem dX6_order_1 : decode cX6_order 1 = .ok (.ifCond .eq 24, 3) := by decide +kernel
theorem dX6_order_4 : decode cX6_order 4 = .ok (.iload_n 1, 1) := by decide +kernel
theorem dX6_order_5 : decode cX6_order 5 = .ok (.bipush 10, 2) := by decide +kernel
theorem dX6_order_7 : decode cX6_order 7 = .ok (.bipush 9, 2) := by decide +kernel
theorem dX6_order_9 : decode cX6_order 9 = .ok (.aload_n 0, 1) := by decide +kernel
theorem dX6_order_10 : decode cX6_order 10 = .ok (.getfield 10, 3) := by decide +kernel
theorem dX6_order_13 : decode cX6_order 13 = .ok (.getfield 96, 3) := by decide +kernel
theorem dX6_order_16 : decode cX6_order 16 = .ok (.iadd, 1) := by decide +kernel
theorem dX6_order_17 : decode cX6_order 17 = .ok (.invokestatic 67, 3) := by decide +kernel
theorem dX6_order_20 : decode cX6_order 20 = .ok (.ifCond .ne 5, 3) := by decide +kernel
theorem dX6_order_23 : decode cX6_order 23 = .ok (.iconst (-1), 1) := by decide +kernel
theorem dX6_order_24 : decode cX6_order 24 = .ok (.ireturn, 1) := by decide +kernel
theorem dX6_order_25 : decode cX6_order 25 = .ok (.aload_n 0, 1) := by decide +kernel
theorem dX6_order_26 : decode cX6_order 26 = .ok (.getfield 49, 3) := by decide +kernel
theorem dX6_order_29 : decode cX6_order 29 = .ok (.aload_n 0, 1) := by decide +kernel
theorem dX6_order_30 : decode cX6_order 30 = .ok (.getfield 10, 3) := by decide +kernel
theorem dX6_order_33 : decode cX6_order 33 = .ok (.invokevirtual 161, 3) := by decide +kernel
theorem dX6_order_36 : decode cX6_order 36 = .ok (.iload_n 1, 1) := by decide +kernel
theorem dX6_order_37 : decode cX6_order 37 = .ok (.ifCond .ne 13, 3) := by decide +kernel
theorem dX6_order_40 : decode cX6_order 40 = .ok (.aload_n 0, 1) := by decide +kernel
theorem dX6_order_41 : decode cX6_order 41 = .ok (.getfield 49, 3) := by decide +kernel
theorem dX6_order_44 : decode cX6_order 44 = .ok (.getfield 164, 3) := by decide +kernel
theorem dX6_order_47 : decode cX6_order 47 = .ok (.goto 15, 3) := by decide +kernel
theorem dX6_order_50 : decode cX6_order 50 = .ok (.aload_n 0, 1) := by decide +kernel
theorem dX6_order_51 : decode cX6_order 51 = .ok (.getfield 49, 3) := by decide +kernel
theorem dX6_order_54 : decode cX6_order 54 = .ok (.getfield 167, 3) := by decide +kernel
theorem dX6_order_57 : decode cX6_order 57 = .ok (.iload_n 1, 1) := by decide +kernel
theorem dX6_order_58 : decode cX6_order 58 = .ok (.bipush 10, 2) := by decide +kernel
theorem dX6_order_60 : decode cX6_order 60 = .ok (.isub, 1) := by decide +kernel
theorem dX6_order_61 : decode cX6_order 61 = .ok (.iaload, 1) := by decide +kernel
theorem dX6_order_62 : decode cX6_order 62 = .ok (.ireturn, 1) := by decide +kernel
theorem dX6_firsts_0 : decode cX6_firsts 0 = .ok (.aload_n 0, 1) := by decide +kernel
theorem dX6_firsts_1 : decode cX6_firsts 1 = .ok (.iload_n 1, 1) := by decide +kernel
theorem dX6_firsts_2 : decode cX6_firsts 2 = .ok (.invokevirtual 105, 3) := by decide +kernel
theorem dX6_firsts_5 : decode cX6_firsts 5 = .ok (.ifCond .ne 5, 3) := by decide +kernel
theorem dX6_firsts_8 : decode cX6_firsts 8 = .ok (.iconst (-1), 1) := by decide +kernel
theorem dX6_firsts_9 : decode cX6_firsts 9 = .ok (.ireturn, 1) := by decide +kernel
theorem dX6_firsts_10 : decode cX6_firsts 10 = .ok (.iconst 0, 1) := by decide +kernel
theorem dX6_firsts_11 : decode cX6_firsts 11 = .ok (.istore_n 2, 1) := by decide +kernel
theorem dX6_firsts_12 : decode cX6_firsts 12 = .ok (.iconst 0, 1) := by decide +kernel
theorem dX6_firsts_13 : decode cX6_firsts 13 = .ok (.istore_n 3, 1) := by decide +kernel
theorem dX6_firsts_14 : decode cX6_firsts 14 = .ok (.iload_n 3, 1) := by decide +kernel
theorem dX6_firsts_15 : decode cX6_firsts 15 = .ok (.iconst 5, 1) := by decide +kernel
theorem dX6_firsts_16 : decode cX6_firsts 16 = .ok (.if_icmp .ge 48, 3) := by decide +kernel
theorem dX6_firsts_19 : decode cX6_firsts 19 = .ok (.aload_n 0, 1) := by decide +kernel
theorem dX6_firsts_20 : decode cX6_firsts 20 = .ok (.getfield 42, 3) := by decide +kernel
theorem dX6_firsts_23 : decode cX6_firsts 23 = .ok (.aload_n 0, 1) := by decide +kernel
theorem dX6_firsts_24 : decode cX6_firsts 24 = .ok (.getfield 10, 3) := by decide +kernel
theorem dX6_firsts_27 : decode cX6_firsts 27 = .ok (.iload_n 3, 1) := by decide +kernel
theorem dX6_firsts_28 : decode cX6_firsts 28 = .ok (.aload_n 0, 1) := by decide +kernel
theorem dX6_firsts_29 : decode cX6_firsts 29 = .ok (.getfield 10, 3) := by decide +kernel
theorem dX6_firsts_32 : decode cX6_firsts 32 = .ok (.getfield 99, 3) := by decide +kernel
theorem dX6_firsts_35 : decode cX6_firsts 35 = .ok (.iconst 0, 1) := by decide +kernel
theorem dX6_firsts_36 : decode cX6_firsts 36 = .ok (.invokevirtual 153, 3) := by decide +kernel
theorem dX6_firsts_39 : decode cX6_firsts 39 = .ok (.aload_n 0, 1) := by decide +kernel
theorem dX6_firsts_40 : decode cX6_firsts 40 = .ok (.getfield 42, 3) := by decide +kernel
theorem dX6_firsts_43 : decode cX6_firsts 43 = .ok (.getfield 135, 3) := by decide +kernel
theorem dX6_firsts_46 : decode cX6_firsts 46 = .ok (.iconst 0, 1) := by decide +kernel
theorem dX6_firsts_47 : decode cX6_firsts 47 = .ok (.iaload, 1) := by decide +kernel
theorem dX6_firsts_48 : decode cX6_firsts 48 = .ok (.iload_n 1, 1) := by decide +kernel
theorem dX6_firsts_49 : decode cX6_firsts 49 = .ok (.if_icmp .ne 9, 3) := by decide +kernel
theorem dX6_firsts_52 : decode cX6_firsts 52 = .ok (.iload_n 2, 1) := by decide +kernel
theorem dX6_firsts_53 : decode cX6_firsts 53 = .ok (.iconst 1, 1) := by decide +kernel
theorem dX6_firsts_54 : decode cX6_firsts 54 = .ok (.iload_n 3, 1) := by decide +kernel
theorem dX6_firsts_55 : decode cX6_firsts 55 = .ok (.ishl, 1) := by decide +kernel
theorem dX6_firsts_56 : decode cX6_firsts 56 = .ok (.ior, 1) := by decide +kernel
theorem dX6_firsts_57 : decode cX6_firsts 57 = .ok (.istore_n 2, 1) := by decide +kernel
theorem dX6_firsts_58 : decode cX6_firsts 58 = .ok (.iinc 3 1, 3) := by decide +kernel
theorem dX6_firsts_61 : decode cX6_firsts 61 = .ok (.goto (-47), 3) := by decide +kernel
theorem dX6_firsts_64 : decode cX6_firsts 64 = .ok (.iload_n 2, 1) := by decide +kernel
theorem dX6_firsts_65 : decode cX6_firsts 65 = .ok (.ireturn, 1) := by decide +kernel
theorem dX6_gain_0 : decode cX6_gain 0 = .ok (.aload_n 0, 1) := by decide +kernel
theorem dX6_gain_1 : decode cX6_gain 1 = .ok (.iload_n 1, 1) := by decide +kernel
theorem dX6_gain_2 : decode cX6_gain 2 = .ok (.invokevirtual 105, 3) := by decide +kernel
theorem dX6_gain_5 : decode cX6_gain 5 = .ok (.ifCond .ne 5, 3) := by decide +kernel
theorem dX6_gain_8 : decode cX6_gain 8 = .ok (.iconst (-1), 1) := by decide +kernel
theorem dX6_gain_9 : decode cX6_gain 9 = .ok (.ireturn, 1) := by decide +kernel
theorem dX6_gain_10 : decode cX6_gain 10 = .ok (.sipush 1000, 3) := by decide +kernel
theorem dX6_gain_13 : decode cX6_gain 13 = .ok (.aload_n 0, 1) := by decide +kernel
theorem dX6_gain_14 : decode cX6_gain 14 = .ok (.aload_n 0, 1) := by decide +kernel
theorem dX6_gain_15 : decode cX6_gain 15 = .ok (.getfield 10, 3) := by decide +kernel
theorem dX6_gain_18 : decode cX6_gain 18 = .ok (.getfield 102, 3) := by decide +kernel
theorem dX6_gain_21 : decode cX6_gain 21 = .ok (.iconst 3, 1) := by decide +kernel
theorem dX6_gain_22 : decode cX6_gain 22 = .ok (.iaload, 1) := by decide +kernel
theorem dX6_gain_23 : decode cX6_gain 23 = .ok (.iload_n 1, 1) := by decide +kernel
theorem dX6_gain_24 : decode cX6_gain 24 = .ok (.invokevirtual 170, 3) := by decide +kernel
theorem dX6_gain_27 : decode cX6_gain 27 = .ok (.iadd, 1) := by decide +kernel
theorem dX6_gain_28 : decode cX6_gain 28 = .ok (.ireturn, 1) := by decide +kernel
theorem dX6_calm_0 : decode cX6_calm 0 = .ok (.iconst 0, 1) := by decide +kernel
theorem dX6_calm_1 : decode cX6_calm 1 = .ok (.istore_n 1, 1) := by decide +kernel
theorem dX6_calm_2 : decode cX6_calm 2 = .ok (.iconst 0, 1) := by decide +kernel
theorem dX6_calm_3 : decode cX6_calm 3 = .ok (.istore_n 2, 1) := by decide +kernel
theorem dX6_calm_4 : decode cX6_calm 4 = .ok (.iload_n 2, 1) := by decide +kernel
theorem dX6_calm_5 : decode cX6_calm 5 = .ok (.iconst 5, 1) := by decide +kernel
theorem dX6_calm_6 : decode cX6_calm 6 = .ok (.if_icmp .ge 23, 3) := by decide +kernel
theorem dX6_calm_9 : decode cX6_calm 9 = .ok (.aload_n 0, 1) := by decide +kernel
theorem dX6_calm_10 : decode cX6_calm 10 = .ok (.iload_n 2, 1) := by decide +kernel
theorem dX6_calm_11 : decode cX6_calm 11 = .ok (.invokevirtual 173, 3) := by decide +kernel
theorem dX6_calm_14 : decode cX6_calm 14 = .ok (.ifCond .eq 9, 3) := by decide +kernel
theorem dX6_calm_17 : decode cX6_calm 17 = .ok (.iload_n 1, 1) := by decide +kernel
theorem dX6_calm_18 : decode cX6_calm 18 = .ok (.iconst 1, 1) := by decide +kernel
theorem dX6_calm_19 : decode cX6_calm 19 = .ok (.iload_n 2, 1) := by decide +kernel
theorem dX6_calm_20 : decode cX6_calm 20 = .ok (.ishl, 1) := by decide +kernel
theorem dX6_calm_21 : decode cX6_calm 21 = .ok (.ior, 1) := by decide +kernel
theorem dX6_calm_22 : decode cX6_calm 22 = .ok (.istore_n 1, 1) := by decide +kernel
theorem dX6_calm_23 : decode cX6_calm 23 = .ok (.iinc 2 1, 3) := by decide +kernel
theorem dX6_calm_26 : decode cX6_calm 26 = .ok (.goto (-22), 3) := by decide +kernel
theorem dX6_calm_29 : decode cX6_calm 29 = .ok (.iload_n 1, 1) := by decide +kernel
theorem dX6_calm_30 : decode cX6_calm 30 = .ok (.ireturn, 1) := by decide +kernel
theorem dX6_rests_0 : decode cX6_rests 0 = .ok (.iload_n 1, 1) := by decide +kernel
theorem dX6_rests_1 : decode cX6_rests 1 = .ok (.iconst 0, 1) := by decide +kernel
theorem dX6_rests_2 : decode cX6_rests 2 = .ok (.iconst 1, 1) := by decide +kernel
theorem dX6_rests_3 : decode cX6_rests 3 = .ok (.invokestatic 67, 3) := by decide +kernel
theorem dX6_rests_6 : decode cX6_rests 6 = .ok (.ifCond .ne 5, 3) := by decide +kernel
theorem dX6_rests_9 : decode cX6_rests 9 = .ok (.iconst (-1), 1) := by decide +kernel
theorem dX6_rests_10 : decode cX6_rests 10 = .ok (.ireturn, 1) := by decide +kernel
theorem dX6_rests_11 : decode cX6_rests 11 = .ok (.aload_n 0, 1) := by decide +kernel
theorem dX6_rests_12 : decode cX6_rests 12 = .ok (.aload_n 0, 1) := by decide +kernel
theorem dX6_rests_13 : decode cX6_rests 13 = .ok (.getfield 10, 3) := by decide +kernel
theorem dX6_rests_16 : decode cX6_rests 16 = .ok (.getfield 102, 3) := by decide +kernel
theorem dX6_rests_19 : decode cX6_rests 19 = .ok (.iconst 3, 1) := by decide +kernel
theorem dX6_rests_20 : decode cX6_rests 20 = .ok (.iaload, 1) := by decide +kernel
theorem dX6_rests_21 : decode cX6_rests 21 = .ok (.invokevirtual 176, 3) := by decide +kernel
theorem dX6_rests_24 : decode cX6_rests 24 = .ok (.iconst 0, 1) := by decide +kernel
theorem dX6_rests_25 : decode cX6_rests 25 = .ok (.istore_n 2, 1) := by decide +kernel
theorem dX6_rests_26 : decode cX6_rests 26 = .ok (.bipush (-4), 2) := by decide +kernel
theorem dX6_rests_28 : decode cX6_rests 28 = .ok (.istore_n 3, 1) := by decide +kernel
theorem dX6_rests_29 : decode cX6_rests 29 = .ok (.iconst 0, 1) := by decide +kernel
theorem dX6_rests_30 : decode cX6_rests 30 = .ok (.istore 4, 2) := by decide +kernel
theorem dX6_rests_32 : decode cX6_rests 32 = .ok (.iload 4, 2) := by decide +kernel
theorem dX6_rests_34 : decode cX6_rests 34 = .ok (.aload_n 0, 1) := by decide +kernel
theorem dX6_rests_35 : decode cX6_rests 35 = .ok (.invokevirtual 180, 3) := by decide +kernel
theorem dX6_rests_38 : decode cX6_rests 38 = .ok (.if_icmp .ge 34, 3) := by decide +kernel
theorem dX6_rests_41 : decode cX6_rests 41 = .ok (.aload_n 0, 1) := by decide +kernel
theorem dX6_rests_42 : decode cX6_rests 42 = .ok (.iload 4, 2) := by decide +kernel
theorem dX6_rests_44 : decode cX6_rests 44 = .ok (.invokevirtual 183, 3) := by decide +kernel
theorem dX6_rests_47 : decode cX6_rests 47 = .ok (.ifCond .eq 19, 3) := by decide +kernel
theorem dX6_rests_50 : decode cX6_rests 50 = .ok (.iinc 2 1, 3) := by decide +kernel
theorem dX6_rests_53 : decode cX6_rests 53 = .ok (.iload_n 3, 1) := by decide +kernel
theorem dX6_rests_54 : decode cX6_rests 54 = .ok (.bipush (-4), 2) := by decide +kernel
theorem dX6_rests_56 : decode cX6_rests 56 = .ok (.if_icmp .ne 8, 3) := by decide +kernel
theorem dX6_rests_59 : decode cX6_rests 59 = .ok (.iload 4, 2) := by decide +kernel
theorem dX6_rests_61 : decode cX6_rests 61 = .ok (.goto 4, 3) := by decide +kernel
theorem dX6_rests_64 : decode cX6_rests 64 = .ok (.iload_n 3, 1) := by decide +kernel
theorem dX6_rests_65 : decode cX6_rests 65 = .ok (.istore_n 3, 1) := by decide +kernel
theorem dX6_rests_66 : decode cX6_rests 66 = .ok (.iinc 4 1, 3) := by decide +kernel
theorem dX6_rests_69 : decode cX6_rests 69 = .ok (.goto (-37), 3) := by decide +kernel
theorem dX6_rests_72 : decode cX6_rests 72 = .ok (.iload_n 1, 1) := by decide +kernel
theorem dX6_rests_73 : decode cX6_rests 73 = .ok (.ifCond .ne 7, 3) := by decide +kernel
theorem dX6_rests_76 : decode cX6_rests 76 = .ok (.iload_n 2, 1) := by decide +kernel
theorem dX6_rests_77 : decode cX6_rests 77 = .ok (.goto 4, 3) := by decide +kernel
theorem dX6_rests_80 : decode cX6_rests 80 = .ok (.iload_n 3, 1) := by decide +kernel
theorem dX6_rests_81 : decode cX6_rests 81 = .ok (.ireturn, 1) := by decide +kernel
theorem dX6_isCalm_0 : decode cX6_isCalm 0 = .ok (.iconst 0, 1) := by decide +kernel
theorem dX6_isCalm_1 : decode cX6_isCalm 1 = .ok (.istore_n 2, 1) := by decide +kernel
theorem dX6_isCalm_2 : decode cX6_isCalm 2 = .ok (.iload_n 2, 1) := by decide +kernel
theorem dX6_isCalm_3 : decode cX6_isCalm 3 = .ok (.aload_n 0, 1) := by decide +kernel
theorem dX6_isCalm_4 : decode cX6_isCalm 4 = .ok (.getfield 10, 3) := by decide +kernel
theorem dX6_isCalm_7 : decode cX6_isCalm 7 = .ok (.getfield 96, 3) := by decide +kernel
theorem dX6_isCalm_10 : decode cX6_isCalm 10 = .ok (.if_icmp .ge 20, 3) := by decide +kernel
theorem dX6_isCalm_13 : decode cX6_isCalm 13 = .ok (.aload_n 0, 1) := by decide +kernel
theorem dX6_isCalm_14 : decode cX6_isCalm 14 = .ok (.iload_n 1, 1) := by decide +kernel
theorem dX6_isCalm_15 : decode cX6_isCalm 15 = .ok (.iload_n 2, 1) := by decide +kernel
theorem dX6_isCalm_16 : decode cX6_isCalm 16 = .ok (.invokevirtual 170, 3) := by decide +kernel
theorem dX6_isCalm_19 : decode cX6_isCalm 19 = .ok (.ifCond .le 5, 3) := by decide +kernel
theorem dX6_isCalm_22 : decode cX6_isCalm 22 = .ok (.iconst 0, 1) := by decide +kernel
theorem dX6_isCalm_23 : decode cX6_isCalm 23 = .ok (.ireturn, 1) := by decide +kernel
theorem dX6_isCalm_24 : decode cX6_isCalm 24 = .ok (.iinc 2 1, 3) := by decide +kernel
theorem dX6_isCalm_27 : decode cX6_isCalm 27 = .ok (.goto (-25), 3) := by decide +kernel
theorem dX6_isCalm_30 : decode cX6_isCalm 30 = .ok (.iconst 1, 1) := by decide +kernel
theorem dX6_isCalm_31 : decode cX6_isCalm 31 = .ok (.ireturn, 1) := by decide +kernel
theorem dX6_gained_0 : decode cX6_gained 0 = .ok (.iload_n 1, 1) := by decide +kernel
theorem dX6_gained_1 : decode cX6_gained 1 = .ok (.invokestatic 186, 3) := by decide +kernel
theorem dX6_gained_4 : decode cX6_gained 4 = .ok (.ifCond .ne 5, 3) := by decide +kernel
theorem dX6_gained_7 : decode cX6_gained 7 = .ok (.iconst 0, 1) := by decide +kernel
theorem dX6_gained_8 : decode cX6_gained 8 = .ok (.ireturn, 1) := by decide +kernel
theorem dX6_gained_9 : decode cX6_gained 9 = .ok (.aload_n 0, 1) := by decide +kernel
theorem dX6_gained_10 : decode cX6_gained 10 = .ok (.getfield 42, 3) := by decide +kernel
theorem dX6_gained_13 : decode cX6_gained 13 = .ok (.aload_n 0, 1) := by decide +kernel
theorem dX6_gained_14 : decode cX6_gained 14 = .ok (.getfield 10, 3) := by decide +kernel
theorem dX6_gained_17 : decode cX6_gained 17 = .ok (.iload_n 1, 1) := by decide +kernel
theorem dX6_gained_18 : decode cX6_gained 18 = .ok (.aload_n 0, 1) := by decide +kernel
theorem dX6_gained_19 : decode cX6_gained 19 = .ok (.getfield 10, 3) := by decide +kernel
theorem dX6_gained_22 : decode cX6_gained 22 = .ok (.getfield 99, 3) := by decide +kernel
theorem dX6_gained_25 : decode cX6_gained 25 = .ok (.iconst 0, 1) := by decide +kernel
theorem dX6_gained_26 : decode cX6_gained 26 = .ok (.invokevirtual 153, 3) := by decide +kernel
theorem dX6_gained_29 : decode cX6_gained 29 = .ok (.aload_n 0, 1) := by decide +kernel
theorem dX6_gained_30 : decode cX6_gained 30 = .ok (.getfield 42, 3) := by decide +kernel
theorem dX6_gained_33 : decode cX6_gained 33 = .ok (.getfield 141, 3) := by decide +kernel
theorem dX6_gained_36 : decode cX6_gained 36 = .ok (.iload_n 2, 1) := by decide +kernel
theorem dX6_gained_37 : decode cX6_gained 37 = .ok (.iaload, 1) := by decide +kernel
theorem dX6_gained_38 : decode cX6_gained 38 = .ok (.istore_n 3, 1) := by decide +kernel
theorem dX6_gained_39 : decode cX6_gained 39 = .ok (.aload_n 0, 1) := by decide +kernel
theorem dX6_gained_40 : decode cX6_gained 40 = .ok (.getfield 42, 3) := by decide +kernel
theorem dX6_gained_43 : decode cX6_gained 43 = .ok (.aload_n 0, 1) := by decide +kernel
theorem dX6_gained_44 : decode cX6_gained 44 = .ok (.getfield 10, 3) := by decide +kernel
theorem dX6_gained_47 : decode cX6_gained 47 = .ok (.iload_n 1, 1) := by decide +kernel
theorem dX6_gained_48 : decode cX6_gained 48 = .ok (.aload_n 0, 1) := by decide +kernel
theorem dX6_gained_49 : decode cX6_gained 49 = .ok (.getfield 10, 3) := by decide +kernel
theorem dX6_gained_52 : decode cX6_gained 52 = .ok (.getfield 99, 3) := by decide +kernel
theorem dX6_gained_55 : decode cX6_gained 55 = .ok (.iconst 1, 1) := by decide +kernel
theorem dX6_gained_56 : decode cX6_gained 56 = .ok (.iload_n 2, 1) := by decide +kernel
theorem dX6_gained_57 : decode cX6_gained 57 = .ok (.ishl, 1) := by decide +kernel
theorem dX6_gained_58 : decode cX6_gained 58 = .ok (.ixor, 1) := by decide +kernel
theorem dX6_gained_59 : decode cX6_gained 59 = .ok (.iconst 0, 1) := by decide +kernel
theorem dX6_gained_60 : decode cX6_gained 60 = .ok (.invokevirtual 153, 3) := by decide +kernel
theorem dX6_gained_63 : decode cX6_gained 63 = .ok (.iload_n 3, 1) := by decide +kernel
theorem dX6_gained_64 : decode cX6_gained 64 = .ok (.aload_n 0, 1) := by decide +kernel
theorem dX6_gained_65 : decode cX6_gained 65 = .ok (.getfield 42, 3) := by decide +kernel
theorem dX6_gained_68 : decode cX6_gained 68 = .ok (.getfield 141, 3) := by decide +kernel
theorem dX6_gained_71 : decode cX6_gained 71 = .ok (.iload_n 2, 1) := by decide +kernel
theorem dX6_gained_72 : decode cX6_gained 72 = .ok (.iaload, 1) := by decide +kernel
theorem dX6_gained_73 : decode cX6_gained 73 = .ok (.isub, 1) := by decide +kernel
theorem dX6_gained_74 : decode cX6_gained 74 = .ok (.ireturn, 1) := by decide +kernel
theorem dX6_fillStoodBySet_0 : decode cX6_fillStoodBySet 0 = .ok (.iconst 0, 1) := by decide +kernel
theorem dX6_fillStoodBySet_1 : decode cX6_fillStoodBySet 1 = .ok (.istore_n 2, 1) := by decide +kernel
theorem dX6_fillStoodBySet_2 : decode cX6_fillStoodBySet 2 = .ok (.iload_n 2, 1) := by decide +kernel
theorem dX6_fillStoodBySet_3 : decode cX6_fillStoodBySet 3 = .ok (.aload_n 0, 1) := by decide +kernel
theorem dX6_fillStoodBySet_4 : decode cX6_fillStoodBySet 4 = .ok (.invokevirtual 180, 3) := by decide +kernel
theorem dX6_fillStoodBySet_7 : decode cX6_fillStoodBySet 7 = .ok (.if_icmp .ge 55, 3) := by decide +kernel
theorem dX6_fillStoodBySet_10 : decode cX6_fillStoodBySet 10 = .ok (.iload_n 2, 1) := by decide +kernel
theorem dX6_fillStoodBySet_11 : decode cX6_fillStoodBySet 11 = .ok (.ifCond .eq 10, 3) := by decide +kernel
theorem dX6_fillStoodBySet_14 : decode cX6_fillStoodBySet 14 = .ok (.iload_n 1, 1) := by decide +kernel
theorem dX6_fillStoodBySet_15 : decode cX6_fillStoodBySet 15 = .ok (.invokestatic 186, 3) := by decide +kernel
theorem dX6_fillStoodBySet_18 : decode cX6_fillStoodBySet 18 = .ok (.ifCond .eq 17, 3) := by decide +kernel
theorem dX6_fillStoodBySet_21 : decode cX6_fillStoodBySet 21 = .ok (.aload_n 0, 1) := by decide +kernel
theorem dX6_fillStoodBySet_22 : decode cX6_fillStoodBySet 22 = .ok (.getfield 42, 3) := by decide +kernel
theorem dX6_fillStoodBySet_25 : decode cX6_fillStoodBySet 25 = .ok (.aload_n 0, 1) := by decide +kernel
theorem dX6_fillStoodBySet_26 : decode cX6_fillStoodBySet 26 = .ok (.getfield 10, 3) := by decide +kernel
theorem dX6_fillStoodBySet_29 : decode cX6_fillStoodBySet 29 = .ok (.iload_n 1, 1) := by decide +kernel
theorem dX6_fillStoodBySet_30 : decode cX6_fillStoodBySet 30 = .ok (.iload_n 2, 1) := by decide +kernel
theorem dX6_fillStoodBySet_31 : decode cX6_fillStoodBySet 31 = .ok (.iconst 0, 1) := by decide +kernel
theorem dX6_fillStoodBySet_32 : decode cX6_fillStoodBySet 32 = .ok (.invokevirtual 153, 3) := by decide +kernel
theorem dX6_fillStoodBySet_35 : decode cX6_fillStoodBySet 35 = .ok (.aload_n 0, 1) := by decide +kernel
theorem dX6_fillStoodBySet_36 : decode cX6_fillStoodBySet 36 = .ok (.getfield 42, 3) := by decide +kernel
theorem dX6_fillStoodBySet_39 : decode cX6_fillStoodBySet 39 = .ok (.getfield 141, 3) := by decide +kernel
theorem dX6_fillStoodBySet_42 : decode cX6_fillStoodBySet 42 = .ok (.iconst 0, 1) := by decide +kernel
theorem dX6_fillStoodBySet_43 : decode cX6_fillStoodBySet 43 = .ok (.aload_n 0, 1) := by decide +kernel
theorem dX6_fillStoodBySet_44 : decode cX6_fillStoodBySet 44 = .ok (.getfield 57, 3) := by decide +kernel
theorem dX6_fillStoodBySet_47 : decode cX6_fillStoodBySet 47 = .ok (.iload_n 2, 1) := by decide +kernel
theorem dX6_fillStoodBySet_48 : decode cX6_fillStoodBySet 48 = .ok (.bipush 6, 2) := by decide +kernel
theorem dX6_fillStoodBySet_50 : decode cX6_fillStoodBySet 50 = .ok (.imul, 1) := by decide +kernel
theorem dX6_fillStoodBySet_51 : decode cX6_fillStoodBySet 51 = .ok (.bipush 6, 2) := by decide +kernel
theorem dX6_fillStoodBySet_53 : decode cX6_fillStoodBySet 53 = .ok (.invokestatic 189, 3) := by decide +kernel
theorem dX6_fillStoodBySet_56 : decode cX6_fillStoodBySet 56 = .ok (.iinc 2 1, 3) := by decide +kernel
theorem dX6_fillStoodBySet_59 : decode cX6_fillStoodBySet 59 = .ok (.goto (-57), 3) := by decide +kernel
theorem dX6_fillStoodBySet_62 : decode cX6_fillStoodBySet 62 = .ok (.return_, 1) := by decide +kernel
theorem dX6_isRest_0 : decode cX6_isRest 0 = .ok (.iconst 0, 1) := by decide +kernel
theorem dX6_isRest_1 : decode cX6_isRest 1 = .ok (.istore_n 2, 1) := by decide +kernel
theorem dX6_isRest_2 : decode cX6_isRest 2 = .ok (.iload_n 2, 1) := by decide +kernel
theorem dX6_isRest_3 : decode cX6_isRest 3 = .ok (.aload_n 0, 1) := by decide +kernel
theorem dX6_isRest_4 : decode cX6_isRest 4 = .ok (.getfield 10, 3) := by decide +kernel
theorem dX6_isRest_7 : decode cX6_isRest 7 = .ok (.getfield 96, 3) := by decide +kernel
theorem dX6_isRest_10 : decode cX6_isRest 10 = .ok (.if_icmp .ge 42, 3) := by decide +kernel
theorem dX6_isRest_13 : decode cX6_isRest 13 = .ok (.iload_n 1, 1) := by decide +kernel
theorem dX6_isRest_14 : decode cX6_isRest 14 = .ok (.iconst 1, 1) := by decide +kernel
theorem dX6_isRest_15 : decode cX6_isRest 15 = .ok (.iload_n 2, 1) := by decide +kernel
theorem dX6_isRest_16 : decode cX6_isRest 16 = .ok (.ishl, 1) := by decide +kernel
theorem dX6_isRest_17 : decode cX6_isRest 17 = .ok (.ixor, 1) := by decide +kernel
theorem dX6_isRest_18 : decode cX6_isRest 18 = .ok (.istore_n 3, 1) := by decide +kernel
theorem dX6_isRest_19 : decode cX6_isRest 19 = .ok (.aload_n 0, 1) := by decide +kernel
theorem dX6_isRest_20 : decode cX6_isRest 20 = .ok (.getfield 57, 3) := by decide +kernel
theorem dX6_isRest_23 : decode cX6_isRest 23 = .ok (.iload_n 3, 1) := by decide +kernel
theorem dX6_isRest_24 : decode cX6_isRest 24 = .ok (.bipush 6, 2) := by decide +kernel
theorem dX6_isRest_26 : decode cX6_isRest 26 = .ok (.imul, 1) := by decide +kernel
theorem dX6_isRest_27 : decode cX6_isRest 27 = .ok (.iload_n 2, 1) := by decide +kernel
theorem dX6_isRest_28 : decode cX6_isRest 28 = .ok (.iadd, 1) := by decide +kernel
theorem dX6_isRest_29 : decode cX6_isRest 29 = .ok (.iaload, 1) := by decide +kernel
theorem dX6_isRest_30 : decode cX6_isRest 30 = .ok (.aload_n 0, 1) := by decide +kernel
theorem dX6_isRest_31 : decode cX6_isRest 31 = .ok (.getfield 57, 3) := by decide +kernel
theorem dX6_isRest_34 : decode cX6_isRest 34 = .ok (.iload_n 1, 1) := by decide +kernel
theorem dX6_isRest_35 : decode cX6_isRest 35 = .ok (.bipush 6, 2) := by decide +kernel
theorem dX6_isRest_37 : decode cX6_isRest 37 = .ok (.imul, 1) := by decide +kernel
theorem dX6_isRest_38 : decode cX6_isRest 38 = .ok (.iload_n 2, 1) := by decide +kernel
theorem dX6_isRest_39 : decode cX6_isRest 39 = .ok (.iadd, 1) := by decide +kernel
theorem dX6_isRest_40 : decode cX6_isRest 40 = .ok (.iaload, 1) := by decide +kernel
theorem dX6_isRest_41 : decode cX6_isRest 41 = .ok (.if_icmp .ge 5, 3) := by decide +kernel
theorem dX6_isRest_44 : decode cX6_isRest 44 = .ok (.iconst 0, 1) := by decide +kernel
theorem dX6_isRest_45 : decode cX6_isRest 45 = .ok (.ireturn, 1) := by decide +kernel
theorem dX6_isRest_46 : decode cX6_isRest 46 = .ok (.iinc 2 1, 3) := by decide +kernel
theorem dX6_isRest_49 : decode cX6_isRest 49 = .ok (.goto (-47), 3) := by decide +kernel
theorem dX6_isRest_52 : decode cX6_isRest 52 = .ok (.iconst 1, 1) := by decide +kernel
theorem dX6_isRest_53 : decode cX6_isRest 53 = .ok (.ireturn, 1) := by decide +kernel
theorem dX6_boy_0 : decode cX6_boy 0 = .ok (.aload_n 0, 1) := by decide +kernel
theorem dX6_boy_1 : decode cX6_boy 1 = .ok (.iload_n 1, 1) := by decide +kernel
theorem dX6_boy_2 : decode cX6_boy 2 = .ok (.iload_n 2, 1) := by decide +kernel
theorem dX6_boy_3 : decode cX6_boy 3 = .ok (.invokevirtual 195, 3) := by decide +kernel
theorem dX6_boy_6 : decode cX6_boy 6 = .ok (.ifCond .ne 5, 3) := by decide +kernel
theorem dX6_boy_9 : decode cX6_boy 9 = .ok (.iconst (-1), 1) := by decide +kernel
theorem dX6_boy_10 : decode cX6_boy 10 = .ok (.ireturn, 1) := by decide +kernel
theorem dX6_boy_11 : decode cX6_boy 11 = .ok (.aload_n 0, 1) := by decide +kernel
theorem dX6_boy_12 : decode cX6_boy 12 = .ok (.getfield 16, 3) := by decide +kernel
theorem dX6_boy_15 : decode cX6_boy 15 = .ok (.aload_n 0, 1) := by decide +kernel
theorem dX6_boy_16 : decode cX6_boy 16 = .ok (.getfield 10, 3) := by decide +kernel
theorem dX6_boy_19 : decode cX6_boy 19 = .ok (.invokevirtual 86, 3) := by decide +kernel
theorem dX6_boy_22 : decode cX6_boy 22 = .ok (.iconst 0, 1) := by decide +kernel
theorem dX6_boy_23 : decode cX6_boy 23 = .ok (.istore_n 3, 1) := by decide +kernel
theorem dX6_boy_24 : decode cX6_boy 24 = .ok (.iload_n 3, 1) := by decide +kernel
theorem dX6_boy_25 : decode cX6_boy 25 = .ok (.bipush 9, 2) := by decide +kernel
theorem dX6_boy_27 : decode cX6_boy 27 = .ok (.if_icmp .gt 50, 3) := by decide +kernel
theorem dX6_boy_30 : decode cX6_boy 30 = .ok (.aload_n 0, 1) := by decide +kernel
theorem dX6_boy_31 : decode cX6_boy 31 = .ok (.getfield 16, 3) := by decide +kernel
theorem dX6_boy_34 : decode cX6_boy 34 = .ok (.iload_n 1, 1) := by decide +kernel
theorem dX6_boy_35 : decode cX6_boy 35 = .ok (.iconst 4, 1) := by decide +kernel
theorem dX6_boy_36 : decode cX6_boy 36 = .ok (.iload_n 3, 1) := by decide +kernel
theorem dX6_boy_37 : decode cX6_boy 37 = .ok (.invokevirtual 125, 3) := by decide +kernel
theorem dX6_boy_40 : decode cX6_boy 40 = .ok (.aload_n 0, 1) := by decide +kernel
theorem dX6_boy_41 : decode cX6_boy 41 = .ok (.aload_n 0, 1) := by decide +kernel
theorem dX6_boy_42 : decode cX6_boy 42 = .ok (.getfield 16, 3) := by decide +kernel
theorem dX6_boy_45 : decode cX6_boy 45 = .ok (.invokevirtual 132, 3) := by decide +kernel
theorem dX6_boy_48 : decode cX6_boy 48 = .ok (.aload_n 0, 1) := by decide +kernel
theorem dX6_boy_49 : decode cX6_boy 49 = .ok (.getfield 42, 3) := by decide +kernel
theorem dX6_boy_52 : decode cX6_boy 52 = .ok (.getfield 138, 3) := by decide +kernel
theorem dX6_boy_55 : decode cX6_boy 55 = .ok (.iload_n 1, 1) := by decide +kernel
theorem dX6_boy_56 : decode cX6_boy 56 = .ok (.iaload, 1) := by decide +kernel
theorem dX6_boy_57 : decode cX6_boy 57 = .ok (.aload_n 0, 1) := by decide +kernel
theorem dX6_boy_58 : decode cX6_boy 58 = .ok (.getfield 42, 3) := by decide +kernel
theorem dX6_boy_61 : decode cX6_boy 61 = .ok (.getfield 138, 3) := by decide +kernel
theorem dX6_boy_64 : decode cX6_boy 64 = .ok (.iload_n 2, 1) := by decide +kernel
theorem dX6_boy_65 : decode cX6_boy 65 = .ok (.iaload, 1) := by decide +kernel
theorem dX6_boy_66 : decode cX6_boy 66 = .ok (.if_icmp .ge 5, 3) := by decide +kernel
theorem dX6_boy_69 : decode cX6_boy 69 = .ok (.iload_n 3, 1) := by decide +kernel
theorem dX6_boy_70 : decode cX6_boy 70 = .ok (.ireturn, 1) := by decide +kernel
theorem dX6_boy_71 : decode cX6_boy 71 = .ok (.iinc 3 1, 3) := by decide +kernel
theorem dX6_boy_74 : decode cX6_boy 74 = .ok (.goto (-50), 3) := by decide +kernel
theorem dX6_boy_77 : decode cX6_boy 77 = .ok (.bipush (-4), 2) := by decide +kernel
theorem dX6_boy_79 : decode cX6_boy 79 = .ok (.ireturn, 1) := by decide +kernel
theorem dX6_post_0 : decode cX6_post 0 = .ok (.iload_n 1, 1) := by decide +kernel
theorem dX6_post_1 : decode cX6_post 1 = .ok (.iconst 0, 1) := by decide +kernel
theorem dX6_post_2 : decode cX6_post 2 = .ok (.iconst 1, 1) := by decide +kernel
theorem dX6_post_3 : decode cX6_post 3 = .ok (.invokestatic 67, 3) := by decide +kernel
theorem dX6_post_6 : decode cX6_post 6 = .ok (.ifCond .ne 5, 3) := by decide +kernel
theorem dX6_post_9 : decode cX6_post 9 = .ok (.iconst (-1), 1) := by decide +kernel
theorem dX6_post_10 : decode cX6_post 10 = .ok (.ireturn, 1) := by decide +kernel
theorem dX6_post_11 : decode cX6_post 11 = .ok (.aload_n 0, 1) := by decide +kernel
theorem dX6_post_12 : decode cX6_post 12 = .ok (.getfield 16, 3) := by decide +kernel
theorem dX6_post_15 : decode cX6_post 15 = .ok (.aload_n 0, 1) := by decide +kernel
theorem dX6_post_16 : decode cX6_post 16 = .ok (.getfield 10, 3) := by decide +kernel
theorem dX6_post_19 : decode cX6_post 19 = .ok (.invokevirtual 86, 3) := by decide +kernel
theorem dX6_post_22 : decode cX6_post 22 = .ok (.iconst 0, 1) := by decide +kernel
theorem dX6_post_23 : decode cX6_post 23 = .ok (.istore_n 2, 1) := by decide +kernel
theorem dX6_post_24 : decode cX6_post 24 = .ok (.ldc 160, 2) := by decide +kernel
theorem dX6_post_26 : decode cX6_post 26 = .ok (.istore_n 3, 1) := by decide +kernel
theorem dX6_post_27 : decode cX6_post 27 = .ok (.iconst 0, 1) := by decide +kernel
theorem dX6_post_28 : decode cX6_post 28 = .ok (.istore 4, 2) := by decide +kernel
theorem dX6_post_30 : decode cX6_post 30 = .ok (.iload 4, 2) := by decide +kernel
theorem dX6_post_32 : decode cX6_post 32 = .ok (.bipush 9, 2) := by decide +kernel
theorem dX6_post_34 : decode cX6_post 34 = .ok (.if_icmp .gt 50, 3) := by decide +kernel
theorem dX6_post_37 : decode cX6_post 37 = .ok (.aload_n 0, 1) := by decide +kernel
theorem dX6_post_38 : decode cX6_post 38 = .ok (.getfield 16, 3) := by decide +kernel
theorem dX6_post_41 : decode cX6_post 41 = .ok (.getfield 102, 3) := by decide +kernel
theorem dX6_post_44 : decode cX6_post 44 = .ok (.iconst 4, 1) := by decide +kernel
theorem dX6_post_45 : decode cX6_post 45 = .ok (.iload 4, 2) := by decide +kernel
theorem dX6_post_47 : decode cX6_post 47 = .ok (.iastore, 1) := by decide +kernel
theorem dX6_post_48 : decode cX6_post 48 = .ok (.aload_n 0, 1) := by decide +kernel
theorem dX6_post_49 : decode cX6_post 49 = .ok (.aload_n 0, 1) := by decide +kernel
theorem dX6_post_50 : decode cX6_post 50 = .ok (.getfield 16, 3) := by decide +kernel
theorem dX6_post_53 : decode cX6_post 53 = .ok (.invokevirtual 132, 3) := by decide +kernel
theorem dX6_post_56 : decode cX6_post 56 = .ok (.aload_n 0, 1) := by decide +kernel
theorem dX6_post_57 : decode cX6_post 57 = .ok (.getfield 42, 3) := by decide +kernel
theorem dX6_post_60 : decode cX6_post 60 = .ok (.getfield 199, 3) := by decide +kernel
theorem dX6_post_63 : decode cX6_post 63 = .ok (.iload_n 3, 1) := by decide +kernel
theorem dX6_post_64 : decode cX6_post 64 = .ok (.if_icmp .ge 14, 3) := by decide +kernel
theorem dX6_post_67 : decode cX6_post 67 = .ok (.aload_n 0, 1) := by decide +kernel
theorem dX6_post_68 : decode cX6_post 68 = .ok (.getfield 42, 3) := by decide +kernel
theorem dX6_post_71 : decode cX6_post 71 = .ok (.getfield 199, 3) := by decide +kernel
theorem dX6_post_74 : decode cX6_post 74 = .ok (.istore_n 3, 1) := by decide +kernel
theorem dX6_post_75 : decode cX6_post 75 = .ok (.iload 4, 2) := by decide +kernel
theorem dX6_post_77 : decode cX6_post 77 = .ok (.istore_n 2, 1) := by decide +kernel
theorem dX6_post_78 : decode cX6_post 78 = .ok (.iinc 4 1, 3) := by decide +kernel
theorem dX6_post_81 : decode cX6_post 81 = .ok (.goto (-51), 3) := by decide +kernel
theorem dX6_post_84 : decode cX6_post 84 = .ok (.iload_n 1, 1) := by decide +kernel
theorem dX6_post_85 : decode cX6_post 85 = .ok (.ifCond .ne 7, 3) := by decide +kernel
theorem dX6_post_88 : decode cX6_post 88 = .ok (.iload_n 2, 1) := by decide +kernel
theorem dX6_post_89 : decode cX6_post 89 = .ok (.goto 4, 3) := by decide +kernel
theorem dX6_post_92 : decode cX6_post 92 = .ok (.iload_n 3, 1) := by decide +kernel
theorem dX6_post_93 : decode cX6_post 93 = .ok (.ireturn, 1) := by decide +kernel
theorem dX6_late_0 : decode cX6_late 0 = .ok (.aload_n 0, 1) := by decide +kernel
theorem dX6_late_1 : decode cX6_late 1 = .ok (.iload_n 1, 1) := by decide +kernel
theorem dX6_late_2 : decode cX6_late 2 = .ok (.invokevirtual 105, 3) := by decide +kernel
theorem dX6_late_5 : decode cX6_late 5 = .ok (.ifCond .ne 5, 3) := by decide +kernel
theorem dX6_late_8 : decode cX6_late 8 = .ok (.iconst (-1), 1) := by decide +kernel
theorem dX6_late_9 : decode cX6_late 9 = .ok (.ireturn, 1) := by decide +kernel
theorem dX6_late_10 : decode cX6_late 10 = .ok (.aload_n 0, 1) := by decide +kernel
theorem dX6_late_11 : decode cX6_late 11 = .ok (.aload_n 0, 1) := by decide +kernel
theorem dX6_late_12 : decode cX6_late 12 = .ok (.getfield 10, 3) := by decide +kernel
theorem dX6_late_15 : decode cX6_late 15 = .ok (.invokevirtual 132, 3) := by decide +kernel
theorem dX6_late_18 : decode cX6_late 18 = .ok (.aload_n 0, 1) := by decide +kernel
theorem dX6_late_19 : decode cX6_late 19 = .ok (.getfield 42, 3) := by decide +kernel
theorem dX6_late_22 : decode cX6_late 22 = .ok (.getfield 138, 3) := by decide +kernel
theorem dX6_late_25 : decode cX6_late 25 = .ok (.iload_n 1, 1) := by decide +kernel
theorem dX6_late_26 : decode cX6_late 26 = .ok (.iaload, 1) := by decide +kernel
theorem dX6_late_27 : decode cX6_late 27 = .ok (.istore_n 2, 1) := by decide +kernel
theorem dX6_late_28 : decode cX6_late 28 = .ok (.bipush 60, 2) := by decide +kernel
theorem dX6_late_30 : decode cX6_late 30 = .ok (.aload_n 0, 1) := by decide +kernel
theorem dX6_late_31 : decode cX6_late 31 = .ok (.getfield 42, 3) := by decide +kernel
theorem dX6_late_34 : decode cX6_late 34 = .ok (.getfield 141, 3) := by decide +kernel
theorem dX6_late_37 : decode cX6_late 37 = .ok (.iload_n 1, 1) := by decide +kernel
theorem dX6_late_38 : decode cX6_late 38 = .ok (.iaload, 1) := by decide +kernel
theorem dX6_late_39 : decode cX6_late 39 = .ok (.invokestatic 200, 3) := by decide +kernel
theorem dX6_late_42 : decode cX6_late 42 = .ok (.istore_n 3, 1) := by decide +kernel
theorem dX6_late_43 : decode cX6_late 43 = .ok (.aload_n 0, 1) := by decide +kernel
theorem dX6_late_44 : decode cX6_late 44 = .ok (.getfield 10, 3) := by decide +kernel
theorem dX6_late_47 : decode cX6_late 47 = .ok (.iload_n 1, 1) := by decide +kernel
theorem dX6_late_48 : decode cX6_late 48 = .ok (.iconst 2, 1) := by decide +kernel
theorem dX6_late_49 : decode cX6_late 49 = .ok (.invokevirtual 112, 3) := by decide +kernel
theorem dX6_late_52 : decode cX6_late 52 = .ok (.istore 4, 2) := by decide +kernel
theorem dX6_late_54 : decode cX6_late 54 = .ok (.aload_n 0, 1) := by decide +kernel
theorem dX6_late_55 : decode cX6_late 55 = .ok (.getfield 16, 3) := by decide +kernel
theorem dX6_late_58 : decode cX6_late 58 = .ok (.aload_n 0, 1) := by decide +kernel
theorem dX6_late_59 : decode cX6_late 59 = .ok (.getfield 10, 3) := by decide +kernel
theorem dX6_late_62 : decode cX6_late 62 = .ok (.invokevirtual 86, 3) := by decide +kernel
theorem dX6_late_65 : decode cX6_late 65 = .ok (.iload_n 3, 1) := by decide +kernel
theorem dX6_late_66 : decode cX6_late 66 = .ok (.istore 5, 2) := by decide +kernel
theorem dX6_late_68 : decode cX6_late 68 = .ok (.iload 5, 2) := by decide +kernel
theorem dX6_late_70 : decode cX6_late 70 = .ok (.ifCond .le 47, 3) := by decide +kernel
theorem dX6_late_73 : decode cX6_late 73 = .ok (.aload_n 0, 1) := by decide +kernel
theorem dX6_late_74 : decode cX6_late 74 = .ok (.getfield 16, 3) := by decide +kernel
theorem dX6_late_77 : decode cX6_late 77 = .ok (.iload_n 1, 1) := by decide +kernel
theorem dX6_late_78 : decode cX6_late 78 = .ok (.iconst 2, 1) := by decide +kernel
theorem dX6_late_79 : decode cX6_late 79 = .ok (.iload 4, 2) := by decide +kernel
theorem dX6_late_81 : decode cX6_late 81 = .ok (.iload 5, 2) := by decide +kernel
theorem dX6_late_83 : decode cX6_late 83 = .ok (.iadd, 1) := by decide +kernel
theorem dX6_late_84 : decode cX6_late 84 = .ok (.invokevirtual 125, 3) := by decide +kernel
theorem dX6_late_87 : decode cX6_late 87 = .ok (.aload_n 0, 1) := by decide +kernel
theorem dX6_late_88 : decode cX6_late 88 = .ok (.aload_n 0, 1) := by decide +kernel
theorem dX6_late_89 : decode cX6_late 89 = .ok (.getfield 16, 3) := by decide +kernel
theorem dX6_late_92 : decode cX6_late 92 = .ok (.invokevirtual 132, 3) := by decide +kernel
theorem dX6_late_95 : decode cX6_late 95 = .ok (.aload_n 0, 1) := by decide +kernel
theorem dX6_late_96 : decode cX6_late 96 = .ok (.getfield 42, 3) := by decide +kernel
theorem dX6_late_99 : decode cX6_late 99 = .ok (.getfield 138, 3) := by decide +kernel
theorem dX6_late_102 : decode cX6_late 102 = .ok (.iload_n 1, 1) := by decide +kernel
theorem dX6_late_103 : decode cX6_late 103 = .ok (.iaload, 1) := by decide +kernel
theorem dX6_late_104 : decode cX6_late 104 = .ok (.iload_n 2, 1) := by decide +kernel
theorem dX6_late_105 : decode cX6_late 105 = .ok (.if_icmp .gt 6, 3) := by decide +kernel
theorem dX6_late_108 : decode cX6_late 108 = .ok (.iload 5, 2) := by decide +kernel
theorem dX6_late_110 : decode cX6_late 110 = .ok (.ireturn, 1) := by decide +kernel
theorem dX6_late_111 : decode cX6_late 111 = .ok (.iinc 5 (-1), 3) := by decide +kernel
theorem dX6_late_114 : decode cX6_late 114 = .ok (.goto (-46), 3) := by decide +kernel
theorem dX6_late_117 : decode cX6_late 117 = .ok (.iconst 0, 1) := by decide +kernel
theorem dX6_late_118 : decode cX6_late 118 = .ok (.ireturn, 1) := by decide +kernel
theorem dX6_deal_0 : decode cX6_deal 0 = .ok (.aload_n 0, 1) := by decide +kernel
theorem dX6_deal_1 : decode cX6_deal 1 = .ok (.iload_n 1, 1) := by decide +kernel
theorem dX6_deal_2 : decode cX6_deal 2 = .ok (.iload_n 2, 1) := by decide +kernel
theorem dX6_deal_3 : decode cX6_deal 3 = .ok (.invokevirtual 195, 3) := by decide +kernel
theorem dX6_deal_6 : decode cX6_deal 6 = .ok (.ifCond .eq 12, 3) := by decide +kernel
theorem dX6_deal_9 : decode cX6_deal 9 = .ok (.iload_n 3, 1) := by decide +kernel
theorem dX6_deal_10 : decode cX6_deal 10 = .ok (.iconst 0, 1) := by decide +kernel
theorem dX6_deal_11 : decode cX6_deal 11 = .ok (.iconst 2, 1) := by decide +kernel
theorem dX6_deal_12 : decode cX6_deal 12 = .ok (.invokestatic 67, 3) := by decide +kernel
theorem dX6_deal_15 : decode cX6_deal 15 = .ok (.ifCond .ne 5, 3) := by decide +kernel
theorem dX6_deal_18 : decode cX6_deal 18 = .ok (.iconst (-1), 1) := by decide +kernel
theorem dX6_deal_19 : decode cX6_deal 19 = .ok (.ireturn, 1) := by decide +kernel
theorem dX6_deal_20 : decode cX6_deal 20 = .ok (.iload_n 3, 1) := by decide +kernel
theorem dX6_deal_21 : decode cX6_deal 21 = .ok (.ifCond .ne 7, 3) := by decide +kernel
theorem dX6_deal_24 : decode cX6_deal 24 = .ok (.iload_n 1, 1) := by decide +kernel
theorem dX6_deal_25 : decode cX6_deal 25 = .ok (.goto 4, 3) := by decide +kernel
theorem dX6_deal_28 : decode cX6_deal 28 = .ok (.iload_n 2, 1) := by decide +kernel
theorem dX6_deal_29 : decode cX6_deal 29 = .ok (.istore 4, 2) := by decide +kernel
theorem dX6_deal_31 : decode cX6_deal 31 = .ok (.aload_n 0, 1) := by decide +kernel
theorem dX6_deal_32 : decode cX6_deal 32 = .ok (.aload_n 0, 1) := by decide +kernel
theorem dX6_deal_33 : decode cX6_deal 33 = .ok (.getfield 10, 3) := by decide +kernel
theorem dX6_deal_36 : decode cX6_deal 36 = .ok (.invokevirtual 132, 3) := by decide +kernel
theorem dX6_deal_39 : decode cX6_deal 39 = .ok (.iload_n 3, 1) := by decide +kernel
theorem dX6_deal_40 : decode cX6_deal 40 = .ok (.iconst 2, 1) := by decide +kernel
theorem dX6_deal_41 : decode cX6_deal 41 = .ok (.if_icmp .ne 13, 3) := by decide +kernel
theorem dX6_deal_44 : decode cX6_deal 44 = .ok (.aload_n 0, 1) := by decide +kernel
theorem dX6_deal_45 : decode cX6_deal 45 = .ok (.getfield 42, 3) := by decide +kernel
theorem dX6_deal_48 : decode cX6_deal 48 = .ok (.getfield 199, 3) := by decide +kernel
theorem dX6_deal_51 : decode cX6_deal 51 = .ok (.goto 16, 3) := by decide +kernel
theorem dX6_deal_54 : decode cX6_deal 54 = .ok (.aload_n 0, 1) := by decide +kernel
theorem dX6_deal_55 : decode cX6_deal 55 = .ok (.getfield 42, 3) := by decide +kernel
theorem dX6_deal_58 : decode cX6_deal 58 = .ok (.aload_n 0, 1) := by decide +kernel
theorem dX6_deal_59 : decode cX6_deal 59 = .ok (.getfield 10, 3) := by decide +kernel
theorem dX6_deal_62 : decode cX6_deal 62 = .ok (.iload 4, 2) := by decide +kernel
theorem dX6_deal_64 : decode cX6_deal 64 = .ok (.invokevirtual 205, 3) := by decide +kernel
theorem dX6_deal_67 : decode cX6_deal 67 = .ok (.istore 5, 2) := by decide +kernel
theorem dX6_deal_69 : decode cX6_deal 69 = .ok (.iconst 0, 1) := by decide +kernel
theorem dX6_deal_70 : decode cX6_deal 70 = .ok (.istore 6, 2) := by decide +kernel
theorem dX6_deal_72 : decode cX6_deal 72 = .ok (.iload 6, 2) := by decide +kernel
theorem dX6_deal_74 : decode cX6_deal 74 = .ok (.aload_n 0, 1) := by decide +kernel
theorem dX6_deal_75 : decode cX6_deal 75 = .ok (.getfield 10, 3) := by decide +kernel
theorem dX6_deal_78 : decode cX6_deal 78 = .ok (.getfield 96, 3) := by decide +kernel
theorem dX6_deal_81 : decode cX6_deal 81 = .ok (.if_icmp .ge 50, 3) := by decide +kernel
theorem dX6_deal_84 : decode cX6_deal 84 = .ok (.aload_n 0, 1) := by decide +kernel
theorem dX6_deal_85 : decode cX6_deal 85 = .ok (.getfield 42, 3) := by decide +kernel
theorem dX6_deal_88 : decode cX6_deal 88 = .ok (.getfield 135, 3) := by decide +kernel
theorem dX6_deal_91 : decode cX6_deal 91 = .ok (.iload 6, 2) := by decide +kernel
theorem dX6_deal_93 : decode cX6_deal 93 = .ok (.iaload, 1) := by decide +kernel
theorem dX6_deal_94 : decode cX6_deal 94 = .ok (.istore 7, 2) := by decide +kernel
theorem dX6_deal_96 : decode cX6_deal 96 = .ok (.aload_n 0, 1) := by decide +kernel
theorem dX6_deal_97 : decode cX6_deal 97 = .ok (.getfield 53, 3) := by decide +kernel
theorem dX6_deal_100 : decode cX6_deal 100 = .ok (.iload 6, 2) := by decide +kernel
theorem dX6_deal_102 : decode cX6_deal 102 = .ok (.iload 7, 2) := by decide +kernel
theorem dX6_deal_104 : decode cX6_deal 104 = .ok (.iload_n 1, 1) := by decide +kernel
theorem dX6_deal_105 : decode cX6_deal 105 = .ok (.if_icmp .ne 7, 3) := by decide +kernel
theorem dX6_deal_108 : decode cX6_deal 108 = .ok (.iload_n 2, 1) := by decide +kernel
theorem dX6_deal_109 : decode cX6_deal 109 = .ok (.goto 15, 3) := by decide +kernel
theorem dX6_deal_112 : decode cX6_deal 112 = .ok (.iload 7, 2) := by decide +kernel
theorem dX6_deal_114 : decode cX6_deal 114 = .ok (.iload_n 2, 1) := by decide +kernel
theorem dX6_deal_115 : decode cX6_deal 115 = .ok (.if_icmp .ne 7, 3) := by decide +kernel
theorem dX6_deal_118 : decode cX6_deal 118 = .ok (.iload_n 1, 1) := by decide +kernel
theorem dX6_deal_119 : decode cX6_deal 119 = .ok (.goto 5, 3) := by decide +kernel
theorem dX6_deal_122 : decode cX6_deal 122 = .ok (.iload 7, 2) := by decide +kernel
theorem dX6_deal_124 : decode cX6_deal 124 = .ok (.iastore, 1) := by decide +kernel
theorem dX6_deal_125 : decode cX6_deal 125 = .ok (.iinc 6 1, 3) := by decide +kernel
theorem dX6_deal_128 : decode cX6_deal 128 = .ok (.goto (-56), 3) := by decide +kernel
theorem dX6_deal_131 : decode cX6_deal 131 = .ok (.aload_n 0, 1) := by decide +kernel
theorem dX6_deal_132 : decode cX6_deal 132 = .ok (.getfield 42, 3) := by decide +kernel
theorem dX6_deal_135 : decode cX6_deal 135 = .ok (.aload_n 0, 1) := by decide +kernel
theorem dX6_deal_136 : decode cX6_deal 136 = .ok (.getfield 10, 3) := by decide +kernel
theorem dX6_deal_139 : decode cX6_deal 139 = .ok (.aload_n 0, 1) := by decide +kernel
theorem dX6_deal_140 : decode cX6_deal 140 = .ok (.getfield 53, 3) := by decide +kernel
theorem dX6_deal_143 : decode cX6_deal 143 = .ok (.invokevirtual 209, 3) := by decide +kernel
theorem dX6_deal_146 : decode cX6_deal 146 = .ok (.iload_n 3, 1) := by decide +kernel
theorem dX6_deal_147 : decode cX6_deal 147 = .ok (.iconst 2, 1) := by decide +kernel
theorem dX6_deal_148 : decode cX6_deal 148 = .ok (.if_icmp .ne 13, 3) := by decide +kernel
theorem dX6_deal_151 : decode cX6_deal 151 = .ok (.aload_n 0, 1) := by decide +kernel
theorem dX6_deal_152 : decode cX6_deal 152 = .ok (.getfield 42, 3) := by decide +kernel
theorem dX6_deal_155 : decode cX6_deal 155 = .ok (.getfield 199, 3) := by decide +kernel
theorem dX6_deal_158 : decode cX6_deal 158 = .ok (.goto 16, 3) := by decide +kernel
theorem dX6_deal_161 : decode cX6_deal 161 = .ok (.aload_n 0, 1) := by decide +kernel
theorem dX6_deal_162 : decode cX6_deal 162 = .ok (.getfield 42, 3) := by decide +kernel
theorem dX6_deal_165 : decode cX6_deal 165 = .ok (.aload_n 0, 1) := by decide +kernel
theorem dX6_deal_166 : decode cX6_deal 166 = .ok (.getfield 10, 3) := by decide +kernel
theorem dX6_deal_169 : decode cX6_deal 169 = .ok (.iload 4, 2) := by decide +kernel
theorem dX6_deal_171 : decode cX6_deal 171 = .ok (.invokevirtual 205, 3) := by decide +kernel
theorem dX6_deal_174 : decode cX6_deal 174 = .ok (.istore 6, 2) := by decide +kernel
theorem dX6_deal_176 : decode cX6_deal 176 = .ok (.sipush 10000, 3) := by decide +kernel
theorem dX6_deal_179 : decode cX6_deal 179 = .ok (.iload 5, 2) := by decide +kernel
theorem dX6_deal_181 : decode cX6_deal 181 = .ok (.iadd, 1) := by decide +kernel
theorem dX6_deal_182 : decode cX6_deal 182 = .ok (.iload 6, 2) := by decide +kernel
theorem dX6_deal_184 : decode cX6_deal 184 = .ok (.isub, 1) := by decide +kernel
theorem dX6_deal_185 : decode cX6_deal 185 = .ok (.ireturn, 1) := by decide +kernel
theorem dX6_mean_0 : decode cX6_mean 0 = .ok (.iload_n 1, 1) := by decide +kernel
theorem dX6_mean_1 : decode cX6_mean 1 = .ok (.iconst 0, 1) := by decide +kernel
theorem dX6_mean_2 : decode cX6_mean 2 = .ok (.bipush 10, 2) := by decide +kernel
theorem dX6_mean_4 : decode cX6_mean 4 = .ok (.invokestatic 67, 3) := by decide +kernel
theorem dX6_mean_7 : decode cX6_mean 7 = .ok (.ifCond .eq 20, 3) := by decide +kernel
theorem dX6_mean_10 : decode cX6_mean 10 = .ok (.aload_n 0, 1) := by decide +kernel
theorem dX6_mean_11 : decode cX6_mean 11 = .ok (.iload_n 2, 1) := by decide +kernel
theorem dX6_mean_12 : decode cX6_mean 12 = .ok (.invokevirtual 105, 3) := by decide +kernel
theorem dX6_mean_15 : decode cX6_mean 15 = .ok (.ifCond .eq 12, 3) := by decide +kernel
theorem dX6_mean_18 : decode cX6_mean 18 = .ok (.iload_n 3, 1) := by decide +kernel
theorem dX6_mean_19 : decode cX6_mean 19 = .ok (.iconst 0, 1) := by decide +kernel
theorem dX6_mean_20 : decode cX6_mean 20 = .ok (.iconst 1, 1) := by decide +kernel
theorem dX6_mean_21 : decode cX6_mean 21 = .ok (.invokestatic 67, 3) := by decide +kernel
theorem dX6_mean_24 : decode cX6_mean 24 = .ok (.ifCond .ne 7, 3) := by decide +kernel
theorem dX6_mean_27 : decode cX6_mean 27 = .ok (.ldc2_w 213, 3) := by decide +kernel
theorem dX6_mean_30 : decode cX6_mean 30 = .ok (.lreturn, 1) := by decide +kernel
theorem dX6_mean_31 : decode cX6_mean 31 = .ok (.lconst 0, 1) := by decide +kernel
theorem dX6_mean_32 : decode cX6_mean 32 = .ok (.lstore 4, 2) := by decide +kernel
theorem dX6_mean_34 : decode cX6_mean 34 = .ok (.iconst 0, 1) := by decide +kernel
theorem dX6_mean_35 : decode cX6_mean 35 = .ok (.istore 6, 2) := by decide +kernel
theorem dX6_mean_37 : decode cX6_mean 37 = .ok (.iload 6, 2) := by decide +kernel
theorem dX6_mean_39 : decode cX6_mean 39 = .ok (.aload_n 0, 1) := by decide +kernel
theorem dX6_mean_40 : decode cX6_mean 40 = .ok (.getfield 10, 3) := by decide +kernel
theorem dX6_mean_43 : decode cX6_mean 43 = .ok (.getfield 99, 3) := by decide +kernel
theorem dX6_mean_46 : decode cX6_mean 46 = .ok (.if_icmp .gt 72, 3) := by decide +kernel
theorem dX6_mean_49 : decode cX6_mean 49 = .ok (.aload_n 0, 1) := by decide +kernel
theorem dX6_mean_50 : decode cX6_mean 50 = .ok (.iload_n 1, 1) := by decide +kernel
theorem dX6_mean_51 : decode cX6_mean 51 = .ok (.iload 6, 2) := by decide +kernel
theorem dX6_mean_53 : decode cX6_mean 53 = .ok (.invokevirtual 215, 3) := by decide +kernel
theorem dX6_mean_56 : decode cX6_mean 56 = .ok (.lstore 7, 2) := by decide +kernel
theorem dX6_mean_58 : decode cX6_mean 58 = .ok (.lload 7, 2) := by decide +kernel
theorem dX6_mean_60 : decode cX6_mean 60 = .ok (.lconst 0, 1) := by decide +kernel
theorem dX6_mean_61 : decode cX6_mean 61 = .ok (.lcmp, 1) := by decide +kernel
theorem dX6_mean_62 : decode cX6_mean 62 = .ok (.ifCond .le 50, 3) := by decide +kernel
theorem dX6_mean_65 : decode cX6_mean 65 = .ok (.aload_n 0, 1) := by decide +kernel
theorem dX6_mean_66 : decode cX6_mean 66 = .ok (.getfield 42, 3) := by decide +kernel
theorem dX6_mean_69 : decode cX6_mean 69 = .ok (.aload_n 0, 1) := by decide +kernel
theorem dX6_mean_70 : decode cX6_mean 70 = .ok (.getfield 10, 3) := by decide +kernel
theorem dX6_mean_73 : decode cX6_mean 73 = .ok (.aload_n 0, 1) := by decide +kernel
theorem dX6_mean_74 : decode cX6_mean 74 = .ok (.getfield 10, 3) := by decide +kernel
theorem dX6_mean_77 : decode cX6_mean 77 = .ok (.getfield 102, 3) := by decide +kernel
theorem dX6_mean_80 : decode cX6_mean 80 = .ok (.iconst 3, 1) := by decide +kernel
theorem dX6_mean_81 : decode cX6_mean 81 = .ok (.iaload, 1) := by decide +kernel
theorem dX6_mean_82 : decode cX6_mean 82 = .ok (.aload_n 0, 1) := by decide +kernel
theorem dX6_mean_83 : decode cX6_mean 83 = .ok (.getfield 10, 3) := by decide +kernel
theorem dX6_mean_86 : decode cX6_mean 86 = .ok (.getfield 99, 3) := by decide +kernel
theorem dX6_mean_89 : decode cX6_mean 89 = .ok (.iload 6, 2) := by decide +kernel
theorem dX6_mean_91 : decode cX6_mean 91 = .ok (.invokevirtual 153, 3) := by decide +kernel
theorem dX6_mean_94 : decode cX6_mean 94 = .ok (.lload 4, 2) := by decide +kernel
theorem dX6_mean_96 : decode cX6_mean 96 = .ok (.lload 7, 2) := by decide +kernel
theorem dX6_mean_98 : decode cX6_mean 98 = .ok (.aload_n 0, 1) := by decide +kernel
theorem dX6_mean_99 : decode cX6_mean 99 = .ok (.getfield 42, 3) := by decide +kernel
theorem dX6_mean_102 : decode cX6_mean 102 = .ok (.getfield 141, 3) := by decide +kernel
theorem dX6_mean_105 : decode cX6_mean 105 = .ok (.iload_n 2, 1) := by decide +kernel
theorem dX6_mean_106 : decode cX6_mean 106 = .ok (.iaload, 1) := by decide +kernel
theorem dX6_mean_107 : decode cX6_mean 107 = .ok (.i2l, 1) := by decide +kernel
theorem dX6_mean_108 : decode cX6_mean 108 = .ok (.lmul, 1) := by decide +kernel
theorem dX6_mean_109 : decode cX6_mean 109 = .ok (.ladd, 1) := by decide +kernel
theorem dX6_mean_110 : decode cX6_mean 110 = .ok (.lstore 4, 2) := by decide +kernel
theorem dX6_mean_112 : decode cX6_mean 112 = .ok (.iinc 6 1, 3) := by decide +kernel
theorem dX6_mean_115 : decode cX6_mean 115 = .ok (.goto (-78), 3) := by decide +kernel
theorem dX6_mean_118 : decode cX6_mean 118 = .ok (.lload 4, 2) := by decide +kernel
theorem dX6_mean_120 : decode cX6_mean 120 = .ok (.aload_n 0, 1) := by decide +kernel
theorem dX6_mean_121 : decode cX6_mean 121 = .ok (.invokevirtual 219, 3) := by decide +kernel
theorem dX6_mean_124 : decode cX6_mean 124 = .ok (.iload_n 3, 1) := by decide +kernel
theorem dX6_mean_125 : decode cX6_mean 125 = .ok (.invokestatic 223, 3) := by decide +kernel
theorem dX6_mean_128 : decode cX6_mean 128 = .ok (.lreturn, 1) := by decide +kernel
theorem dX6_luck_0 : decode cX6_luck 0 = .ok (.iload_n 1, 1) := by decide +kernel
theorem dX6_luck_1 : decode cX6_luck 1 = .ok (.iconst 0, 1) := by decide +kernel
theorem dX6_luck_2 : decode cX6_luck 2 = .ok (.bipush 10, 2) := by decide +kernel
theorem dX6_luck_4 : decode cX6_luck 4 = .ok (.invokestatic 67, 3) := by decide +kernel
theorem dX6_luck_7 : decode cX6_luck 7 = .ok (.ifCond .eq 29, 3) := by decide +kernel
theorem dX6_luck_10 : decode cX6_luck 10 = .ok (.aload_n 0, 1) := by decide +kernel
theorem dX6_luck_11 : decode cX6_luck 11 = .ok (.iload_n 2, 1) := by decide +kernel
theorem dX6_luck_12 : decode cX6_luck 12 = .ok (.invokevirtual 105, 3) := by decide +kernel
theorem dX6_luck_15 : decode cX6_luck 15 = .ok (.ifCond .eq 21, 3) := by decide +kernel
theorem dX6_luck_18 : decode cX6_luck 18 = .ok (.aload_n 0, 1) := by decide +kernel
theorem dX6_luck_19 : decode cX6_luck 19 = .ok (.iload_n 3, 1) := by decide +kernel
theorem dX6_luck_20 : decode cX6_luck 20 = .ok (.invokevirtual 105, 3) := by decide +kernel
theorem dX6_luck_23 : decode cX6_luck 23 = .ok (.ifCond .eq 13, 3) := by decide +kernel
theorem dX6_luck_26 : decode cX6_luck 26 = .ok (.iload 4, 2) := by decide +kernel
theorem dX6_luck_28 : decode cX6_luck 28 = .ok (.iconst 0, 1) := by decide +kernel
theorem dX6_luck_29 : decode cX6_luck 29 = .ok (.iconst 1, 1) := by decide +kernel
theorem dX6_luck_30 : decode cX6_luck 30 = .ok (.invokestatic 67, 3) := by decide +kernel
theorem dX6_luck_33 : decode cX6_luck 33 = .ok (.ifCond .ne 7, 3) := by decide +kernel
theorem dX6_luck_36 : decode cX6_luck 36 = .ok (.ldc2_w 213, 3) := by decide +kernel
theorem dX6_luck_39 : decode cX6_luck 39 = .ok (.lreturn, 1) := by decide +kernel
theorem dX6_luck_40 : decode cX6_luck 40 = .ok (.lconst 0, 1) := by decide +kernel
theorem dX6_luck_41 : decode cX6_luck 41 = .ok (.lstore 5, 2) := by decide +kernel
theorem dX6_luck_43 : decode cX6_luck 43 = .ok (.iconst 0, 1) := by decide +kernel
theorem dX6_luck_44 : decode cX6_luck 44 = .ok (.istore 7, 2) := by decide +kernel
theorem dX6_luck_46 : decode cX6_luck 46 = .ok (.iload 7, 2) := by decide +kernel
theorem dX6_luck_48 : decode cX6_luck 48 = .ok (.aload_n 0, 1) := by decide +kernel
theorem dX6_luck_49 : decode cX6_luck 49 = .ok (.getfield 10, 3) := by decide +kernel
theorem dX6_luck_52 : decode cX6_luck 52 = .ok (.getfield 99, 3) := by decide +kernel
theorem dX6_luck_55 : decode cX6_luck 55 = .ok (.if_icmp .gt 78, 3) := by decide +kernel
theorem dX6_luck_58 : decode cX6_luck 58 = .ok (.aload_n 0, 1) := by decide +kernel
theorem dX6_luck_59 : decode cX6_luck 59 = .ok (.iload_n 1, 1) := by decide +kernel
theorem dX6_luck_60 : decode cX6_luck 60 = .ok (.iload 7, 2) := by decide +kernel
theorem dX6_luck_62 : decode cX6_luck 62 = .ok (.invokevirtual 215, 3) := by decide +kernel
theorem dX6_luck_65 : decode cX6_luck 65 = .ok (.lstore 8, 2) := by decide +kernel
theorem dX6_luck_67 : decode cX6_luck 67 = .ok (.lload 8, 2) := by decide +kernel
theorem dX6_luck_69 : decode cX6_luck 69 = .ok (.lconst 0, 1) := by decide +kernel
theorem dX6_luck_70 : decode cX6_luck 70 = .ok (.lcmp, 1) := by decide +kernel
theorem dX6_luck_71 : decode cX6_luck 71 = .ok (.ifCond .le 56, 3) := by decide +kernel
theorem dX6_luck_74 : decode cX6_luck 74 = .ok (.aload_n 0, 1) := by decide +kernel
theorem dX6_luck_75 : decode cX6_luck 75 = .ok (.getfield 42, 3) := by decide +kernel
theorem dX6_luck_78 : decode cX6_luck 78 = .ok (.aload_n 0, 1) := by decide +kernel
theorem dX6_luck_79 : decode cX6_luck 79 = .ok (.getfield 10, 3) := by decide +kernel
theorem dX6_luck_82 : decode cX6_luck 82 = .ok (.aload_n 0, 1) := by decide +kernel
theorem dX6_luck_83 : decode cX6_luck 83 = .ok (.getfield 10, 3) := by decide +kernel
theorem dX6_luck_86 : decode cX6_luck 86 = .ok (.getfield 102, 3) := by decide +kernel
theorem dX6_luck_89 : decode cX6_luck 89 = .ok (.iconst 3, 1) := by decide +kernel
theorem dX6_luck_90 : decode cX6_luck 90 = .ok (.iaload, 1) := by decide +kernel
theorem dX6_luck_91 : decode cX6_luck 91 = .ok (.aload_n 0, 1) := by decide +kernel
theorem dX6_luck_92 : decode cX6_luck 92 = .ok (.getfield 10, 3) := by decide +kernel
theorem dX6_luck_95 : decode cX6_luck 95 = .ok (.getfield 99, 3) := by decide +kernel
theorem dX6_luck_98 : decode cX6_luck 98 = .ok (.iload 7, 2) := by decide +kernel
theorem dX6_luck_100 : decode cX6_luck 100 = .ok (.invokevirtual 153, 3) := by decide +kernel
theorem dX6_luck_103 : decode cX6_luck 103 = .ok (.lload 5, 2) := by decide +kernel
theorem dX6_luck_105 : decode cX6_luck 105 = .ok (.aload_n 0, 1) := by decide +kernel
theorem dX6_luck_106 : decode cX6_luck 106 = .ok (.getfield 42, 3) := by decide +kernel
theorem dX6_luck_109 : decode cX6_luck 109 = .ok (.getfield 135, 3) := by decide +kernel
theorem dX6_luck_112 : decode cX6_luck 112 = .ok (.iload_n 3, 1) := by decide +kernel
theorem dX6_luck_113 : decode cX6_luck 113 = .ok (.iaload, 1) := by decide +kernel
theorem dX6_luck_114 : decode cX6_luck 114 = .ok (.iload_n 2, 1) := by decide +kernel
theorem dX6_luck_115 : decode cX6_luck 115 = .ok (.if_icmp .ne 8, 3) := by decide +kernel
theorem dX6_luck_118 : decode cX6_luck 118 = .ok (.lload 8, 2) := by decide +kernel
theorem dX6_luck_120 : decode cX6_luck 120 = .ok (.goto 4, 3) := by decide +kernel
theorem dX6_luck_123 : decode cX6_luck 123 = .ok (.lconst 0, 1) := by decide +kernel
theorem dX6_luck_124 : decode cX6_luck 124 = .ok (.ladd, 1) := by decide +kernel
theorem dX6_luck_125 : decode cX6_luck 125 = .ok (.lstore 5, 2) := by decide +kernel
theorem dX6_luck_127 : decode cX6_luck 127 = .ok (.iinc 7 1, 3) := by decide +kernel
theorem dX6_luck_130 : decode cX6_luck 130 = .ok (.goto (-84), 3) := by decide +kernel
theorem dX6_luck_133 : decode cX6_luck 133 = .ok (.lload 5, 2) := by decide +kernel
theorem dX6_luck_135 : decode cX6_luck 135 = .ok (.aload_n 0, 1) := by decide +kernel
theorem dX6_luck_136 : decode cX6_luck 136 = .ok (.invokevirtual 219, 3) := by decide +kernel
theorem dX6_luck_139 : decode cX6_luck 139 = .ok (.iload 4, 2) := by decide +kernel
theorem dX6_luck_141 : decode cX6_luck 141 = .ok (.invokestatic 223, 3) := by decide +kernel
theorem dX6_luck_144 : decode cX6_luck 144 = .ok (.lreturn, 1) := by decide +kernel
theorem dX6_weight_0 : decode cX6_weight 0 = .ok (.iload_n 2, 1) := by decide +kernel
theorem dX6_weight_1 : decode cX6_weight 1 = .ok (.aload_n 0, 1) := by decide +kernel
theorem dX6_weight_2 : decode cX6_weight 2 = .ok (.getfield 10, 3) := by decide +kernel
theorem dX6_weight_5 : decode cX6_weight 5 = .ok (.getfield 99, 3) := by decide +kernel
theorem dX6_weight_8 : decode cX6_weight 8 = .ok (.iconst (-1), 1) := by decide +kernel
theorem dX6_weight_9 : decode cX6_weight 9 = .ok (.ixor, 1) := by decide +kernel
theorem dX6_weight_10 : decode cX6_weight 10 = .ok (.iand, 1) := by decide +kernel
theorem dX6_weight_11 : decode cX6_weight 11 = .ok (.ifCond .eq 5, 3) := by decide +kernel
theorem dX6_weight_14 : decode cX6_weight 14 = .ok (.lconst 0, 1) := by decide +kernel
theorem dX6_weight_15 : decode cX6_weight 15 = .ok (.lreturn, 1) := by decide +kernel
theorem dX6_weight_16 : decode cX6_weight 16 = .ok (.lconst 1, 1) := by decide +kernel
theorem dX6_weight_17 : decode cX6_weight 17 = .ok (.lstore_n 3, 1) := by decide +kernel
theorem dX6_weight_18 : decode cX6_weight 18 = .ok (.iconst 0, 1) := by decide +kernel
theorem dX6_weight_19 : decode cX6_weight 19 = .ok (.istore 5, 2) := by decide +kernel
theorem dX6_weight_21 : decode cX6_weight 21 = .ok (.iload 5, 2) := by decide +kernel
theorem dX6_weight_23 : decode cX6_weight 23 = .ok (.aload_n 0, 1) := by decide +kernel
theorem dX6_weight_24 : decode cX6_weight 24 = .ok (.getfield 10, 3) := by decide +kernel
theorem dX6_weight_27 : decode cX6_weight 27 = .ok (.getfield 96, 3) := by decide +kernel
theorem dX6_weight_30 : decode cX6_weight 30 = .ok (.if_icmp .ge 48, 3) := by decide +kernel
theorem dX6_weight_33 : decode cX6_weight 33 = .ok (.aload_n 0, 1) := by decide +kernel
theorem dX6_weight_34 : decode cX6_weight 34 = .ok (.getfield 10, 3) := by decide +kernel
theorem dX6_weight_37 : decode cX6_weight 37 = .ok (.getfield 99, 3) := by decide +kernel
theorem dX6_weight_40 : decode cX6_weight 40 = .ok (.iload 5, 2) := by decide +kernel
theorem dX6_weight_42 : decode cX6_weight 42 = .ok (.ishr, 1) := by decide +kernel
theorem dX6_weight_43 : decode cX6_weight 43 = .ok (.iconst 1, 1) := by decide +kernel
theorem dX6_weight_44 : decode cX6_weight 44 = .ok (.iand, 1) := by decide +kernel
theorem dX6_weight_45 : decode cX6_weight 45 = .ok (.iconst 1, 1) := by decide +kernel
theorem dX6_weight_46 : decode cX6_weight 46 = .ok (.if_icmp .ne 26, 3) := by decide +kernel
theorem dX6_weight_49 : decode cX6_weight 49 = .ok (.lload_n 3, 1) := by decide +kernel
theorem dX6_weight_50 : decode cX6_weight 50 = .ok (.iload_n 2, 1) := by decide +kernel
theorem dX6_weight_51 : decode cX6_weight 51 = .ok (.iload 5, 2) := by decide +kernel
theorem dX6_weight_53 : decode cX6_weight 53 = .ok (.ishr, 1) := by decide +kernel
theorem dX6_weight_54 : decode cX6_weight 54 = .ok (.iconst 1, 1) := by decide +kernel
theorem dX6_weight_55 : decode cX6_weight 55 = .ok (.iand, 1) := by decide +kernel
theorem dX6_weight_56 : decode cX6_weight 56 = .ok (.iconst 1, 1) := by decide +kernel
theorem dX6_weight_57 : decode cX6_weight 57 = .ok (.if_icmp .ne 8, 3) := by decide +kernel
theorem dX6_weight_60 : decode cX6_weight 60 = .ok (.iload_n 1, 1) := by decide +kernel
theorem dX6_weight_61 : decode cX6_weight 61 = .ok (.i2l, 1) := by decide +kernel
theorem dX6_weight_62 : decode cX6_weight 62 = .ok (.goto 8, 3) := by decide +kernel
theorem dX6_weight_65 : decode cX6_weight 65 = .ok (.bipush 10, 2) := by decide +kernel
theorem dX6_weight_67 : decode cX6_weight 67 = .ok (.iload_n 1, 1) := by decide +kernel
theorem dX6_weight_68 : decode cX6_weight 68 = .ok (.isub, 1) := by decide +kernel
theorem dX6_weight_69 : decode cX6_weight 69 = .ok (.i2l, 1) := by decide +kernel
theorem dX6_weight_70 : decode cX6_weight 70 = .ok (.lmul, 1) := by decide +kernel
theorem dX6_weight_71 : decode cX6_weight 71 = .ok (.lstore_n 3, 1) := by decide +kernel
theorem dX6_weight_72 : decode cX6_weight 72 = .ok (.iinc 5 1, 3) := by decide +kernel
theorem dX6_weight_75 : decode cX6_weight 75 = .ok (.goto (-54), 3) := by decide +kernel
theorem dX6_weight_78 : decode cX6_weight 78 = .ok (.lload_n 3, 1) := by decide +kernel
theorem dX6_weight_79 : decode cX6_weight 79 = .ok (.lreturn, 1) := by decide +kernel
theorem dX6_weightOfAll_0 : decode cX6_weightOfAll 0 = .ok (.lconst 1, 1) := by decide +kernel
theorem dX6_weightOfAll_1 : decode cX6_weightOfAll 1 = .ok (.lstore_n 1, 1) := by decide +kernel
theorem dX6_weightOfAll_2 : decode cX6_weightOfAll 2 = .ok (.iconst 0, 1) := by decide +kernel
theorem dX6_weightOfAll_3 : decode cX6_weightOfAll 3 = .ok (.istore_n 3, 1) := by decide +kernel
theorem dX6_weightOfAll_4 : decode cX6_weightOfAll 4 = .ok (.iload_n 3, 1) := by decide +kernel
theorem dX6_weightOfAll_5 : decode cX6_weightOfAll 5 = .ok (.aload_n 0, 1) := by decide +kernel
theorem dX6_weightOfAll_6 : decode cX6_weightOfAll 6 = .ok (.getfield 10, 3) := by decide +kernel
theorem dX6_weightOfAll_9 : decode cX6_weightOfAll 9 = .ok (.getfield 96, 3) := by decide +kernel
theorem dX6_weightOfAll_12 : decode cX6_weightOfAll 12 = .ok (.if_icmp .ge 34, 3) := by decide +kernel
theorem dX6_weightOfAll_15 : decode cX6_weightOfAll 15 = .ok (.lload_n 1, 1) := by decide +kernel
theorem dX6_weightOfAll_16 : decode cX6_weightOfAll 16 = .ok (.aload_n 0, 1) := by decide +kernel
theorem dX6_weightOfAll_17 : decode cX6_weightOfAll 17 = .ok (.getfield 10, 3) := by decide +kernel
theorem dX6_weightOfAll_20 : decode cX6_weightOfAll 20 = .ok (.getfield 99, 3) := by decide +kernel
theorem dX6_weightOfAll_23 : decode cX6_weightOfAll 23 = .ok (.iload_n 3, 1) := by decide +kernel
theorem dX6_weightOfAll_24 : decode cX6_weightOfAll 24 = .ok (.ishr, 1) := by decide +kernel
theorem dX6_weightOfAll_25 : decode cX6_weightOfAll 25 = .ok (.iconst 1, 1) := by decide +kernel
theorem dX6_weightOfAll_26 : decode cX6_weightOfAll 26 = .ok (.iand, 1) := by decide +kernel
theorem dX6_weightOfAll_27 : decode cX6_weightOfAll 27 = .ok (.iconst 1, 1) := by decide +kernel
theorem dX6_weightOfAll_28 : decode cX6_weightOfAll 28 = .ok (.if_icmp .ne 9, 3) := by decide +kernel
theorem dX6_weightOfAll_31 : decode cX6_weightOfAll 31 = .ok (.ldc2_w 227, 3) := by decide +kernel
theorem dX6_weightOfAll_34 : decode cX6_weightOfAll 34 = .ok (.goto 4, 3) := by decide +kernel
theorem dX6_weightOfAll_37 : decode cX6_weightOfAll 37 = .ok (.lconst 1, 1) := by decide +kernel
theorem dX6_weightOfAll_38 : decode cX6_weightOfAll 38 = .ok (.lmul, 1) := by decide +kernel
theorem dX6_weightOfAll_39 : decode cX6_weightOfAll 39 = .ok (.lstore_n 1, 1) := by decide +kernel
theorem dX6_weightOfAll_40 : decode cX6_weightOfAll 40 = .ok (.iinc 3 1, 3) := by decide +kernel
theorem dX6_weightOfAll_43 : decode cX6_weightOfAll 43 = .ok (.goto (-39), 3) := by decide +kernel
theorem dX6_weightOfAll_46 : decode cX6_weightOfAll 46 = .ok (.lload_n 1, 1) := by decide +kernel
theorem dX6_weightOfAll_47 : decode cX6_weightOfAll 47 = .ok (.lreturn, 1) := by decide +kernel
theorem dX6_lowest_0 : decode cX6_lowest 0 = .ok (.lload_n 0, 1) := by decide +kernel
theorem dX6_lowest_1 : decode cX6_lowest 1 = .ok (.lload_n 2, 1) := by decide +kernel
theorem dX6_lowest_2 : decode cX6_lowest 2 = .ok (.invokestatic 229, 3) := by decide +kernel
theorem dX6_lowest_5 : decode cX6_lowest 5 = .ok (.lstore 5, 2) := by decide +kernel
theorem dX6_lowest_7 : decode cX6_lowest 7 = .ok (.lload 5, 2) := by decide +kernel
theorem dX6_lowest_9 : decode cX6_lowest 9 = .ok (.lconst 1, 1) := by decide +kernel
theorem dX6_lowest_10 : decode cX6_lowest 10 = .ok (.lcmp, 1) := by decide +kernel
theorem dX6_lowest_11 : decode cX6_lowest 11 = .ok (.ifCond .ge 5, 3) := by decide +kernel
theorem dX6_lowest_14 : decode cX6_lowest 14 = .ok (.lconst 0, 1) := by decide +kernel
theorem dX6_lowest_15 : decode cX6_lowest 15 = .ok (.lreturn, 1) := by decide +kernel
theorem dX6_lowest_16 : decode cX6_lowest 16 = .ok (.iload 4, 2) := by decide +kernel
theorem dX6_lowest_18 : decode cX6_lowest 18 = .ok (.ifCond .ne 10, 3) := by decide +kernel
theorem dX6_lowest_21 : decode cX6_lowest 21 = .ok (.lload_n 0, 1) := by decide +kernel
theorem dX6_lowest_22 : decode cX6_lowest 22 = .ok (.lload 5, 2) := by decide +kernel
theorem dX6_lowest_24 : decode cX6_lowest 24 = .ok (.ldiv, 1) := by decide +kernel
theorem dX6_lowest_25 : decode cX6_lowest 25 = .ok (.goto 7, 3) := by decide +kernel
theorem dX6_lowest_28 : decode cX6_lowest 28 = .ok (.lload_n 2, 1) := by decide +kernel
theorem dX6_lowest_29 : decode cX6_lowest 29 = .ok (.lload 5, 2) := by decide +kernel
theorem dX6_lowest_31 : decode cX6_lowest 31 = .ok (.ldiv, 1) := by decide +kernel
theorem dX6_lowest_32 : decode cX6_lowest 32 = .ok (.lreturn, 1) := by decide +kernel
theorem dX6_commonDivisor_0 : decode cX6_commonDivisor 0 = .ok (.iconst 0, 1) := by decide +kernel
theorem dX6_commonDivisor_1 : decode cX6_commonDivisor 1 = .ok (.istore 4, 2) := by decide +kernel
theorem dX6_commonDivisor_3 : decode cX6_commonDivisor 3 = .ok (.iload 4, 2) := by decide +kernel
theorem dX6_commonDivisor_5 : decode cX6_commonDivisor 5 = .ok (.sipush 200, 3) := by decide +kernel
theorem dX6_commonDivisor_8 : decode cX6_commonDivisor 8 = .ok (.if_icmp .ge 25, 3) := by decide +kernel
theorem dX6_commonDivisor_11 : decode cX6_commonDivisor 11 = .ok (.lload_n 2, 1) := by decide +kernel
theorem dX6_commonDivisor_12 : decode cX6_commonDivisor 12 = .ok (.lconst 0, 1) := by decide +kernel
theorem dX6_commonDivisor_13 : decode cX6_commonDivisor 13 = .ok (.lcmp, 1) := by decide +kernel
theorem dX6_commonDivisor_14 : decode cX6_commonDivisor 14 = .ok (.ifCond .eq 19, 3) := by decide +kernel
theorem dX6_commonDivisor_17 : decode cX6_commonDivisor 17 = .ok (.lload_n 0, 1) := by decide +kernel
theorem dX6_commonDivisor_18 : decode cX6_commonDivisor 18 = .ok (.lload_n 2, 1) := by decide +kernel
theorem dX6_commonDivisor_19 : decode cX6_commonDivisor 19 = .ok (.lrem, 1) := by decide +kernel
theorem dX6_commonDivisor_20 : decode cX6_commonDivisor 20 = .ok (.lstore 5, 2) := by decide +kernel
theorem dX6_commonDivisor_22 : decode cX6_commonDivisor 22 = .ok (.lload_n 2, 1) := by decide +kernel
theorem dX6_commonDivisor_23 : decode cX6_commonDivisor 23 = .ok (.lstore_n 0, 1) := by decide +kernel
theorem dX6_commonDivisor_24 : decode cX6_commonDivisor 24 = .ok (.lload 5, 2) := by decide +kernel
theorem dX6_commonDivisor_26 : decode cX6_commonDivisor 26 = .ok (.lstore_n 2, 1) := by decide +kernel
theorem dX6_commonDivisor_27 : decode cX6_commonDivisor 27 = .ok (.iinc 4 1, 3) := by decide +kernel
theorem dX6_commonDivisor_30 : decode cX6_commonDivisor 30 = .ok (.goto (-27), 3) := by decide +kernel
theorem dX6_commonDivisor_33 : decode cX6_commonDivisor 33 = .ok (.lload_n 0, 1) := by decide +kernel
theorem dX6_commonDivisor_34 : decode cX6_commonDivisor 34 = .ok (.lreturn, 1) := by decide +kernel
theorem dX6_see_0 : decode cX6_see 0 = .ok (.aload_n 0, 1) := by decide +kernel
theorem dX6_see_1 : decode cX6_see 1 = .ok (.iload_n 1, 1) := by decide +kernel
theorem dX6_see_2 : decode cX6_see 2 = .ok (.invokevirtual 105, 3) := by decide +kernel
theorem dX6_see_5 : decode cX6_see 5 = .ok (.ifCond .eq 11, 3) := by decide +kernel
theorem dX6_see_8 : decode cX6_see 8 = .ok (.aload_n 0, 1) := by decide +kernel
theorem dX6_see_9 : decode cX6_see 9 = .ok (.iload_n 2, 1) := by decide +kernel
theorem dX6_see_10 : decode cX6_see 10 = .ok (.invokevirtual 105, 3) := by decide +kernel
theorem dX6_see_13 : decode cX6_see 13 = .ok (.ifCond .ne 5, 3) := by decide +kernel
theorem dX6_see_16 : decode cX6_see 16 = .ok (.iconst (-1), 1) := by decide +kernel
theorem dX6_see_17 : decode cX6_see 17 = .ok (.ireturn, 1) := by decide +kernel
theorem dX6_see_18 : decode cX6_see 18 = .ok (.aload_n 0, 1) := by decide +kernel
theorem dX6_see_19 : decode cX6_see 19 = .ok (.getfield 10, 3) := by decide +kernel
theorem dX6_see_22 : decode cX6_see 22 = .ok (.iload_n 1, 1) := by decide +kernel
theorem dX6_see_23 : decode cX6_see 23 = .ok (.iload_n 2, 1) := by decide +kernel
theorem dX6_see_24 : decode cX6_see 24 = .ok (.invokevirtual 233, 3) := by decide +kernel
theorem dX6_see_27 : decode cX6_see 27 = .ok (.ifCond .eq 13, 3) := by decide +kernel
theorem dX6_see_30 : decode cX6_see 30 = .ok (.aload_n 0, 1) := by decide +kernel
theorem dX6_see_31 : decode cX6_see 31 = .ok (.getfield 10, 3) := by decide +kernel
theorem dX6_see_34 : decode cX6_see 34 = .ok (.getfield 236, 3) := by decide +kernel
theorem dX6_see_37 : decode cX6_see 37 = .ok (.goto 5, 3) := by decide +kernel
theorem dX6_see_40 : decode cX6_see 40 = .ok (.bipush (-3), 2) := by decide +kernel
theorem dX6_see_42 : decode cX6_see 42 = .ok (.ireturn, 1) := by decide +kernel
theorem dX6_forget_0 : decode cX6_forget 0 = .ok (.iload_n 1, 1) := by decide +kernel
theorem dX6_forget_1 : decode cX6_forget 1 = .ok (.iconst 0, 1) := by decide +kernel
theorem dX6_forget_2 : decode cX6_forget 2 = .ok (.aload_n 0, 1) := by decide +kernel
theorem dX6_forget_3 : decode cX6_forget 3 = .ok (.getfield 10, 3) := by decide +kernel
theorem dX6_forget_6 : decode cX6_forget 6 = .ok (.getfield 236, 3) := by decide +kernel
theorem dX6_forget_9 : decode cX6_forget 9 = .ok (.invokestatic 67, 3) := by decide +kernel
theorem dX6_forget_12 : decode cX6_forget 12 = .ok (.ifCond .ne 5, 3) := by decide +kernel
theorem dX6_forget_15 : decode cX6_forget 15 = .ok (.iconst (-1), 1) := by decide +kernel
theorem dX6_forget_16 : decode cX6_forget 16 = .ok (.ireturn, 1) := by decide +kernel
theorem dX6_forget_17 : decode cX6_forget 17 = .ok (.aload_n 0, 1) := by decide +kernel
theorem dX6_forget_18 : decode cX6_forget 18 = .ok (.getfield 10, 3) := by decide +kernel
theorem dX6_forget_21 : decode cX6_forget 21 = .ok (.getfield 236, 3) := by decide +kernel
theorem dX6_forget_24 : decode cX6_forget 24 = .ok (.istore_n 2, 1) := by decide +kernel
theorem dX6_forget_25 : decode cX6_forget 25 = .ok (.aload_n 0, 1) := by decide +kernel
theorem dX6_forget_26 : decode cX6_forget 26 = .ok (.getfield 10, 3) := by decide +kernel
theorem dX6_forget_29 : decode cX6_forget 29 = .ok (.iload_n 1, 1) := by decide +kernel
theorem dX6_forget_30 : decode cX6_forget 30 = .ok (.putfield 236, 3) := by decide +kernel
theorem dX6_forget_33 : decode cX6_forget 33 = .ok (.iload_n 2, 1) := by decide +kernel
theorem dX6_forget_34 : decode cX6_forget 34 = .ok (.ireturn, 1) := by decide +kernel
theorem dX6_fits_0 : decode cX6_fits 0 = .ok (.iload_n 1, 1) := by decide +kernel
theorem dX6_fits_1 : decode cX6_fits 1 = .ok (.iconst 0, 1) := by decide +kernel
theorem dX6_fits_2 : decode cX6_fits 2 = .ok (.iconst 3, 1) := by decide +kernel
theorem dX6_fits_3 : decode cX6_fits 3 = .ok (.invokestatic 67, 3) := by decide +kernel
theorem dX6_fits_6 : decode cX6_fits 6 = .ok (.ifCond .ne 5, 3) := by decide +kernel
theorem dX6_fits_9 : decode cX6_fits 9 = .ok (.iconst (-1), 1) := by decide +kernel
theorem dX6_fits_10 : decode cX6_fits 10 = .ok (.ireturn, 1) := by decide +kernel
theorem dX6_fits_11 : decode cX6_fits 11 = .ok (.iconst 0, 1) := by decide +kernel
theorem dX6_fits_12 : decode cX6_fits 12 = .ok (.istore_n 2, 1) := by decide +kernel
theorem dX6_fits_13 : decode cX6_fits 13 = .ok (.iconst 0, 1) := by decide +kernel
theorem dX6_fits_14 : decode cX6_fits 14 = .ok (.istore_n 3, 1) := by decide +kernel
theorem dX6_fits_15 : decode cX6_fits 15 = .ok (.aload_n 0, 1) := by decide +kernel
theorem dX6_fits_16 : decode cX6_fits 16 = .ok (.invokevirtual 180, 3) := by decide +kernel
theorem dX6_fits_19 : decode cX6_fits 19 = .ok (.iconst 1, 1) := by decide +kernel
theorem dX6_fits_20 : decode cX6_fits 20 = .ok (.isub, 1) := by decide +kernel
theorem dX6_fits_21 : decode cX6_fits 21 = .ok (.istore 4, 2) := by decide +kernel
theorem dX6_fits_23 : decode cX6_fits 23 = .ok (.aload_n 0, 1) := by decide +kernel
theorem dX6_fits_24 : decode cX6_fits 24 = .ok (.invokevirtual 180, 3) := by decide +kernel
theorem dX6_fits_27 : decode cX6_fits 27 = .ok (.iconst 1, 1) := by decide +kernel
theorem dX6_fits_28 : decode cX6_fits 28 = .ok (.isub, 1) := by decide +kernel
theorem dX6_fits_29 : decode cX6_fits 29 = .ok (.istore 5, 2) := by decide +kernel
theorem dX6_fits_31 : decode cX6_fits 31 = .ok (.iconst 0, 1) := by decide +kernel
theorem dX6_fits_32 : decode cX6_fits 32 = .ok (.istore 6, 2) := by decide +kernel
theorem dX6_fits_34 : decode cX6_fits 34 = .ok (.iload 6, 2) := by decide +kernel
theorem dX6_fits_36 : decode cX6_fits 36 = .ok (.iconst 5, 1) := by decide +kernel
theorem dX6_fits_37 : decode cX6_fits 37 = .ok (.if_icmp .ge 103, 3) := by decide +kernel
theorem dX6_fits_40 : decode cX6_fits 40 = .ok (.iconst 0, 1) := by decide +kernel
theorem dX6_fits_41 : decode cX6_fits 41 = .ok (.istore 7, 2) := by decide +kernel
theorem dX6_fits_43 : decode cX6_fits 43 = .ok (.iconst 0, 1) := by decide +kernel
theorem dX6_fits_44 : decode cX6_fits 44 = .ok (.istore 8, 2) := by decide +kernel
theorem dX6_fits_46 : decode cX6_fits 46 = .ok (.iload 8, 2) := by decide +kernel
theorem dX6_fits_48 : decode cX6_fits 48 = .ok (.aload_n 0, 1) := by decide +kernel
theorem dX6_fits_49 : decode cX6_fits 49 = .ok (.invokevirtual 180, 3) := by decide +kernel
theorem dX6_fits_52 : decode cX6_fits 52 = .ok (.if_icmp .ge 82, 3) := by decide +kernel
theorem dX6_fits_55 : decode cX6_fits 55 = .ok (.iload 8, 2) := by decide +kernel
theorem dX6_fits_57 : decode cX6_fits 57 = .ok (.ifCond .eq 11, 3) := by decide +kernel
theorem dX6_fits_60 : decode cX6_fits 60 = .ok (.iload 6, 2) := by decide +kernel
theorem dX6_fits_62 : decode cX6_fits 62 = .ok (.invokestatic 186, 3) := by decide +kernel
theorem dX6_fits_65 : decode cX6_fits 65 = .ok (.ifCond .eq 32, 3) := by decide +kernel
theorem dX6_fits_68 : decode cX6_fits 68 = .ok (.aload_n 0, 1) := by decide +kernel
theorem dX6_fits_69 : decode cX6_fits 69 = .ok (.getfield 42, 3) := by decide +kernel
theorem dX6_fits_72 : decode cX6_fits 72 = .ok (.aload_n 0, 1) := by decide +kernel
theorem dX6_fits_73 : decode cX6_fits 73 = .ok (.getfield 10, 3) := by decide +kernel
theorem dX6_fits_76 : decode cX6_fits 76 = .ok (.iload 6, 2) := by decide +kernel
theorem dX6_fits_78 : decode cX6_fits 78 = .ok (.iload 8, 2) := by decide +kernel
theorem dX6_fits_80 : decode cX6_fits 80 = .ok (.iconst 0, 1) := by decide +kernel
theorem dX6_fits_81 : decode cX6_fits 81 = .ok (.invokevirtual 153, 3) := by decide +kernel
theorem dX6_fits_84 : decode cX6_fits 84 = .ok (.aload_n 0, 1) := by decide +kernel
theorem dX6_fits_85 : decode cX6_fits 85 = .ok (.getfield 42, 3) := by decide +kernel
theorem dX6_fits_88 : decode cX6_fits 88 = .ok (.aload_n 0, 1) := by decide +kernel
theorem dX6_fits_89 : decode cX6_fits 89 = .ok (.getfield 10, 3) := by decide +kernel
theorem dX6_fits_92 : decode cX6_fits 92 = .ok (.invokevirtual 239, 3) := by decide +kernel
theorem dX6_fits_95 : decode cX6_fits 95 = .ok (.istore 7, 2) := by decide +kernel
theorem dX6_fits_97 : decode cX6_fits 97 = .ok (.iload 7, 2) := by decide +kernel
theorem dX6_fits_99 : decode cX6_fits 99 = .ok (.ifCond .eq 29, 3) := by decide +kernel
theorem dX6_fits_102 : decode cX6_fits 102 = .ok (.iinc 2 1, 3) := by decide +kernel
theorem dX6_fits_105 : decode cX6_fits 105 = .ok (.iload_n 3, 1) := by decide +kernel
theorem dX6_fits_106 : decode cX6_fits 106 = .ok (.iconst 1, 1) := by decide +kernel
theorem dX6_fits_107 : decode cX6_fits 107 = .ok (.iload 6, 2) := by decide +kernel
theorem dX6_fits_109 : decode cX6_fits 109 = .ok (.ishl, 1) := by decide +kernel
theorem dX6_fits_110 : decode cX6_fits 110 = .ok (.ior, 1) := by decide +kernel
theorem dX6_fits_111 : decode cX6_fits 111 = .ok (.istore_n 3, 1) := by decide +kernel
theorem dX6_fits_112 : decode cX6_fits 112 = .ok (.iload 4, 2) := by decide +kernel
theorem dX6_fits_114 : decode cX6_fits 114 = .ok (.iload 8, 2) := by decide +kernel
theorem dX6_fits_116 : decode cX6_fits 116 = .ok (.iand, 1) := by decide +kernel
theorem dX6_fits_117 : decode cX6_fits 117 = .ok (.istore 4, 2) := by decide +kernel
theorem dX6_fits_119 : decode cX6_fits 119 = .ok (.iload 5, 2) := by decide +kernel
theorem dX6_fits_121 : decode cX6_fits 121 = .ok (.iload 8, 2) := by decide +kernel
theorem dX6_fits_123 : decode cX6_fits 123 = .ok (.iconst (-1), 1) := by decide +kernel
theorem dX6_fits_124 : decode cX6_fits 124 = .ok (.ixor, 1) := by decide +kernel
theorem dX6_fits_125 : decode cX6_fits 125 = .ok (.iand, 1) := by decide +kernel
theorem dX6_fits_126 : decode cX6_fits 126 = .ok (.istore 5, 2) := by decide +kernel
theorem dX6_fits_128 : decode cX6_fits 128 = .ok (.iinc 8 1, 3) := by decide +kernel
theorem dX6_fits_131 : decode cX6_fits 131 = .ok (.goto (-85), 3) := by decide +kernel
theorem dX6_fits_134 : decode cX6_fits 134 = .ok (.iinc 6 1, 3) := by decide +kernel
theorem dX6_fits_137 : decode cX6_fits 137 = .ok (.goto (-103), 3) := by decide +kernel
theorem dX6_fits_140 : decode cX6_fits 140 = .ok (.iload_n 1, 1) := by decide +kernel
theorem dX6_fits_141 : decode cX6_fits 141 = .ok (.iconst 2, 1) := by decide +kernel
theorem dX6_fits_142 : decode cX6_fits 142 = .ok (.if_icmp .ge 13, 3) := by decide +kernel
theorem dX6_fits_145 : decode cX6_fits 145 = .ok (.iload_n 1, 1) := by decide +kernel
theorem dX6_fits_146 : decode cX6_fits 146 = .ok (.ifCond .ne 7, 3) := by decide +kernel
theorem dX6_fits_149 : decode cX6_fits 149 = .ok (.iload_n 2, 1) := by decide +kernel
theorem dX6_fits_150 : decode cX6_fits 150 = .ok (.goto 4, 3) := by decide +kernel
theorem dX6_fits_153 : decode cX6_fits 153 = .ok (.iload_n 3, 1) := by decide +kernel
theorem dX6_fits_154 : decode cX6_fits 154 = .ok (.ireturn, 1) := by decide +kernel
theorem dX6_fits_155 : decode cX6_fits 155 = .ok (.iload_n 2, 1) := by decide +kernel
theorem dX6_fits_156 : decode cX6_fits 156 = .ok (.ifCond .ne 6, 3) := by decide +kernel
theorem dX6_fits_159 : decode cX6_fits 159 = .ok (.bipush (-4), 2) := by decide +kernel
theorem dX6_fits_161 : decode cX6_fits 161 = .ok (.ireturn, 1) := by decide +kernel
theorem dX6_fits_162 : decode cX6_fits 162 = .ok (.iload_n 1, 1) := by decide +kernel
theorem dX6_fits_163 : decode cX6_fits 163 = .ok (.iconst 2, 1) := by decide +kernel
theorem dX6_fits_164 : decode cX6_fits 164 = .ok (.if_icmp .ne 8, 3) := by decide +kernel
theorem dX6_fits_167 : decode cX6_fits 167 = .ok (.iload 4, 2) := by decide +kernel
theorem dX6_fits_169 : decode cX6_fits 169 = .ok (.goto 5, 3) := by decide +kernel
theorem dX6_fits_172 : decode cX6_fits 172 = .ok (.iload 5, 2) := by decide +kernel
theorem dX6_fits_174 : decode cX6_fits 174 = .ok (.ireturn, 1) := by decide +kernel
theorem dX6_drift_0 : decode cX6_drift 0 = .ok (.iload_n 2, 1) := by decide +kernel
theorem dX6_drift_1 : decode cX6_drift 1 = .ok (.iconst 1, 1) := by decide +kernel
theorem dX6_drift_2 : decode cX6_drift 2 = .ok (.bipush 20, 2) := by decide +kernel
theorem dX6_drift_4 : decode cX6_drift 4 = .ok (.invokestatic 67, 3) := by decide +kernel
theorem dX6_drift_7 : decode cX6_drift 7 = .ok (.ifCond .eq 12, 3) := by decide +kernel
theorem dX6_drift_10 : decode cX6_drift 10 = .ok (.iload_n 3, 1) := by decide +kernel
theorem dX6_drift_11 : decode cX6_drift 11 = .ok (.iconst 0, 1) := by decide +kernel
theorem dX6_drift_12 : decode cX6_drift 12 = .ok (.iconst 1, 1) := by decide +kernel
theorem dX6_drift_13 : decode cX6_drift 13 = .ok (.invokestatic 67, 3) := by decide +kernel
theorem dX6_drift_16 : decode cX6_drift 16 = .ok (.ifCond .ne 5, 3) := by decide +kernel
theorem dX6_drift_19 : decode cX6_drift 19 = .ok (.iconst (-1), 1) := by decide +kernel
theorem dX6_drift_20 : decode cX6_drift 20 = .ok (.ireturn, 1) := by decide +kernel
theorem dX6_drift_21 : decode cX6_drift 21 = .ok (.aload_n 0, 1) := by decide +kernel
theorem dX6_drift_22 : decode cX6_drift 22 = .ok (.getfield 16, 3) := by decide +kernel
theorem dX6_drift_25 : decode cX6_drift 25 = .ok (.aload_n 0, 1) := by decide +kernel
theorem dX6_drift_26 : decode cX6_drift 26 = .ok (.getfield 10, 3) := by decide +kernel
theorem dX6_drift_29 : decode cX6_drift 29 = .ok (.invokevirtual 86, 3) := by decide +kernel
theorem dX6_drift_32 : decode cX6_drift 32 = .ok (.iload_n 1, 1) := by decide +kernel
theorem dX6_drift_33 : decode cX6_drift 33 = .ok (.istore 4, 2) := by decide +kernel
theorem dX6_drift_35 : decode cX6_drift 35 = .ok (.iconst 0, 1) := by decide +kernel
theorem dX6_drift_36 : decode cX6_drift 36 = .ok (.istore 5, 2) := by decide +kernel
theorem dX6_drift_38 : decode cX6_drift 38 = .ok (.iconst 0, 1) := by decide +kernel
theorem dX6_drift_39 : decode cX6_drift 39 = .ok (.istore 6, 2) := by decide +kernel
theorem dX6_drift_41 : decode cX6_drift 41 = .ok (.iload 6, 2) := by decide +kernel
theorem dX6_drift_43 : decode cX6_drift 43 = .ok (.iload_n 2, 1) := by decide +kernel
theorem dX6_drift_44 : decode cX6_drift 44 = .ok (.if_icmp .ge 92, 3) := by decide +kernel
theorem dX6_drift_47 : decode cX6_drift 47 = .ok (.iconst 0, 1) := by decide +kernel
theorem dX6_drift_48 : decode cX6_drift 48 = .ok (.istore 7, 2) := by decide +kernel
theorem dX6_drift_50 : decode cX6_drift 50 = .ok (.iload 7, 2) := by decide +kernel
theorem dX6_drift_52 : decode cX6_drift 52 = .ok (.aload_n 0, 1) := by decide +kernel
theorem dX6_drift_53 : decode cX6_drift 53 = .ok (.getfield 16, 3) := by decide +kernel
theorem dX6_drift_56 : decode cX6_drift 56 = .ok (.getfield 96, 3) := by decide +kernel
theorem dX6_drift_59 : decode cX6_drift 59 = .ok (.if_icmp .ge 42, 3) := by decide +kernel
theorem dX6_drift_62 : decode cX6_drift 62 = .ok (.iload 4, 2) := by decide +kernel
theorem dX6_drift_64 : decode cX6_drift 64 = .ok (.ldc 243, 2) := by decide +kernel
theorem dX6_drift_66 : decode cX6_drift 66 = .ok (.imul, 1) := by decide +kernel
theorem dX6_drift_67 : decode cX6_drift 67 = .ok (.sipush 12345, 3) := by decide +kernel
theorem dX6_drift_70 : decode cX6_drift 70 = .ok (.iadd, 1) := by decide +kernel
theorem dX6_drift_71 : decode cX6_drift 71 = .ok (.istore 4, 2) := by decide +kernel
theorem dX6_drift_73 : decode cX6_drift 73 = .ok (.aload_n 0, 1) := by decide +kernel
theorem dX6_drift_74 : decode cX6_drift 74 = .ok (.getfield 16, 3) := by decide +kernel
theorem dX6_drift_77 : decode cX6_drift 77 = .ok (.iload 7, 2) := by decide +kernel
theorem dX6_drift_79 : decode cX6_drift 79 = .ok (.iconst 2, 1) := by decide +kernel
theorem dX6_drift_80 : decode cX6_drift 80 = .ok (.iload 4, 2) := by decide +kernel
theorem dX6_drift_82 : decode cX6_drift 82 = .ok (.bipush 16, 2) := by decide +kernel
theorem dX6_drift_84 : decode cX6_drift 84 = .ok (.ishr, 1) := by decide +kernel
theorem dX6_drift_85 : decode cX6_drift 85 = .ok (.sipush 32767, 3) := by decide +kernel
theorem dX6_drift_88 : decode cX6_drift 88 = .ok (.iand, 1) := by decide +kernel
theorem dX6_drift_89 : decode cX6_drift 89 = .ok (.bipush 40, 2) := by decide +kernel
theorem dX6_drift_91 : decode cX6_drift 91 = .ok (.irem, 1) := by decide +kernel
theorem dX6_drift_92 : decode cX6_drift 92 = .ok (.invokevirtual 125, 3) := by decide +kernel
theorem dX6_drift_95 : decode cX6_drift 95 = .ok (.iinc 7 1, 3) := by decide +kernel
theorem dX6_drift_98 : decode cX6_drift 98 = .ok (.goto (-48), 3) := by decide +kernel
theorem dX6_drift_101 : decode cX6_drift 101 = .ok (.aload_n 0, 1) := by decide +kernel
theorem dX6_drift_102 : decode cX6_drift 102 = .ok (.aload_n 0, 1) := by decide +kernel
theorem dX6_drift_103 : decode cX6_drift 103 = .ok (.getfield 16, 3) := by decide +kernel
theorem dX6_drift_106 : decode cX6_drift 106 = .ok (.invokevirtual 132, 3) := by decide +kernel
theorem dX6_drift_109 : decode cX6_drift 109 = .ok (.iload 5, 2) := by decide +kernel
theorem dX6_drift_111 : decode cX6_drift 111 = .ok (.aload_n 0, 1) := by decide +kernel
theorem dX6_drift_112 : decode cX6_drift 112 = .ok (.getfield 42, 3) := by decide +kernel
theorem dX6_drift_115 : decode cX6_drift 115 = .ok (.iload_n 3, 1) := by decide +kernel
theorem dX6_drift_116 : decode cX6_drift 116 = .ok (.ifCond .ne 7, 3) := by decide +kernel
theorem dX6_drift_119 : decode cX6_drift 119 = .ok (.iconst 0, 1) := by decide +kernel
theorem dX6_drift_120 : decode cX6_drift 120 = .ok (.goto 4, 3) := by decide +kernel
theorem dX6_drift_123 : decode cX6_drift 123 = .ok (.iconst 2, 1) := by decide +kernel
theorem dX6_drift_124 : decode cX6_drift 124 = .ok (.invokevirtual 157, 3) := by decide +kernel
theorem dX6_drift_127 : decode cX6_drift 127 = .ok (.iadd, 1) := by decide +kernel
theorem dX6_drift_128 : decode cX6_drift 128 = .ok (.istore 5, 2) := by decide +kernel
theorem dX6_drift_130 : decode cX6_drift 130 = .ok (.iinc 6 1, 3) := by decide +kernel
theorem dX6_drift_133 : decode cX6_drift 133 = .ok (.goto (-92), 3) := by decide +kernel
theorem dX6_drift_136 : decode cX6_drift 136 = .ok (.iload 5, 2) := by decide +kernel
theorem dX6_drift_138 : decode cX6_drift 138 = .ok (.ireturn, 1) := by decide +kernel
theorem dX6_keep_0 : decode cX6_keep 0 = .ok (.iload_n 1, 1) := by decide +kernel
theorem dX6_keep_1 : decode cX6_keep 1 = .ok (.iconst 0, 1) := by decide +kernel
theorem dX6_keep_2 : decode cX6_keep 2 = .ok (.iconst 1, 1) := by decide +kernel
theorem dX6_keep_3 : decode cX6_keep 3 = .ok (.invokestatic 67, 3) := by decide +kernel
theorem dX6_keep_6 : decode cX6_keep 6 = .ok (.ifCond .ne 5, 3) := by decide +kernel
theorem dX6_keep_9 : decode cX6_keep 9 = .ok (.iconst (-1), 1) := by decide +kernel
theorem dX6_keep_10 : decode cX6_keep 10 = .ok (.ireturn, 1) := by decide +kernel
theorem dX6_keep_11 : decode cX6_keep 11 = .ok (.aload_n 0, 1) := by decide +kernel
theorem dX6_keep_12 : decode cX6_keep 12 = .ok (.getfield 90, 3) := by decide +kernel
theorem dX6_keep_15 : decode cX6_keep 15 = .ok (.iload_n 1, 1) := by decide +kernel
theorem dX6_keep_16 : decode cX6_keep 16 = .ok (.ishr, 1) := by decide +kernel
theorem dX6_keep_17 : decode cX6_keep 17 = .ok (.iconst 1, 1) := by decide +kernel
theorem dX6_keep_18 : decode cX6_keep 18 = .ok (.iand, 1) := by decide +kernel
theorem dX6_keep_19 : decode cX6_keep 19 = .ok (.istore_n 2, 1) := by decide +kernel
theorem dX6_keep_20 : decode cX6_keep 20 = .ok (.aload_n 0, 1) := by decide +kernel
theorem dX6_keep_21 : decode cX6_keep 21 = .ok (.getfield 19, 3) := by decide +kernel
theorem dX6_keep_24 : decode cX6_keep 24 = .ok (.iload_n 1, 1) := by decide +kernel
theorem dX6_keep_25 : decode cX6_keep 25 = .ok (.aaload, 1) := by decide +kernel
theorem dX6_keep_26 : decode cX6_keep 26 = .ok (.aload_n 0, 1) := by decide +kernel
theorem dX6_keep_27 : decode cX6_keep 27 = .ok (.getfield 10, 3) := by decide +kernel
theorem dX6_keep_30 : decode cX6_keep 30 = .ok (.invokevirtual 86, 3) := by decide +kernel
theorem dX6_keep_33 : decode cX6_keep 33 = .ok (.aload_n 0, 1) := by decide +kernel
theorem dX6_keep_34 : decode cX6_keep 34 = .ok (.dup, 1) := by decide +kernel
theorem dX6_keep_35 : decode cX6_keep 35 = .ok (.getfield 90, 3) := by decide +kernel
theorem dX6_keep_38 : decode cX6_keep 38 = .ok (.iconst 1, 1) := by decide +kernel
theorem dX6_keep_39 : decode cX6_keep 39 = .ok (.iload_n 1, 1) := by decide +kernel
theorem dX6_keep_40 : decode cX6_keep 40 = .ok (.ishl, 1) := by decide +kernel
theorem dX6_keep_41 : decode cX6_keep 41 = .ok (.ior, 1) := by decide +kernel
theorem dX6_keep_42 : decode cX6_keep 42 = .ok (.putfield 90, 3) := by decide +kernel
theorem dX6_keep_45 : decode cX6_keep 45 = .ok (.iload_n 2, 1) := by decide +kernel
theorem dX6_keep_46 : decode cX6_keep 46 = .ok (.ireturn, 1) := by decide +kernel
theorem dX6_back_0 : decode cX6_back 0 = .ok (.iload_n 1, 1) := by decide +kernel
theorem dX6_back_1 : decode cX6_back 1 = .ok (.iconst 0, 1) := by decide +kernel
theorem dX6_back_2 : decode cX6_back 2 = .ok (.iconst 1, 1) := by decide +kernel
theorem dX6_back_3 : decode cX6_back 3 = .ok (.invokestatic 67, 3) := by decide +kernel
theorem dX6_back_6 : decode cX6_back 6 = .ok (.ifCond .ne 5, 3) := by decide +kernel
theorem dX6_back_9 : decode cX6_back 9 = .ok (.iconst (-1), 1) := by decide +kernel
theorem dX6_back_10 : decode cX6_back 10 = .ok (.ireturn, 1) := by decide +kernel
theorem dX6_back_11 : decode cX6_back 11 = .ok (.aload_n 0, 1) := by decide +kernel
theorem dX6_back_12 : decode cX6_back 12 = .ok (.getfield 90, 3) := by decide +kernel
theorem dX6_back_15 : decode cX6_back 15 = .ok (.iload_n 1, 1) := by decide +kernel
theorem dX6_back_16 : decode cX6_back 16 = .ok (.ishr, 1) := by decide +kernel
theorem dX6_back_17 : decode cX6_back 17 = .ok (.iconst 1, 1) := by decide +kernel
theorem dX6_back_18 : decode cX6_back 18 = .ok (.iand, 1) := by decide +kernel
theorem dX6_back_19 : decode cX6_back 19 = .ok (.ifCond .ne 6, 3) := by decide +kernel
theorem dX6_back_22 : decode cX6_back 22 = .ok (.bipush (-2), 2) := by decide +kernel
theorem dX6_back_24 : decode cX6_back 24 = .ok (.ireturn, 1) := by decide +kernel
theorem dX6_back_25 : decode cX6_back 25 = .ok (.aload_n 0, 1) := by decide +kernel
theorem dX6_back_26 : decode cX6_back 26 = .ok (.getfield 10, 3) := by decide +kernel
theorem dX6_back_29 : decode cX6_back 29 = .ok (.aload_n 0, 1) := by decide +kernel
theorem dX6_back_30 : decode cX6_back 30 = .ok (.getfield 19, 3) := by decide +kernel
theorem dX6_back_33 : decode cX6_back 33 = .ok (.iload_n 1, 1) := by decide +kernel
theorem dX6_back_34 : decode cX6_back 34 = .ok (.aaload, 1) := by decide +kernel
theorem dX6_back_35 : decode cX6_back 35 = .ok (.invokevirtual 86, 3) := by decide +kernel
theorem dX6_back_38 : decode cX6_back 38 = .ok (.aload_n 0, 1) := by decide +kernel
theorem dX6_back_39 : decode cX6_back 39 = .ok (.iconst 3, 1) := by decide +kernel
theorem dX6_back_40 : decode cX6_back 40 = .ok (.invokevirtual 244, 3) := by decide +kernel
theorem dX6_back_43 : decode cX6_back 43 = .ok (.ireturn, 1) := by decide +kernel
theorem dX6_sheet_0 : decode cX6_sheet 0 = .ok (.iload_n 1, 1) := by decide +kernel
theorem dX6_sheet_1 : decode cX6_sheet 1 = .ok (.invokestatic 247, 3) := by decide +kernel
theorem dX6_sheet_4 : decode cX6_sheet 4 = .ok (.ifCond .eq 16, 3) := by decide +kernel
theorem dX6_sheet_7 : decode cX6_sheet 7 = .ok (.iload_n 2, 1) := by decide +kernel
theorem dX6_sheet_8 : decode cX6_sheet 8 = .ok (.invokestatic 250, 3) := by decide +kernel
theorem dX6_sheet_11 : decode cX6_sheet 11 = .ok (.ifCond .eq 9, 3) := by decide +kernel
theorem dX6_sheet_14 : decode cX6_sheet 14 = .ok (.iload_n 3, 1) := by decide +kernel
theorem dX6_sheet_15 : decode cX6_sheet 15 = .ok (.bipush 40, 2) := by decide +kernel
theorem dX6_sheet_17 : decode cX6_sheet 17 = .ok (.if_icmp .le 5, 3) := by decide +kernel
theorem dX6_sheet_20 : decode cX6_sheet 20 = .ok (.iconst (-1), 1) := by decide +kernel
theorem dX6_sheet_21 : decode cX6_sheet 21 = .ok (.ireturn, 1) := by decide +kernel
theorem dX6_sheet_22 : decode cX6_sheet 22 = .ok (.iload_n 3, 1) := by decide +kernel
theorem dX6_sheet_23 : decode cX6_sheet 23 = .ok (.ifCond .ge 6, 3) := by decide +kernel
theorem dX6_sheet_26 : decode cX6_sheet 26 = .ok (.bipush (-14), 2) := by decide +kernel
theorem dX6_sheet_28 : decode cX6_sheet 28 = .ok (.ireturn, 1) := by decide +kernel
theorem dX6_sheet_29 : decode cX6_sheet 29 = .ok (.aload_n 0, 1) := by decide +kernel
theorem dX6_sheet_30 : decode cX6_sheet 30 = .ok (.getfield 62, 3) := by decide +kernel
theorem dX6_sheet_33 : decode cX6_sheet 33 = .ok (.iload_n 1, 1) := by decide +kernel
theorem dX6_sheet_34 : decode cX6_sheet 34 = .ok (.aaload, 1) := by decide +kernel
theorem dX6_sheet_35 : decode cX6_sheet 35 = .ok (.iload_n 2, 1) := by decide +kernel
theorem dX6_sheet_36 : decode cX6_sheet 36 = .ok (.iload_n 3, 1) := by decide +kernel
theorem dX6_sheet_37 : decode cX6_sheet 37 = .ok (.invokevirtual 253, 3) := by decide +kernel
theorem dX6_sheet_40 : decode cX6_sheet 40 = .ok (.iconst 1, 1) := by decide +kernel
theorem dX6_sheet_41 : decode cX6_sheet 41 = .ok (.ireturn, 1) := by decide +kernel
theorem dX6_lay_0 : decode cX6_lay 0 = .ok (.iload_n 1, 1) := by decide +kernel
theorem dX6_lay_1 : decode cX6_lay 1 = .ok (.invokestatic 247, 3) := by decide +kernel
theorem dX6_lay_4 : decode cX6_lay 4 = .ok (.ifCond .ne 5, 3) := by decide +kernel
theorem dX6_lay_7 : decode cX6_lay 7 = .ok (.iconst (-1), 1) := by decide +kernel
theorem dX6_lay_8 : decode cX6_lay 8 = .ok (.ireturn, 1) := by decide +kernel
theorem dX6_lay_9 : decode cX6_lay 9 = .ok (.aload_n 0, 1) := by decide +kernel
theorem dX6_lay_10 : decode cX6_lay 10 = .ok (.getfield 62, 3) := by decide +kernel
theorem dX6_lay_13 : decode cX6_lay 13 = .ok (.iload_n 1, 1) := by decide +kernel
theorem dX6_lay_14 : decode cX6_lay 14 = .ok (.aaload, 1) := by decide +kernel
theorem dX6_lay_15 : decode cX6_lay 15 = .ok (.iload_n 2, 1) := by decide +kernel
theorem dX6_lay_16 : decode cX6_lay 16 = .ok (.invokevirtual 257, 3) := by decide +kernel
theorem dX6_lay_19 : decode cX6_lay 19 = .ok (.istore 4, 2) := by decide +kernel
theorem dX6_lay_21 : decode cX6_lay 21 = .ok (.iload 4, 2) := by decide +kernel
theorem dX6_lay_23 : decode cX6_lay 23 = .ok (.ifCond .eq 9, 3) := by decide +kernel
theorem dX6_lay_26 : decode cX6_lay 26 = .ok (.bipush (-10), 2) := by decide +kernel
theorem dX6_lay_28 : decode cX6_lay 28 = .ok (.iload 4, 2) := by decide +kernel
theorem dX6_lay_30 : decode cX6_lay 30 = .ok (.isub, 1) := by decide +kernel
theorem dX6_lay_31 : decode cX6_lay 31 = .ok (.ireturn, 1) := by decide +kernel
theorem dX6_lay_32 : decode cX6_lay 32 = .ok (.aload_n 0, 1) := by decide +kernel
theorem dX6_lay_33 : decode cX6_lay 33 = .ok (.getfield 62, 3) := by decide +kernel
theorem dX6_lay_36 : decode cX6_lay 36 = .ok (.iload_n 1, 1) := by decide +kernel
theorem dX6_lay_37 : decode cX6_lay 37 = .ok (.aaload, 1) := by decide +kernel
theorem dX6_lay_38 : decode cX6_lay 38 = .ok (.iload_n 2, 1) := by decide +kernel
theorem dX6_lay_39 : decode cX6_lay 39 = .ok (.iload_n 3, 1) := by decide +kernel
theorem dX6_lay_40 : decode cX6_lay 40 = .ok (.invokevirtual 260, 3) := by decide +kernel
theorem dX6_lay_43 : decode cX6_lay 43 = .ok (.iconst 1, 1) := by decide +kernel
theorem dX6_lay_44 : decode cX6_lay 44 = .ok (.ireturn, 1) := by decide +kernel
theorem dX6_read_0 : decode cX6_read 0 = .ok (.iload_n 1, 1) := by decide +kernel
theorem dX6_read_1 : decode cX6_read 1 = .ok (.invokestatic 247, 3) := by decide +kernel
theorem dX6_read_4 : decode cX6_read 4 = .ok (.ifCond .eq 21, 3) := by decide +kernel
theorem dX6_read_7 : decode cX6_read 7 = .ok (.iload_n 2, 1) := by decide +kernel
theorem dX6_read_8 : decode cX6_read 8 = .ok (.invokestatic 250, 3) := by decide +kernel
theorem dX6_read_11 : decode cX6_read 11 = .ok (.ifCond .eq 14, 3) := by decide +kernel
theorem dX6_read_14 : decode cX6_read 14 = .ok (.iload 4, 2) := by decide +kernel
theorem dX6_read_16 : decode cX6_read 16 = .ok (.iconst 0, 1) := by decide +kernel
theorem dX6_read_17 : decode cX6_read 17 = .ok (.bipush 20, 2) := by decide +kernel
theorem dX6_read_19 : decode cX6_read 19 = .ok (.invokestatic 67, 3) := by decide +kernel
theorem dX6_read_22 : decode cX6_read 22 = .ok (.ifCond .ne 5, 3) := by decide +kernel
theorem dX6_read_25 : decode cX6_read 25 = .ok (.iconst (-1), 1) := by decide +kernel
theorem dX6_read_26 : decode cX6_read 26 = .ok (.ireturn, 1) := by decide +kernel
theorem dX6_read_27 : decode cX6_read 27 = .ok (.aload_n 0, 1) := by decide +kernel
theorem dX6_read_28 : decode cX6_read 28 = .ok (.getfield 62, 3) := by decide +kernel
theorem dX6_read_31 : decode cX6_read 31 = .ok (.iload_n 1, 1) := by decide +kernel
theorem dX6_read_32 : decode cX6_read 32 = .ok (.aaload, 1) := by decide +kernel
theorem dX6_read_33 : decode cX6_read 33 = .ok (.astore 5, 2) := by decide +kernel
theorem dX6_read_35 : decode cX6_read 35 = .ok (.iconst 0, 1) := by decide +kernel
theorem dX6_read_36 : decode cX6_read 36 = .ok (.istore 6, 2) := by decide +kernel
theorem dX6_read_38 : decode cX6_read 38 = .ok (.iconst 0, 1) := by decide +kernel
theorem dX6_read_39 : decode cX6_read 39 = .ok (.istore 7, 2) := by decide +kernel
theorem dX6_read_41 : decode cX6_read 41 = .ok (.iconst 0, 1) := by decide +kernel
theorem dX6_read_42 : decode cX6_read 42 = .ok (.istore 8, 2) := by decide +kernel
theorem dX6_read_44 : decode cX6_read 44 = .ok (.iload 8, 2) := by decide +kernel
theorem dX6_read_46 : decode cX6_read 46 = .ok (.iload 4, 2) := by decide +kernel
theorem dX6_read_48 : decode cX6_read 48 = .ok (.if_icmp .ge 57, 3) := by decide +kernel
theorem dX6_read_51 : decode cX6_read 51 = .ok (.iload 6, 2) := by decide +kernel
theorem dX6_read_53 : decode cX6_read 53 = .ok (.ifCond .ne 52, 3) := by decide +kernel
theorem dX6_read_56 : decode cX6_read 56 = .ok (.aload 5, 2) := by decide +kernel
theorem dX6_read_58 : decode cX6_read 58 = .ok (.iload_n 2, 1) := by decide +kernel
theorem dX6_read_59 : decode cX6_read 59 = .ok (.iload_n 3, 1) := by decide +kernel
theorem dX6_read_60 : decode cX6_read 60 = .ok (.iconst 2, 1) := by decide +kernel
theorem dX6_read_61 : decode cX6_read 61 = .ok (.iload 8, 2) := by decide +kernel
theorem dX6_read_63 : decode cX6_read 63 = .ok (.imul, 1) := by decide +kernel
theorem dX6_read_64 : decode cX6_read 64 = .ok (.iadd, 1) := by decide +kernel
theorem dX6_read_65 : decode cX6_read 65 = .ok (.invokevirtual 263, 3) := by decide +kernel
theorem dX6_read_68 : decode cX6_read 68 = .ok (.istore 6, 2) := by decide +kernel
theorem dX6_read_70 : decode cX6_read 70 = .ok (.iload 6, 2) := by decide +kernel
theorem dX6_read_72 : decode cX6_read 72 = .ok (.ifCond .ne 27, 3) := by decide +kernel
theorem dX6_read_75 : decode cX6_read 75 = .ok (.aload_n 0, 1) := by decide +kernel
theorem dX6_read_76 : decode cX6_read 76 = .ok (.aload 5, 2) := by decide +kernel
theorem dX6_read_78 : decode cX6_read 78 = .ok (.iload_n 3, 1) := by decide +kernel
theorem dX6_read_79 : decode cX6_read 79 = .ok (.iconst 2, 1) := by decide +kernel
theorem dX6_read_80 : decode cX6_read 80 = .ok (.iload 8, 2) := by decide +kernel
theorem dX6_read_82 : decode cX6_read 82 = .ok (.imul, 1) := by decide +kernel
theorem dX6_read_83 : decode cX6_read 83 = .ok (.iadd, 1) := by decide +kernel
theorem dX6_read_84 : decode cX6_read 84 = .ok (.invokevirtual 266, 3) := by decide +kernel
theorem dX6_read_87 : decode cX6_read 87 = .ok (.ifCond .ne 9, 3) := by decide +kernel
theorem dX6_read_90 : decode cX6_read 90 = .ok (.bipush (-20), 2) := by decide +kernel
theorem dX6_read_92 : decode cX6_read 92 = .ok (.iload 8, 2) := by decide +kernel
theorem dX6_read_94 : decode cX6_read 94 = .ok (.isub, 1) := by decide +kernel
theorem dX6_read_95 : decode cX6_read 95 = .ok (.ireturn, 1) := by decide +kernel
theorem dX6_read_96 : decode cX6_read 96 = .ok (.iinc 7 1, 3) := by decide +kernel
theorem dX6_read_99 : decode cX6_read 99 = .ok (.iinc 8 1, 3) := by decide +kernel
theorem dX6_read_102 : decode cX6_read 102 = .ok (.goto (-58), 3) := by decide +kernel
theorem dX6_read_105 : decode cX6_read 105 = .ok (.iconst 0, 1) := by decide +kernel
theorem dX6_read_106 : decode cX6_read 106 = .ok (.istore 8, 2) := by decide +kernel
theorem dX6_read_108 : decode cX6_read 108 = .ok (.iload 8, 2) := by decide +kernel
theorem dX6_read_110 : decode cX6_read 110 = .ok (.iload 7, 2) := by decide +kernel
theorem dX6_read_112 : decode cX6_read 112 = .ok (.if_icmp .ge 39, 3) := by decide +kernel
theorem dX6_read_115 : decode cX6_read 115 = .ok (.aload_n 0, 1) := by decide +kernel
theorem dX6_read_116 : decode cX6_read 116 = .ok (.aload 5, 2) := by decide +kernel
theorem dX6_read_118 : decode cX6_read 118 = .ok (.iload_n 3, 1) := by decide +kernel
theorem dX6_read_119 : decode cX6_read 119 = .ok (.iconst 2, 1) := by decide +kernel
theorem dX6_read_120 : decode cX6_read 120 = .ok (.iload 8, 2) := by decide +kernel
theorem dX6_read_122 : decode cX6_read 122 = .ok (.imul, 1) := by decide +kernel
theorem dX6_read_123 : decode cX6_read 123 = .ok (.iadd, 1) := by decide +kernel
theorem dX6_read_124 : decode cX6_read 124 = .ok (.invokevirtual 270, 3) := by decide +kernel
theorem dX6_read_127 : decode cX6_read 127 = .ok (.iconst 2, 1) := by decide +kernel
theorem dX6_read_128 : decode cX6_read 128 = .ok (.aload 5, 2) := by decide +kernel
theorem dX6_read_130 : decode cX6_read 130 = .ok (.iload_n 3, 1) := by decide +kernel
theorem dX6_read_131 : decode cX6_read 131 = .ok (.iconst 2, 1) := by decide +kernel
theorem dX6_read_132 : decode cX6_read 132 = .ok (.iload 8, 2) := by decide +kernel
theorem dX6_read_134 : decode cX6_read 134 = .ok (.imul, 1) := by decide +kernel
theorem dX6_read_135 : decode cX6_read 135 = .ok (.iadd, 1) := by decide +kernel
theorem dX6_read_136 : decode cX6_read 136 = .ok (.iconst 1, 1) := by decide +kernel
theorem dX6_read_137 : decode cX6_read 137 = .ok (.iadd, 1) := by decide +kernel
theorem dX6_read_138 : decode cX6_read 138 = .ok (.invokevirtual 270, 3) := by decide +kernel
theorem dX6_read_141 : decode cX6_read 141 = .ok (.invokevirtual 273, 3) := by decide +kernel
theorem dX6_read_144 : decode cX6_read 144 = .ok (.pop, 1) := by decide +kernel
theorem dX6_read_145 : decode cX6_read 145 = .ok (.iinc 8 1, 3) := by decide +kernel
theorem dX6_read_148 : decode cX6_read 148 = .ok (.goto (-40), 3) := by decide +kernel
theorem dX6_read_151 : decode cX6_read 151 = .ok (.aload_n 0, 1) := by decide +kernel
theorem dX6_read_152 : decode cX6_read 152 = .ok (.iload 6, 2) := by decide +kernel
theorem dX6_read_154 : decode cX6_read 154 = .ok (.putfield 277, 3) := by decide +kernel
theorem dX6_read_157 : decode cX6_read 157 = .ok (.iload 7, 2) := by decide +kernel
theorem dX6_read_159 : decode cX6_read 159 = .ok (.ireturn, 1) := by decide +kernel
theorem dX6_torn_0 : decode cX6_torn 0 = .ok (.aload_n 0, 1) := by decide +kernel
theorem dX6_torn_1 : decode cX6_torn 1 = .ok (.getfield 277, 3) := by decide +kernel
theorem dX6_torn_4 : decode cX6_torn 4 = .ok (.ireturn, 1) := by decide +kernel
theorem dX6_count_0 : decode cX6_count 0 = .ok (.iload_n 1, 1) := by decide +kernel
theorem dX6_count_1 : decode cX6_count 1 = .ok (.tableswitch 110 0 5 #[39, 48, 56, 64, 72, 99], 39) := by decide +kernel
theorem dX6_count_40 : decode cX6_count 40 = .ok (.aload_n 0, 1) := by decide +kernel
theorem dX6_count_41 : decode cX6_count 41 = .ok (.getfield 10, 3) := by decide +kernel
theorem dX6_count_44 : decode cX6_count 44 = .ok (.iconst 0, 1) := by decide +kernel
theorem dX6_count_45 : decode cX6_count 45 = .ok (.invokevirtual 280, 3) := by decide +kernel
theorem dX6_count_48 : decode cX6_count 48 = .ok (.ireturn, 1) := by decide +kernel
theorem dX6_count_49 : decode cX6_count 49 = .ok (.aload_n 0, 1) := by decide +kernel
theorem dX6_count_50 : decode cX6_count 50 = .ok (.getfield 10, 3) := by decide +kernel
theorem dX6_count_53 : decode cX6_count 53 = .ok (.getfield 236, 3) := by decide +kernel
theorem dX6_count_56 : decode cX6_count 56 = .ok (.ireturn, 1) := by decide +kernel
theorem dX6_count_57 : decode cX6_count 57 = .ok (.aload_n 0, 1) := by decide +kernel
theorem dX6_count_58 : decode cX6_count 58 = .ok (.getfield 90, 3) := by decide +kernel
theorem dX6_count_61 : decode cX6_count 61 = .ok (.invokestatic 283, 3) := by decide +kernel
theorem dX6_count_64 : decode cX6_count 64 = .ok (.ireturn, 1) := by decide +kernel
theorem dX6_count_65 : decode cX6_count 65 = .ok (.aload_n 0, 1) := by decide +kernel
theorem dX6_count_66 : decode cX6_count 66 = .ok (.getfield 26, 3) := by decide +kernel
theorem dX6_count_69 : decode cX6_count 69 = .ok (.getfield 75, 3) := by decide +kernel
theorem dX6_count_72 : decode cX6_count 72 = .ok (.ireturn, 1) := by decide +kernel
theorem dX6_count_73 : decode cX6_count 73 = .ok (.aload_n 0, 1) := by decide +kernel
theorem dX6_count_74 : decode cX6_count 74 = .ok (.getfield 62, 3) := by decide +kernel
theorem dX6_count_77 : decode cX6_count 77 = .ok (.iconst 0, 1) := by decide +kernel
theorem dX6_count_78 : decode cX6_count 78 = .ok (.aaload, 1) := by decide +kernel
theorem dX6_count_79 : decode cX6_count 79 = .ok (.invokevirtual 288, 3) := by decide +kernel
theorem dX6_count_82 : decode cX6_count 82 = .ok (.ifCond .eq 8, 3) := by decide +kernel
theorem dX6_count_85 : decode cX6_count 85 = .ok (.bipush (-4), 2) := by decide +kernel
theorem dX6_count_87 : decode cX6_count 87 = .ok (.goto 12, 3) := by decide +kernel
theorem dX6_count_90 : decode cX6_count 90 = .ok (.aload_n 0, 1) := by decide +kernel
theorem dX6_count_91 : decode cX6_count 91 = .ok (.getfield 62, 3) := by decide +kernel
theorem dX6_count_94 : decode cX6_count 94 = .ok (.iconst 0, 1) := by decide +kernel
theorem dX6_count_95 : decode cX6_count 95 = .ok (.aaload, 1) := by decide +kernel
theorem dX6_count_96 : decode cX6_count 96 = .ok (.getfield 292, 3) := by decide +kernel
theorem dX6_count_99 : decode cX6_count 99 = .ok (.ireturn, 1) := by decide +kernel
theorem dX6_count_100 : decode cX6_count 100 = .ok (.aload_n 0, 1) := by decide +kernel
theorem dX6_count_101 : decode cX6_count 101 = .ok (.getfield 10, 3) := by decide +kernel
theorem dX6_count_104 : decode cX6_count 104 = .ok (.getfield 99, 3) := by decide +kernel
theorem dX6_count_107 : decode cX6_count 107 = .ok (.invokestatic 283, 3) := by decide +kernel
theorem dX6_count_110 : decode cX6_count 110 = .ok (.ireturn, 1) := by decide +kernel
theorem dX6_count_111 : decode cX6_count 111 = .ok (.iconst (-1), 1) := by decide +kernel
theorem dX6_count_112 : decode cX6_count 112 = .ok (.ireturn, 1) := by decide +kernel
theorem dX6_isComing_0 : decode cX6_isComing 0 = .ok (.aload_n 0, 1) := by decide +kernel
theorem dX6_isComing_1 : decode cX6_isComing 1 = .ok (.aload_n 1, 1) := by decide +kernel
theorem dX6_isComing_2 : decode cX6_isComing 2 = .ok (.iload_n 2, 1) := by decide +kernel
theorem dX6_isComing_3 : decode cX6_isComing 3 = .ok (.invokevirtual 270, 3) := by decide +kernel
theorem dX6_isComing_6 : decode cX6_isComing 6 = .ok (.invokevirtual 105, 3) := by decide +kernel
theorem dX6_isComing_9 : decode cX6_isComing 9 = .ok (.ifCond .eq 26, 3) := by decide +kernel
theorem dX6_isComing_12 : decode cX6_isComing 12 = .ok (.aload_n 1, 1) := by decide +kernel
theorem dX6_isComing_13 : decode cX6_isComing 13 = .ok (.iload_n 2, 1) := by decide +kernel
theorem dX6_isComing_14 : decode cX6_isComing 14 = .ok (.iconst 1, 1) := by decide +kernel
theorem dX6_isComing_15 : decode cX6_isComing 15 = .ok (.iadd, 1) := by decide +kernel
theorem dX6_isComing_16 : decode cX6_isComing 16 = .ok (.invokevirtual 270, 3) := by decide +kernel
theorem dX6_isComing_19 : decode cX6_isComing 19 = .ok (.iconst 0, 1) := by decide +kernel
theorem dX6_isComing_20 : decode cX6_isComing 20 = .ok (.getstatic 122, 3) := by decide +kernel
theorem dX6_isComing_23 : decode cX6_isComing 23 = .ok (.iconst 2, 1) := by decide +kernel
theorem dX6_isComing_24 : decode cX6_isComing 24 = .ok (.iaload, 1) := by decide +kernel
theorem dX6_isComing_25 : decode cX6_isComing 25 = .ok (.invokestatic 67, 3) := by decide +kernel
theorem dX6_isComing_28 : decode cX6_isComing 28 = .ok (.ifCond .eq 7, 3) := by decide +kernel
theorem dX6_isComing_31 : decode cX6_isComing 31 = .ok (.iconst 1, 1) := by decide +kernel
theorem dX6_isComing_32 : decode cX6_isComing 32 = .ok (.goto 4, 3) := by decide +kernel
theorem dX6_isComing_35 : decode cX6_isComing 35 = .ok (.iconst 0, 1) := by decide +kernel
theorem dX6_isComing_36 : decode cX6_isComing 36 = .ok (.ireturn, 1) := by decide +kernel
theorem dX6_runAsTold_0 : decode cX6_runAsTold 0 = .ok (.aload_n 0, 1) := by decide +kernel
theorem dX6_runAsTold_1 : decode cX6_runAsTold 1 = .ok (.getfield 42, 3) := by decide +kernel
theorem dX6_runAsTold_4 : decode cX6_runAsTold 4 = .ok (.aload_n 1, 1) := by decide +kernel
theorem dX6_runAsTold_5 : decode cX6_runAsTold 5 = .ok (.aload_n 1, 1) := by decide +kernel
theorem dX6_runAsTold_6 : decode cX6_runAsTold 6 = .ok (.getfield 102, 3) := by decide +kernel
theorem dX6_runAsTold_9 : decode cX6_runAsTold 9 = .ok (.iconst 3, 1) := by decide +kernel
theorem dX6_runAsTold_10 : decode cX6_runAsTold 10 = .ok (.iaload, 1) := by decide +kernel
theorem dX6_runAsTold_11 : decode cX6_runAsTold 11 = .ok (.aload_n 1, 1) := by decide +kernel
theorem dX6_runAsTold_12 : decode cX6_runAsTold 12 = .ok (.getfield 99, 3) := by decide +kernel
theorem dX6_runAsTold_15 : decode cX6_runAsTold 15 = .ok (.iconst 0, 1) := by decide +kernel
theorem dX6_runAsTold_16 : decode cX6_runAsTold 16 = .ok (.invokevirtual 153, 3) := by decide +kernel
theorem dX6_runAsTold_19 : decode cX6_runAsTold 19 = .ok (.return_, 1) := by decide +kernel
theorem dX6_isBoat_0 : decode cX6_isBoat 0 = .ok (.iload_n 1, 1) := by decide +kernel
theorem dX6_isBoat_1 : decode cX6_isBoat 1 = .ok (.iconst 0, 1) := by decide +kernel
theorem dX6_isBoat_2 : decode cX6_isBoat 2 = .ok (.aload_n 0, 1) := by decide +kernel
theorem dX6_isBoat_3 : decode cX6_isBoat 3 = .ok (.getfield 10, 3) := by decide +kernel
theorem dX6_isBoat_6 : decode cX6_isBoat 6 = .ok (.getfield 96, 3) := by decide +kernel
theorem dX6_isBoat_9 : decode cX6_isBoat 9 = .ok (.iconst 1, 1) := by decide +kernel
theorem dX6_isBoat_10 : decode cX6_isBoat 10 = .ok (.isub, 1) := by decide +kernel
theorem dX6_isBoat_11 : decode cX6_isBoat 11 = .ok (.invokestatic 67, 3) := by decide +kernel
theorem dX6_isBoat_14 : decode cX6_isBoat 14 = .ok (.ireturn, 1) := by decide +kernel
theorem dX6_isPair_0 : decode cX6_isPair 0 = .ok (.aload_n 0, 1) := by decide +kernel
theorem dX6_isPair_1 : decode cX6_isPair 1 = .ok (.iload_n 1, 1) := by decide +kernel
theorem dX6_isPair_2 : decode cX6_isPair 2 = .ok (.invokevirtual 105, 3) := by decide +kernel
theorem dX6_isPair_5 : decode cX6_isPair 5 = .ok (.ifCond .eq 20, 3) := by decide +kernel
theorem dX6_isPair_8 : decode cX6_isPair 8 = .ok (.aload_n 0, 1) := by decide +kernel
theorem dX6_isPair_9 : decode cX6_isPair 9 = .ok (.iload_n 2, 1) := by decide +kernel
theorem dX6_isPair_10 : decode cX6_isPair 10 = .ok (.invokevirtual 105, 3) := by decide +kernel
theorem dX6_isPair_13 : decode cX6_isPair 13 = .ok (.ifCond .eq 12, 3) := by decide +kernel
theorem dX6_isPair_16 : decode cX6_isPair 16 = .ok (.iload_n 1, 1) := by decide +kernel
theorem dX6_isPair_17 : decode cX6_isPair 17 = .ok (.iload_n 2, 1) := by decide +kernel
theorem dX6_isPair_18 : decode cX6_isPair 18 = .ok (.if_icmp .eq 7, 3) := by decide +kernel
theorem dX6_isPair_21 : decode cX6_isPair 21 = .ok (.iconst 1, 1) := by decide +kernel
theorem dX6_isPair_22 : decode cX6_isPair 22 = .ok (.goto 4, 3) := by decide +kernel
theorem dX6_isPair_25 : decode cX6_isPair 25 = .ok (.iconst 0, 1) := by decide +kernel
theorem dX6_isPair_26 : decode cX6_isPair 26 = .ok (.ireturn, 1) := by decide +kernel
theorem dX6_liarSets_0 : decode cX6_liarSets 0 = .ok (.iconst 1, 1) := by decide +kernel
theorem dX6_liarSets_1 : decode cX6_liarSets 1 = .ok (.aload_n 0, 1) := by decide +kernel
theorem dX6_liarSets_2 : decode cX6_liarSets 2 = .ok (.getfield 10, 3) := by decide +kernel
theorem dX6_liarSets_5 : decode cX6_liarSets 5 = .ok (.getfield 96, 3) := by decide +kernel
theorem dX6_liarSets_8 : decode cX6_liarSets 8 = .ok (.ishl, 1) := by decide +kernel
theorem dX6_liarSets_9 : decode cX6_liarSets 9 = .ok (.ireturn, 1) := by decide +kernel
theorem dX6_isLaw_0 : decode cX6_isLaw 0 = .ok (.iload_n 0, 1) := by decide +kernel
theorem dX6_isLaw_1 : decode cX6_isLaw 1 = .ok (.iconst 0, 1) := by decide +kernel
theorem dX6_isLaw_2 : decode cX6_isLaw 2 = .ok (.iconst 4, 1) := by decide +kernel
theorem dX6_isLaw_3 : decode cX6_isLaw 3 = .ok (.invokestatic 67, 3) := by decide +kernel
theorem dX6_isLaw_6 : decode cX6_isLaw 6 = .ok (.ireturn, 1) := by decide +kernel
theorem dX6_isMeasure_0 : decode cX6_isMeasure 0 = .ok (.iload_n 0, 1) := by decide +kernel
theorem dX6_isMeasure_1 : decode cX6_isMeasure 1 = .ok (.iconst 0, 1) := by decide +kernel
theorem dX6_isMeasure_2 : decode cX6_isMeasure 2 = .ok (.iconst 4, 1) := by decide +kernel
theorem dX6_isMeasure_3 : decode cX6_isMeasure 3 = .ok (.invokestatic 67, 3) := by decide +kernel
theorem dX6_isMeasure_6 : decode cX6_isMeasure 6 = .ok (.ireturn, 1) := by decide +kernel
theorem dX6_isSheet_0 : decode cX6_isSheet 0 = .ok (.iload_n 0, 1) := by decide +kernel
theorem dX6_isSheet_1 : decode cX6_isSheet 1 = .ok (.iconst 0, 1) := by decide +kernel
theorem dX6_isSheet_2 : decode cX6_isSheet 2 = .ok (.iconst 3, 1) := by decide +kernel
theorem dX6_isSheet_3 : decode cX6_isSheet 3 = .ok (.invokestatic 67, 3) := by decide +kernel
theorem dX6_isSheet_6 : decode cX6_isSheet 6 = .ok (.ireturn, 1) := by decide +kernel
theorem dX6_hearsLies_0 : decode cX6_hearsLies 0 = .ok (.iload_n 0, 1) := by decide +kernel
theorem dX6_hearsLies_1 : decode cX6_hearsLies 1 = .ok (.iconst 3, 1) := by decide +kernel
theorem dX6_hearsLies_2 : decode cX6_hearsLies 2 = .ok (.if_icmp .ne 7, 3) := by decide +kernel
theorem dX6_hearsLies_5 : decode cX6_hearsLies 5 = .ok (.iconst 1, 1) := by decide +kernel
theorem dX6_hearsLies_6 : decode cX6_hearsLies 6 = .ok (.goto 4, 3) := by decide +kernel
theorem dX6_hearsLies_9 : decode cX6_hearsLies 9 = .ok (.iconst 0, 1) := by decide +kernel
theorem dX6_hearsLies_10 : decode cX6_hearsLies 10 = .ok (.ireturn, 1) := by decide +kernel
theorem dX6_otherSide_0 : decode cX6_otherSide 0 = .ok (.iload_n 0, 1) := by decide +kernel
theorem dX6_otherSide_1 : decode cX6_otherSide 1 = .ok (.ifCond .ne 7, 3) := by decide +kernel
theorem dX6_otherSide_4 : decode cX6_otherSide 4 = .ok (.iconst 1, 1) := by decide +kernel
theorem dX6_otherSide_5 : decode cX6_otherSide 5 = .ok (.goto 4, 3) := by decide +kernel
theorem dX6_otherSide_8 : decode cX6_otherSide 8 = .ok (.iconst 0, 1) := by decide +kernel
theorem dX6_otherSide_9 : decode cX6_otherSide 9 = .ok (.ireturn, 1) := by decide +kernel
theorem dX6_within_0 : decode cX6_within 0 = .ok (.iload_n 1, 1) := by decide +kernel
theorem dX6_within_1 : decode cX6_within 1 = .ok (.iload_n 0, 1) := by decide +kernel
theorem dX6_within_2 : decode cX6_within 2 = .ok (.if_icmp .gt 12, 3) := by decide +kernel
theorem dX6_within_5 : decode cX6_within 5 = .ok (.iload_n 0, 1) := by decide +kernel
theorem dX6_within_6 : decode cX6_within 6 = .ok (.iload_n 2, 1) := by decide +kernel
theorem dX6_within_7 : decode cX6_within 7 = .ok (.if_icmp .gt 7, 3) := by decide +kernel
theorem dX6_within_10 : decode cX6_within 10 = .ok (.iconst 1, 1) := by decide +kernel
theorem dX6_within_11 : decode cX6_within 11 = .ok (.goto 4, 3) := by decide +kernel
theorem dX6_within_14 : decode cX6_within 14 = .ok (.iconst 0, 1) := by decide +kernel
theorem dX6_within_15 : decode cX6_within 15 = .ok (.ireturn, 1) := by decide +kernel
