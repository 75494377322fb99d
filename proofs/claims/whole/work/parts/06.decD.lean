theorem dX7_boat_21 : decode cX7_boat 21 = .ok (.ireturn, 1) := by decide +kernel
theorem dX7_boat_22 : decode cX7_boat 22 = .ok (.aload_n 0, 1) := by decide +kernel
theorem dX7_boat_23 : decode cX7_boat 23 = .ok (.invokevirtual 228, 3) := by decide +kernel
theorem dX7_boat_26 : decode cX7_boat 26 = .ok (.iload_n 2, 1) := by decide +kernel
theorem dX7_boat_27 : decode cX7_boat 27 = .ok (.bipush 6, 2) := by decide +kernel
theorem dX7_boat_29 : decode cX7_boat 29 = .ok (.if_icmp .ge 12, 3) := by decide +kernel
theorem dX7_boat_32 : decode cX7_boat 32 = .ok (.aload_n 0, 1) := by decide +kernel
theorem dX7_boat_33 : decode cX7_boat 33 = .ok (.iload_n 1, 1) := by decide +kernel
theorem dX7_boat_34 : decode cX7_boat 34 = .ok (.iload_n 2, 1) := by decide +kernel
theorem dX7_boat_35 : decode cX7_boat 35 = .ok (.invokevirtual 166, 3) := by decide +kernel
theorem dX7_boat_38 : decode cX7_boat 38 = .ok (.goto 8, 3) := by decide +kernel
theorem dX7_boat_41 : decode cX7_boat 41 = .ok (.aload_n 0, 1) := by decide +kernel
theorem dX7_boat_42 : decode cX7_boat 42 = .ok (.iload_n 1, 1) := by decide +kernel
theorem dX7_boat_43 : decode cX7_boat 43 = .ok (.invokevirtual 207, 3) := by decide +kernel
theorem dX7_boat_46 : decode cX7_boat 46 = .ok (.ireturn, 1) := by decide +kernel
theorem dX7_becomes_0 : decode cX7_becomes 0 = .ok (.aload_n 0, 1) := by decide +kernel
theorem dX7_becomes_1 : decode cX7_becomes 1 = .ok (.getfield 7, 3) := by decide +kernel
theorem dX7_becomes_4 : decode cX7_becomes 4 = .ok (.iload_n 1, 1) := by decide +kernel
theorem dX7_becomes_5 : decode cX7_becomes 5 = .ok (.iaload, 1) := by decide +kernel
theorem dX7_becomes_6 : decode cX7_becomes 6 = .ok (.istore_n 3, 1) := by decide +kernel
theorem dX7_becomes_7 : decode cX7_becomes 7 = .ok (.aload_n 0, 1) := by decide +kernel
theorem dX7_becomes_8 : decode cX7_becomes 8 = .ok (.getfield 7, 3) := by decide +kernel
theorem dX7_becomes_11 : decode cX7_becomes 11 = .ok (.iload_n 1, 1) := by decide +kernel
theorem dX7_becomes_12 : decode cX7_becomes 12 = .ok (.iload_n 2, 1) := by decide +kernel
theorem dX7_becomes_13 : decode cX7_becomes 13 = .ok (.iastore, 1) := by decide +kernel
theorem dX7_becomes_14 : decode cX7_becomes 14 = .ok (.iload_n 3, 1) := by decide +kernel
theorem dX7_becomes_15 : decode cX7_becomes 15 = .ok (.ireturn, 1) := by decide +kernel
theorem dX7_mostOf_0 : decode cX7_mostOf 0 = .ok (.iload_n 0, 1) := by decide +kernel
theorem dX7_mostOf_1 : decode cX7_mostOf 1 = .ok (.iconst 2, 1) := by decide +kernel
theorem dX7_mostOf_2 : decode cX7_mostOf 2 = .ok (.if_icmp .eq 8, 3) := by decide +kernel
theorem dX7_mostOf_5 : decode cX7_mostOf 5 = .ok (.iload_n 0, 1) := by decide +kernel
theorem dX7_mostOf_6 : decode cX7_mostOf 6 = .ok (.iconst 5, 1) := by decide +kernel
theorem dX7_mostOf_7 : decode cX7_mostOf 7 = .ok (.if_icmp .ne 7, 3) := by decide +kernel
theorem dX7_mostOf_10 : decode cX7_mostOf 10 = .ok (.iconst 1, 1) := by decide +kernel
theorem dX7_mostOf_11 : decode cX7_mostOf 11 = .ok (.goto 14, 3) := by decide +kernel
theorem dX7_mostOf_14 : decode cX7_mostOf 14 = .ok (.iload_n 0, 1) := by decide +kernel
theorem dX7_mostOf_15 : decode cX7_mostOf 15 = .ok (.iconst 3, 1) := by decide +kernel
theorem dX7_mostOf_16 : decode cX7_mostOf 16 = .ok (.if_icmp .ne 7, 3) := by decide +kernel
theorem dX7_mostOf_19 : decode cX7_mostOf 19 = .ok (.iconst 4, 1) := by decide +kernel
theorem dX7_mostOf_20 : decode cX7_mostOf 20 = .ok (.goto 5, 3) := by decide +kernel
theorem dX7_mostOf_23 : decode cX7_mostOf 23 = .ok (.bipush 9, 2) := by decide +kernel
theorem dX7_mostOf_25 : decode cX7_mostOf 25 = .ok (.ireturn, 1) := by decide +kernel
theorem dX7_set_0 : decode cX7_set 0 = .ok (.iload_n 1, 1) := by decide +kernel
theorem dX7_set_1 : decode cX7_set 1 = .ok (.i2l, 1) := by decide +kernel
theorem dX7_set_2 : decode cX7_set 2 = .ok (.lconst 0, 1) := by decide +kernel
theorem dX7_set_3 : decode cX7_set 3 = .ok (.ldc2_w 155, 3) := by decide +kernel
theorem dX7_set_6 : decode cX7_set 6 = .ok (.invokestatic 74, 3) := by decide +kernel
theorem dX7_set_9 : decode cX7_set 9 = .ok (.ifCond .eq 34, 3) := by decide +kernel
theorem dX7_set_12 : decode cX7_set 12 = .ok (.iload_n 2, 1) := by decide +kernel
theorem dX7_set_13 : decode cX7_set 13 = .ok (.i2l, 1) := by decide +kernel
theorem dX7_set_14 : decode cX7_set 14 = .ok (.iload_n 1, 1) := by decide +kernel
theorem dX7_set_15 : decode cX7_set 15 = .ok (.ifCond .ne 7, 3) := by decide +kernel
theorem dX7_set_18 : decode cX7_set 18 = .ok (.lconst 1, 1) := by decide +kernel
theorem dX7_set_19 : decode cX7_set 19 = .ok (.goto 4, 3) := by decide +kernel
theorem dX7_set_22 : decode cX7_set 22 = .ok (.lconst 0, 1) := by decide +kernel
theorem dX7_set_23 : decode cX7_set 23 = .ok (.iload_n 1, 1) := by decide +kernel
theorem dX7_set_24 : decode cX7_set 24 = .ok (.invokestatic 242, 3) := by decide +kernel
theorem dX7_set_27 : decode cX7_set 27 = .ok (.i2l, 1) := by decide +kernel
theorem dX7_set_28 : decode cX7_set 28 = .ok (.invokestatic 74, 3) := by decide +kernel
theorem dX7_set_31 : decode cX7_set 31 = .ok (.ifCond .eq 12, 3) := by decide +kernel
theorem dX7_set_34 : decode cX7_set 34 = .ok (.aload_n 0, 1) := by decide +kernel
theorem dX7_set_35 : decode cX7_set 35 = .ok (.iload_n 1, 1) := by decide +kernel
theorem dX7_set_36 : decode cX7_set 36 = .ok (.iload_n 2, 1) := by decide +kernel
theorem dX7_set_37 : decode cX7_set 37 = .ok (.invokevirtual 245, 3) := by decide +kernel
theorem dX7_set_40 : decode cX7_set 40 = .ok (.goto 4, 3) := by decide +kernel
theorem dX7_set_43 : decode cX7_set 43 = .ok (.iconst (-1), 1) := by decide +kernel
theorem dX7_set_44 : decode cX7_set 44 = .ok (.ireturn, 1) := by decide +kernel
theorem dX7_alter_0 : decode cX7_alter 0 = .ok (.aload_n 0, 1) := by decide +kernel
theorem dX7_alter_1 : decode cX7_alter 1 = .ok (.iload_n 1, 1) := by decide +kernel
theorem dX7_alter_2 : decode cX7_alter 2 = .ok (.invokevirtual 237, 3) := by decide +kernel
theorem dX7_alter_5 : decode cX7_alter 5 = .ok (.ifCond .eq 49, 3) := by decide +kernel
theorem dX7_alter_8 : decode cX7_alter 8 = .ok (.iload_n 2, 1) := by decide +kernel
theorem dX7_alter_9 : decode cX7_alter 9 = .ok (.i2l, 1) := by decide +kernel
theorem dX7_alter_10 : decode cX7_alter 10 = .ok (.lconst 1, 1) := by decide +kernel
theorem dX7_alter_11 : decode cX7_alter 11 = .ok (.ldc2_w 248, 3) := by decide +kernel
theorem dX7_alter_14 : decode cX7_alter 14 = .ok (.invokestatic 74, 3) := by decide +kernel
theorem dX7_alter_17 : decode cX7_alter 17 = .ok (.ifCond .eq 37, 3) := by decide +kernel
theorem dX7_alter_20 : decode cX7_alter 20 = .ok (.iload_n 3, 1) := by decide +kernel
theorem dX7_alter_21 : decode cX7_alter 21 = .ok (.i2l, 1) := by decide +kernel
theorem dX7_alter_22 : decode cX7_alter 22 = .ok (.lconst 0, 1) := by decide +kernel
theorem dX7_alter_23 : decode cX7_alter 23 = .ok (.iload_n 2, 1) := by decide +kernel
theorem dX7_alter_24 : decode cX7_alter 24 = .ok (.iconst 1, 1) := by decide +kernel
theorem dX7_alter_25 : decode cX7_alter 25 = .ok (.if_icmp .ne 9, 3) := by decide +kernel
theorem dX7_alter_28 : decode cX7_alter 28 = .ok (.ldc2_w 250, 3) := by decide +kernel
theorem dX7_alter_31 : decode cX7_alter 31 = .ok (.goto 17, 3) := by decide +kernel
theorem dX7_alter_34 : decode cX7_alter 34 = .ok (.iload_n 2, 1) := by decide +kernel
theorem dX7_alter_35 : decode cX7_alter 35 = .ok (.iconst 2, 1) := by decide +kernel
theorem dX7_alter_36 : decode cX7_alter 36 = .ok (.if_icmp .ne 9, 3) := by decide +kernel
theorem dX7_alter_39 : decode cX7_alter 39 = .ok (.ldc2_w 252, 3) := by decide +kernel
theorem dX7_alter_42 : decode cX7_alter 42 = .ok (.goto 6, 3) := by decide +kernel
theorem dX7_alter_45 : decode cX7_alter 45 = .ok (.ldc2_w 254, 3) := by decide +kernel
theorem dX7_alter_48 : decode cX7_alter 48 = .ok (.invokestatic 74, 3) := by decide +kernel
theorem dX7_alter_51 : decode cX7_alter 51 = .ok (.ifCond .ne 5, 3) := by decide +kernel
theorem dX7_alter_54 : decode cX7_alter 54 = .ok (.iconst (-1), 1) := by decide +kernel
theorem dX7_alter_55 : decode cX7_alter 55 = .ok (.ireturn, 1) := by decide +kernel
theorem dX7_alter_56 : decode cX7_alter 56 = .ok (.aload_n 0, 1) := by decide +kernel
theorem dX7_alter_57 : decode cX7_alter 57 = .ok (.bipush 6, 2) := by decide +kernel
theorem dX7_alter_59 : decode cX7_alter 59 = .ok (.bipush 6, 2) := by decide +kernel
theorem dX7_alter_61 : decode cX7_alter 61 = .ok (.iload_n 1, 1) := by decide +kernel
theorem dX7_alter_62 : decode cX7_alter 62 = .ok (.imul, 1) := by decide +kernel
theorem dX7_alter_63 : decode cX7_alter 63 = .ok (.iadd, 1) := by decide +kernel
theorem dX7_alter_64 : decode cX7_alter 64 = .ok (.iload_n 2, 1) := by decide +kernel
theorem dX7_alter_65 : decode cX7_alter 65 = .ok (.iadd, 1) := by decide +kernel
theorem dX7_alter_66 : decode cX7_alter 66 = .ok (.iload_n 3, 1) := by decide +kernel
theorem dX7_alter_67 : decode cX7_alter 67 = .ok (.invokevirtual 245, 3) := by decide +kernel
theorem dX7_alter_70 : decode cX7_alter 70 = .ok (.ireturn, 1) := by decide +kernel
theorem dX7_lie_0 : decode cX7_lie 0 = .ok (.aload_n 0, 1) := by decide +kernel
theorem dX7_lie_1 : decode cX7_lie 1 = .ok (.iload_n 1, 1) := by decide +kernel
theorem dX7_lie_2 : decode cX7_lie 2 = .ok (.invokevirtual 237, 3) := by decide +kernel
theorem dX7_lie_5 : decode cX7_lie 5 = .ok (.ifCond .eq 23, 3) := by decide +kernel
theorem dX7_lie_8 : decode cX7_lie 8 = .ok (.aload_n 0, 1) := by decide +kernel
theorem dX7_lie_9 : decode cX7_lie 9 = .ok (.bipush 6, 2) := by decide +kernel
theorem dX7_lie_11 : decode cX7_lie 11 = .ok (.bipush 6, 2) := by decide +kernel
theorem dX7_lie_13 : decode cX7_lie 13 = .ok (.iload_n 1, 1) := by decide +kernel
theorem dX7_lie_14 : decode cX7_lie 14 = .ok (.imul, 1) := by decide +kernel
theorem dX7_lie_15 : decode cX7_lie 15 = .ok (.iadd, 1) := by decide +kernel
theorem dX7_lie_16 : decode cX7_lie 16 = .ok (.iconst 5, 1) := by decide +kernel
theorem dX7_lie_17 : decode cX7_lie 17 = .ok (.iadd, 1) := by decide +kernel
theorem dX7_lie_18 : decode cX7_lie 18 = .ok (.iload_n 2, 1) := by decide +kernel
theorem dX7_lie_19 : decode cX7_lie 19 = .ok (.invokestatic 184, 3) := by decide +kernel
theorem dX7_lie_22 : decode cX7_lie 22 = .ok (.invokevirtual 245, 3) := by decide +kernel
theorem dX7_lie_25 : decode cX7_lie 25 = .ok (.goto 4, 3) := by decide +kernel
theorem dX7_lie_28 : decode cX7_lie 28 = .ok (.iconst (-1), 1) := by decide +kernel
theorem dX7_lie_29 : decode cX7_lie 29 = .ok (.ireturn, 1) := by decide +kernel
theorem dX7_cross_0 : decode cX7_cross 0 = .ok (.bipush 6, 2) := by decide +kernel
theorem dX7_cross_2 : decode cX7_cross 2 = .ok (.bipush 6, 2) := by decide +kernel
theorem dX7_cross_4 : decode cX7_cross 4 = .ok (.iload_n 1, 1) := by decide +kernel
theorem dX7_cross_5 : decode cX7_cross 5 = .ok (.imul, 1) := by decide +kernel
theorem dX7_cross_6 : decode cX7_cross 6 = .ok (.iadd, 1) := by decide +kernel
theorem dX7_cross_7 : decode cX7_cross 7 = .ok (.iconst 0, 1) := by decide +kernel
theorem dX7_cross_8 : decode cX7_cross 8 = .ok (.iadd, 1) := by decide +kernel
theorem dX7_cross_9 : decode cX7_cross 9 = .ok (.istore_n 2, 1) := by decide +kernel
theorem dX7_cross_10 : decode cX7_cross 10 = .ok (.aload_n 0, 1) := by decide +kernel
theorem dX7_cross_11 : decode cX7_cross 11 = .ok (.iload_n 1, 1) := by decide +kernel
theorem dX7_cross_12 : decode cX7_cross 12 = .ok (.invokevirtual 237, 3) := by decide +kernel
theorem dX7_cross_15 : decode cX7_cross 15 = .ok (.ifCond .eq 19, 3) := by decide +kernel
theorem dX7_cross_18 : decode cX7_cross 18 = .ok (.aload_n 0, 1) := by decide +kernel
theorem dX7_cross_19 : decode cX7_cross 19 = .ok (.iload_n 2, 1) := by decide +kernel
theorem dX7_cross_20 : decode cX7_cross 20 = .ok (.iconst 1, 1) := by decide +kernel
theorem dX7_cross_21 : decode cX7_cross 21 = .ok (.aload_n 0, 1) := by decide +kernel
theorem dX7_cross_22 : decode cX7_cross 22 = .ok (.getfield 7, 3) := by decide +kernel
theorem dX7_cross_25 : decode cX7_cross 25 = .ok (.iload_n 2, 1) := by decide +kernel
theorem dX7_cross_26 : decode cX7_cross 26 = .ok (.iaload, 1) := by decide +kernel
theorem dX7_cross_27 : decode cX7_cross 27 = .ok (.isub, 1) := by decide +kernel
theorem dX7_cross_28 : decode cX7_cross 28 = .ok (.invokevirtual 245, 3) := by decide +kernel
theorem dX7_cross_31 : decode cX7_cross 31 = .ok (.goto 4, 3) := by decide +kernel
theorem dX7_cross_34 : decode cX7_cross 34 = .ok (.iconst (-1), 1) := by decide +kernel
theorem dX7_cross_35 : decode cX7_cross 35 = .ok (.ireturn, 1) := by decide +kernel
theorem dX7_passes_0 : decode cX7_passes 0 = .ok (.aload_n 0, 1) := by decide +kernel
theorem dX7_passes_1 : decode cX7_passes 1 = .ok (.iload_n 1, 1) := by decide +kernel
theorem dX7_passes_2 : decode cX7_passes 2 = .ok (.invokevirtual 237, 3) := by decide +kernel
theorem dX7_passes_5 : decode cX7_passes 5 = .ok (.ifCond .ne 5, 3) := by decide +kernel
theorem dX7_passes_8 : decode cX7_passes 8 = .ok (.iconst (-1), 1) := by decide +kernel
theorem dX7_passes_9 : decode cX7_passes 9 = .ok (.ireturn, 1) := by decide +kernel
theorem dX7_passes_10 : decode cX7_passes 10 = .ok (.aload_n 0, 1) := by decide +kernel
theorem dX7_passes_11 : decode cX7_passes 11 = .ok (.invokevirtual 256, 3) := by decide +kernel
theorem dX7_passes_14 : decode cX7_passes 14 = .ok (.aload_n 0, 1) := by decide +kernel
theorem dX7_passes_15 : decode cX7_passes 15 = .ok (.getfield 26, 3) := by decide +kernel
theorem dX7_passes_18 : decode cX7_passes 18 = .ok (.iload_n 1, 1) := by decide +kernel
theorem dX7_passes_19 : decode cX7_passes 19 = .ok (.iaload, 1) := by decide +kernel
theorem dX7_passes_20 : decode cX7_passes 20 = .ok (.ireturn, 1) := by decide +kernel
theorem dX7_through_0 : decode cX7_through 0 = .ok (.aload_n 0, 1) := by decide +kernel
theorem dX7_through_1 : decode cX7_through 1 = .ok (.iload_n 1, 1) := by decide +kernel
theorem dX7_through_2 : decode cX7_through 2 = .ok (.invokevirtual 237, 3) := by decide +kernel
theorem dX7_through_5 : decode cX7_through 5 = .ok (.ifCond .ne 5, 3) := by decide +kernel
theorem dX7_through_8 : decode cX7_through 8 = .ok (.iconst (-1), 1) := by decide +kernel
theorem dX7_through_9 : decode cX7_through 9 = .ok (.ireturn, 1) := by decide +kernel
theorem dX7_through_10 : decode cX7_through 10 = .ok (.aload_n 0, 1) := by decide +kernel
theorem dX7_through_11 : decode cX7_through 11 = .ok (.invokevirtual 256, 3) := by decide +kernel
theorem dX7_through_14 : decode cX7_through 14 = .ok (.aload_n 0, 1) := by decide +kernel
theorem dX7_through_15 : decode cX7_through 15 = .ok (.getfield 29, 3) := by decide +kernel
theorem dX7_through_18 : decode cX7_through 18 = .ok (.iload_n 1, 1) := by decide +kernel
theorem dX7_through_19 : decode cX7_through 19 = .ok (.iaload, 1) := by decide +kernel
theorem dX7_through_20 : decode cX7_through 20 = .ok (.ireturn, 1) := by decide +kernel
theorem dX7_stood_0 : decode cX7_stood 0 = .ok (.aload_n 0, 1) := by decide +kernel
theorem dX7_stood_1 : decode cX7_stood 1 = .ok (.iload_n 1, 1) := by decide +kernel
theorem dX7_stood_2 : decode cX7_stood 2 = .ok (.invokevirtual 237, 3) := by decide +kernel
theorem dX7_stood_5 : decode cX7_stood 5 = .ok (.ifCond .ne 5, 3) := by decide +kernel
theorem dX7_stood_8 : decode cX7_stood 8 = .ok (.iconst (-1), 1) := by decide +kernel
theorem dX7_stood_9 : decode cX7_stood 9 = .ok (.ireturn, 1) := by decide +kernel
theorem dX7_stood_10 : decode cX7_stood 10 = .ok (.aload_n 0, 1) := by decide +kernel
theorem dX7_stood_11 : decode cX7_stood 11 = .ok (.invokevirtual 256, 3) := by decide +kernel
theorem dX7_stood_14 : decode cX7_stood 14 = .ok (.aload_n 0, 1) := by decide +kernel
theorem dX7_stood_15 : decode cX7_stood 15 = .ok (.getfield 32, 3) := by decide +kernel
theorem dX7_stood_18 : decode cX7_stood 18 = .ok (.iload_n 1, 1) := by decide +kernel
theorem dX7_stood_19 : decode cX7_stood 19 = .ok (.iaload, 1) := by decide +kernel
theorem dX7_stood_20 : decode cX7_stood 20 = .ok (.ireturn, 1) := by decide +kernel
theorem dX7_day_0 : decode cX7_day 0 = .ok (.iload_n 1, 1) := by decide +kernel
theorem dX7_day_1 : decode cX7_day 1 = .ok (.i2l, 1) := by decide +kernel
theorem dX7_day_2 : decode cX7_day 2 = .ok (.lconst 0, 1) := by decide +kernel
theorem dX7_day_3 : decode cX7_day 3 = .ok (.ldc2_w 248, 3) := by decide +kernel
theorem dX7_day_6 : decode cX7_day 6 = .ok (.invokestatic 74, 3) := by decide +kernel
theorem dX7_day_9 : decode cX7_day 9 = .ok (.ifCond .ne 5, 3) := by decide +kernel
theorem dX7_day_12 : decode cX7_day 12 = .ok (.iconst (-1), 1) := by decide +kernel
theorem dX7_day_13 : decode cX7_day 13 = .ok (.ireturn, 1) := by decide +kernel
theorem dX7_day_14 : decode cX7_day 14 = .ok (.aload_n 0, 1) := by decide +kernel
theorem dX7_day_15 : decode cX7_day 15 = .ok (.invokevirtual 256, 3) := by decide +kernel
theorem dX7_day_18 : decode cX7_day 18 = .ok (.aload_n 0, 1) := by decide +kernel
theorem dX7_day_19 : decode cX7_day 19 = .ok (.iload_n 1, 1) := by decide +kernel
theorem dX7_day_20 : decode cX7_day 20 = .ok (.invokevirtual 259, 3) := by decide +kernel
theorem dX7_day_23 : decode cX7_day 23 = .ok (.ireturn, 1) := by decide +kernel
theorem dX7_dayBy_0 : decode cX7_dayBy 0 = .ok (.aload_n 0, 1) := by decide +kernel
theorem dX7_dayBy_1 : decode cX7_dayBy 1 = .ok (.invokevirtual 228, 3) := by decide +kernel
theorem dX7_dayBy_4 : decode cX7_dayBy 4 = .ok (.aload_n 0, 1) := by decide +kernel
theorem dX7_dayBy_5 : decode cX7_dayBy 5 = .ok (.getfield 13, 3) := by decide +kernel
theorem dX7_dayBy_8 : decode cX7_dayBy 8 = .ok (.iconst 3, 1) := by decide +kernel
theorem dX7_dayBy_9 : decode cX7_dayBy 9 = .ok (.iload_n 1, 1) := by decide +kernel
theorem dX7_dayBy_10 : decode cX7_dayBy 10 = .ok (.iastore, 1) := by decide +kernel
theorem dX7_dayBy_11 : decode cX7_dayBy 11 = .ok (.aload_n 0, 1) := by decide +kernel
theorem dX7_dayBy_12 : decode cX7_dayBy 12 = .ok (.invokevirtual 231, 3) := by decide +kernel
theorem dX7_dayBy_15 : decode cX7_dayBy 15 = .ok (.return_, 1) := by decide +kernel
theorem dX7_table_0 : decode cX7_table 0 = .ok (.iload_n 1, 1) := by decide +kernel
theorem dX7_table_1 : decode cX7_table 1 = .ok (.i2l, 1) := by decide +kernel
theorem dX7_table_2 : decode cX7_table 2 = .ok (.lconst 0, 1) := by decide +kernel
theorem dX7_table_3 : decode cX7_table 3 = .ok (.ldc2_w 248, 3) := by decide +kernel
theorem dX7_table_6 : decode cX7_table 6 = .ok (.invokestatic 74, 3) := by decide +kernel
theorem dX7_table_9 : decode cX7_table 9 = .ok (.ifCond .eq 15, 3) := by decide +kernel
theorem dX7_table_12 : decode cX7_table 12 = .ok (.iload_n 2, 1) := by decide +kernel
theorem dX7_table_13 : decode cX7_table 13 = .ok (.i2l, 1) := by decide +kernel
theorem dX7_table_14 : decode cX7_table 14 = .ok (.lconst 0, 1) := by decide +kernel
theorem dX7_table_15 : decode cX7_table 15 = .ok (.ldc2_w 248, 3) := by decide +kernel
theorem dX7_table_18 : decode cX7_table 18 = .ok (.invokestatic 74, 3) := by decide +kernel
theorem dX7_table_21 : decode cX7_table 21 = .ok (.ifCond .ne 5, 3) := by decide +kernel
theorem dX7_table_24 : decode cX7_table 24 = .ok (.iconst (-1), 1) := by decide +kernel
theorem dX7_table_25 : decode cX7_table 25 = .ok (.ireturn, 1) := by decide +kernel
theorem dX7_table_26 : decode cX7_table 26 = .ok (.aload_n 0, 1) := by decide +kernel
theorem dX7_table_27 : decode cX7_table 27 = .ok (.iload_n 1, 1) := by decide +kernel
theorem dX7_table_28 : decode cX7_table 28 = .ok (.invokevirtual 262, 3) := by decide +kernel
theorem dX7_table_31 : decode cX7_table 31 = .ok (.aload_n 0, 1) := by decide +kernel
theorem dX7_table_32 : decode cX7_table 32 = .ok (.iload_n 2, 1) := by decide +kernel
theorem dX7_table_33 : decode cX7_table 33 = .ok (.invokevirtual 259, 3) := by decide +kernel
theorem dX7_table_36 : decode cX7_table 36 = .ok (.ireturn, 1) := by decide +kernel
theorem dX7_best_0 : decode cX7_best 0 = .ok (.iload_n 1, 1) := by decide +kernel
theorem dX7_best_1 : decode cX7_best 1 = .ok (.i2l, 1) := by decide +kernel
theorem dX7_best_2 : decode cX7_best 2 = .ok (.lconst 0, 1) := by decide +kernel
theorem dX7_best_3 : decode cX7_best 3 = .ok (.ldc2_w 248, 3) := by decide +kernel
theorem dX7_best_6 : decode cX7_best 6 = .ok (.invokestatic 74, 3) := by decide +kernel
theorem dX7_best_9 : decode cX7_best 9 = .ok (.ifCond .ne 5, 3) := by decide +kernel
theorem dX7_best_12 : decode cX7_best 12 = .ok (.iconst (-1), 1) := by decide +kernel
theorem dX7_best_13 : decode cX7_best 13 = .ok (.ireturn, 1) := by decide +kernel
theorem dX7_best_14 : decode cX7_best 14 = .ok (.ldc 191, 2) := by decide +kernel
theorem dX7_best_16 : decode cX7_best 16 = .ok (.istore_n 2, 1) := by decide +kernel
theorem dX7_best_17 : decode cX7_best 17 = .ok (.iconst 0, 1) := by decide +kernel
theorem dX7_best_18 : decode cX7_best 18 = .ok (.istore_n 3, 1) := by decide +kernel
theorem dX7_best_19 : decode cX7_best 19 = .ok (.iconst 0, 1) := by decide +kernel
theorem dX7_best_20 : decode cX7_best 20 = .ok (.istore 4, 2) := by decide +kernel
theorem dX7_best_22 : decode cX7_best 22 = .ok (.iload 4, 2) := by decide +kernel
theorem dX7_best_24 : decode cX7_best 24 = .ok (.iconst 5, 1) := by decide +kernel
theorem dX7_best_25 : decode cX7_best 25 = .ok (.if_icmp .ge 50, 3) := by decide +kernel
theorem dX7_best_28 : decode cX7_best 28 = .ok (.aload_n 0, 1) := by decide +kernel
theorem dX7_best_29 : decode cX7_best 29 = .ok (.iload 4, 2) := by decide +kernel
theorem dX7_best_31 : decode cX7_best 31 = .ok (.invokevirtual 262, 3) := by decide +kernel
theorem dX7_best_34 : decode cX7_best 34 = .ok (.aload_n 0, 1) := by decide +kernel
theorem dX7_best_35 : decode cX7_best 35 = .ok (.iload_n 1, 1) := by decide +kernel
theorem dX7_best_36 : decode cX7_best 36 = .ok (.invokevirtual 259, 3) := by decide +kernel
theorem dX7_best_39 : decode cX7_best 39 = .ok (.iload_n 2, 1) := by decide +kernel
theorem dX7_best_40 : decode cX7_best 40 = .ok (.if_icmp .ge 8, 3) := by decide +kernel
theorem dX7_best_43 : decode cX7_best 43 = .ok (.iload 4, 2) := by decide +kernel
theorem dX7_best_45 : decode cX7_best 45 = .ok (.goto 4, 3) := by decide +kernel
theorem dX7_best_48 : decode cX7_best 48 = .ok (.iload_n 3, 1) := by decide +kernel
theorem dX7_best_49 : decode cX7_best 49 = .ok (.istore_n 3, 1) := by decide +kernel
theorem dX7_best_50 : decode cX7_best 50 = .ok (.aload_n 0, 1) := by decide +kernel
theorem dX7_best_51 : decode cX7_best 51 = .ok (.iload_n 1, 1) := by decide +kernel
theorem dX7_best_52 : decode cX7_best 52 = .ok (.invokevirtual 259, 3) := by decide +kernel
theorem dX7_best_55 : decode cX7_best 55 = .ok (.iload_n 2, 1) := by decide +kernel
theorem dX7_best_56 : decode cX7_best 56 = .ok (.if_icmp .ge 11, 3) := by decide +kernel
theorem dX7_best_59 : decode cX7_best 59 = .ok (.aload_n 0, 1) := by decide +kernel
theorem dX7_best_60 : decode cX7_best 60 = .ok (.iload_n 1, 1) := by decide +kernel
theorem dX7_best_61 : decode cX7_best 61 = .ok (.invokevirtual 259, 3) := by decide +kernel
theorem dX7_best_64 : decode cX7_best 64 = .ok (.goto 4, 3) := by decide +kernel
theorem dX7_best_67 : decode cX7_best 67 = .ok (.iload_n 2, 1) := by decide +kernel
theorem dX7_best_68 : decode cX7_best 68 = .ok (.istore_n 2, 1) := by decide +kernel
theorem dX7_best_69 : decode cX7_best 69 = .ok (.iinc 4 1, 3) := by decide +kernel
theorem dX7_best_72 : decode cX7_best 72 = .ok (.goto (-50), 3) := by decide +kernel
theorem dX7_best_75 : decode cX7_best 75 = .ok (.iload_n 3, 1) := by decide +kernel
theorem dX7_best_76 : decode cX7_best 76 = .ok (.ireturn, 1) := by decide +kernel
theorem dX7_rows_0 : decode cX7_rows 0 = .ok (.iconst 1, 1) := by decide +kernel
theorem dX7_rows_1 : decode cX7_rows 1 = .ok (.istore_n 1, 1) := by decide +kernel
theorem dX7_rows_2 : decode cX7_rows 2 = .ok (.iconst 0, 1) := by decide +kernel
theorem dX7_rows_3 : decode cX7_rows 3 = .ok (.istore_n 2, 1) := by decide +kernel
theorem dX7_rows_4 : decode cX7_rows 4 = .ok (.iload_n 2, 1) := by decide +kernel
theorem dX7_rows_5 : decode cX7_rows 5 = .ok (.aload_n 0, 1) := by decide +kernel
theorem dX7_rows_6 : decode cX7_rows 6 = .ok (.getfield 69, 3) := by decide +kernel
theorem dX7_rows_9 : decode cX7_rows 9 = .ok (.if_icmp .ge 14, 3) := by decide +kernel
theorem dX7_rows_12 : decode cX7_rows 12 = .ok (.iload_n 1, 1) := by decide +kernel
theorem dX7_rows_13 : decode cX7_rows 13 = .ok (.bipush 6, 2) := by decide +kernel
theorem dX7_rows_15 : decode cX7_rows 15 = .ok (.imul, 1) := by decide +kernel
theorem dX7_rows_16 : decode cX7_rows 16 = .ok (.istore_n 1, 1) := by decide +kernel
theorem dX7_rows_17 : decode cX7_rows 17 = .ok (.iinc 2 1, 3) := by decide +kernel
theorem dX7_rows_20 : decode cX7_rows 20 = .ok (.goto (-16), 3) := by decide +kernel
theorem dX7_rows_23 : decode cX7_rows 23 = .ok (.iload_n 1, 1) := by decide +kernel
theorem dX7_rows_24 : decode cX7_rows 24 = .ok (.ireturn, 1) := by decide +kernel
theorem dX7_isOrder_0 : decode cX7_isOrder 0 = .ok (.iload_n 1, 1) := by decide +kernel
theorem dX7_isOrder_1 : decode cX7_isOrder 1 = .ok (.istore_n 2, 1) := by decide +kernel
theorem dX7_isOrder_2 : decode cX7_isOrder 2 = .ok (.iconst 0, 1) := by decide +kernel
theorem dX7_isOrder_3 : decode cX7_isOrder 3 = .ok (.istore_n 3, 1) := by decide +kernel
theorem dX7_isOrder_4 : decode cX7_isOrder 4 = .ok (.aload_n 0, 1) := by decide +kernel
theorem dX7_isOrder_5 : decode cX7_isOrder 5 = .ok (.getfield 69, 3) := by decide +kernel
theorem dX7_isOrder_8 : decode cX7_isOrder 8 = .ok (.iconst 1, 1) := by decide +kernel
theorem dX7_isOrder_9 : decode cX7_isOrder 9 = .ok (.isub, 1) := by decide +kernel
theorem dX7_isOrder_10 : decode cX7_isOrder 10 = .ok (.istore 4, 2) := by decide +kernel
theorem dX7_isOrder_12 : decode cX7_isOrder 12 = .ok (.iload 4, 2) := by decide +kernel
theorem dX7_isOrder_14 : decode cX7_isOrder 14 = .ok (.ifCond .lt 37, 3) := by decide +kernel
theorem dX7_isOrder_17 : decode cX7_isOrder 17 = .ok (.aload_n 0, 1) := by decide +kernel
theorem dX7_isOrder_18 : decode cX7_isOrder 18 = .ok (.getfield 35, 3) := by decide +kernel
theorem dX7_isOrder_21 : decode cX7_isOrder 21 = .ok (.iload 4, 2) := by decide +kernel
theorem dX7_isOrder_23 : decode cX7_isOrder 23 = .ok (.iload_n 2, 1) := by decide +kernel
theorem dX7_isOrder_24 : decode cX7_isOrder 24 = .ok (.bipush 6, 2) := by decide +kernel
theorem dX7_isOrder_26 : decode cX7_isOrder 26 = .ok (.irem, 1) := by decide +kernel
theorem dX7_isOrder_27 : decode cX7_isOrder 27 = .ok (.iastore, 1) := by decide +kernel
theorem dX7_isOrder_28 : decode cX7_isOrder 28 = .ok (.iload_n 2, 1) := by decide +kernel
theorem dX7_isOrder_29 : decode cX7_isOrder 29 = .ok (.bipush 6, 2) := by decide +kernel
theorem dX7_isOrder_31 : decode cX7_isOrder 31 = .ok (.idiv, 1) := by decide +kernel
theorem dX7_isOrder_32 : decode cX7_isOrder 32 = .ok (.istore_n 2, 1) := by decide +kernel
theorem dX7_isOrder_33 : decode cX7_isOrder 33 = .ok (.iload_n 3, 1) := by decide +kernel
theorem dX7_isOrder_34 : decode cX7_isOrder 34 = .ok (.iconst 1, 1) := by decide +kernel
theorem dX7_isOrder_35 : decode cX7_isOrder 35 = .ok (.aload_n 0, 1) := by decide +kernel
theorem dX7_isOrder_36 : decode cX7_isOrder 36 = .ok (.getfield 35, 3) := by decide +kernel
theorem dX7_isOrder_39 : decode cX7_isOrder 39 = .ok (.iload 4, 2) := by decide +kernel
theorem dX7_isOrder_41 : decode cX7_isOrder 41 = .ok (.iaload, 1) := by decide +kernel
theorem dX7_isOrder_42 : decode cX7_isOrder 42 = .ok (.ishl, 1) := by decide +kernel
theorem dX7_isOrder_43 : decode cX7_isOrder 43 = .ok (.ior, 1) := by decide +kernel
theorem dX7_isOrder_44 : decode cX7_isOrder 44 = .ok (.istore_n 3, 1) := by decide +kernel
theorem dX7_isOrder_45 : decode cX7_isOrder 45 = .ok (.iinc 4 (-1), 3) := by decide +kernel
theorem dX7_isOrder_48 : decode cX7_isOrder 48 = .ok (.goto (-36), 3) := by decide +kernel
theorem dX7_isOrder_51 : decode cX7_isOrder 51 = .ok (.iload_n 3, 1) := by decide +kernel
theorem dX7_isOrder_52 : decode cX7_isOrder 52 = .ok (.iconst 1, 1) := by decide +kernel
theorem dX7_isOrder_53 : decode cX7_isOrder 53 = .ok (.aload_n 0, 1) := by decide +kernel
theorem dX7_isOrder_54 : decode cX7_isOrder 54 = .ok (.getfield 69, 3) := by decide +kernel
theorem dX7_isOrder_57 : decode cX7_isOrder 57 = .ok (.ishl, 1) := by decide +kernel
theorem dX7_isOrder_58 : decode cX7_isOrder 58 = .ok (.iconst 1, 1) := by decide +kernel
theorem dX7_isOrder_59 : decode cX7_isOrder 59 = .ok (.isub, 1) := by decide +kernel
theorem dX7_isOrder_60 : decode cX7_isOrder 60 = .ok (.if_icmp .ne 7, 3) := by decide +kernel
theorem dX7_isOrder_63 : decode cX7_isOrder 63 = .ok (.iconst 1, 1) := by decide +kernel
theorem dX7_isOrder_64 : decode cX7_isOrder 64 = .ok (.goto 4, 3) := by decide +kernel
theorem dX7_isOrder_67 : decode cX7_isOrder 67 = .ok (.iconst 0, 1) := by decide +kernel
theorem dX7_isOrder_68 : decode cX7_isOrder 68 = .ok (.ireturn, 1) := by decide +kernel
theorem dX7_goesInOrder_0 : decode cX7_goesInOrder 0 = .ok (.aload_n 0, 1) := by decide +kernel
theorem dX7_goesInOrder_1 : decode cX7_goesInOrder 1 = .ok (.invokevirtual 210, 3) := by decide +kernel
theorem dX7_goesInOrder_4 : decode cX7_goesInOrder 4 = .ok (.iconst 0, 1) := by decide +kernel
theorem dX7_goesInOrder_5 : decode cX7_goesInOrder 5 = .ok (.istore_n 1, 1) := by decide +kernel
theorem dX7_goesInOrder_6 : decode cX7_goesInOrder 6 = .ok (.iload_n 1, 1) := by decide +kernel
theorem dX7_goesInOrder_7 : decode cX7_goesInOrder 7 = .ok (.aload_n 0, 1) := by decide +kernel
theorem dX7_goesInOrder_8 : decode cX7_goesInOrder 8 = .ok (.getfield 69, 3) := by decide +kernel
theorem dX7_goesInOrder_11 : decode cX7_goesInOrder 11 = .ok (.if_icmp .ge 19, 3) := by decide +kernel
theorem dX7_goesInOrder_14 : decode cX7_goesInOrder 14 = .ok (.aload_n 0, 1) := by decide +kernel
theorem dX7_goesInOrder_15 : decode cX7_goesInOrder 15 = .ok (.aload_n 0, 1) := by decide +kernel
theorem dX7_goesInOrder_16 : decode cX7_goesInOrder 16 = .ok (.getfield 35, 3) := by decide +kernel
theorem dX7_goesInOrder_19 : decode cX7_goesInOrder 19 = .ok (.iload_n 1, 1) := by decide +kernel
theorem dX7_goesInOrder_20 : decode cX7_goesInOrder 20 = .ok (.iaload, 1) := by decide +kernel
theorem dX7_goesInOrder_21 : decode cX7_goesInOrder 21 = .ok (.invokevirtual 222, 3) := by decide +kernel
theorem dX7_goesInOrder_24 : decode cX7_goesInOrder 24 = .ok (.iinc 1 1, 3) := by decide +kernel
theorem dX7_goesInOrder_27 : decode cX7_goesInOrder 27 = .ok (.goto (-21), 3) := by decide +kernel
theorem dX7_goesInOrder_30 : decode cX7_goesInOrder 30 = .ok (.return_, 1) := by decide +kernel
theorem dX7_order_0 : decode cX7_order 0 = .ok (.iload_n 1, 1) := by decide +kernel
theorem dX7_order_1 : decode cX7_order 1 = .ok (.ifCond .eq 16, 3) := by decide +kernel
theorem dX7_order_4 : decode cX7_order 4 = .ok (.aload_n 0, 1) := by decide +kernel
theorem dX7_order_5 : decode cX7_order 5 = .ok (.iload_n 1, 1) := by decide +kernel
theorem dX7_order_6 : decode cX7_order 6 = .ok (.bipush 10, 2) := by decide +kernel
theorem dX7_order_8 : decode cX7_order 8 = .ok (.isub, 1) := by decide +kernel
theorem dX7_order_9 : decode cX7_order 9 = .ok (.invokevirtual 237, 3) := by decide +kernel
theorem dX7_order_12 : decode cX7_order 12 = .ok (.ifCond .ne 5, 3) := by decide +kernel
theorem dX7_order_15 : decode cX7_order 15 = .ok (.iconst (-1), 1) := by decide +kernel
theorem dX7_order_16 : decode cX7_order 16 = .ok (.ireturn, 1) := by decide +kernel
theorem dX7_order_17 : decode cX7_order 17 = .ok (.ldc 191, 2) := by decide +kernel
theorem dX7_order_19 : decode cX7_order 19 = .ok (.istore_n 2, 1) := by decide +kernel
theorem dX7_order_20 : decode cX7_order 20 = .ok (.iconst 0, 1) := by decide +kernel
theorem dX7_order_21 : decode cX7_order 21 = .ok (.istore_n 3, 1) := by decide +kernel
theorem dX7_order_22 : decode cX7_order 22 = .ok (.aload_n 0, 1) := by decide +kernel
theorem dX7_order_23 : decode cX7_order 23 = .ok (.invokevirtual 228, 3) := by decide +kernel
theorem dX7_order_26 : decode cX7_order 26 = .ok (.iconst 0, 1) := by decide +kernel
theorem dX7_order_27 : decode cX7_order 27 = .ok (.istore 4, 2) := by decide +kernel
theorem dX7_order_29 : decode cX7_order 29 = .ok (.iload 4, 2) := by decide +kernel
theorem dX7_order_31 : decode cX7_order 31 = .ok (.aload_n 0, 1) := by decide +kernel
theorem dX7_order_32 : decode cX7_order 32 = .ok (.invokevirtual 265, 3) := by decide +kernel
theorem dX7_order_35 : decode cX7_order 35 = .ok (.if_icmp .ge 54, 3) := by decide +kernel
theorem dX7_order_38 : decode cX7_order 38 = .ok (.aload_n 0, 1) := by decide +kernel
theorem dX7_order_39 : decode cX7_order 39 = .ok (.iload 4, 2) := by decide +kernel
theorem dX7_order_41 : decode cX7_order 41 = .ok (.invokevirtual 268, 3) := by decide +kernel
theorem dX7_order_44 : decode cX7_order 44 = .ok (.ifCond .eq 39, 3) := by decide +kernel
theorem dX7_order_47 : decode cX7_order 47 = .ok (.aload_n 0, 1) := by decide +kernel
theorem dX7_order_48 : decode cX7_order 48 = .ok (.invokevirtual 271, 3) := by decide +kernel
theorem dX7_order_51 : decode cX7_order 51 = .ok (.aload_n 0, 1) := by decide +kernel
theorem dX7_order_52 : decode cX7_order 52 = .ok (.invokevirtual 225, 3) := by decide +kernel
theorem dX7_order_55 : decode cX7_order 55 = .ok (.istore 5, 2) := by decide +kernel
theorem dX7_order_57 : decode cX7_order 57 = .ok (.iload 5, 2) := by decide +kernel
theorem dX7_order_59 : decode cX7_order 59 = .ok (.iload_n 2, 1) := by decide +kernel
theorem dX7_order_60 : decode cX7_order 60 = .ok (.if_icmp .ge 8, 3) := by decide +kernel
theorem dX7_order_63 : decode cX7_order 63 = .ok (.iload 4, 2) := by decide +kernel
theorem dX7_order_65 : decode cX7_order 65 = .ok (.goto 4, 3) := by decide +kernel
theorem dX7_order_68 : decode cX7_order 68 = .ok (.iload_n 3, 1) := by decide +kernel
theorem dX7_order_69 : decode cX7_order 69 = .ok (.istore_n 3, 1) := by decide +kernel
theorem dX7_order_70 : decode cX7_order 70 = .ok (.iload 5, 2) := by decide +kernel
theorem dX7_order_72 : decode cX7_order 72 = .ok (.iload_n 2, 1) := by decide +kernel
theorem dX7_order_73 : decode cX7_order 73 = .ok (.if_icmp .ge 8, 3) := by decide +kernel
theorem dX7_order_76 : decode cX7_order 76 = .ok (.iload 5, 2) := by decide +kernel
theorem dX7_order_78 : decode cX7_order 78 = .ok (.goto 4, 3) := by decide +kernel
theorem dX7_order_81 : decode cX7_order 81 = .ok (.iload_n 2, 1) := by decide +kernel
theorem dX7_order_82 : decode cX7_order 82 = .ok (.istore_n 2, 1) := by decide +kernel
theorem dX7_order_83 : decode cX7_order 83 = .ok (.iinc 4 1, 3) := by decide +kernel
theorem dX7_order_86 : decode cX7_order 86 = .ok (.goto (-57), 3) := by decide +kernel
theorem dX7_order_89 : decode cX7_order 89 = .ok (.aload_n 0, 1) := by decide +kernel
theorem dX7_order_90 : decode cX7_order 90 = .ok (.iload_n 3, 1) := by decide +kernel
theorem dX7_order_91 : decode cX7_order 91 = .ok (.invokevirtual 268, 3) := by decide +kernel
theorem dX7_order_94 : decode cX7_order 94 = .ok (.pop, 1) := by decide +kernel
theorem dX7_order_95 : decode cX7_order 95 = .ok (.iload_n 1, 1) := by decide +kernel
theorem dX7_order_96 : decode cX7_order 96 = .ok (.ifCond .ne 7, 3) := by decide +kernel
theorem dX7_order_99 : decode cX7_order 99 = .ok (.iload_n 2, 1) := by decide +kernel
theorem dX7_order_100 : decode cX7_order 100 = .ok (.goto 12, 3) := by decide +kernel
theorem dX7_order_103 : decode cX7_order 103 = .ok (.aload_n 0, 1) := by decide +kernel
theorem dX7_order_104 : decode cX7_order 104 = .ok (.getfield 35, 3) := by decide +kernel
theorem dX7_order_107 : decode cX7_order 107 = .ok (.iload_n 1, 1) := by decide +kernel
theorem dX7_order_108 : decode cX7_order 108 = .ok (.bipush 10, 2) := by decide +kernel
theorem dX7_order_110 : decode cX7_order 110 = .ok (.isub, 1) := by decide +kernel
theorem dX7_order_111 : decode cX7_order 111 = .ok (.iaload, 1) := by decide +kernel
theorem dX7_order_112 : decode cX7_order 112 = .ok (.ireturn, 1) := by decide +kernel
theorem dX7_firsts_0 : decode cX7_firsts 0 = .ok (.aload_n 0, 1) := by decide +kernel
theorem dX7_firsts_1 : decode cX7_firsts 1 = .ok (.iload_n 1, 1) := by decide +kernel
theorem dX7_firsts_2 : decode cX7_firsts 2 = .ok (.invokevirtual 237, 3) := by decide +kernel
theorem dX7_firsts_5 : decode cX7_firsts 5 = .ok (.ifCond .ne 5, 3) := by decide +kernel
theorem dX7_firsts_8 : decode cX7_firsts 8 = .ok (.iconst (-1), 1) := by decide +kernel
theorem dX7_firsts_9 : decode cX7_firsts 9 = .ok (.ireturn, 1) := by decide +kernel
theorem dX7_firsts_10 : decode cX7_firsts 10 = .ok (.iconst 0, 1) := by decide +kernel
theorem dX7_firsts_11 : decode cX7_firsts 11 = .ok (.istore_n 2, 1) := by decide +kernel
theorem dX7_firsts_12 : decode cX7_firsts 12 = .ok (.iconst 0, 1) := by decide +kernel
theorem dX7_firsts_13 : decode cX7_firsts 13 = .ok (.istore_n 3, 1) := by decide +kernel
theorem dX7_firsts_14 : decode cX7_firsts 14 = .ok (.iload_n 3, 1) := by decide +kernel
theorem dX7_firsts_15 : decode cX7_firsts 15 = .ok (.iconst 5, 1) := by decide +kernel
theorem dX7_firsts_16 : decode cX7_firsts 16 = .ok (.if_icmp .ge 37, 3) := by decide +kernel
theorem dX7_firsts_19 : decode cX7_firsts 19 = .ok (.aload_n 0, 1) := by decide +kernel
theorem dX7_firsts_20 : decode cX7_firsts 20 = .ok (.iload_n 3, 1) := by decide +kernel
theorem dX7_firsts_21 : decode cX7_firsts 21 = .ok (.invokevirtual 262, 3) := by decide +kernel
theorem dX7_firsts_24 : decode cX7_firsts 24 = .ok (.iload_n 2, 1) := by decide +kernel
theorem dX7_firsts_25 : decode cX7_firsts 25 = .ok (.aload_n 0, 1) := by decide +kernel
theorem dX7_firsts_26 : decode cX7_firsts 26 = .ok (.getfield 26, 3) := by decide +kernel
theorem dX7_firsts_29 : decode cX7_firsts 29 = .ok (.iconst 0, 1) := by decide +kernel
theorem dX7_firsts_30 : decode cX7_firsts 30 = .ok (.iaload, 1) := by decide +kernel
theorem dX7_firsts_31 : decode cX7_firsts 31 = .ok (.iload_n 1, 1) := by decide +kernel
theorem dX7_firsts_32 : decode cX7_firsts 32 = .ok (.if_icmp .ne 7, 3) := by decide +kernel
theorem dX7_firsts_35 : decode cX7_firsts 35 = .ok (.iconst 1, 1) := by decide +kernel
theorem dX7_firsts_36 : decode cX7_firsts 36 = .ok (.goto 4, 3) := by decide +kernel
theorem dX7_firsts_39 : decode cX7_firsts 39 = .ok (.iconst 0, 1) := by decide +kernel
theorem dX7_firsts_40 : decode cX7_firsts 40 = .ok (.invokestatic 184, 3) := by decide +kernel
theorem dX7_firsts_43 : decode cX7_firsts 43 = .ok (.iload_n 3, 1) := by decide +kernel
theorem dX7_firsts_44 : decode cX7_firsts 44 = .ok (.ishl, 1) := by decide +kernel
theorem dX7_firsts_45 : decode cX7_firsts 45 = .ok (.ior, 1) := by decide +kernel
theorem dX7_firsts_46 : decode cX7_firsts 46 = .ok (.istore_n 2, 1) := by decide +kernel
theorem dX7_firsts_47 : decode cX7_firsts 47 = .ok (.iinc 3 1, 3) := by decide +kernel
theorem dX7_firsts_50 : decode cX7_firsts 50 = .ok (.goto (-36), 3) := by decide +kernel
theorem dX7_firsts_53 : decode cX7_firsts 53 = .ok (.iload_n 2, 1) := by decide +kernel
theorem dX7_firsts_54 : decode cX7_firsts 54 = .ok (.ireturn, 1) := by decide +kernel
theorem dX7_gainOf_0 : decode cX7_gainOf 0 = .ok (.aload_n 0, 1) := by decide +kernel
theorem dX7_gainOf_1 : decode cX7_gainOf 1 = .ok (.invokevirtual 231, 3) := by decide +kernel
theorem dX7_gainOf_4 : decode cX7_gainOf 4 = .ok (.aload_n 0, 1) := by decide +kernel
theorem dX7_gainOf_5 : decode cX7_gainOf 5 = .ok (.getfield 32, 3) := by decide +kernel
theorem dX7_gainOf_8 : decode cX7_gainOf 8 = .ok (.iload_n 1, 1) := by decide +kernel
theorem dX7_gainOf_9 : decode cX7_gainOf 9 = .ok (.iaload, 1) := by decide +kernel
theorem dX7_gainOf_10 : decode cX7_gainOf 10 = .ok (.istore_n 2, 1) := by decide +kernel
theorem dX7_gainOf_11 : decode cX7_gainOf 11 = .ok (.aload_n 0, 1) := by decide +kernel
theorem dX7_gainOf_12 : decode cX7_gainOf 12 = .ok (.iload_n 1, 1) := by decide +kernel
theorem dX7_gainOf_13 : decode cX7_gainOf 13 = .ok (.iconst 5, 1) := by decide +kernel
theorem dX7_gainOf_14 : decode cX7_gainOf 14 = .ok (.iconst 1, 1) := by decide +kernel
theorem dX7_gainOf_15 : decode cX7_gainOf 15 = .ok (.aload_n 0, 1) := by decide +kernel
theorem dX7_gainOf_16 : decode cX7_gainOf 16 = .ok (.iload_n 1, 1) := by decide +kernel
theorem dX7_gainOf_17 : decode cX7_gainOf 17 = .ok (.iconst 5, 1) := by decide +kernel
theorem dX7_gainOf_18 : decode cX7_gainOf 18 = .ok (.invokevirtual 166, 3) := by decide +kernel
theorem dX7_gainOf_21 : decode cX7_gainOf 21 = .ok (.isub, 1) := by decide +kernel
theorem dX7_gainOf_22 : decode cX7_gainOf 22 = .ok (.invokevirtual 274, 3) := by decide +kernel
theorem dX7_gainOf_25 : decode cX7_gainOf 25 = .ok (.aload_n 0, 1) := by decide +kernel
theorem dX7_gainOf_26 : decode cX7_gainOf 26 = .ok (.invokevirtual 231, 3) := by decide +kernel
theorem dX7_gainOf_29 : decode cX7_gainOf 29 = .ok (.aload_n 0, 1) := by decide +kernel
theorem dX7_gainOf_30 : decode cX7_gainOf 30 = .ok (.iload_n 1, 1) := by decide +kernel
theorem dX7_gainOf_31 : decode cX7_gainOf 31 = .ok (.iconst 5, 1) := by decide +kernel
theorem dX7_gainOf_32 : decode cX7_gainOf 32 = .ok (.iconst 1, 1) := by decide +kernel
theorem dX7_gainOf_33 : decode cX7_gainOf 33 = .ok (.aload_n 0, 1) := by decide +kernel
theorem dX7_gainOf_34 : decode cX7_gainOf 34 = .ok (.iload_n 1, 1) := by decide +kernel
theorem dX7_gainOf_35 : decode cX7_gainOf 35 = .ok (.iconst 5, 1) := by decide +kernel
theorem dX7_gainOf_36 : decode cX7_gainOf 36 = .ok (.invokevirtual 166, 3) := by decide +kernel
theorem dX7_gainOf_39 : decode cX7_gainOf 39 = .ok (.isub, 1) := by decide +kernel
theorem dX7_gainOf_40 : decode cX7_gainOf 40 = .ok (.invokevirtual 274, 3) := by decide +kernel
theorem dX7_gainOf_43 : decode cX7_gainOf 43 = .ok (.iload_n 2, 1) := by decide +kernel
theorem dX7_gainOf_44 : decode cX7_gainOf 44 = .ok (.aload_n 0, 1) := by decide +kernel
theorem dX7_gainOf_45 : decode cX7_gainOf 45 = .ok (.getfield 32, 3) := by decide +kernel
theorem dX7_gainOf_48 : decode cX7_gainOf 48 = .ok (.iload_n 1, 1) := by decide +kernel
theorem dX7_gainOf_49 : decode cX7_gainOf 49 = .ok (.iaload, 1) := by decide +kernel
theorem dX7_gainOf_50 : decode cX7_gainOf 50 = .ok (.isub, 1) := by decide +kernel
theorem dX7_gainOf_51 : decode cX7_gainOf 51 = .ok (.ireturn, 1) := by decide +kernel
theorem dX7_gain_0 : decode cX7_gain 0 = .ok (.aload_n 0, 1) := by decide +kernel
theorem dX7_gain_1 : decode cX7_gain 1 = .ok (.iload_n 1, 1) := by decide +kernel
theorem dX7_gain_2 : decode cX7_gain 2 = .ok (.invokevirtual 237, 3) := by decide +kernel
theorem dX7_gain_5 : decode cX7_gain 5 = .ok (.ifCond .ne 5, 3) := by decide +kernel
theorem dX7_gain_8 : decode cX7_gain 8 = .ok (.iconst (-1), 1) := by decide +kernel
theorem dX7_gain_9 : decode cX7_gain 9 = .ok (.ireturn, 1) := by decide +kernel
theorem dX7_gain_10 : decode cX7_gain 10 = .ok (.aload_n 0, 1) := by decide +kernel
theorem dX7_gain_11 : decode cX7_gain 11 = .ok (.invokevirtual 228, 3) := by decide +kernel
theorem dX7_gain_14 : decode cX7_gain 14 = .ok (.sipush 1000, 3) := by decide +kernel
theorem dX7_gain_17 : decode cX7_gain 17 = .ok (.aload_n 0, 1) := by decide +kernel
theorem dX7_gain_18 : decode cX7_gain 18 = .ok (.iload_n 1, 1) := by decide +kernel
theorem dX7_gain_19 : decode cX7_gain 19 = .ok (.invokevirtual 278, 3) := by decide +kernel
theorem dX7_gain_22 : decode cX7_gain 22 = .ok (.iadd, 1) := by decide +kernel
theorem dX7_gain_23 : decode cX7_gain 23 = .ok (.ireturn, 1) := by decide +kernel
theorem dX7_isCalm_0 : decode cX7_isCalm 0 = .ok (.iconst 1, 1) := by decide +kernel
theorem dX7_isCalm_1 : decode cX7_isCalm 1 = .ok (.istore_n 1, 1) := by decide +kernel
theorem dX7_isCalm_2 : decode cX7_isCalm 2 = .ok (.iconst 0, 1) := by decide +kernel
theorem dX7_isCalm_3 : decode cX7_isCalm 3 = .ok (.istore_n 2, 1) := by decide +kernel
theorem dX7_isCalm_4 : decode cX7_isCalm 4 = .ok (.iload_n 2, 1) := by decide +kernel
theorem dX7_isCalm_5 : decode cX7_isCalm 5 = .ok (.aload_n 0, 1) := by decide +kernel
theorem dX7_isCalm_6 : decode cX7_isCalm 6 = .ok (.getfield 69, 3) := by decide +kernel
theorem dX7_isCalm_9 : decode cX7_isCalm 9 = .ok (.if_icmp .ge 27, 3) := by decide +kernel
theorem dX7_isCalm_12 : decode cX7_isCalm 12 = .ok (.iload_n 1, 1) := by decide +kernel
theorem dX7_isCalm_13 : decode cX7_isCalm 13 = .ok (.ifCond .eq 15, 3) := by decide +kernel
theorem dX7_isCalm_16 : decode cX7_isCalm 16 = .ok (.aload_n 0, 1) := by decide +kernel
theorem dX7_isCalm_17 : decode cX7_isCalm 17 = .ok (.iload_n 2, 1) := by decide +kernel
theorem dX7_isCalm_18 : decode cX7_isCalm 18 = .ok (.invokevirtual 278, 3) := by decide +kernel
theorem dX7_isCalm_21 : decode cX7_isCalm 21 = .ok (.ifCond .gt 7, 3) := by decide +kernel
theorem dX7_isCalm_24 : decode cX7_isCalm 24 = .ok (.iconst 1, 1) := by decide +kernel
theorem dX7_isCalm_25 : decode cX7_isCalm 25 = .ok (.goto 4, 3) := by decide +kernel
theorem dX7_isCalm_28 : decode cX7_isCalm 28 = .ok (.iconst 0, 1) := by decide +kernel
theorem dX7_isCalm_29 : decode cX7_isCalm 29 = .ok (.istore_n 1, 1) := by decide +kernel
theorem dX7_isCalm_30 : decode cX7_isCalm 30 = .ok (.iinc 2 1, 3) := by decide +kernel
theorem dX7_isCalm_33 : decode cX7_isCalm 33 = .ok (.goto (-29), 3) := by decide +kernel
theorem dX7_isCalm_36 : decode cX7_isCalm 36 = .ok (.iload_n 1, 1) := by decide +kernel
theorem dX7_isCalm_37 : decode cX7_isCalm 37 = .ok (.ireturn, 1) := by decide +kernel
theorem dX7_calm_0 : decode cX7_calm 0 = .ok (.iconst 0, 1) := by decide +kernel
theorem dX7_calm_1 : decode cX7_calm 1 = .ok (.istore_n 1, 1) := by decide +kernel
theorem dX7_calm_2 : decode cX7_calm 2 = .ok (.iconst 0, 1) := by decide +kernel
theorem dX7_calm_3 : decode cX7_calm 3 = .ok (.istore_n 2, 1) := by decide +kernel
theorem dX7_calm_4 : decode cX7_calm 4 = .ok (.iload_n 2, 1) := by decide +kernel
theorem dX7_calm_5 : decode cX7_calm 5 = .ok (.iconst 5, 1) := by decide +kernel
theorem dX7_calm_6 : decode cX7_calm 6 = .ok (.if_icmp .ge 32, 3) := by decide +kernel
theorem dX7_calm_9 : decode cX7_calm 9 = .ok (.aload_n 0, 1) := by decide +kernel
theorem dX7_calm_10 : decode cX7_calm 10 = .ok (.invokevirtual 228, 3) := by decide +kernel
theorem dX7_calm_13 : decode cX7_calm 13 = .ok (.aload_n 0, 1) := by decide +kernel
theorem dX7_calm_14 : decode cX7_calm 14 = .ok (.getfield 13, 3) := by decide +kernel
theorem dX7_calm_17 : decode cX7_calm 17 = .ok (.iconst 3, 1) := by decide +kernel
theorem dX7_calm_18 : decode cX7_calm 18 = .ok (.iload_n 2, 1) := by decide +kernel
theorem dX7_calm_19 : decode cX7_calm 19 = .ok (.iastore, 1) := by decide +kernel
theorem dX7_calm_20 : decode cX7_calm 20 = .ok (.iload_n 1, 1) := by decide +kernel
theorem dX7_calm_21 : decode cX7_calm 21 = .ok (.aload_n 0, 1) := by decide +kernel
theorem dX7_calm_22 : decode cX7_calm 22 = .ok (.invokevirtual 281, 3) := by decide +kernel
theorem dX7_calm_25 : decode cX7_calm 25 = .ok (.invokestatic 184, 3) := by decide +kernel
theorem dX7_calm_28 : decode cX7_calm 28 = .ok (.iload_n 2, 1) := by decide +kernel
theorem dX7_calm_29 : decode cX7_calm 29 = .ok (.ishl, 1) := by decide +kernel
theorem dX7_calm_30 : decode cX7_calm 30 = .ok (.ior, 1) := by decide +kernel
theorem dX7_calm_31 : decode cX7_calm 31 = .ok (.istore_n 1, 1) := by decide +kernel
theorem dX7_calm_32 : decode cX7_calm 32 = .ok (.iinc 2 1, 3) := by decide +kernel
theorem dX7_calm_35 : decode cX7_calm 35 = .ok (.goto (-31), 3) := by decide +kernel
theorem dX7_calm_38 : decode cX7_calm 38 = .ok (.iload_n 1, 1) := by decide +kernel
theorem dX7_calm_39 : decode cX7_calm 39 = .ok (.ireturn, 1) := by decide +kernel
theorem dX7_liesBy_0 : decode cX7_liesBy 0 = .ok (.iconst 0, 1) := by decide +kernel
theorem dX7_liesBy_1 : decode cX7_liesBy 1 = .ok (.istore_n 2, 1) := by decide +kernel
theorem dX7_liesBy_2 : decode cX7_liesBy 2 = .ok (.iload_n 2, 1) := by decide +kernel
theorem dX7_liesBy_3 : decode cX7_liesBy 3 = .ok (.aload_n 0, 1) := by decide +kernel
theorem dX7_liesBy_4 : decode cX7_liesBy 4 = .ok (.getfield 69, 3) := by decide +kernel
theorem dX7_liesBy_7 : decode cX7_liesBy 7 = .ok (.if_icmp .ge 20, 3) := by decide +kernel
theorem dX7_liesBy_10 : decode cX7_liesBy 10 = .ok (.aload_n 0, 1) := by decide +kernel
theorem dX7_liesBy_11 : decode cX7_liesBy 11 = .ok (.iload_n 2, 1) := by decide +kernel
theorem dX7_liesBy_12 : decode cX7_liesBy 12 = .ok (.iconst 5, 1) := by decide +kernel
theorem dX7_liesBy_13 : decode cX7_liesBy 13 = .ok (.iload_n 1, 1) := by decide +kernel
theorem dX7_liesBy_14 : decode cX7_liesBy 14 = .ok (.iload_n 2, 1) := by decide +kernel
theorem dX7_liesBy_15 : decode cX7_liesBy 15 = .ok (.ishr, 1) := by decide +kernel
theorem dX7_liesBy_16 : decode cX7_liesBy 16 = .ok (.iconst 1, 1) := by decide +kernel
theorem dX7_liesBy_17 : decode cX7_liesBy 17 = .ok (.iand, 1) := by decide +kernel
theorem dX7_liesBy_18 : decode cX7_liesBy 18 = .ok (.invokevirtual 274, 3) := by decide +kernel
theorem dX7_liesBy_21 : decode cX7_liesBy 21 = .ok (.iinc 2 1, 3) := by decide +kernel
theorem dX7_liesBy_24 : decode cX7_liesBy 24 = .ok (.goto (-22), 3) := by decide +kernel
theorem dX7_liesBy_27 : decode cX7_liesBy 27 = .ok (.return_, 1) := by decide +kernel
theorem dX7_rests_0 : decode cX7_rests 0 = .ok (.iload_n 1, 1) := by decide +kernel
theorem dX7_rests_1 : decode cX7_rests 1 = .ok (.invokestatic 285, 3) := by decide +kernel
theorem dX7_rests_4 : decode cX7_rests 4 = .ok (.ifCond .ne 5, 3) := by decide +kernel
theorem dX7_rests_7 : decode cX7_rests 7 = .ok (.iconst (-1), 1) := by decide +kernel
theorem dX7_rests_8 : decode cX7_rests 8 = .ok (.ireturn, 1) := by decide +kernel
theorem dX7_rests_9 : decode cX7_rests 9 = .ok (.iconst 0, 1) := by decide +kernel
theorem dX7_rests_10 : decode cX7_rests 10 = .ok (.istore_n 2, 1) := by decide +kernel
theorem dX7_rests_11 : decode cX7_rests 11 = .ok (.bipush (-4), 2) := by decide +kernel
theorem dX7_rests_13 : decode cX7_rests 13 = .ok (.istore_n 3, 1) := by decide +kernel
theorem dX7_rests_14 : decode cX7_rests 14 = .ok (.iconst 0, 1) := by decide +kernel
theorem dX7_rests_15 : decode cX7_rests 15 = .ok (.istore 4, 2) := by decide +kernel
theorem dX7_rests_17 : decode cX7_rests 17 = .ok (.iload 4, 2) := by decide +kernel
theorem dX7_rests_19 : decode cX7_rests 19 = .ok (.iconst 1, 1) := by decide +kernel
theorem dX7_rests_20 : decode cX7_rests 20 = .ok (.aload_n 0, 1) := by decide +kernel
theorem dX7_rests_21 : decode cX7_rests 21 = .ok (.getfield 69, 3) := by decide +kernel
theorem dX7_rests_24 : decode cX7_rests 24 = .ok (.ishl, 1) := by decide +kernel
theorem dX7_rests_25 : decode cX7_rests 25 = .ok (.if_icmp .ge 40, 3) := by decide +kernel
theorem dX7_rests_28 : decode cX7_rests 28 = .ok (.aload_n 0, 1) := by decide +kernel
theorem dX7_rests_29 : decode cX7_rests 29 = .ok (.invokevirtual 228, 3) := by decide +kernel
theorem dX7_rests_32 : decode cX7_rests 32 = .ok (.aload_n 0, 1) := by decide +kernel
theorem dX7_rests_33 : decode cX7_rests 33 = .ok (.iload 4, 2) := by decide +kernel
theorem dX7_rests_35 : decode cX7_rests 35 = .ok (.invokevirtual 288, 3) := by decide +kernel
theorem dX7_rests_38 : decode cX7_rests 38 = .ok (.aload_n 0, 1) := by decide +kernel
theorem dX7_rests_39 : decode cX7_rests 39 = .ok (.invokevirtual 281, 3) := by decide +kernel
theorem dX7_rests_42 : decode cX7_rests 42 = .ok (.ifCond .eq 17, 3) := by decide +kernel
theorem dX7_rests_45 : decode cX7_rests 45 = .ok (.iload_n 2, 1) := by decide +kernel
theorem dX7_rests_46 : decode cX7_rests 46 = .ok (.ifCond .ne 8, 3) := by decide +kernel
theorem dX7_rests_49 : decode cX7_rests 49 = .ok (.iload 4, 2) := by decide +kernel
theorem dX7_rests_51 : decode cX7_rests 51 = .ok (.goto 4, 3) := by decide +kernel
theorem dX7_rests_54 : decode cX7_rests 54 = .ok (.iload_n 3, 1) := by decide +kernel
theorem dX7_rests_55 : decode cX7_rests 55 = .ok (.istore_n 3, 1) := by decide +kernel
theorem dX7_rests_56 : decode cX7_rests 56 = .ok (.iinc 2 1, 3) := by decide +kernel
theorem dX7_rests_59 : decode cX7_rests 59 = .ok (.iinc 4 1, 3) := by decide +kernel
theorem dX7_rests_62 : decode cX7_rests 62 = .ok (.goto (-45), 3) := by decide +kernel
theorem dX7_rests_65 : decode cX7_rests 65 = .ok (.iload_n 1, 1) := by decide +kernel
theorem dX7_rests_66 : decode cX7_rests 66 = .ok (.ifCond .ne 7, 3) := by decide +kernel
theorem dX7_rests_69 : decode cX7_rests 69 = .ok (.iload_n 2, 1) := by decide +kernel
theorem dX7_rests_70 : decode cX7_rests 70 = .ok (.goto 4, 3) := by decide +kernel
theorem dX7_rests_73 : decode cX7_rests 73 = .ok (.iload_n 3, 1) := by decide +kernel
theorem dX7_rests_74 : decode cX7_rests 74 = .ok (.ireturn, 1) := by decide +kernel
theorem dX7_boy_0 : decode cX7_boy 0 = .ok (.aload_n 0, 1) := by decide +kernel
theorem dX7_boy_1 : decode cX7_boy 1 = .ok (.iload_n 1, 1) := by decide +kernel
theorem dX7_boy_2 : decode cX7_boy 2 = .ok (.invokevirtual 237, 3) := by decide +kernel
theorem dX7_boy_5 : decode cX7_boy 5 = .ok (.ifCond .eq 16, 3) := by decide +kernel
theorem dX7_boy_8 : decode cX7_boy 8 = .ok (.aload_n 0, 1) := by decide +kernel
theorem dX7_boy_9 : decode cX7_boy 9 = .ok (.iload_n 2, 1) := by decide +kernel
theorem dX7_boy_10 : decode cX7_boy 10 = .ok (.invokevirtual 237, 3) := by decide +kernel
theorem dX7_boy_13 : decode cX7_boy 13 = .ok (.ifCond .eq 8, 3) := by decide +kernel
theorem dX7_boy_16 : decode cX7_boy 16 = .ok (.iload_n 1, 1) := by decide +kernel
theorem dX7_boy_17 : decode cX7_boy 17 = .ok (.iload_n 2, 1) := by decide +kernel
theorem dX7_boy_18 : decode cX7_boy 18 = .ok (.if_icmp .ne 5, 3) := by decide +kernel
theorem dX7_boy_21 : decode cX7_boy 21 = .ok (.iconst (-1), 1) := by decide +kernel
theorem dX7_boy_22 : decode cX7_boy 22 = .ok (.ireturn, 1) := by decide +kernel
theorem dX7_boy_23 : decode cX7_boy 23 = .ok (.iconst 0, 1) := by decide +kernel
theorem dX7_boy_24 : decode cX7_boy 24 = .ok (.istore_n 3, 1) := by decide +kernel
theorem dX7_boy_25 : decode cX7_boy 25 = .ok (.iload_n 3, 1) := by decide +kernel
theorem dX7_boy_26 : decode cX7_boy 26 = .ok (.bipush 9, 2) := by decide +kernel
theorem dX7_boy_28 : decode cX7_boy 28 = .ok (.if_icmp .gt 39, 3) := by decide +kernel
theorem dX7_boy_31 : decode cX7_boy 31 = .ok (.aload_n 0, 1) := by decide +kernel
theorem dX7_boy_32 : decode cX7_boy 32 = .ok (.invokevirtual 228, 3) := by decide +kernel
theorem dX7_boy_35 : decode cX7_boy 35 = .ok (.aload_n 0, 1) := by decide +kernel
theorem dX7_boy_36 : decode cX7_boy 36 = .ok (.iload_n 1, 1) := by decide +kernel
theorem dX7_boy_37 : decode cX7_boy 37 = .ok (.iconst 4, 1) := by decide +kernel
theorem dX7_boy_38 : decode cX7_boy 38 = .ok (.iload_n 3, 1) := by decide +kernel
theorem dX7_boy_39 : decode cX7_boy 39 = .ok (.invokevirtual 274, 3) := by decide +kernel
theorem dX7_boy_42 : decode cX7_boy 42 = .ok (.aload_n 0, 1) := by decide +kernel
theorem dX7_boy_43 : decode cX7_boy 43 = .ok (.invokevirtual 231, 3) := by decide +kernel
theorem dX7_boy_46 : decode cX7_boy 46 = .ok (.aload_n 0, 1) := by decide +kernel
theorem dX7_boy_47 : decode cX7_boy 47 = .ok (.iload_n 1, 1) := by decide +kernel
theorem dX7_boy_48 : decode cX7_boy 48 = .ok (.invokevirtual 291, 3) := by decide +kernel
theorem dX7_boy_51 : decode cX7_boy 51 = .ok (.aload_n 0, 1) := by decide +kernel
theorem dX7_boy_52 : decode cX7_boy 52 = .ok (.iload_n 2, 1) := by decide +kernel
theorem dX7_boy_53 : decode cX7_boy 53 = .ok (.invokevirtual 291, 3) := by decide +kernel
theorem dX7_boy_56 : decode cX7_boy 56 = .ok (.if_icmp .ge 5, 3) := by decide +kernel
theorem dX7_boy_59 : decode cX7_boy 59 = .ok (.iload_n 3, 1) := by decide +kernel
theorem dX7_boy_60 : decode cX7_boy 60 = .ok (.ireturn, 1) := by decide +kernel
theorem dX7_boy_61 : decode cX7_boy 61 = .ok (.iinc 3 1, 3) := by decide +kernel
theorem dX7_boy_64 : decode cX7_boy 64 = .ok (.goto (-39), 3) := by decide +kernel
theorem dX7_boy_67 : decode cX7_boy 67 = .ok (.bipush (-4), 2) := by decide +kernel
theorem dX7_boy_69 : decode cX7_boy 69 = .ok (.ireturn, 1) := by decide +kernel
theorem dX7_post_0 : decode cX7_post 0 = .ok (.iload_n 1, 1) := by decide +kernel
theorem dX7_post_1 : decode cX7_post 1 = .ok (.invokestatic 285, 3) := by decide +kernel
theorem dX7_post_4 : decode cX7_post 4 = .ok (.ifCond .ne 5, 3) := by decide +kernel
theorem dX7_post_7 : decode cX7_post 7 = .ok (.iconst (-1), 1) := by decide +kernel
theorem dX7_post_8 : decode cX7_post 8 = .ok (.ireturn, 1) := by decide +kernel
theorem dX7_post_9 : decode cX7_post 9 = .ok (.ldc 191, 2) := by decide +kernel
theorem dX7_post_11 : decode cX7_post 11 = .ok (.istore_n 2, 1) := by decide +kernel
theorem dX7_post_12 : decode cX7_post 12 = .ok (.iconst 0, 1) := by decide +kernel
theorem dX7_post_13 : decode cX7_post 13 = .ok (.istore_n 3, 1) := by decide +kernel
theorem dX7_post_14 : decode cX7_post 14 = .ok (.iconst 0, 1) := by decide +kernel
theorem dX7_post_15 : decode cX7_post 15 = .ok (.istore 4, 2) := by decide +kernel
theorem dX7_post_17 : decode cX7_post 17 = .ok (.iload 4, 2) := by decide +kernel
theorem dX7_post_19 : decode cX7_post 19 = .ok (.bipush 9, 2) := by decide +kernel
theorem dX7_post_21 : decode cX7_post 21 = .ok (.if_icmp .gt 57, 3) := by decide +kernel
theorem dX7_post_24 : decode cX7_post 24 = .ok (.aload_n 0, 1) := by decide +kernel
theorem dX7_post_25 : decode cX7_post 25 = .ok (.invokevirtual 228, 3) := by decide +kernel
theorem dX7_post_28 : decode cX7_post 28 = .ok (.aload_n 0, 1) := by decide +kernel
theorem dX7_post_29 : decode cX7_post 29 = .ok (.getfield 13, 3) := by decide +kernel
theorem dX7_post_32 : decode cX7_post 32 = .ok (.iconst 4, 1) := by decide +kernel
theorem dX7_post_33 : decode cX7_post 33 = .ok (.iload 4, 2) := by decide +kernel
theorem dX7_post_35 : decode cX7_post 35 = .ok (.iastore, 1) := by decide +kernel
theorem dX7_post_36 : decode cX7_post 36 = .ok (.aload_n 0, 1) := by decide +kernel
theorem dX7_post_37 : decode cX7_post 37 = .ok (.invokevirtual 231, 3) := by decide +kernel
theorem dX7_post_40 : decode cX7_post 40 = .ok (.aload_n 0, 1) := by decide +kernel
theorem dX7_post_41 : decode cX7_post 41 = .ok (.invokevirtual 225, 3) := by decide +kernel
theorem dX7_post_44 : decode cX7_post 44 = .ok (.istore 5, 2) := by decide +kernel
theorem dX7_post_46 : decode cX7_post 46 = .ok (.iload 5, 2) := by decide +kernel
theorem dX7_post_48 : decode cX7_post 48 = .ok (.iload_n 2, 1) := by decide +kernel
theorem dX7_post_49 : decode cX7_post 49 = .ok (.if_icmp .ge 8, 3) := by decide +kernel
theorem dX7_post_52 : decode cX7_post 52 = .ok (.iload 4, 2) := by decide +kernel
theorem dX7_post_54 : decode cX7_post 54 = .ok (.goto 4, 3) := by decide +kernel
theorem dX7_post_57 : decode cX7_post 57 = .ok (.iload_n 3, 1) := by decide +kernel
theorem dX7_post_58 : decode cX7_post 58 = .ok (.istore_n 3, 1) := by decide +kernel
theorem dX7_post_59 : decode cX7_post 59 = .ok (.iload 5, 2) := by decide +kernel
theorem dX7_post_61 : decode cX7_post 61 = .ok (.iload_n 2, 1) := by decide +kernel
theorem dX7_post_62 : decode cX7_post 62 = .ok (.if_icmp .ge 8, 3) := by decide +kernel
theorem dX7_post_65 : decode cX7_post 65 = .ok (.iload 5, 2) := by decide +kernel
theorem dX7_post_67 : decode cX7_post 67 = .ok (.goto 4, 3) := by decide +kernel
theorem dX7_post_70 : decode cX7_post 70 = .ok (.iload_n 2, 1) := by decide +kernel
theorem dX7_post_71 : decode cX7_post 71 = .ok (.istore_n 2, 1) := by decide +kernel
theorem dX7_post_72 : decode cX7_post 72 = .ok (.iinc 4 1, 3) := by decide +kernel
theorem dX7_post_75 : decode cX7_post 75 = .ok (.goto (-58), 3) := by decide +kernel
theorem dX7_post_78 : decode cX7_post 78 = .ok (.iload_n 1, 1) := by decide +kernel
theorem dX7_post_79 : decode cX7_post 79 = .ok (.ifCond .ne 7, 3) := by decide +kernel
theorem dX7_post_82 : decode cX7_post 82 = .ok (.iload_n 3, 1) := by decide +kernel
theorem dX7_post_83 : decode cX7_post 83 = .ok (.goto 4, 3) := by decide +kernel
theorem dX7_post_86 : decode cX7_post 86 = .ok (.iload_n 2, 1) := by decide +kernel
theorem dX7_post_87 : decode cX7_post 87 = .ok (.ireturn, 1) := by decide +kernel
theorem dX7_late_0 : decode cX7_late 0 = .ok (.aload_n 0, 1) := by decide +kernel
theorem dX7_late_1 : decode cX7_late 1 = .ok (.iload_n 1, 1) := by decide +kernel
theorem dX7_late_2 : decode cX7_late 2 = .ok (.invokevirtual 237, 3) := by decide +kernel
theorem dX7_late_5 : decode cX7_late 5 = .ok (.ifCond .ne 5, 3) := by decide +kernel
theorem dX7_late_8 : decode cX7_late 8 = .ok (.iconst (-1), 1) := by decide +kernel
theorem dX7_late_9 : decode cX7_late 9 = .ok (.ireturn, 1) := by decide +kernel
theorem dX7_late_10 : decode cX7_late 10 = .ok (.aload_n 0, 1) := by decide +kernel
theorem dX7_late_11 : decode cX7_late 11 = .ok (.invokevirtual 256, 3) := by decide +kernel
theorem dX7_late_14 : decode cX7_late 14 = .ok (.aload_n 0, 1) := by decide +kernel
theorem dX7_late_15 : decode cX7_late 15 = .ok (.getfield 29, 3) := by decide +kernel
theorem dX7_late_18 : decode cX7_late 18 = .ok (.iload_n 1, 1) := by decide +kernel
theorem dX7_late_19 : decode cX7_late 19 = .ok (.iaload, 1) := by decide +kernel
theorem dX7_late_20 : decode cX7_late 20 = .ok (.istore_n 2, 1) := by decide +kernel
theorem dX7_late_21 : decode cX7_late 21 = .ok (.iconst 0, 1) := by decide +kernel
theorem dX7_late_22 : decode cX7_late 22 = .ok (.istore_n 3, 1) := by decide +kernel
theorem dX7_late_23 : decode cX7_late 23 = .ok (.iconst 1, 1) := by decide +kernel
theorem dX7_late_24 : decode cX7_late 24 = .ok (.istore 4, 2) := by decide +kernel
theorem dX7_late_26 : decode cX7_late 26 = .ok (.iload 4, 2) := by decide +kernel
theorem dX7_late_28 : decode cX7_late 28 = .ok (.bipush 60, 2) := by decide +kernel
theorem dX7_late_30 : decode cX7_late 30 = .ok (.if_icmp .gt 49, 3) := by decide +kernel
theorem dX7_late_33 : decode cX7_late 33 = .ok (.aload_n 0, 1) := by decide +kernel
theorem dX7_late_34 : decode cX7_late 34 = .ok (.invokevirtual 228, 3) := by decide +kernel
theorem dX7_late_37 : decode cX7_late 37 = .ok (.aload_n 0, 1) := by decide +kernel
theorem dX7_late_38 : decode cX7_late 38 = .ok (.iload_n 1, 1) := by decide +kernel
theorem dX7_late_39 : decode cX7_late 39 = .ok (.iconst 2, 1) := by decide +kernel
theorem dX7_late_40 : decode cX7_late 40 = .ok (.aload_n 0, 1) := by decide +kernel
theorem dX7_late_41 : decode cX7_late 41 = .ok (.iload_n 1, 1) := by decide +kernel
theorem dX7_late_42 : decode cX7_late 42 = .ok (.iconst 2, 1) := by decide +kernel
theorem dX7_late_43 : decode cX7_late 43 = .ok (.invokevirtual 166, 3) := by decide +kernel
theorem dX7_late_46 : decode cX7_late 46 = .ok (.iload 4, 2) := by decide +kernel
theorem dX7_late_48 : decode cX7_late 48 = .ok (.iadd, 1) := by decide +kernel
theorem dX7_late_49 : decode cX7_late 49 = .ok (.invokevirtual 274, 3) := by decide +kernel
theorem dX7_late_52 : decode cX7_late 52 = .ok (.aload_n 0, 1) := by decide +kernel
theorem dX7_late_53 : decode cX7_late 53 = .ok (.invokevirtual 231, 3) := by decide +kernel
theorem dX7_late_56 : decode cX7_late 56 = .ok (.aload_n 0, 1) := by decide +kernel
theorem dX7_late_57 : decode cX7_late 57 = .ok (.getfield 29, 3) := by decide +kernel
theorem dX7_late_60 : decode cX7_late 60 = .ok (.iload_n 1, 1) := by decide +kernel
theorem dX7_late_61 : decode cX7_late 61 = .ok (.iaload, 1) := by decide +kernel
theorem dX7_late_62 : decode cX7_late 62 = .ok (.iload_n 2, 1) := by decide +kernel
theorem dX7_late_63 : decode cX7_late 63 = .ok (.if_icmp .gt 8, 3) := by decide +kernel
theorem dX7_late_66 : decode cX7_late 66 = .ok (.iload 4, 2) := by decide +kernel
theorem dX7_late_68 : decode cX7_late 68 = .ok (.goto 4, 3) := by decide +kernel
theorem dX7_late_71 : decode cX7_late 71 = .ok (.iload_n 3, 1) := by decide +kernel
theorem dX7_late_72 : decode cX7_late 72 = .ok (.istore_n 3, 1) := by decide +kernel
theorem dX7_late_73 : decode cX7_late 73 = .ok (.iinc 4 1, 3) := by decide +kernel
theorem dX7_late_76 : decode cX7_late 76 = .ok (.goto (-50), 3) := by decide +kernel
theorem dX7_late_79 : decode cX7_late 79 = .ok (.iload_n 3, 1) := by decide +kernel
theorem dX7_late_80 : decode cX7_late 80 = .ok (.ireturn, 1) := by decide +kernel
theorem dX7_deal_0 : decode cX7_deal 0 = .ok (.aload_n 0, 1) := by decide +kernel
theorem dX7_deal_1 : decode cX7_deal 1 = .ok (.iload_n 1, 1) := by decide +kernel
theorem dX7_deal_2 : decode cX7_deal 2 = .ok (.invokevirtual 237, 3) := by decide +kernel
theorem dX7_deal_5 : decode cX7_deal 5 = .ok (.ifCond .eq 28, 3) := by decide +kernel
theorem dX7_deal_8 : decode cX7_deal 8 = .ok (.aload_n 0, 1) := by decide +kernel
theorem dX7_deal_9 : decode cX7_deal 9 = .ok (.iload_n 2, 1) := by decide +kernel
theorem dX7_deal_10 : decode cX7_deal 10 = .ok (.invokevirtual 237, 3) := by decide +kernel
theorem dX7_deal_13 : decode cX7_deal 13 = .ok (.ifCond .eq 20, 3) := by decide +kernel
theorem dX7_deal_16 : decode cX7_deal 16 = .ok (.iload_n 1, 1) := by decide +kernel
theorem dX7_deal_17 : decode cX7_deal 17 = .ok (.iload_n 2, 1) := by decide +kernel
theorem dX7_deal_18 : decode cX7_deal 18 = .ok (.if_icmp .eq 15, 3) := by decide +kernel
theorem dX7_deal_21 : decode cX7_deal 21 = .ok (.iload_n 3, 1) := by decide +kernel
theorem dX7_deal_22 : decode cX7_deal 22 = .ok (.i2l, 1) := by decide +kernel
theorem dX7_deal_23 : decode cX7_deal 23 = .ok (.lconst 0, 1) := by decide +kernel
theorem dX7_deal_24 : decode cX7_deal 24 = .ok (.ldc2_w 153, 3) := by decide +kernel
theorem dX7_deal_27 : decode cX7_deal 27 = .ok (.invokestatic 74, 3) := by decide +kernel
theorem dX7_deal_30 : decode cX7_deal 30 = .ok (.ifCond .ne 5, 3) := by decide +kernel
theorem dX7_deal_33 : decode cX7_deal 33 = .ok (.iconst (-1), 1) := by decide +kernel
theorem dX7_deal_34 : decode cX7_deal 34 = .ok (.ireturn, 1) := by decide +kernel
theorem dX7_deal_35 : decode cX7_deal 35 = .ok (.aload_n 0, 1) := by decide +kernel
theorem dX7_deal_36 : decode cX7_deal 36 = .ok (.invokevirtual 256, 3) := by decide +kernel
theorem dX7_deal_39 : decode cX7_deal 39 = .ok (.aload_n 0, 1) := by decide +kernel
theorem dX7_deal_40 : decode cX7_deal 40 = .ok (.getfield 32, 3) := by decide +kernel
theorem dX7_deal_43 : decode cX7_deal 43 = .ok (.iload_n 1, 1) := by decide +kernel
theorem dX7_deal_44 : decode cX7_deal 44 = .ok (.iaload, 1) := by decide +kernel
theorem dX7_deal_45 : decode cX7_deal 45 = .ok (.aload_n 0, 1) := by decide +kernel
theorem dX7_deal_46 : decode cX7_deal 46 = .ok (.iload_n 1, 1) := by decide +kernel
theorem dX7_deal_47 : decode cX7_deal 47 = .ok (.iconst 3, 1) := by decide +kernel
theorem dX7_deal_48 : decode cX7_deal 48 = .ok (.invokevirtual 166, 3) := by decide +kernel
theorem dX7_deal_51 : decode cX7_deal 51 = .ok (.imul, 1) := by decide +kernel
theorem dX7_deal_52 : decode cX7_deal 52 = .ok (.istore 4, 2) := by decide +kernel
theorem dX7_deal_54 : decode cX7_deal 54 = .ok (.aload_n 0, 1) := by decide +kernel
theorem dX7_deal_55 : decode cX7_deal 55 = .ok (.getfield 32, 3) := by decide +kernel
theorem dX7_deal_58 : decode cX7_deal 58 = .ok (.iload_n 2, 1) := by decide +kernel
theorem dX7_deal_59 : decode cX7_deal 59 = .ok (.iaload, 1) := by decide +kernel
theorem dX7_deal_60 : decode cX7_deal 60 = .ok (.aload_n 0, 1) := by decide +kernel
theorem dX7_deal_61 : decode cX7_deal 61 = .ok (.iload_n 2, 1) := by decide +kernel
theorem dX7_deal_62 : decode cX7_deal 62 = .ok (.iconst 3, 1) := by decide +kernel
theorem dX7_deal_63 : decode cX7_deal 63 = .ok (.invokevirtual 166, 3) := by decide +kernel
theorem dX7_deal_66 : decode cX7_deal 66 = .ok (.imul, 1) := by decide +kernel
theorem dX7_deal_67 : decode cX7_deal 67 = .ok (.istore 5, 2) := by decide +kernel
theorem dX7_deal_69 : decode cX7_deal 69 = .ok (.aload_n 0, 1) := by decide +kernel
theorem dX7_deal_70 : decode cX7_deal 70 = .ok (.invokevirtual 225, 3) := by decide +kernel
theorem dX7_deal_73 : decode cX7_deal 73 = .ok (.istore 6, 2) := by decide +kernel
theorem dX7_deal_75 : decode cX7_deal 75 = .ok (.iconst 0, 1) := by decide +kernel
theorem dX7_deal_76 : decode cX7_deal 76 = .ok (.istore 7, 2) := by decide +kernel
theorem dX7_deal_78 : decode cX7_deal 78 = .ok (.iload 7, 2) := by decide +kernel
theorem dX7_deal_80 : decode cX7_deal 80 = .ok (.aload_n 0, 1) := by decide +kernel
theorem dX7_deal_81 : decode cX7_deal 81 = .ok (.getfield 69, 3) := by decide +kernel
theorem dX7_deal_84 : decode cX7_deal 84 = .ok (.if_icmp .ge 53, 3) := by decide +kernel
theorem dX7_deal_87 : decode cX7_deal 87 = .ok (.aload_n 0, 1) := by decide +kernel
theorem dX7_deal_88 : decode cX7_deal 88 = .ok (.getfield 35, 3) := by decide +kernel
theorem dX7_deal_91 : decode cX7_deal 91 = .ok (.iload 7, 2) := by decide +kernel
theorem dX7_deal_93 : decode cX7_deal 93 = .ok (.aload_n 0, 1) := by decide +kernel
theorem dX7_deal_94 : decode cX7_deal 94 = .ok (.getfield 26, 3) := by decide +kernel
theorem dX7_deal_97 : decode cX7_deal 97 = .ok (.iload 7, 2) := by decide +kernel
theorem dX7_deal_99 : decode cX7_deal 99 = .ok (.iaload, 1) := by decide +kernel
theorem dX7_deal_100 : decode cX7_deal 100 = .ok (.iload_n 1, 1) := by decide +kernel
theorem dX7_deal_101 : decode cX7_deal 101 = .ok (.if_icmp .ne 7, 3) := by decide +kernel
theorem dX7_deal_104 : decode cX7_deal 104 = .ok (.iload_n 2, 1) := by decide +kernel
theorem dX7_deal_105 : decode cX7_deal 105 = .ok (.goto 25, 3) := by decide +kernel
theorem dX7_deal_108 : decode cX7_deal 108 = .ok (.aload_n 0, 1) := by decide +kernel
theorem dX7_deal_109 : decode cX7_deal 109 = .ok (.getfield 26, 3) := by decide +kernel
theorem dX7_deal_112 : decode cX7_deal 112 = .ok (.iload 7, 2) := by decide +kernel
theorem dX7_deal_114 : decode cX7_deal 114 = .ok (.iaload, 1) := by decide +kernel
theorem dX7_deal_115 : decode cX7_deal 115 = .ok (.iload_n 2, 1) := by decide +kernel
theorem dX7_deal_116 : decode cX7_deal 116 = .ok (.if_icmp .ne 7, 3) := by decide +kernel
theorem dX7_deal_119 : decode cX7_deal 119 = .ok (.iload_n 1, 1) := by decide +kernel
theorem dX7_deal_120 : decode cX7_deal 120 = .ok (.goto 10, 3) := by decide +kernel
theorem dX7_deal_123 : decode cX7_deal 123 = .ok (.aload_n 0, 1) := by decide +kernel
theorem dX7_deal_124 : decode cX7_deal 124 = .ok (.getfield 26, 3) := by decide +kernel
theorem dX7_deal_127 : decode cX7_deal 127 = .ok (.iload 7, 2) := by decide +kernel
theorem dX7_deal_129 : decode cX7_deal 129 = .ok (.iaload, 1) := by decide +kernel
theorem dX7_deal_130 : decode cX7_deal 130 = .ok (.iastore, 1) := by decide +kernel
theorem dX7_deal_131 : decode cX7_deal 131 = .ok (.iinc 7 1, 3) := by decide +kernel
theorem dX7_deal_134 : decode cX7_deal 134 = .ok (.goto (-56), 3) := by decide +kernel
theorem dX7_deal_137 : decode cX7_deal 137 = .ok (.aload_n 0, 1) := by decide +kernel
theorem dX7_deal_138 : decode cX7_deal 138 = .ok (.invokevirtual 271, 3) := by decide +kernel
theorem dX7_deal_141 : decode cX7_deal 141 = .ok (.iload_n 3, 1) := by decide +kernel
theorem dX7_deal_142 : decode cX7_deal 142 = .ok (.ifCond .ne 22, 3) := by decide +kernel
theorem dX7_deal_145 : decode cX7_deal 145 = .ok (.iload 4, 2) := by decide +kernel
theorem dX7_deal_147 : decode cX7_deal 147 = .ok (.aload_n 0, 1) := by decide +kernel
theorem dX7_deal_148 : decode cX7_deal 148 = .ok (.getfield 32, 3) := by decide +kernel
theorem dX7_deal_151 : decode cX7_deal 151 = .ok (.iload_n 1, 1) := by decide +kernel
theorem dX7_deal_152 : decode cX7_deal 152 = .ok (.iaload, 1) := by decide +kernel
theorem dX7_deal_153 : decode cX7_deal 153 = .ok (.aload_n 0, 1) := by decide +kernel
theorem dX7_deal_154 : decode cX7_deal 154 = .ok (.iload_n 1, 1) := by decide +kernel
theorem dX7_deal_155 : decode cX7_deal 155 = .ok (.iconst 3, 1) := by decide +kernel
theorem dX7_deal_156 : decode cX7_deal 156 = .ok (.invokevirtual 166, 3) := by decide +kernel
theorem dX7_deal_159 : decode cX7_deal 159 = .ok (.imul, 1) := by decide +kernel
theorem dX7_deal_160 : decode cX7_deal 160 = .ok (.isub, 1) := by decide +kernel
theorem dX7_deal_161 : decode cX7_deal 161 = .ok (.goto 34, 3) := by decide +kernel
theorem dX7_deal_164 : decode cX7_deal 164 = .ok (.iload_n 3, 1) := by decide +kernel
theorem dX7_deal_165 : decode cX7_deal 165 = .ok (.iconst 1, 1) := by decide +kernel
theorem dX7_deal_166 : decode cX7_deal 166 = .ok (.if_icmp .ne 22, 3) := by decide +kernel
theorem dX7_deal_169 : decode cX7_deal 169 = .ok (.iload 5, 2) := by decide +kernel
theorem dX7_deal_171 : decode cX7_deal 171 = .ok (.aload_n 0, 1) := by decide +kernel
theorem dX7_deal_172 : decode cX7_deal 172 = .ok (.getfield 32, 3) := by decide +kernel
theorem dX7_deal_175 : decode cX7_deal 175 = .ok (.iload_n 2, 1) := by decide +kernel
theorem dX7_deal_176 : decode cX7_deal 176 = .ok (.iaload, 1) := by decide +kernel
theorem dX7_deal_177 : decode cX7_deal 177 = .ok (.aload_n 0, 1) := by decide +kernel
theorem dX7_deal_178 : decode cX7_deal 178 = .ok (.iload_n 2, 1) := by decide +kernel
theorem dX7_deal_179 : decode cX7_deal 179 = .ok (.iconst 3, 1) := by decide +kernel
theorem dX7_deal_180 : decode cX7_deal 180 = .ok (.invokevirtual 166, 3) := by decide +kernel
theorem dX7_deal_183 : decode cX7_deal 183 = .ok (.imul, 1) := by decide +kernel
theorem dX7_deal_184 : decode cX7_deal 184 = .ok (.isub, 1) := by decide +kernel
theorem dX7_deal_185 : decode cX7_deal 185 = .ok (.goto 10, 3) := by decide +kernel
theorem dX7_deal_188 : decode cX7_deal 188 = .ok (.iload 6, 2) := by decide +kernel
theorem dX7_deal_190 : decode cX7_deal 190 = .ok (.aload_n 0, 1) := by decide +kernel
theorem dX7_deal_191 : decode cX7_deal 191 = .ok (.invokevirtual 225, 3) := by decide +kernel
theorem dX7_deal_194 : decode cX7_deal 194 = .ok (.isub, 1) := by decide +kernel
theorem dX7_deal_195 : decode cX7_deal 195 = .ok (.istore 7, 2) := by decide +kernel
theorem dX7_deal_197 : decode cX7_deal 197 = .ok (.sipush 10000, 3) := by decide +kernel
theorem dX7_deal_200 : decode cX7_deal 200 = .ok (.iload 7, 2) := by decide +kernel
theorem dX7_deal_202 : decode cX7_deal 202 = .ok (.iadd, 1) := by decide +kernel
theorem dX7_deal_203 : decode cX7_deal 203 = .ok (.ireturn, 1) := by decide +kernel
theorem dX7_common_0 : decode cX7_common 0 = .ok (.lload_n 0, 1) := by decide +kernel
theorem dX7_common_1 : decode cX7_common 1 = .ok (.lstore 4, 2) := by decide +kernel
theorem dX7_common_3 : decode cX7_common 3 = .ok (.lload_n 2, 1) := by decide +kernel
theorem dX7_common_4 : decode cX7_common 4 = .ok (.lstore 6, 2) := by decide +kernel
theorem dX7_common_6 : decode cX7_common 6 = .ok (.lload 6, 2) := by decide +kernel
theorem dX7_common_8 : decode cX7_common 8 = .ok (.lconst 0, 1) := by decide +kernel
theorem dX7_common_9 : decode cX7_common 9 = .ok (.lcmp, 1) := by decide +kernel
theorem dX7_common_10 : decode cX7_common 10 = .ok (.ifCond .eq 21, 3) := by decide +kernel
theorem dX7_common_13 : decode cX7_common 13 = .ok (.lload 4, 2) := by decide +kernel
theorem dX7_common_15 : decode cX7_common 15 = .ok (.lload 6, 2) := by decide +kernel
theorem dX7_common_17 : decode cX7_common 17 = .ok (.lrem, 1) := by decide +kernel
theorem dX7_common_18 : decode cX7_common 18 = .ok (.lstore 8, 2) := by decide +kernel
theorem dX7_common_20 : decode cX7_common 20 = .ok (.lload 6, 2) := by decide +kernel
theorem dX7_common_22 : decode cX7_common 22 = .ok (.lstore 4, 2) := by decide +kernel
theorem dX7_common_24 : decode cX7_common 24 = .ok (.lload 8, 2) := by decide +kernel
theorem dX7_common_26 : decode cX7_common 26 = .ok (.lstore 6, 2) := by decide +kernel
theorem dX7_common_28 : decode cX7_common 28 = .ok (.goto (-22), 3) := by decide +kernel
theorem dX7_common_31 : decode cX7_common 31 = .ok (.lload 4, 2) := by decide +kernel
theorem dX7_common_33 : decode cX7_common 33 = .ok (.lreturn, 1) := by decide +kernel
theorem dX7_told_0 : decode cX7_told 0 = .ok (.lload_n 2, 1) := by decide +kernel
theorem dX7_told_1 : decode cX7_told 1 = .ok (.lload_n 0, 1) := by decide +kernel
theorem dX7_told_2 : decode cX7_told 2 = .ok (.invokestatic 294, 3) := by decide +kernel
theorem dX7_told_5 : decode cX7_told 5 = .ok (.lstore 5, 2) := by decide +kernel
theorem dX7_told_7 : decode cX7_told 7 = .ok (.iload 4, 2) := by decide +kernel
theorem dX7_told_9 : decode cX7_told 9 = .ok (.ifCond .ne 10, 3) := by decide +kernel
theorem dX7_told_12 : decode cX7_told 12 = .ok (.lload_n 0, 1) := by decide +kernel
theorem dX7_told_13 : decode cX7_told 13 = .ok (.lload 5, 2) := by decide +kernel
theorem dX7_told_15 : decode cX7_told 15 = .ok (.ldiv, 1) := by decide +kernel
theorem dX7_told_16 : decode cX7_told 16 = .ok (.goto 7, 3) := by decide +kernel
theorem dX7_told_19 : decode cX7_told 19 = .ok (.lload_n 2, 1) := by decide +kernel
theorem dX7_told_20 : decode cX7_told 20 = .ok (.lload 5, 2) := by decide +kernel
theorem dX7_told_22 : decode cX7_told 22 = .ok (.ldiv, 1) := by decide +kernel
theorem dX7_told_23 : decode cX7_told 23 = .ok (.lreturn, 1) := by decide +kernel
theorem dX7_waysOf_0 : decode cX7_waysOf 0 = .ok (.lconst 1, 1) := by decide +kernel
theorem dX7_waysOf_1 : decode cX7_waysOf 1 = .ok (.lstore_n 3, 1) := by decide +kernel
theorem dX7_waysOf_2 : decode cX7_waysOf 2 = .ok (.iconst 0, 1) := by decide +kernel
theorem dX7_waysOf_3 : decode cX7_waysOf 3 = .ok (.istore 5, 2) := by decide +kernel
theorem dX7_waysOf_5 : decode cX7_waysOf 5 = .ok (.iload 5, 2) := by decide +kernel
theorem dX7_waysOf_7 : decode cX7_waysOf 7 = .ok (.aload_n 0, 1) := by decide +kernel
theorem dX7_waysOf_8 : decode cX7_waysOf 8 = .ok (.getfield 69, 3) := by decide +kernel
theorem dX7_waysOf_11 : decode cX7_waysOf 11 = .ok (.if_icmp .ge 52, 3) := by decide +kernel
theorem dX7_waysOf_14 : decode cX7_waysOf 14 = .ok (.iload_n 1, 1) := by decide +kernel
theorem dX7_waysOf_15 : decode cX7_waysOf 15 = .ok (.iload 5, 2) := by decide +kernel
theorem dX7_waysOf_17 : decode cX7_waysOf 17 = .ok (.ishr, 1) := by decide +kernel
theorem dX7_waysOf_18 : decode cX7_waysOf 18 = .ok (.iconst 1, 1) := by decide +kernel
theorem dX7_waysOf_19 : decode cX7_waysOf 19 = .ok (.iand, 1) := by decide +kernel
theorem dX7_waysOf_20 : decode cX7_waysOf 20 = .ok (.iconst 1, 1) := by decide +kernel
theorem dX7_waysOf_21 : decode cX7_waysOf 21 = .ok (.if_icmp .ne 7, 3) := by decide +kernel
theorem dX7_waysOf_24 : decode cX7_waysOf 24 = .ok (.iload_n 2, 1) := by decide +kernel
theorem dX7_waysOf_25 : decode cX7_waysOf 25 = .ok (.goto 7, 3) := by decide +kernel
theorem dX7_waysOf_28 : decode cX7_waysOf 28 = .ok (.bipush 10, 2) := by decide +kernel
theorem dX7_waysOf_30 : decode cX7_waysOf 30 = .ok (.iload_n 2, 1) := by decide +kernel
theorem dX7_waysOf_31 : decode cX7_waysOf 31 = .ok (.isub, 1) := by decide +kernel
theorem dX7_waysOf_32 : decode cX7_waysOf 32 = .ok (.istore 6, 2) := by decide +kernel
theorem dX7_waysOf_34 : decode cX7_waysOf 34 = .ok (.lload_n 3, 1) := by decide +kernel
theorem dX7_waysOf_35 : decode cX7_waysOf 35 = .ok (.aload_n 0, 1) := by decide +kernel
theorem dX7_waysOf_36 : decode cX7_waysOf 36 = .ok (.invokevirtual 234, 3) := by decide +kernel
theorem dX7_waysOf_39 : decode cX7_waysOf 39 = .ok (.iload 5, 2) := by decide +kernel
theorem dX7_waysOf_41 : decode cX7_waysOf 41 = .ok (.ishr, 1) := by decide +kernel
theorem dX7_waysOf_42 : decode cX7_waysOf 42 = .ok (.iconst 1, 1) := by decide +kernel
theorem dX7_waysOf_43 : decode cX7_waysOf 43 = .ok (.iand, 1) := by decide +kernel
theorem dX7_waysOf_44 : decode cX7_waysOf 44 = .ok (.iconst 1, 1) := by decide +kernel
theorem dX7_waysOf_45 : decode cX7_waysOf 45 = .ok (.if_icmp .ne 9, 3) := by decide +kernel
theorem dX7_waysOf_48 : decode cX7_waysOf 48 = .ok (.iload 6, 2) := by decide +kernel
theorem dX7_waysOf_50 : decode cX7_waysOf 50 = .ok (.i2l, 1) := by decide +kernel
theorem dX7_waysOf_51 : decode cX7_waysOf 51 = .ok (.goto 4, 3) := by decide +kernel
theorem dX7_waysOf_54 : decode cX7_waysOf 54 = .ok (.lconst 1, 1) := by decide +kernel
theorem dX7_waysOf_55 : decode cX7_waysOf 55 = .ok (.lmul, 1) := by decide +kernel
theorem dX7_waysOf_56 : decode cX7_waysOf 56 = .ok (.lstore_n 3, 1) := by decide +kernel
theorem dX7_waysOf_57 : decode cX7_waysOf 57 = .ok (.iinc 5 1, 3) := by decide +kernel
theorem dX7_waysOf_60 : decode cX7_waysOf 60 = .ok (.goto (-55), 3) := by decide +kernel
theorem dX7_waysOf_63 : decode cX7_waysOf 63 = .ok (.lload_n 3, 1) := by decide +kernel
theorem dX7_waysOf_64 : decode cX7_waysOf 64 = .ok (.lreturn, 1) := by decide +kernel
theorem dX7_allWays_0 : decode cX7_allWays 0 = .ok (.lconst 1, 1) := by decide +kernel
theorem dX7_allWays_1 : decode cX7_allWays 1 = .ok (.lstore_n 1, 1) := by decide +kernel
theorem dX7_allWays_2 : decode cX7_allWays 2 = .ok (.iconst 0, 1) := by decide +kernel
theorem dX7_allWays_3 : decode cX7_allWays 3 = .ok (.istore_n 3, 1) := by decide +kernel
theorem dX7_allWays_4 : decode cX7_allWays 4 = .ok (.iload_n 3, 1) := by decide +kernel
theorem dX7_allWays_5 : decode cX7_allWays 5 = .ok (.aload_n 0, 1) := by decide +kernel
theorem dX7_allWays_6 : decode cX7_allWays 6 = .ok (.invokevirtual 234, 3) := by decide +kernel
theorem dX7_allWays_9 : decode cX7_allWays 9 = .ok (.invokestatic 195, 3) := by decide +kernel
theorem dX7_allWays_12 : decode cX7_allWays 12 = .ok (.if_icmp .ge 15, 3) := by decide +kernel
theorem dX7_allWays_15 : decode cX7_allWays 15 = .ok (.lload_n 1, 1) := by decide +kernel
theorem dX7_allWays_16 : decode cX7_allWays 16 = .ok (.ldc2_w 298, 3) := by decide +kernel
theorem dX7_allWays_19 : decode cX7_allWays 19 = .ok (.lmul, 1) := by decide +kernel
theorem dX7_allWays_20 : decode cX7_allWays 20 = .ok (.lstore_n 1, 1) := by decide +kernel
theorem dX7_allWays_21 : decode cX7_allWays 21 = .ok (.iinc 3 1, 3) := by decide +kernel
theorem dX7_allWays_24 : decode cX7_allWays 24 = .ok (.goto (-20), 3) := by decide +kernel
theorem dX7_allWays_27 : decode cX7_allWays 27 = .ok (.lload_n 1, 1) := by decide +kernel
theorem dX7_allWays_28 : decode cX7_allWays 28 = .ok (.lreturn, 1) := by decide +kernel
theorem dX7_dayCaught_0 : decode cX7_dayCaught 0 = .ok (.aload_n 0, 1) := by decide +kernel
theorem dX7_dayCaught_1 : decode cX7_dayCaught 1 = .ok (.invokevirtual 228, 3) := by decide +kernel
theorem dX7_dayCaught_4 : decode cX7_dayCaught 4 = .ok (.aload_n 0, 1) := by decide +kernel
theorem dX7_dayCaught_5 : decode cX7_dayCaught 5 = .ok (.iload_n 1, 1) := by decide +kernel
theorem dX7_dayCaught_6 : decode cX7_dayCaught 6 = .ok (.putfield 163, 3) := by decide +kernel
theorem dX7_dayCaught_9 : decode cX7_dayCaught 9 = .ok (.aload_n 0, 1) := by decide +kernel
theorem dX7_dayCaught_10 : decode cX7_dayCaught 10 = .ok (.invokevirtual 231, 3) := by decide +kernel
theorem dX7_dayCaught_13 : decode cX7_dayCaught 13 = .ok (.return_, 1) := by decide +kernel
theorem dX7_mean_0 : decode cX7_mean 0 = .ok (.iload_n 1, 1) := by decide +kernel
theorem dX7_mean_1 : decode cX7_mean 1 = .ok (.i2l, 1) := by decide +kernel
theorem dX7_mean_2 : decode cX7_mean 2 = .ok (.lconst 0, 1) := by decide +kernel
theorem dX7_mean_3 : decode cX7_mean 3 = .ok (.ldc2_w 298, 3) := by decide +kernel
theorem dX7_mean_6 : decode cX7_mean 6 = .ok (.invokestatic 74, 3) := by decide +kernel
theorem dX7_mean_9 : decode cX7_mean 9 = .ok (.ifCond .eq 18, 3) := by decide +kernel
theorem dX7_mean_12 : decode cX7_mean 12 = .ok (.aload_n 0, 1) := by decide +kernel
theorem dX7_mean_13 : decode cX7_mean 13 = .ok (.iload_n 2, 1) := by decide +kernel
theorem dX7_mean_14 : decode cX7_mean 14 = .ok (.invokevirtual 237, 3) := by decide +kernel
theorem dX7_mean_17 : decode cX7_mean 17 = .ok (.ifCond .eq 10, 3) := by decide +kernel
theorem dX7_mean_20 : decode cX7_mean 20 = .ok (.iload_n 3, 1) := by decide +kernel
theorem dX7_mean_21 : decode cX7_mean 21 = .ok (.invokestatic 285, 3) := by decide +kernel
theorem dX7_mean_24 : decode cX7_mean 24 = .ok (.ifCond .ne 7, 3) := by decide +kernel
theorem dX7_mean_27 : decode cX7_mean 27 = .ok (.ldc2_w 300, 3) := by decide +kernel
theorem dX7_mean_30 : decode cX7_mean 30 = .ok (.lreturn, 1) := by decide +kernel
theorem dX7_mean_31 : decode cX7_mean 31 = .ok (.lconst 0, 1) := by decide +kernel
theorem dX7_mean_32 : decode cX7_mean 32 = .ok (.lstore 4, 2) := by decide +kernel
theorem dX7_mean_34 : decode cX7_mean 34 = .ok (.iconst 0, 1) := by decide +kernel
theorem dX7_mean_35 : decode cX7_mean 35 = .ok (.istore 6, 2) := by decide +kernel
theorem dX7_mean_37 : decode cX7_mean 37 = .ok (.iload 6, 2) := by decide +kernel
theorem dX7_mean_39 : decode cX7_mean 39 = .ok (.iconst 1, 1) := by decide +kernel
theorem dX7_mean_40 : decode cX7_mean 40 = .ok (.aload_n 0, 1) := by decide +kernel
theorem dX7_mean_41 : decode cX7_mean 41 = .ok (.getfield 69, 3) := by decide +kernel
theorem dX7_mean_44 : decode cX7_mean 44 = .ok (.ishl, 1) := by decide +kernel
theorem dX7_mean_45 : decode cX7_mean 45 = .ok (.if_icmp .ge 47, 3) := by decide +kernel
theorem dX7_mean_48 : decode cX7_mean 48 = .ok (.iload 6, 2) := by decide +kernel
theorem dX7_mean_50 : decode cX7_mean 50 = .ok (.aload_n 0, 1) := by decide +kernel
theorem dX7_mean_51 : decode cX7_mean 51 = .ok (.invokevirtual 234, 3) := by decide +kernel
theorem dX7_mean_54 : decode cX7_mean 54 = .ok (.iconst (-1), 1) := by decide +kernel
theorem dX7_mean_55 : decode cX7_mean 55 = .ok (.ixor, 1) := by decide +kernel
theorem dX7_mean_56 : decode cX7_mean 56 = .ok (.iand, 1) := by decide +kernel
theorem dX7_mean_57 : decode cX7_mean 57 = .ok (.ifCond .ne 29, 3) := by decide +kernel
theorem dX7_mean_60 : decode cX7_mean 60 = .ok (.aload_n 0, 1) := by decide +kernel
theorem dX7_mean_61 : decode cX7_mean 61 = .ok (.iload 6, 2) := by decide +kernel
theorem dX7_mean_63 : decode cX7_mean 63 = .ok (.invokevirtual 302, 3) := by decide +kernel
theorem dX7_mean_66 : decode cX7_mean 66 = .ok (.lload 4, 2) := by decide +kernel
theorem dX7_mean_68 : decode cX7_mean 68 = .ok (.aload_n 0, 1) := by decide +kernel
theorem dX7_mean_69 : decode cX7_mean 69 = .ok (.iload 6, 2) := by decide +kernel
theorem dX7_mean_71 : decode cX7_mean 71 = .ok (.iload_n 1, 1) := by decide +kernel
theorem dX7_mean_72 : decode cX7_mean 72 = .ok (.invokevirtual 305, 3) := by decide +kernel
theorem dX7_mean_75 : decode cX7_mean 75 = .ok (.aload_n 0, 1) := by decide +kernel
theorem dX7_mean_76 : decode cX7_mean 76 = .ok (.getfield 32, 3) := by decide +kernel
theorem dX7_mean_79 : decode cX7_mean 79 = .ok (.iload_n 2, 1) := by decide +kernel
theorem dX7_mean_80 : decode cX7_mean 80 = .ok (.iaload, 1) := by decide +kernel
theorem dX7_mean_81 : decode cX7_mean 81 = .ok (.i2l, 1) := by decide +kernel
theorem dX7_mean_82 : decode cX7_mean 82 = .ok (.lmul, 1) := by decide +kernel
theorem dX7_mean_83 : decode cX7_mean 83 = .ok (.ladd, 1) := by decide +kernel
theorem dX7_mean_84 : decode cX7_mean 84 = .ok (.lstore 4, 2) := by decide +kernel
theorem dX7_mean_86 : decode cX7_mean 86 = .ok (.iinc 6 1, 3) := by decide +kernel
theorem dX7_mean_89 : decode cX7_mean 89 = .ok (.goto (-52), 3) := by decide +kernel
theorem dX7_mean_92 : decode cX7_mean 92 = .ok (.lload 4, 2) := by decide +kernel
theorem dX7_mean_94 : decode cX7_mean 94 = .ok (.aload_n 0, 1) := by decide +kernel
theorem dX7_mean_95 : decode cX7_mean 95 = .ok (.invokevirtual 309, 3) := by decide +kernel
theorem dX7_mean_98 : decode cX7_mean 98 = .ok (.iload_n 3, 1) := by decide +kernel
theorem dX7_mean_99 : decode cX7_mean 99 = .ok (.invokestatic 313, 3) := by decide +kernel
theorem dX7_mean_102 : decode cX7_mean 102 = .ok (.lreturn, 1) := by decide +kernel
theorem dX7_luck_0 : decode cX7_luck 0 = .ok (.iload_n 1, 1) := by decide +kernel
theorem dX7_luck_1 : decode cX7_luck 1 = .ok (.i2l, 1) := by decide +kernel
theorem dX7_luck_2 : decode cX7_luck 2 = .ok (.lconst 0, 1) := by decide +kernel
theorem dX7_luck_3 : decode cX7_luck 3 = .ok (.ldc2_w 298, 3) := by decide +kernel
theorem dX7_luck_6 : decode cX7_luck 6 = .ok (.invokestatic 74, 3) := by decide +kernel
theorem dX7_luck_9 : decode cX7_luck 9 = .ok (.ifCond .eq 27, 3) := by decide +kernel
theorem dX7_luck_12 : decode cX7_luck 12 = .ok (.aload_n 0, 1) := by decide +kernel
theorem dX7_luck_13 : decode cX7_luck 13 = .ok (.iload_n 2, 1) := by decide +kernel
theorem dX7_luck_14 : decode cX7_luck 14 = .ok (.invokevirtual 237, 3) := by decide +kernel
theorem dX7_luck_17 : decode cX7_luck 17 = .ok (.ifCond .eq 19, 3) := by decide +kernel
theorem dX7_luck_20 : decode cX7_luck 20 = .ok (.aload_n 0, 1) := by decide +kernel
theorem dX7_luck_21 : decode cX7_luck 21 = .ok (.iload_n 3, 1) := by decide +kernel
theorem dX7_luck_22 : decode cX7_luck 22 = .ok (.invokevirtual 237, 3) := by decide +kernel
theorem dX7_luck_25 : decode cX7_luck 25 = .ok (.ifCond .eq 11, 3) := by decide +kernel
theorem dX7_luck_28 : decode cX7_luck 28 = .ok (.iload 4, 2) := by decide +kernel
theorem dX7_luck_30 : decode cX7_luck 30 = .ok (.invokestatic 285, 3) := by decide +kernel
theorem dX7_luck_33 : decode cX7_luck 33 = .ok (.ifCond .ne 7, 3) := by decide +kernel
theorem dX7_luck_36 : decode cX7_luck 36 = .ok (.ldc2_w 300, 3) := by decide +kernel
theorem dX7_luck_39 : decode cX7_luck 39 = .ok (.lreturn, 1) := by decide +kernel
theorem dX7_luck_40 : decode cX7_luck 40 = .ok (.lconst 0, 1) := by decide +kernel
theorem dX7_luck_41 : decode cX7_luck 41 = .ok (.lstore 5, 2) := by decide +kernel
theorem dX7_luck_43 : decode cX7_luck 43 = .ok (.iconst 0, 1) := by decide +kernel
theorem dX7_luck_44 : decode cX7_luck 44 = .ok (.istore 7, 2) := by decide +kernel
theorem dX7_luck_46 : decode cX7_luck 46 = .ok (.iload 7, 2) := by decide +kernel
theorem dX7_luck_48 : decode cX7_luck 48 = .ok (.iconst 1, 1) := by decide +kernel
theorem dX7_luck_49 : decode cX7_luck 49 = .ok (.aload_n 0, 1) := by decide +kernel
theorem dX7_luck_50 : decode cX7_luck 50 = .ok (.getfield 69, 3) := by decide +kernel
theorem dX7_luck_53 : decode cX7_luck 53 = .ok (.ishl, 1) := by decide +kernel
theorem dX7_luck_54 : decode cX7_luck 54 = .ok (.if_icmp .ge 53, 3) := by decide +kernel
theorem dX7_luck_57 : decode cX7_luck 57 = .ok (.iload 7, 2) := by decide +kernel
theorem dX7_luck_59 : decode cX7_luck 59 = .ok (.aload_n 0, 1) := by decide +kernel
theorem dX7_luck_60 : decode cX7_luck 60 = .ok (.invokevirtual 234, 3) := by decide +kernel
theorem dX7_luck_63 : decode cX7_luck 63 = .ok (.iconst (-1), 1) := by decide +kernel
theorem dX7_luck_64 : decode cX7_luck 64 = .ok (.ixor, 1) := by decide +kernel
theorem dX7_luck_65 : decode cX7_luck 65 = .ok (.iand, 1) := by decide +kernel
theorem dX7_luck_66 : decode cX7_luck 66 = .ok (.ifCond .ne 35, 3) := by decide +kernel
theorem dX7_luck_69 : decode cX7_luck 69 = .ok (.aload_n 0, 1) := by decide +kernel
theorem dX7_luck_70 : decode cX7_luck 70 = .ok (.iload 7, 2) := by decide +kernel
theorem dX7_luck_72 : decode cX7_luck 72 = .ok (.invokevirtual 302, 3) := by decide +kernel
theorem dX7_luck_75 : decode cX7_luck 75 = .ok (.lload 5, 2) := by decide +kernel
theorem dX7_luck_77 : decode cX7_luck 77 = .ok (.aload_n 0, 1) := by decide +kernel
theorem dX7_luck_78 : decode cX7_luck 78 = .ok (.getfield 26, 3) := by decide +kernel
theorem dX7_luck_81 : decode cX7_luck 81 = .ok (.iload_n 3, 1) := by decide +kernel
theorem dX7_luck_82 : decode cX7_luck 82 = .ok (.iaload, 1) := by decide +kernel
theorem dX7_luck_83 : decode cX7_luck 83 = .ok (.iload_n 2, 1) := by decide +kernel
theorem dX7_luck_84 : decode cX7_luck 84 = .ok (.if_icmp .ne 13, 3) := by decide +kernel
theorem dX7_luck_87 : decode cX7_luck 87 = .ok (.aload_n 0, 1) := by decide +kernel
theorem dX7_luck_88 : decode cX7_luck 88 = .ok (.iload 7, 2) := by decide +kernel
theorem dX7_luck_90 : decode cX7_luck 90 = .ok (.iload_n 1, 1) := by decide +kernel
theorem dX7_luck_91 : decode cX7_luck 91 = .ok (.invokevirtual 305, 3) := by decide +kernel
theorem dX7_luck_94 : decode cX7_luck 94 = .ok (.goto 4, 3) := by decide +kernel
theorem dX7_luck_97 : decode cX7_luck 97 = .ok (.lconst 0, 1) := by decide +kernel
theorem dX7_luck_98 : decode cX7_luck 98 = .ok (.ladd, 1) := by decide +kernel
theorem dX7_luck_99 : decode cX7_luck 99 = .ok (.lstore 5, 2) := by decide +kernel
theorem dX7_luck_101 : decode cX7_luck 101 = .ok (.iinc 7 1, 3) := by decide +kernel
theorem dX7_luck_104 : decode cX7_luck 104 = .ok (.goto (-58), 3) := by decide +kernel
theorem dX7_luck_107 : decode cX7_luck 107 = .ok (.lload 5, 2) := by decide +kernel
theorem dX7_luck_109 : decode cX7_luck 109 = .ok (.aload_n 0, 1) := by decide +kernel
theorem dX7_luck_110 : decode cX7_luck 110 = .ok (.invokevirtual 309, 3) := by decide +kernel
theorem dX7_luck_113 : decode cX7_luck 113 = .ok (.iload 4, 2) := by decide +kernel
theorem dX7_luck_115 : decode cX7_luck 115 = .ok (.invokestatic 313, 3) := by decide +kernel
theorem dX7_luck_118 : decode cX7_luck 118 = .ok (.lreturn, 1) := by decide +kernel
theorem dX7_see_0 : decode cX7_see 0 = .ok (.aload_n 0, 1) := by decide +kernel
theorem dX7_see_1 : decode cX7_see 1 = .ok (.iload_n 1, 1) := by decide +kernel
theorem dX7_see_2 : decode cX7_see 2 = .ok (.invokevirtual 237, 3) := by decide +kernel
theorem dX7_see_5 : decode cX7_see 5 = .ok (.ifCond .eq 11, 3) := by decide +kernel
theorem dX7_see_8 : decode cX7_see 8 = .ok (.aload_n 0, 1) := by decide +kernel
theorem dX7_see_9 : decode cX7_see 9 = .ok (.iload_n 2, 1) := by decide +kernel
theorem dX7_see_10 : decode cX7_see 10 = .ok (.invokevirtual 237, 3) := by decide +kernel
theorem dX7_see_13 : decode cX7_see 13 = .ok (.ifCond .ne 5, 3) := by decide +kernel
theorem dX7_see_16 : decode cX7_see 16 = .ok (.iconst (-1), 1) := by decide +kernel
theorem dX7_see_17 : decode cX7_see 17 = .ok (.ireturn, 1) := by decide +kernel
theorem dX7_see_18 : decode cX7_see 18 = .ok (.aload_n 0, 1) := by decide +kernel
theorem dX7_see_19 : decode cX7_see 19 = .ok (.getfield 7, 3) := by decide +kernel
theorem dX7_see_22 : decode cX7_see 22 = .ok (.bipush 42, 2) := by decide +kernel
theorem dX7_see_24 : decode cX7_see 24 = .ok (.iaload, 1) := by decide +kernel
theorem dX7_see_25 : decode cX7_see 25 = .ok (.bipush 6, 2) := by decide +kernel
theorem dX7_see_27 : decode cX7_see 27 = .ok (.if_icmp .ne 6, 3) := by decide +kernel
theorem dX7_see_30 : decode cX7_see 30 = .ok (.bipush (-3), 2) := by decide +kernel
theorem dX7_see_32 : decode cX7_see 32 = .ok (.ireturn, 1) := by decide +kernel
theorem dX7_see_33 : decode cX7_see 33 = .ok (.aload_n 0, 1) := by decide +kernel
theorem dX7_see_34 : decode cX7_see 34 = .ok (.getfield 7, 3) := by decide +kernel
theorem dX7_see_37 : decode cX7_see 37 = .ok (.bipush 43, 2) := by decide +kernel
theorem dX7_see_39 : decode cX7_see 39 = .ok (.iconst 2, 1) := by decide +kernel
theorem dX7_see_40 : decode cX7_see 40 = .ok (.aload_n 0, 1) := by decide +kernel
theorem dX7_see_41 : decode cX7_see 41 = .ok (.getfield 7, 3) := by decide +kernel
theorem dX7_see_44 : decode cX7_see 44 = .ok (.bipush 42, 2) := by decide +kernel
theorem dX7_see_46 : decode cX7_see 46 = .ok (.iaload, 1) := by decide +kernel
theorem dX7_see_47 : decode cX7_see 47 = .ok (.imul, 1) := by decide +kernel
theorem dX7_see_48 : decode cX7_see 48 = .ok (.iadd, 1) := by decide +kernel
theorem dX7_see_49 : decode cX7_see 49 = .ok (.iload_n 1, 1) := by decide +kernel
theorem dX7_see_50 : decode cX7_see 50 = .ok (.iastore, 1) := by decide +kernel
theorem dX7_see_51 : decode cX7_see 51 = .ok (.aload_n 0, 1) := by decide +kernel
theorem dX7_see_52 : decode cX7_see 52 = .ok (.getfield 7, 3) := by decide +kernel
theorem dX7_see_55 : decode cX7_see 55 = .ok (.bipush 43, 2) := by decide +kernel
theorem dX7_see_57 : decode cX7_see 57 = .ok (.iconst 2, 1) := by decide +kernel
theorem dX7_see_58 : decode cX7_see 58 = .ok (.aload_n 0, 1) := by decide +kernel
theorem dX7_see_59 : decode cX7_see 59 = .ok (.getfield 7, 3) := by decide +kernel
theorem dX7_see_62 : decode cX7_see 62 = .ok (.bipush 42, 2) := by decide +kernel
theorem dX7_see_64 : decode cX7_see 64 = .ok (.iaload, 1) := by decide +kernel
theorem dX7_see_65 : decode cX7_see 65 = .ok (.imul, 1) := by decide +kernel
theorem dX7_see_66 : decode cX7_see 66 = .ok (.iadd, 1) := by decide +kernel
theorem dX7_see_67 : decode cX7_see 67 = .ok (.iconst 1, 1) := by decide +kernel
theorem dX7_see_68 : decode cX7_see 68 = .ok (.iadd, 1) := by decide +kernel
theorem dX7_see_69 : decode cX7_see 69 = .ok (.iload_n 2, 1) := by decide +kernel
theorem dX7_see_70 : decode cX7_see 70 = .ok (.iastore, 1) := by decide +kernel
theorem dX7_see_71 : decode cX7_see 71 = .ok (.aload_n 0, 1) := by decide +kernel
theorem dX7_see_72 : decode cX7_see 72 = .ok (.getfield 7, 3) := by decide +kernel
theorem dX7_see_75 : decode cX7_see 75 = .ok (.bipush 42, 2) := by decide +kernel
theorem dX7_see_77 : decode cX7_see 77 = .ok (.dup2, 1) := by decide +kernel
theorem dX7_see_78 : decode cX7_see 78 = .ok (.iaload, 1) := by decide +kernel
theorem dX7_see_79 : decode cX7_see 79 = .ok (.iconst 1, 1) := by decide +kernel
theorem dX7_see_80 : decode cX7_see 80 = .ok (.iadd, 1) := by decide +kernel
theorem dX7_see_81 : decode cX7_see 81 = .ok (.iastore, 1) := by decide +kernel
theorem dX7_see_82 : decode cX7_see 82 = .ok (.aload_n 0, 1) := by decide +kernel
theorem dX7_see_83 : decode cX7_see 83 = .ok (.getfield 7, 3) := by decide +kernel
theorem dX7_see_86 : decode cX7_see 86 = .ok (.bipush 42, 2) := by decide +kernel
theorem dX7_see_88 : decode cX7_see 88 = .ok (.iaload, 1) := by decide +kernel
theorem dX7_see_89 : decode cX7_see 89 = .ok (.ireturn, 1) := by decide +kernel
theorem dX7_forget_0 : decode cX7_forget 0 = .ok (.iload_n 1, 1) := by decide +kernel
theorem dX7_forget_1 : decode cX7_forget 1 = .ok (.i2l, 1) := by decide +kernel
theorem dX7_forget_2 : decode cX7_forget 2 = .ok (.lconst 0, 1) := by decide +kernel
theorem dX7_forget_3 : decode cX7_forget 3 = .ok (.aload_n 0, 1) := by decide +kernel
theorem dX7_forget_4 : decode cX7_forget 4 = .ok (.getfield 7, 3) := by decide +kernel
theorem dX7_forget_7 : decode cX7_forget 7 = .ok (.bipush 42, 2) := by decide +kernel
theorem dX7_forget_9 : decode cX7_forget 9 = .ok (.iaload, 1) := by decide +kernel
theorem dX7_forget_10 : decode cX7_forget 10 = .ok (.i2l, 1) := by decide +kernel
theorem dX7_forget_11 : decode cX7_forget 11 = .ok (.invokestatic 74, 3) := by decide +kernel
theorem dX7_forget_14 : decode cX7_forget 14 = .ok (.ifCond .eq 13, 3) := by decide +kernel
theorem dX7_forget_17 : decode cX7_forget 17 = .ok (.aload_n 0, 1) := by decide +kernel
theorem dX7_forget_18 : decode cX7_forget 18 = .ok (.bipush 42, 2) := by decide +kernel
theorem dX7_forget_20 : decode cX7_forget 20 = .ok (.iload_n 1, 1) := by decide +kernel
theorem dX7_forget_21 : decode cX7_forget 21 = .ok (.invokevirtual 245, 3) := by decide +kernel
theorem dX7_forget_24 : decode cX7_forget 24 = .ok (.goto 4, 3) := by decide +kernel
theorem dX7_forget_27 : decode cX7_forget 27 = .ok (.iconst (-1), 1) := by decide +kernel
theorem dX7_forget_28 : decode cX7_forget 28 = .ok (.ireturn, 1) := by decide +kernel
theorem dX7_isSo_0 : decode cX7_isSo 0 = .ok (.iconst 1, 1) := by decide +kernel
theorem dX7_isSo_1 : decode cX7_isSo 1 = .ok (.istore_n 3, 1) := by decide +kernel
theorem dX7_isSo_2 : decode cX7_isSo 2 = .ok (.aload_n 0, 1) := by decide +kernel
theorem dX7_isSo_3 : decode cX7_isSo 3 = .ok (.invokevirtual 228, 3) := by decide +kernel
theorem dX7_isSo_6 : decode cX7_isSo 6 = .ok (.aload_n 0, 1) := by decide +kernel
theorem dX7_isSo_7 : decode cX7_isSo 7 = .ok (.getfield 13, 3) := by decide +kernel
theorem dX7_isSo_10 : decode cX7_isSo 10 = .ok (.iconst 3, 1) := by decide +kernel
theorem dX7_isSo_11 : decode cX7_isSo 11 = .ok (.iload_n 1, 1) := by decide +kernel
theorem dX7_isSo_12 : decode cX7_isSo 12 = .ok (.iastore, 1) := by decide +kernel
theorem dX7_isSo_13 : decode cX7_isSo 13 = .ok (.aload_n 0, 1) := by decide +kernel
theorem dX7_isSo_14 : decode cX7_isSo 14 = .ok (.iload_n 2, 1) := by decide +kernel
theorem dX7_isSo_15 : decode cX7_isSo 15 = .ok (.invokevirtual 288, 3) := by decide +kernel
theorem dX7_isSo_18 : decode cX7_isSo 18 = .ok (.aload_n 0, 1) := by decide +kernel
theorem dX7_isSo_19 : decode cX7_isSo 19 = .ok (.invokevirtual 231, 3) := by decide +kernel
theorem dX7_isSo_22 : decode cX7_isSo 22 = .ok (.iconst 0, 1) := by decide +kernel
theorem dX7_isSo_23 : decode cX7_isSo 23 = .ok (.istore 4, 2) := by decide +kernel
theorem dX7_isSo_25 : decode cX7_isSo 25 = .ok (.iload 4, 2) := by decide +kernel
theorem dX7_isSo_27 : decode cX7_isSo 27 = .ok (.aload_n 0, 1) := by decide +kernel
theorem dX7_isSo_28 : decode cX7_isSo 28 = .ok (.getfield 7, 3) := by decide +kernel
theorem dX7_isSo_31 : decode cX7_isSo 31 = .ok (.bipush 42, 2) := by decide +kernel
theorem dX7_isSo_33 : decode cX7_isSo 33 = .ok (.iaload, 1) := by decide +kernel
theorem dX7_isSo_34 : decode cX7_isSo 34 = .ok (.if_icmp .ge 53, 3) := by decide +kernel
theorem dX7_isSo_37 : decode cX7_isSo 37 = .ok (.iload_n 3, 1) := by decide +kernel
theorem dX7_isSo_38 : decode cX7_isSo 38 = .ok (.ifCond .eq 41, 3) := by decide +kernel
theorem dX7_isSo_41 : decode cX7_isSo 41 = .ok (.aload_n 0, 1) := by decide +kernel
theorem dX7_isSo_42 : decode cX7_isSo 42 = .ok (.getfield 26, 3) := by decide +kernel
theorem dX7_isSo_45 : decode cX7_isSo 45 = .ok (.aload_n 0, 1) := by decide +kernel
theorem dX7_isSo_46 : decode cX7_isSo 46 = .ok (.getfield 7, 3) := by decide +kernel
theorem dX7_isSo_49 : decode cX7_isSo 49 = .ok (.bipush 43, 2) := by decide +kernel
theorem dX7_isSo_51 : decode cX7_isSo 51 = .ok (.iconst 2, 1) := by decide +kernel
theorem dX7_isSo_52 : decode cX7_isSo 52 = .ok (.iload 4, 2) := by decide +kernel
theorem dX7_isSo_54 : decode cX7_isSo 54 = .ok (.imul, 1) := by decide +kernel
theorem dX7_isSo_55 : decode cX7_isSo 55 = .ok (.iadd, 1) := by decide +kernel
theorem dX7_isSo_56 : decode cX7_isSo 56 = .ok (.iaload, 1) := by decide +kernel
theorem dX7_isSo_57 : decode cX7_isSo 57 = .ok (.iaload, 1) := by decide +kernel
theorem dX7_isSo_58 : decode cX7_isSo 58 = .ok (.aload_n 0, 1) := by decide +kernel
theorem dX7_isSo_59 : decode cX7_isSo 59 = .ok (.getfield 7, 3) := by decide +kernel
theorem dX7_isSo_62 : decode cX7_isSo 62 = .ok (.bipush 43, 2) := by decide +kernel
theorem dX7_isSo_64 : decode cX7_isSo 64 = .ok (.iconst 2, 1) := by decide +kernel
theorem dX7_isSo_65 : decode cX7_isSo 65 = .ok (.iload 4, 2) := by decide +kernel
theorem dX7_isSo_67 : decode cX7_isSo 67 = .ok (.imul, 1) := by decide +kernel
theorem dX7_isSo_68 : decode cX7_isSo 68 = .ok (.iadd, 1) := by decide +kernel
theorem dX7_isSo_69 : decode cX7_isSo 69 = .ok (.iconst 1, 1) := by decide +kernel
theorem dX7_isSo_70 : decode cX7_isSo 70 = .ok (.iadd, 1) := by decide +kernel
theorem dX7_isSo_71 : decode cX7_isSo 71 = .ok (.iaload, 1) := by decide +kernel
theorem dX7_isSo_72 : decode cX7_isSo 72 = .ok (.if_icmp .ne 7, 3) := by decide +kernel
theorem dX7_isSo_75 : decode cX7_isSo 75 = .ok (.iconst 1, 1) := by decide +kernel
theorem dX7_isSo_76 : decode cX7_isSo 76 = .ok (.goto 4, 3) := by decide +kernel
theorem dX7_isSo_79 : decode cX7_isSo 79 = .ok (.iconst 0, 1) := by decide +kernel
theorem dX7_isSo_80 : decode cX7_isSo 80 = .ok (.istore_n 3, 1) := by decide +kernel
theorem dX7_isSo_81 : decode cX7_isSo 81 = .ok (.iinc 4 1, 3) := by decide +kernel
theorem dX7_isSo_84 : decode cX7_isSo 84 = .ok (.goto (-59), 3) := by decide +kernel
theorem dX7_isSo_87 : decode cX7_isSo 87 = .ok (.iload_n 3, 1) := by decide +kernel
theorem dX7_isSo_88 : decode cX7_isSo 88 = .ok (.ireturn, 1) := by decide +kernel
theorem dX7_fits_0 : decode cX7_fits 0 = .ok (.iload_n 1, 1) := by decide +kernel
theorem dX7_fits_1 : decode cX7_fits 1 = .ok (.i2l, 1) := by decide +kernel
theorem dX7_fits_2 : decode cX7_fits 2 = .ok (.lconst 0, 1) := by decide +kernel
theorem dX7_fits_3 : decode cX7_fits 3 = .ok (.ldc2_w 250, 3) := by decide +kernel
theorem dX7_fits_6 : decode cX7_fits 6 = .ok (.invokestatic 74, 3) := by decide +kernel
theorem dX7_fits_9 : decode cX7_fits 9 = .ok (.ifCond .ne 5, 3) := by decide +kernel
theorem dX7_fits_12 : decode cX7_fits 12 = .ok (.iconst (-1), 1) := by decide +kernel
theorem dX7_fits_13 : decode cX7_fits 13 = .ok (.ireturn, 1) := by decide +kernel
theorem dX7_fits_14 : decode cX7_fits 14 = .ok (.iconst 1, 1) := by decide +kernel
theorem dX7_fits_15 : decode cX7_fits 15 = .ok (.aload_n 0, 1) := by decide +kernel
theorem dX7_fits_16 : decode cX7_fits 16 = .ok (.getfield 69, 3) := by decide +kernel
theorem dX7_fits_19 : decode cX7_fits 19 = .ok (.ishl, 1) := by decide +kernel
theorem dX7_fits_20 : decode cX7_fits 20 = .ok (.iconst 1, 1) := by decide +kernel
theorem dX7_fits_21 : decode cX7_fits 21 = .ok (.isub, 1) := by decide +kernel
theorem dX7_fits_22 : decode cX7_fits 22 = .ok (.istore_n 2, 1) := by decide +kernel
theorem dX7_fits_23 : decode cX7_fits 23 = .ok (.iconst 0, 1) := by decide +kernel
theorem dX7_fits_24 : decode cX7_fits 24 = .ok (.istore_n 3, 1) := by decide +kernel
theorem dX7_fits_25 : decode cX7_fits 25 = .ok (.iconst 0, 1) := by decide +kernel
theorem dX7_fits_26 : decode cX7_fits 26 = .ok (.istore 4, 2) := by decide +kernel
theorem dX7_fits_28 : decode cX7_fits 28 = .ok (.iload_n 2, 1) := by decide +kernel
theorem dX7_fits_29 : decode cX7_fits 29 = .ok (.istore 5, 2) := by decide +kernel
theorem dX7_fits_31 : decode cX7_fits 31 = .ok (.iconst 0, 1) := by decide +kernel
theorem dX7_fits_32 : decode cX7_fits 32 = .ok (.istore 6, 2) := by decide +kernel
theorem dX7_fits_34 : decode cX7_fits 34 = .ok (.iconst 0, 1) := by decide +kernel
theorem dX7_fits_35 : decode cX7_fits 35 = .ok (.istore 7, 2) := by decide +kernel
theorem dX7_fits_37 : decode cX7_fits 37 = .ok (.iload 7, 2) := by decide +kernel
theorem dX7_fits_39 : decode cX7_fits 39 = .ok (.iconst 5, 1) := by decide +kernel
theorem dX7_fits_40 : decode cX7_fits 40 = .ok (.if_icmp .ge 61, 3) := by decide +kernel
theorem dX7_fits_43 : decode cX7_fits 43 = .ok (.iconst 0, 1) := by decide +kernel
theorem dX7_fits_44 : decode cX7_fits 44 = .ok (.istore 8, 2) := by decide +kernel
theorem dX7_fits_46 : decode cX7_fits 46 = .ok (.iload 8, 2) := by decide +kernel
theorem dX7_fits_48 : decode cX7_fits 48 = .ok (.iload_n 2, 1) := by decide +kernel
theorem dX7_fits_49 : decode cX7_fits 49 = .ok (.if_icmp .gt 46, 3) := by decide +kernel
theorem dX7_fits_52 : decode cX7_fits 52 = .ok (.aload_n 0, 1) := by decide +kernel
theorem dX7_fits_53 : decode cX7_fits 53 = .ok (.iload 7, 2) := by decide +kernel
theorem dX7_fits_55 : decode cX7_fits 55 = .ok (.iload 8, 2) := by decide +kernel
theorem dX7_fits_57 : decode cX7_fits 57 = .ok (.invokevirtual 317, 3) := by decide +kernel
theorem dX7_fits_60 : decode cX7_fits 60 = .ok (.ifCond .eq 29, 3) := by decide +kernel
theorem dX7_fits_63 : decode cX7_fits 63 = .ok (.iinc 3 1, 3) := by decide +kernel
theorem dX7_fits_66 : decode cX7_fits 66 = .ok (.iload 4, 2) := by decide +kernel
theorem dX7_fits_68 : decode cX7_fits 68 = .ok (.iconst 1, 1) := by decide +kernel
theorem dX7_fits_69 : decode cX7_fits 69 = .ok (.iload 7, 2) := by decide +kernel
theorem dX7_fits_71 : decode cX7_fits 71 = .ok (.ishl, 1) := by decide +kernel
theorem dX7_fits_72 : decode cX7_fits 72 = .ok (.ior, 1) := by decide +kernel
theorem dX7_fits_73 : decode cX7_fits 73 = .ok (.istore 4, 2) := by decide +kernel
theorem dX7_fits_75 : decode cX7_fits 75 = .ok (.iload 5, 2) := by decide +kernel
theorem dX7_fits_77 : decode cX7_fits 77 = .ok (.iload 8, 2) := by decide +kernel
theorem dX7_fits_79 : decode cX7_fits 79 = .ok (.iand, 1) := by decide +kernel
theorem dX7_fits_80 : decode cX7_fits 80 = .ok (.istore 5, 2) := by decide +kernel
theorem dX7_fits_82 : decode cX7_fits 82 = .ok (.iload 6, 2) := by decide +kernel
theorem dX7_fits_84 : decode cX7_fits 84 = .ok (.iload 8, 2) := by decide +kernel
theorem dX7_fits_86 : decode cX7_fits 86 = .ok (.ior, 1) := by decide +kernel
theorem dX7_fits_87 : decode cX7_fits 87 = .ok (.istore 6, 2) := by decide +kernel
theorem dX7_fits_89 : decode cX7_fits 89 = .ok (.iinc 8 1, 3) := by decide +kernel
theorem dX7_fits_92 : decode cX7_fits 92 = .ok (.goto (-46), 3) := by decide +kernel
theorem dX7_fits_95 : decode cX7_fits 95 = .ok (.iinc 7 1, 3) := by decide +kernel
theorem dX7_fits_98 : decode cX7_fits 98 = .ok (.goto (-61), 3) := by decide +kernel
theorem dX7_fits_101 : decode cX7_fits 101 = .ok (.iload_n 1, 1) := by decide +kernel
theorem dX7_fits_102 : decode cX7_fits 102 = .ok (.iconst 2, 1) := by decide +kernel
theorem dX7_fits_103 : decode cX7_fits 103 = .ok (.if_icmp .ge 14, 3) := by decide +kernel
theorem dX7_fits_106 : decode cX7_fits 106 = .ok (.iload_n 1, 1) := by decide +kernel
theorem dX7_fits_107 : decode cX7_fits 107 = .ok (.ifCond .ne 7, 3) := by decide +kernel
theorem dX7_fits_110 : decode cX7_fits 110 = .ok (.iload_n 3, 1) := by decide +kernel
theorem dX7_fits_111 : decode cX7_fits 111 = .ok (.goto 5, 3) := by decide +kernel
theorem dX7_fits_114 : decode cX7_fits 114 = .ok (.iload 4, 2) := by decide +kernel
theorem dX7_fits_116 : decode cX7_fits 116 = .ok (.ireturn, 1) := by decide +kernel
theorem dX7_fits_117 : decode cX7_fits 117 = .ok (.iload_n 3, 1) := by decide +kernel
theorem dX7_fits_118 : decode cX7_fits 118 = .ok (.ifCond .ne 8, 3) := by decide +kernel
theorem dX7_fits_121 : decode cX7_fits 121 = .ok (.bipush (-4), 2) := by decide +kernel
theorem dX7_fits_123 : decode cX7_fits 123 = .ok (.goto 19, 3) := by decide +kernel
theorem dX7_fits_126 : decode cX7_fits 126 = .ok (.iload_n 1, 1) := by decide +kernel
theorem dX7_fits_127 : decode cX7_fits 127 = .ok (.iconst 2, 1) := by decide +kernel
theorem dX7_fits_128 : decode cX7_fits 128 = .ok (.if_icmp .ne 8, 3) := by decide +kernel
theorem dX7_fits_131 : decode cX7_fits 131 = .ok (.iload 5, 2) := by decide +kernel
theorem dX7_fits_133 : decode cX7_fits 133 = .ok (.goto 9, 3) := by decide +kernel
theorem dX7_fits_136 : decode cX7_fits 136 = .ok (.iload_n 2, 1) := by decide +kernel
theorem dX7_fits_137 : decode cX7_fits 137 = .ok (.iload 6, 2) := by decide +kernel
theorem dX7_fits_139 : decode cX7_fits 139 = .ok (.iconst (-1), 1) := by decide +kernel
theorem dX7_fits_140 : decode cX7_fits 140 = .ok (.ixor, 1) := by decide +kernel
theorem dX7_fits_141 : decode cX7_fits 141 = .ok (.iand, 1) := by decide +kernel
theorem dX7_fits_142 : decode cX7_fits 142 = .ok (.ireturn, 1) := by decide +kernel
theorem dX7_drift_0 : decode cX7_drift 0 = .ok (.iload_n 2, 1) := by decide +kernel
theorem dX7_drift_1 : decode cX7_drift 1 = .ok (.i2l, 1) := by decide +kernel
theorem dX7_drift_2 : decode cX7_drift 2 = .ok (.lconst 1, 1) := by decide +kernel
theorem dX7_drift_3 : decode cX7_drift 3 = .ok (.ldc2_w 321, 3) := by decide +kernel
theorem dX7_drift_6 : decode cX7_drift 6 = .ok (.invokestatic 74, 3) := by decide +kernel
theorem dX7_drift_9 : decode cX7_drift 9 = .ok (.ifCond .eq 10, 3) := by decide +kernel
theorem dX7_drift_12 : decode cX7_drift 12 = .ok (.iload_n 3, 1) := by decide +kernel
theorem dX7_drift_13 : decode cX7_drift 13 = .ok (.invokestatic 285, 3) := by decide +kernel
theorem dX7_drift_16 : decode cX7_drift 16 = .ok (.ifCond .ne 5, 3) := by decide +kernel
theorem dX7_drift_19 : decode cX7_drift 19 = .ok (.iconst (-1), 1) := by decide +kernel
theorem dX7_drift_20 : decode cX7_drift 20 = .ok (.ireturn, 1) := by decide +kernel
theorem dX7_drift_21 : decode cX7_drift 21 = .ok (.iload_n 1, 1) := by decide +kernel
theorem dX7_drift_22 : decode cX7_drift 22 = .ok (.istore 4, 2) := by decide +kernel
theorem dX7_drift_24 : decode cX7_drift 24 = .ok (.iconst 0, 1) := by decide +kernel
theorem dX7_drift_25 : decode cX7_drift 25 = .ok (.istore 5, 2) := by decide +kernel
theorem dX7_drift_27 : decode cX7_drift 27 = .ok (.aload_n 0, 1) := by decide +kernel
theorem dX7_drift_28 : decode cX7_drift 28 = .ok (.invokevirtual 228, 3) := by decide +kernel
theorem dX7_drift_31 : decode cX7_drift 31 = .ok (.iconst 0, 1) := by decide +kernel
theorem dX7_drift_32 : decode cX7_drift 32 = .ok (.istore 6, 2) := by decide +kernel
theorem dX7_drift_34 : decode cX7_drift 34 = .ok (.iload 6, 2) := by decide +kernel
theorem dX7_drift_36 : decode cX7_drift 36 = .ok (.iload_n 2, 1) := by decide +kernel
theorem dX7_drift_37 : decode cX7_drift 37 = .ok (.if_icmp .ge 82, 3) := by decide +kernel
theorem dX7_drift_40 : decode cX7_drift 40 = .ok (.iconst 0, 1) := by decide +kernel
theorem dX7_drift_41 : decode cX7_drift 41 = .ok (.istore 7, 2) := by decide +kernel
theorem dX7_drift_43 : decode cX7_drift 43 = .ok (.iload 7, 2) := by decide +kernel
theorem dX7_drift_45 : decode cX7_drift 45 = .ok (.aload_n 0, 1) := by decide +kernel
theorem dX7_drift_46 : decode cX7_drift 46 = .ok (.getfield 69, 3) := by decide +kernel
theorem dX7_drift_49 : decode cX7_drift 49 = .ok (.if_icmp .ge 40, 3) := by decide +kernel
theorem dX7_drift_52 : decode cX7_drift 52 = .ok (.iload 4, 2) := by decide +kernel
theorem dX7_drift_54 : decode cX7_drift 54 = .ok (.ldc_w 323, 3) := by decide +kernel
theorem dX7_drift_57 : decode cX7_drift 57 = .ok (.imul, 1) := by decide +kernel
theorem dX7_drift_58 : decode cX7_drift 58 = .ok (.sipush 12345, 3) := by decide +kernel
theorem dX7_drift_61 : decode cX7_drift 61 = .ok (.iadd, 1) := by decide +kernel
theorem dX7_drift_62 : decode cX7_drift 62 = .ok (.istore 4, 2) := by decide +kernel
theorem dX7_drift_64 : decode cX7_drift 64 = .ok (.aload_n 0, 1) := by decide +kernel
theorem dX7_drift_65 : decode cX7_drift 65 = .ok (.iload 7, 2) := by decide +kernel
theorem dX7_drift_67 : decode cX7_drift 67 = .ok (.iconst 2, 1) := by decide +kernel
theorem dX7_drift_68 : decode cX7_drift 68 = .ok (.iload 4, 2) := by decide +kernel
theorem dX7_drift_70 : decode cX7_drift 70 = .ok (.bipush 16, 2) := by decide +kernel
theorem dX7_drift_72 : decode cX7_drift 72 = .ok (.ishr, 1) := by decide +kernel
theorem dX7_drift_73 : decode cX7_drift 73 = .ok (.sipush 32767, 3) := by decide +kernel
theorem dX7_drift_76 : decode cX7_drift 76 = .ok (.iand, 1) := by decide +kernel
theorem dX7_drift_77 : decode cX7_drift 77 = .ok (.bipush 40, 2) := by decide +kernel
theorem dX7_drift_79 : decode cX7_drift 79 = .ok (.irem, 1) := by decide +kernel
theorem dX7_drift_80 : decode cX7_drift 80 = .ok (.invokevirtual 274, 3) := by decide +kernel
theorem dX7_drift_83 : decode cX7_drift 83 = .ok (.iinc 7 1, 3) := by decide +kernel
theorem dX7_drift_86 : decode cX7_drift 86 = .ok (.goto (-43), 3) := by decide +kernel
theorem dX7_drift_89 : decode cX7_drift 89 = .ok (.aload_n 0, 1) := by decide +kernel
theorem dX7_drift_90 : decode cX7_drift 90 = .ok (.invokevirtual 231, 3) := by decide +kernel
theorem dX7_drift_93 : decode cX7_drift 93 = .ok (.iload 5, 2) := by decide +kernel
theorem dX7_drift_95 : decode cX7_drift 95 = .ok (.iload_n 3, 1) := by decide +kernel
theorem dX7_drift_96 : decode cX7_drift 96 = .ok (.ifCond .ne 10, 3) := by decide +kernel
theorem dX7_drift_99 : decode cX7_drift 99 = .ok (.aload_n 0, 1) := by decide +kernel
theorem dX7_drift_100 : decode cX7_drift 100 = .ok (.invokevirtual 225, 3) := by decide +kernel
theorem dX7_drift_103 : decode cX7_drift 103 = .ok (.goto 7, 3) := by decide +kernel
theorem dX7_drift_106 : decode cX7_drift 106 = .ok (.aload_n 0, 1) := by decide +kernel
theorem dX7_drift_107 : decode cX7_drift 107 = .ok (.getfield 178, 3) := by decide +kernel
theorem dX7_drift_110 : decode cX7_drift 110 = .ok (.iadd, 1) := by decide +kernel
theorem dX7_drift_111 : decode cX7_drift 111 = .ok (.istore 5, 2) := by decide +kernel
theorem dX7_drift_113 : decode cX7_drift 113 = .ok (.iinc 6 1, 3) := by decide +kernel
theorem dX7_drift_116 : decode cX7_drift 116 = .ok (.goto (-82), 3) := by decide +kernel
theorem dX7_drift_119 : decode cX7_drift 119 = .ok (.iload 5, 2) := by decide +kernel
theorem dX7_drift_121 : decode cX7_drift 121 = .ok (.ireturn, 1) := by decide +kernel
theorem dX7_copies_0 : decode cX7_copies 0 = .ok (.iconst 0, 1) := by decide +kernel
theorem dX7_copies_1 : decode cX7_copies 1 = .ok (.istore_n 3, 1) := by decide +kernel
theorem dX7_copies_2 : decode cX7_copies 2 = .ok (.iload_n 3, 1) := by decide +kernel
theorem dX7_copies_3 : decode cX7_copies 3 = .ok (.bipush 55, 2) := by decide +kernel
theorem dX7_copies_5 : decode cX7_copies 5 = .ok (.if_icmp .ge 25, 3) := by decide +kernel
theorem dX7_copies_8 : decode cX7_copies 8 = .ok (.aload_n 0, 1) := by decide +kernel
theorem dX7_copies_9 : decode cX7_copies 9 = .ok (.getfield 7, 3) := by decide +kernel
theorem dX7_copies_12 : decode cX7_copies 12 = .ok (.iload_n 1, 1) := by decide +kernel
theorem dX7_copies_13 : decode cX7_copies 13 = .ok (.iload_n 3, 1) := by decide +kernel
theorem dX7_copies_14 : decode cX7_copies 14 = .ok (.iadd, 1) := by decide +kernel
theorem dX7_copies_15 : decode cX7_copies 15 = .ok (.aload_n 0, 1) := by decide +kernel
theorem dX7_copies_16 : decode cX7_copies 16 = .ok (.getfield 7, 3) := by decide +kernel
theorem dX7_copies_19 : decode cX7_copies 19 = .ok (.iload_n 2, 1) := by decide +kernel
theorem dX7_copies_20 : decode cX7_copies 20 = .ok (.iload_n 3, 1) := by decide +kernel
theorem dX7_copies_21 : decode cX7_copies 21 = .ok (.iadd, 1) := by decide +kernel
theorem dX7_copies_22 : decode cX7_copies 22 = .ok (.iaload, 1) := by decide +kernel
theorem dX7_copies_23 : decode cX7_copies 23 = .ok (.iastore, 1) := by decide +kernel
theorem dX7_copies_24 : decode cX7_copies 24 = .ok (.iinc 3 1, 3) := by decide +kernel
theorem dX7_copies_27 : decode cX7_copies 27 = .ok (.goto (-25), 3) := by decide +kernel
theorem dX7_copies_30 : decode cX7_copies 30 = .ok (.return_, 1) := by decide +kernel
theorem dX7_keep_0 : decode cX7_keep 0 = .ok (.iload_n 1, 1) := by decide +kernel
theorem dX7_keep_1 : decode cX7_keep 1 = .ok (.i2l, 1) := by decide +kernel
theorem dX7_keep_2 : decode cX7_keep 2 = .ok (.lconst 0, 1) := by decide +kernel
theorem dX7_keep_3 : decode cX7_keep 3 = .ok (.lconst 1, 1) := by decide +kernel
theorem dX7_keep_4 : decode cX7_keep 4 = .ok (.invokestatic 74, 3) := by decide +kernel
theorem dX7_keep_7 : decode cX7_keep 7 = .ok (.ifCond .ne 5, 3) := by decide +kernel
theorem dX7_keep_10 : decode cX7_keep 10 = .ok (.iconst (-1), 1) := by decide +kernel
theorem dX7_keep_11 : decode cX7_keep 11 = .ok (.ireturn, 1) := by decide +kernel
theorem dX7_keep_12 : decode cX7_keep 12 = .ok (.aload_n 0, 1) := by decide +kernel
theorem dX7_keep_13 : decode cX7_keep 13 = .ok (.getfield 16, 3) := by decide +kernel
theorem dX7_keep_16 : decode cX7_keep 16 = .ok (.iload_n 1, 1) := by decide +kernel
theorem dX7_keep_17 : decode cX7_keep 17 = .ok (.baload, 1) := by decide +kernel
theorem dX7_keep_18 : decode cX7_keep 18 = .ok (.invokestatic 184, 3) := by decide +kernel
theorem dX7_keep_21 : decode cX7_keep 21 = .ok (.istore_n 2, 1) := by decide +kernel
theorem dX7_keep_22 : decode cX7_keep 22 = .ok (.aload_n 0, 1) := by decide +kernel
theorem dX7_keep_23 : decode cX7_keep 23 = .ok (.getfield 16, 3) := by decide +kernel
theorem dX7_keep_26 : decode cX7_keep 26 = .ok (.iload_n 1, 1) := by decide +kernel
theorem dX7_keep_27 : decode cX7_keep 27 = .ok (.iconst 1, 1) := by decide +kernel
theorem dX7_keep_28 : decode cX7_keep 28 = .ok (.bastore, 1) := by decide +kernel
theorem dX7_keep_29 : decode cX7_keep 29 = .ok (.aload_n 0, 1) := by decide +kernel
theorem dX7_keep_30 : decode cX7_keep 30 = .ok (.bipush 55, 2) := by decide +kernel
theorem dX7_keep_32 : decode cX7_keep 32 = .ok (.iload_n 1, 1) := by decide +kernel
theorem dX7_keep_33 : decode cX7_keep 33 = .ok (.iconst 1, 1) := by decide +kernel
theorem dX7_keep_34 : decode cX7_keep 34 = .ok (.iadd, 1) := by decide +kernel
theorem dX7_keep_35 : decode cX7_keep 35 = .ok (.imul, 1) := by decide +kernel
theorem dX7_keep_36 : decode cX7_keep 36 = .ok (.iconst 0, 1) := by decide +kernel
theorem dX7_keep_37 : decode cX7_keep 37 = .ok (.invokevirtual 324, 3) := by decide +kernel
theorem dX7_keep_40 : decode cX7_keep 40 = .ok (.iload_n 2, 1) := by decide +kernel
theorem dX7_keep_41 : decode cX7_keep 41 = .ok (.ireturn, 1) := by decide +kernel
theorem dX7_back_0 : decode cX7_back 0 = .ok (.iload_n 1, 1) := by decide +kernel
theorem dX7_back_1 : decode cX7_back 1 = .ok (.i2l, 1) := by decide +kernel
theorem dX7_back_2 : decode cX7_back 2 = .ok (.lconst 0, 1) := by decide +kernel
theorem dX7_back_3 : decode cX7_back 3 = .ok (.lconst 1, 1) := by decide +kernel
theorem dX7_back_4 : decode cX7_back 4 = .ok (.invokestatic 74, 3) := by decide +kernel
theorem dX7_back_7 : decode cX7_back 7 = .ok (.ifCond .ne 5, 3) := by decide +kernel
theorem dX7_back_10 : decode cX7_back 10 = .ok (.iconst (-1), 1) := by decide +kernel
theorem dX7_back_11 : decode cX7_back 11 = .ok (.ireturn, 1) := by decide +kernel
theorem dX7_back_12 : decode cX7_back 12 = .ok (.aload_n 0, 1) := by decide +kernel
theorem dX7_back_13 : decode cX7_back 13 = .ok (.getfield 16, 3) := by decide +kernel
theorem dX7_back_16 : decode cX7_back 16 = .ok (.iload_n 1, 1) := by decide +kernel
theorem dX7_back_17 : decode cX7_back 17 = .ok (.baload, 1) := by decide +kernel
theorem dX7_back_18 : decode cX7_back 18 = .ok (.ifCond .ne 6, 3) := by decide +kernel
theorem dX7_back_21 : decode cX7_back 21 = .ok (.bipush (-2), 2) := by decide +kernel
theorem dX7_back_23 : decode cX7_back 23 = .ok (.ireturn, 1) := by decide +kernel
theorem dX7_back_24 : decode cX7_back 24 = .ok (.aload_n 0, 1) := by decide +kernel
theorem dX7_back_25 : decode cX7_back 25 = .ok (.iconst 0, 1) := by decide +kernel
theorem dX7_back_26 : decode cX7_back 26 = .ok (.bipush 55, 2) := by decide +kernel
theorem dX7_back_28 : decode cX7_back 28 = .ok (.iload_n 1, 1) := by decide +kernel
theorem dX7_back_29 : decode cX7_back 29 = .ok (.iconst 1, 1) := by decide +kernel
theorem dX7_back_30 : decode cX7_back 30 = .ok (.iadd, 1) := by decide +kernel
theorem dX7_back_31 : decode cX7_back 31 = .ok (.imul, 1) := by decide +kernel
theorem dX7_back_32 : decode cX7_back 32 = .ok (.invokevirtual 324, 3) := by decide +kernel
theorem dX7_back_35 : decode cX7_back 35 = .ok (.aload_n 0, 1) := by decide +kernel
theorem dX7_back_36 : decode cX7_back 36 = .ok (.invokevirtual 256, 3) := by decide +kernel
theorem dX7_back_39 : decode cX7_back 39 = .ok (.aload_n 0, 1) := by decide +kernel
theorem dX7_back_40 : decode cX7_back 40 = .ok (.iconst 3, 1) := by decide +kernel
theorem dX7_back_41 : decode cX7_back 41 = .ok (.invokevirtual 259, 3) := by decide +kernel
theorem dX7_back_44 : decode cX7_back 44 = .ok (.ireturn, 1) := by decide +kernel
theorem dX7_isSheet_0 : decode cX7_isSheet 0 = .ok (.iload_n 0, 1) := by decide +kernel
theorem dX7_isSheet_1 : decode cX7_isSheet 1 = .ok (.i2l, 1) := by decide +kernel
theorem dX7_isSheet_2 : decode cX7_isSheet 2 = .ok (.lconst 0, 1) := by decide +kernel
theorem dX7_isSheet_3 : decode cX7_isSheet 3 = .ok (.ldc2_w 250, 3) := by decide +kernel
theorem dX7_isSheet_6 : decode cX7_isSheet 6 = .ok (.invokestatic 74, 3) := by decide +kernel
theorem dX7_isSheet_9 : decode cX7_isSheet 9 = .ok (.ifCond .eq 19, 3) := by decide +kernel
theorem dX7_isSheet_12 : decode cX7_isSheet 12 = .ok (.iload_n 1, 1) := by decide +kernel
theorem dX7_isSheet_13 : decode cX7_isSheet 13 = .ok (.i2l, 1) := by decide +kernel
theorem dX7_isSheet_14 : decode cX7_isSheet 14 = .ok (.lconst 0, 1) := by decide +kernel
theorem dX7_isSheet_15 : decode cX7_isSheet 15 = .ok (.ldc2_w 153, 3) := by decide +kernel
theorem dX7_isSheet_18 : decode cX7_isSheet 18 = .ok (.invokestatic 74, 3) := by decide +kernel
theorem dX7_isSheet_21 : decode cX7_isSheet 21 = .ok (.ifCond .eq 7, 3) := by decide +kernel
theorem dX7_isSheet_24 : decode cX7_isSheet 24 = .ok (.iconst 1, 1) := by decide +kernel
theorem dX7_isSheet_25 : decode cX7_isSheet 25 = .ok (.goto 4, 3) := by decide +kernel
theorem dX7_isSheet_28 : decode cX7_isSheet 28 = .ok (.iconst 0, 1) := by decide +kernel
theorem dX7_isSheet_29 : decode cX7_isSheet 29 = .ok (.ireturn, 1) := by decide +kernel
theorem dX7_sheet_0 : decode cX7_sheet 0 = .ok (.iload_n 1, 1) := by decide +kernel
theorem dX7_sheet_1 : decode cX7_sheet 1 = .ok (.iload_n 2, 1) := by decide +kernel
theorem dX7_sheet_2 : decode cX7_sheet 2 = .ok (.invokestatic 328, 3) := by decide +kernel
theorem dX7_sheet_5 : decode cX7_sheet 5 = .ok (.ifCond .eq 9, 3) := by decide +kernel
theorem dX7_sheet_8 : decode cX7_sheet 8 = .ok (.iload_n 3, 1) := by decide +kernel
theorem dX7_sheet_9 : decode cX7_sheet 9 = .ok (.bipush 40, 2) := by decide +kernel
theorem dX7_sheet_11 : decode cX7_sheet 11 = .ok (.if_icmp .le 5, 3) := by decide +kernel
theorem dX7_sheet_14 : decode cX7_sheet 14 = .ok (.iconst (-1), 1) := by decide +kernel
theorem dX7_sheet_15 : decode cX7_sheet 15 = .ok (.ireturn, 1) := by decide +kernel
theorem dX7_sheet_16 : decode cX7_sheet 16 = .ok (.iload_n 3, 1) := by decide +kernel
theorem dX7_sheet_17 : decode cX7_sheet 17 = .ok (.ifCond .ge 6, 3) := by decide +kernel
theorem dX7_sheet_20 : decode cX7_sheet 20 = .ok (.bipush (-14), 2) := by decide +kernel
theorem dX7_sheet_22 : decode cX7_sheet 22 = .ok (.ireturn, 1) := by decide +kernel
theorem dX7_sheet_23 : decode cX7_sheet 23 = .ok (.aload_n 0, 1) := by decide +kernel
theorem dX7_sheet_24 : decode cX7_sheet 24 = .ok (.getfield 38, 3) := by decide +kernel
theorem dX7_sheet_27 : decode cX7_sheet 27 = .ok (.iload_n 1, 1) := by decide +kernel
theorem dX7_sheet_28 : decode cX7_sheet 28 = .ok (.iload_n 2, 1) := by decide +kernel
theorem dX7_sheet_29 : decode cX7_sheet 29 = .ok (.iastore, 1) := by decide +kernel
theorem dX7_sheet_30 : decode cX7_sheet 30 = .ok (.aload_n 0, 1) := by decide +kernel
theorem dX7_sheet_31 : decode cX7_sheet 31 = .ok (.getfield 41, 3) := by decide +kernel
theorem dX7_sheet_34 : decode cX7_sheet 34 = .ok (.iload_n 1, 1) := by decide +kernel
theorem dX7_sheet_35 : decode cX7_sheet 35 = .ok (.iload_n 3, 1) := by decide +kernel
theorem dX7_sheet_36 : decode cX7_sheet 36 = .ok (.iastore, 1) := by decide +kernel
theorem dX7_sheet_37 : decode cX7_sheet 37 = .ok (.iconst 0, 1) := by decide +kernel
theorem dX7_sheet_38 : decode cX7_sheet 38 = .ok (.istore 4, 2) := by decide +kernel
theorem dX7_sheet_40 : decode cX7_sheet 40 = .ok (.iload 4, 2) := by decide +kernel
theorem dX7_sheet_42 : decode cX7_sheet 42 = .ok (.bipush 40, 2) := by decide +kernel
theorem dX7_sheet_44 : decode cX7_sheet 44 = .ok (.if_icmp .ge 22, 3) := by decide +kernel
theorem dX7_sheet_47 : decode cX7_sheet 47 = .ok (.aload_n 0, 1) := by decide +kernel
theorem dX7_sheet_48 : decode cX7_sheet 48 = .ok (.getfield 44, 3) := by decide +kernel
theorem dX7_sheet_51 : decode cX7_sheet 51 = .ok (.bipush 40, 2) := by decide +kernel
theorem dX7_sheet_53 : decode cX7_sheet 53 = .ok (.iload_n 1, 1) := by decide +kernel
theorem dX7_sheet_54 : decode cX7_sheet 54 = .ok (.imul, 1) := by decide +kernel
theorem dX7_sheet_55 : decode cX7_sheet 55 = .ok (.iload 4, 2) := by decide +kernel
theorem dX7_sheet_57 : decode cX7_sheet 57 = .ok (.iadd, 1) := by decide +kernel
theorem dX7_sheet_58 : decode cX7_sheet 58 = .ok (.iconst 0, 1) := by decide +kernel
theorem dX7_sheet_59 : decode cX7_sheet 59 = .ok (.iastore, 1) := by decide +kernel
theorem dX7_sheet_60 : decode cX7_sheet 60 = .ok (.iinc 4 1, 3) := by decide +kernel
theorem dX7_sheet_63 : decode cX7_sheet 63 = .ok (.goto (-23), 3) := by decide +kernel
theorem dX7_sheet_66 : decode cX7_sheet 66 = .ok (.iconst 1, 1) := by decide +kernel
theorem dX7_sheet_67 : decode cX7_sheet 67 = .ok (.ireturn, 1) := by decide +kernel
theorem dX7_lay_0 : decode cX7_lay 0 = .ok (.iload_n 1, 1) := by decide +kernel
theorem dX7_lay_1 : decode cX7_lay 1 = .ok (.iconst 0, 1) := by decide +kernel
theorem dX7_lay_2 : decode cX7_lay 2 = .ok (.invokestatic 328, 3) := by decide +kernel
theorem dX7_lay_5 : decode cX7_lay 5 = .ok (.ifCond .ne 5, 3) := by decide +kernel
theorem dX7_lay_8 : decode cX7_lay 8 = .ok (.iconst (-1), 1) := by decide +kernel
theorem dX7_lay_9 : decode cX7_lay 9 = .ok (.ireturn, 1) := by decide +kernel
theorem dX7_lay_10 : decode cX7_lay 10 = .ok (.aload_n 0, 1) := by decide +kernel
theorem dX7_lay_11 : decode cX7_lay 11 = .ok (.getfield 38, 3) := by decide +kernel
theorem dX7_lay_14 : decode cX7_lay 14 = .ok (.iload_n 1, 1) := by decide +kernel
theorem dX7_lay_15 : decode cX7_lay 15 = .ok (.iaload, 1) := by decide +kernel
theorem dX7_lay_16 : decode cX7_lay 16 = .ok (.bipush (-4), 2) := by decide +kernel
theorem dX7_lay_18 : decode cX7_lay 18 = .ok (.if_icmp .ne 6, 3) := by decide +kernel
theorem dX7_lay_21 : decode cX7_lay 21 = .ok (.bipush (-11), 2) := by decide +kernel
theorem dX7_lay_23 : decode cX7_lay 23 = .ok (.ireturn, 1) := by decide +kernel
theorem dX7_lay_24 : decode cX7_lay 24 = .ok (.iload_n 2, 1) := by decide +kernel
theorem dX7_lay_25 : decode cX7_lay 25 = .ok (.i2l, 1) := by decide +kernel
theorem dX7_lay_26 : decode cX7_lay 26 = .ok (.lconst 0, 1) := by decide +kernel
theorem dX7_lay_27 : decode cX7_lay 27 = .ok (.aload_n 0, 1) := by decide +kernel
theorem dX7_lay_28 : decode cX7_lay 28 = .ok (.getfield 41, 3) := by decide +kernel
theorem dX7_lay_31 : decode cX7_lay 31 = .ok (.iload_n 1, 1) := by decide +kernel
theorem dX7_lay_32 : decode cX7_lay 32 = .ok (.iaload, 1) := by decide +kernel
theorem dX7_lay_33 : decode cX7_lay 33 = .ok (.iconst 1, 1) := by decide +kernel
theorem dX7_lay_34 : decode cX7_lay 34 = .ok (.isub, 1) := by decide +kernel
theorem dX7_lay_35 : decode cX7_lay 35 = .ok (.i2l, 1) := by decide +kernel
theorem dX7_lay_36 : decode cX7_lay 36 = .ok (.invokestatic 74, 3) := by decide +kernel
theorem dX7_lay_39 : decode cX7_lay 39 = .ok (.ifCond .ne 6, 3) := by decide +kernel
theorem dX7_lay_42 : decode cX7_lay 42 = .ok (.bipush (-12), 2) := by decide +kernel
theorem dX7_lay_44 : decode cX7_lay 44 = .ok (.ireturn, 1) := by decide +kernel
theorem dX7_lay_45 : decode cX7_lay 45 = .ok (.aload_n 0, 1) := by decide +kernel
theorem dX7_lay_46 : decode cX7_lay 46 = .ok (.getfield 44, 3) := by decide +kernel
theorem dX7_lay_49 : decode cX7_lay 49 = .ok (.bipush 40, 2) := by decide +kernel
theorem dX7_lay_51 : decode cX7_lay 51 = .ok (.iload_n 1, 1) := by decide +kernel
theorem dX7_lay_52 : decode cX7_lay 52 = .ok (.imul, 1) := by decide +kernel
theorem dX7_lay_53 : decode cX7_lay 53 = .ok (.iload_n 2, 1) := by decide +kernel
theorem dX7_lay_54 : decode cX7_lay 54 = .ok (.iadd, 1) := by decide +kernel
theorem dX7_lay_55 : decode cX7_lay 55 = .ok (.aload_n 0, 1) := by decide +kernel
theorem dX7_lay_56 : decode cX7_lay 56 = .ok (.getfield 38, 3) := by decide +kernel
theorem dX7_lay_59 : decode cX7_lay 59 = .ok (.iload_n 1, 1) := by decide +kernel
theorem dX7_lay_60 : decode cX7_lay 60 = .ok (.iaload, 1) := by decide +kernel
theorem dX7_lay_61 : decode cX7_lay 61 = .ok (.ifCond .ne 8, 3) := by decide +kernel
theorem dX7_lay_64 : decode cX7_lay 64 = .ok (.iload_n 3, 1) := by decide +kernel
theorem dX7_lay_65 : decode cX7_lay 65 = .ok (.i2b, 1) := by decide +kernel
theorem dX7_lay_66 : decode cX7_lay 66 = .ok (.goto 19, 3) := by decide +kernel
theorem dX7_lay_69 : decode cX7_lay 69 = .ok (.aload_n 0, 1) := by decide +kernel
theorem dX7_lay_70 : decode cX7_lay 70 = .ok (.getfield 38, 3) := by decide +kernel
theorem dX7_lay_73 : decode cX7_lay 73 = .ok (.iload_n 1, 1) := by decide +kernel
theorem dX7_lay_74 : decode cX7_lay 74 = .ok (.iaload, 1) := by decide +kernel
theorem dX7_lay_75 : decode cX7_lay 75 = .ok (.iconst 1, 1) := by decide +kernel
theorem dX7_lay_76 : decode cX7_lay 76 = .ok (.if_icmp .ne 8, 3) := by decide +kernel
theorem dX7_lay_79 : decode cX7_lay 79 = .ok (.iload_n 3, 1) := by decide +kernel
theorem dX7_lay_80 : decode cX7_lay 80 = .ok (.i2s, 1) := by decide +kernel
theorem dX7_lay_81 : decode cX7_lay 81 = .ok (.goto 4, 3) := by decide +kernel
theorem dX7_lay_84 : decode cX7_lay 84 = .ok (.iload_n 3, 1) := by decide +kernel
theorem dX7_lay_85 : decode cX7_lay 85 = .ok (.iastore, 1) := by decide +kernel
theorem dX7_lay_86 : decode cX7_lay 86 = .ok (.iconst 1, 1) := by decide +kernel
theorem dX7_lay_87 : decode cX7_lay 87 = .ok (.ireturn, 1) := by decide +kernel
theorem dX7_read_0 : decode cX7_read 0 = .ok (.iload_n 1, 1) := by decide +kernel
theorem dX7_read_1 : decode cX7_read 1 = .ok (.iload_n 2, 1) := by decide +kernel
theorem dX7_read_2 : decode cX7_read 2 = .ok (.invokestatic 328, 3) := by decide +kernel
theorem dX7_read_5 : decode cX7_read 5 = .ok (.ifCond .eq 16, 3) := by decide +kernel
theorem dX7_read_8 : decode cX7_read 8 = .ok (.iload 4, 2) := by decide +kernel
theorem dX7_read_10 : decode cX7_read 10 = .ok (.i2l, 1) := by decide +kernel
theorem dX7_read_11 : decode cX7_read 11 = .ok (.lconst 0, 1) := by decide +kernel
theorem dX7_read_12 : decode cX7_read 12 = .ok (.ldc2_w 321, 3) := by decide +kernel
theorem dX7_read_15 : decode cX7_read 15 = .ok (.invokestatic 74, 3) := by decide +kernel
theorem dX7_read_18 : decode cX7_read 18 = .ok (.ifCond .ne 5, 3) := by decide +kernel
theorem dX7_read_21 : decode cX7_read 21 = .ok (.iconst (-1), 1) := by decide +kernel
theorem dX7_read_22 : decode cX7_read 22 = .ok (.ireturn, 1) := by decide +kernel
theorem dX7_read_23 : decode cX7_read 23 = .ok (.iconst 0, 1) := by decide +kernel
theorem dX7_read_24 : decode cX7_read 24 = .ok (.istore 5, 2) := by decide +kernel
theorem dX7_read_26 : decode cX7_read 26 = .ok (.iload 5, 2) := by decide +kernel
theorem dX7_read_28 : decode cX7_read 28 = .ok (.bipush 55, 2) := by decide +kernel
theorem dX7_read_30 : decode cX7_read 30 = .ok (.if_icmp .ge 23, 3) := by decide +kernel
theorem dX7_read_33 : decode cX7_read 33 = .ok (.aload_n 0, 1) := by decide +kernel
theorem dX7_read_34 : decode cX7_read 34 = .ok (.getfield 47, 3) := by decide +kernel
theorem dX7_read_37 : decode cX7_read 37 = .ok (.iload 5, 2) := by decide +kernel
theorem dX7_read_39 : decode cX7_read 39 = .ok (.aload_n 0, 1) := by decide +kernel
theorem dX7_read_40 : decode cX7_read 40 = .ok (.getfield 7, 3) := by decide +kernel
theorem dX7_read_43 : decode cX7_read 43 = .ok (.iload 5, 2) := by decide +kernel
theorem dX7_read_45 : decode cX7_read 45 = .ok (.iaload, 1) := by decide +kernel
theorem dX7_read_46 : decode cX7_read 46 = .ok (.iastore, 1) := by decide +kernel
theorem dX7_read_47 : decode cX7_read 47 = .ok (.iinc 5 1, 3) := by decide +kernel
theorem dX7_read_50 : decode cX7_read 50 = .ok (.goto (-24), 3) := by decide +kernel
theorem dX7_read_53 : decode cX7_read 53 = .ok (.iconst 0, 1) := by decide +kernel
theorem dX7_read_54 : decode cX7_read 54 = .ok (.istore 5, 2) := by decide +kernel
theorem dX7_read_56 : decode cX7_read 56 = .ok (.iconst 0, 1) := by decide +kernel
theorem dX7_read_57 : decode cX7_read 57 = .ok (.istore 6, 2) := by decide +kernel
theorem dX7_read_59 : decode cX7_read 59 = .ok (.iconst 0, 1) := by decide +kernel
theorem dX7_read_60 : decode cX7_read 60 = .ok (.istore 7, 2) := by decide +kernel
theorem dX7_read_62 : decode cX7_read 62 = .ok (.iload 7, 2) := by decide +kernel
theorem dX7_read_64 : decode cX7_read 64 = .ok (.iload 4, 2) := by decide +kernel
theorem dX7_read_66 : decode cX7_read 66 = .ok (.if_icmp .ge 186, 3) := by decide +kernel
theorem dX7_read_69 : decode cX7_read 69 = .ok (.iload 5, 2) := by decide +kernel
theorem dX7_read_71 : decode cX7_read 71 = .ok (.ifCond .ne 181, 3) := by decide +kernel
theorem dX7_read_74 : decode cX7_read 74 = .ok (.iconst 0, 1) := by decide +kernel
theorem dX7_read_75 : decode cX7_read 75 = .ok (.istore 8, 2) := by decide +kernel
theorem dX7_read_77 : decode cX7_read 77 = .ok (.iload 8, 2) := by decide +kernel
theorem dX7_read_79 : decode cX7_read 79 = .ok (.iconst 2, 1) := by decide +kernel
theorem dX7_read_80 : decode cX7_read 80 = .ok (.if_icmp .ge 84, 3) := by decide +kernel
theorem dX7_read_83 : decode cX7_read 83 = .ok (.iload 5, 2) := by decide +kernel
theorem dX7_read_85 : decode cX7_read 85 = .ok (.ifCond .ne 79, 3) := by decide +kernel
theorem dX7_read_88 : decode cX7_read 88 = .ok (.iload_n 3, 1) := by decide +kernel
theorem dX7_read_89 : decode cX7_read 89 = .ok (.i2l, 1) := by decide +kernel
theorem dX7_read_90 : decode cX7_read 90 = .ok (.iconst 2, 1) := by decide +kernel
theorem dX7_read_91 : decode cX7_read 91 = .ok (.iload 7, 2) := by decide +kernel
theorem dX7_read_93 : decode cX7_read 93 = .ok (.imul, 1) := by decide +kernel
theorem dX7_read_94 : decode cX7_read 94 = .ok (.i2l, 1) := by decide +kernel
theorem dX7_read_95 : decode cX7_read 95 = .ok (.ladd, 1) := by decide +kernel
theorem dX7_read_96 : decode cX7_read 96 = .ok (.iload 8, 2) := by decide +kernel
theorem dX7_read_98 : decode cX7_read 98 = .ok (.i2l, 1) := by decide +kernel
theorem dX7_read_99 : decode cX7_read 99 = .ok (.ladd, 1) := by decide +kernel
theorem dX7_read_100 : decode cX7_read 100 = .ok (.lstore 9, 2) := by decide +kernel
theorem dX7_read_102 : decode cX7_read 102 = .ok (.aload_n 0, 1) := by decide +kernel
theorem dX7_read_103 : decode cX7_read 103 = .ok (.getfield 38, 3) := by decide +kernel
theorem dX7_read_106 : decode cX7_read 106 = .ok (.iload_n 1, 1) := by decide +kernel
theorem dX7_read_107 : decode cX7_read 107 = .ok (.iaload, 1) := by decide +kernel
theorem dX7_read_108 : decode cX7_read 108 = .ok (.bipush (-4), 2) := by decide +kernel
theorem dX7_read_110 : decode cX7_read 110 = .ok (.if_icmp .ne 7, 3) := by decide +kernel
theorem dX7_read_113 : decode cX7_read 113 = .ok (.iconst 1, 1) := by decide +kernel
theorem dX7_read_114 : decode cX7_read 114 = .ok (.goto 42, 3) := by decide +kernel
theorem dX7_read_117 : decode cX7_read 117 = .ok (.aload_n 0, 1) := by decide +kernel
theorem dX7_read_118 : decode cX7_read 118 = .ok (.getfield 38, 3) := by decide +kernel
theorem dX7_read_121 : decode cX7_read 121 = .ok (.iload_n 1, 1) := by decide +kernel
theorem dX7_read_122 : decode cX7_read 122 = .ok (.iaload, 1) := by decide +kernel
theorem dX7_read_123 : decode cX7_read 123 = .ok (.iload_n 2, 1) := by decide +kernel
theorem dX7_read_124 : decode cX7_read 124 = .ok (.if_icmp .eq 7, 3) := by decide +kernel
theorem dX7_read_127 : decode cX7_read 127 = .ok (.iconst 3, 1) := by decide +kernel
theorem dX7_read_128 : decode cX7_read 128 = .ok (.goto 28, 3) := by decide +kernel
theorem dX7_read_131 : decode cX7_read 131 = .ok (.lload 9, 2) := by decide +kernel
theorem dX7_read_133 : decode cX7_read 133 = .ok (.lconst 0, 1) := by decide +kernel
theorem dX7_read_134 : decode cX7_read 134 = .ok (.lcmp, 1) := by decide +kernel
theorem dX7_read_135 : decode cX7_read 135 = .ok (.ifCond .lt 16, 3) := by decide +kernel
theorem dX7_read_138 : decode cX7_read 138 = .ok (.lload 9, 2) := by decide +kernel
theorem dX7_read_140 : decode cX7_read 140 = .ok (.aload_n 0, 1) := by decide +kernel
theorem dX7_read_141 : decode cX7_read 141 = .ok (.getfield 41, 3) := by decide +kernel
theorem dX7_read_144 : decode cX7_read 144 = .ok (.iload_n 1, 1) := by decide +kernel
theorem dX7_read_145 : decode cX7_read 145 = .ok (.iaload, 1) := by decide +kernel
theorem dX7_read_146 : decode cX7_read 146 = .ok (.i2l, 1) := by decide +kernel
theorem dX7_read_147 : decode cX7_read 147 = .ok (.lcmp, 1) := by decide +kernel
theorem dX7_read_148 : decode cX7_read 148 = .ok (.ifCond .lt 7, 3) := by decide +kernel
theorem dX7_read_151 : decode cX7_read 151 = .ok (.iconst 2, 1) := by decide +kernel
theorem dX7_read_152 : decode cX7_read 152 = .ok (.goto 4, 3) := by decide +kernel
theorem dX7_read_155 : decode cX7_read 155 = .ok (.iconst 0, 1) := by decide +kernel
theorem dX7_read_156 : decode cX7_read 156 = .ok (.istore 5, 2) := by decide +kernel
theorem dX7_read_158 : decode cX7_read 158 = .ok (.iinc 8 1, 3) := by decide +kernel
theorem dX7_read_161 : decode cX7_read 161 = .ok (.goto (-84), 3) := by decide +kernel
theorem dX7_read_164 : decode cX7_read 164 = .ok (.iload 5, 2) := by decide +kernel
theorem dX7_read_166 : decode cX7_read 166 = .ok (.ifCond .ne 80, 3) := by decide +kernel
theorem dX7_read_169 : decode cX7_read 169 = .ok (.bipush 40, 2) := by decide +kernel
theorem dX7_read_171 : decode cX7_read 171 = .ok (.iload_n 1, 1) := by decide +kernel
theorem dX7_read_172 : decode cX7_read 172 = .ok (.imul, 1) := by decide +kernel
theorem dX7_read_173 : decode cX7_read 173 = .ok (.iload_n 3, 1) := by decide +kernel
theorem dX7_read_174 : decode cX7_read 174 = .ok (.iadd, 1) := by decide +kernel
theorem dX7_read_175 : decode cX7_read 175 = .ok (.iconst 2, 1) := by decide +kernel
theorem dX7_read_176 : decode cX7_read 176 = .ok (.iload 7, 2) := by decide +kernel
theorem dX7_read_178 : decode cX7_read 178 = .ok (.imul, 1) := by decide +kernel
theorem dX7_read_179 : decode cX7_read 179 = .ok (.iadd, 1) := by decide +kernel
theorem dX7_read_180 : decode cX7_read 180 = .ok (.istore 8, 2) := by decide +kernel
theorem dX7_read_182 : decode cX7_read 182 = .ok (.aload_n 0, 1) := by decide +kernel
theorem dX7_read_183 : decode cX7_read 183 = .ok (.aload_n 0, 1) := by decide +kernel
theorem dX7_read_184 : decode cX7_read 184 = .ok (.getfield 44, 3) := by decide +kernel
theorem dX7_read_187 : decode cX7_read 187 = .ok (.iload 8, 2) := by decide +kernel
theorem dX7_read_189 : decode cX7_read 189 = .ok (.iaload, 1) := by decide +kernel
theorem dX7_read_190 : decode cX7_read 190 = .ok (.iconst 2, 1) := by decide +kernel
theorem dX7_read_191 : decode cX7_read 191 = .ok (.aload_n 0, 1) := by decide +kernel
theorem dX7_read_192 : decode cX7_read 192 = .ok (.getfield 44, 3) := by decide +kernel
theorem dX7_read_195 : decode cX7_read 195 = .ok (.iload 8, 2) := by decide +kernel
theorem dX7_read_197 : decode cX7_read 197 = .ok (.iconst 1, 1) := by decide +kernel
theorem dX7_read_198 : decode cX7_read 198 = .ok (.iadd, 1) := by decide +kernel
theorem dX7_read_199 : decode cX7_read 199 = .ok (.iaload, 1) := by decide +kernel
theorem dX7_read_200 : decode cX7_read 200 = .ok (.invokevirtual 331, 3) := by decide +kernel
theorem dX7_read_203 : decode cX7_read 203 = .ok (.iconst (-1), 1) := by decide +kernel
theorem dX7_read_204 : decode cX7_read 204 = .ok (.if_icmp .ne 39, 3) := by decide +kernel
theorem dX7_read_207 : decode cX7_read 207 = .ok (.iconst 0, 1) := by decide +kernel
theorem dX7_read_208 : decode cX7_read 208 = .ok (.istore 9, 2) := by decide +kernel
theorem dX7_read_210 : decode cX7_read 210 = .ok (.iload 9, 2) := by decide +kernel
theorem dX7_read_212 : decode cX7_read 212 = .ok (.bipush 55, 2) := by decide +kernel
theorem dX7_read_214 : decode cX7_read 214 = .ok (.if_icmp .ge 23, 3) := by decide +kernel
theorem dX7_read_217 : decode cX7_read 217 = .ok (.aload_n 0, 1) := by decide +kernel
theorem dX7_read_218 : decode cX7_read 218 = .ok (.getfield 7, 3) := by decide +kernel
theorem dX7_read_221 : decode cX7_read 221 = .ok (.iload 9, 2) := by decide +kernel
theorem dX7_read_223 : decode cX7_read 223 = .ok (.aload_n 0, 1) := by decide +kernel
theorem dX7_read_224 : decode cX7_read 224 = .ok (.getfield 47, 3) := by decide +kernel
theorem dX7_read_227 : decode cX7_read 227 = .ok (.iload 9, 2) := by decide +kernel
theorem dX7_read_229 : decode cX7_read 229 = .ok (.iaload, 1) := by decide +kernel
theorem dX7_read_230 : decode cX7_read 230 = .ok (.iastore, 1) := by decide +kernel
theorem dX7_read_231 : decode cX7_read 231 = .ok (.iinc 9 1, 3) := by decide +kernel
theorem dX7_read_234 : decode cX7_read 234 = .ok (.goto (-24), 3) := by decide +kernel
theorem dX7_read_237 : decode cX7_read 237 = .ok (.bipush (-20), 2) := by decide +kernel
theorem dX7_read_239 : decode cX7_read 239 = .ok (.iload 7, 2) := by decide +kernel
theorem dX7_read_241 : decode cX7_read 241 = .ok (.isub, 1) := by decide +kernel
theorem dX7_read_242 : decode cX7_read 242 = .ok (.ireturn, 1) := by decide +kernel
theorem dX7_read_243 : decode cX7_read 243 = .ok (.iinc 6 1, 3) := by decide +kernel
theorem dX7_read_246 : decode cX7_read 246 = .ok (.iinc 7 1, 3) := by decide +kernel
theorem dX7_read_249 : decode cX7_read 249 = .ok (.goto (-187), 3) := by decide +kernel
theorem dX7_read_252 : decode cX7_read 252 = .ok (.aload_n 0, 1) := by decide +kernel
theorem dX7_read_253 : decode cX7_read 253 = .ok (.iload 5, 2) := by decide +kernel
theorem dX7_read_255 : decode cX7_read 255 = .ok (.putfield 335, 3) := by decide +kernel
theorem dX7_read_258 : decode cX7_read 258 = .ok (.iload 6, 2) := by decide +kernel
theorem dX7_read_260 : decode cX7_read 260 = .ok (.ireturn, 1) := by decide +kernel
theorem dX7_torn_0 : decode cX7_torn 0 = .ok (.aload_n 0, 1) := by decide +kernel
theorem dX7_torn_1 : decode cX7_torn 1 = .ok (.getfield 335, 3) := by decide +kernel
theorem dX7_torn_4 : decode cX7_torn 4 = .ok (.ireturn, 1) := by decide +kernel
theorem dX7_count_0 : decode cX7_count 0 = .ok (.aload_n 0, 1) := by decide +kernel
theorem dX7_count_1 : decode cX7_count 1 = .ok (.invokevirtual 228, 3) := by decide +kernel
theorem dX7_count_4 : decode cX7_count 4 = .ok (.iload_n 1, 1) := by decide +kernel
theorem dX7_count_5 : decode cX7_count 5 = .ok (.tableswitch 120 0 5 #[39, 56, 64, 84, 89, 112], 39) := by decide +kernel
theorem dX7_count_44 : decode cX7_count 44 = .ok (.aload_n 0, 1) := by decide +kernel
theorem dX7_count_45 : decode cX7_count 45 = .ok (.iconst 1, 1) := by decide +kernel
theorem dX7_count_46 : decode cX7_count 46 = .ok (.aload_n 0, 1) := by decide +kernel
theorem dX7_count_47 : decode cX7_count 47 = .ok (.getfield 69, 3) := by decide +kernel
theorem dX7_count_50 : decode cX7_count 50 = .ok (.ishl, 1) := by decide +kernel
theorem dX7_count_51 : decode cX7_count 51 = .ok (.iconst 1, 1) := by decide +kernel
theorem dX7_count_52 : decode cX7_count 52 = .ok (.isub, 1) := by decide +kernel
theorem dX7_count_53 : decode cX7_count 53 = .ok (.iconst 0, 1) := by decide +kernel
theorem dX7_count_54 : decode cX7_count 54 = .ok (.invokevirtual 188, 3) := by decide +kernel
theorem dX7_count_57 : decode cX7_count 57 = .ok (.invokestatic 195, 3) := by decide +kernel
theorem dX7_count_60 : decode cX7_count 60 = .ok (.ireturn, 1) := by decide +kernel
theorem dX7_count_61 : decode cX7_count 61 = .ok (.aload_n 0, 1) := by decide +kernel
theorem dX7_count_62 : decode cX7_count 62 = .ok (.getfield 7, 3) := by decide +kernel
theorem dX7_count_65 : decode cX7_count 65 = .ok (.bipush 42, 2) := by decide +kernel
theorem dX7_count_67 : decode cX7_count 67 = .ok (.iaload, 1) := by decide +kernel
theorem dX7_count_68 : decode cX7_count 68 = .ok (.ireturn, 1) := by decide +kernel
theorem dX7_count_69 : decode cX7_count 69 = .ok (.aload_n 0, 1) := by decide +kernel
theorem dX7_count_70 : decode cX7_count 70 = .ok (.getfield 16, 3) := by decide +kernel
theorem dX7_count_73 : decode cX7_count 73 = .ok (.iconst 0, 1) := by decide +kernel
theorem dX7_count_74 : decode cX7_count 74 = .ok (.baload, 1) := by decide +kernel
theorem dX7_count_75 : decode cX7_count 75 = .ok (.invokestatic 184, 3) := by decide +kernel
theorem dX7_count_78 : decode cX7_count 78 = .ok (.aload_n 0, 1) := by decide +kernel
theorem dX7_count_79 : decode cX7_count 79 = .ok (.getfield 16, 3) := by decide +kernel
theorem dX7_count_82 : decode cX7_count 82 = .ok (.iconst 1, 1) := by decide +kernel
theorem dX7_count_83 : decode cX7_count 83 = .ok (.baload, 1) := by decide +kernel
theorem dX7_count_84 : decode cX7_count 84 = .ok (.invokestatic 184, 3) := by decide +kernel
theorem dX7_count_87 : decode cX7_count 87 = .ok (.iadd, 1) := by decide +kernel
theorem dX7_count_88 : decode cX7_count 88 = .ok (.ireturn, 1) := by decide +kernel
theorem dX7_count_89 : decode cX7_count 89 = .ok (.aload_n 0, 1) := by decide +kernel
theorem dX7_count_90 : decode cX7_count 90 = .ok (.getfield 78, 3) := by decide +kernel
theorem dX7_count_93 : decode cX7_count 93 = .ok (.ireturn, 1) := by decide +kernel
theorem dX7_count_94 : decode cX7_count 94 = .ok (.aload_n 0, 1) := by decide +kernel
theorem dX7_count_95 : decode cX7_count 95 = .ok (.getfield 38, 3) := by decide +kernel
theorem dX7_count_98 : decode cX7_count 98 = .ok (.iconst 0, 1) := by decide +kernel
theorem dX7_count_99 : decode cX7_count 99 = .ok (.iaload, 1) := by decide +kernel
theorem dX7_count_100 : decode cX7_count 100 = .ok (.bipush (-4), 2) := by decide +kernel
theorem dX7_count_102 : decode cX7_count 102 = .ok (.if_icmp .ne 8, 3) := by decide +kernel
theorem dX7_count_105 : decode cX7_count 105 = .ok (.bipush (-4), 2) := by decide +kernel
theorem dX7_count_107 : decode cX7_count 107 = .ok (.goto 9, 3) := by decide +kernel
theorem dX7_count_110 : decode cX7_count 110 = .ok (.aload_n 0, 1) := by decide +kernel
theorem dX7_count_111 : decode cX7_count 111 = .ok (.getfield 41, 3) := by decide +kernel
theorem dX7_count_114 : decode cX7_count 114 = .ok (.iconst 0, 1) := by decide +kernel
theorem dX7_count_115 : decode cX7_count 115 = .ok (.iaload, 1) := by decide +kernel
theorem dX7_count_116 : decode cX7_count 116 = .ok (.ireturn, 1) := by decide +kernel
theorem dX7_count_117 : decode cX7_count 117 = .ok (.aload_n 0, 1) := by decide +kernel
theorem dX7_count_118 : decode cX7_count 118 = .ok (.invokevirtual 234, 3) := by decide +kernel
theorem dX7_count_121 : decode cX7_count 121 = .ok (.invokestatic 195, 3) := by decide +kernel
theorem dX7_count_124 : decode cX7_count 124 = .ok (.ireturn, 1) := by decide +kernel
theorem dX7_count_125 : decode cX7_count 125 = .ok (.iconst (-1), 1) := by decide +kernel
theorem dX7_count_126 : decode cX7_count 126 = .ok (.ireturn, 1) := by decide +kernel
