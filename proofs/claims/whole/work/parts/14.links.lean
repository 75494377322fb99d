/-! ===== links, by program ===== -/
theorem sh_0 : z_shp[0]? = some (.inr (6, [some 1, some 6, some 26, none, some 27, some 29, some 30, some 36, some 39, some 40, some 41, none])) := rfl
theorem sh_1 : z_shp[1]? = some (.inr (1, [some 2, some 3, none, none, none, some 4, some 5])) := rfl
theorem sh_2 : z_shp[2]? = some (.inl (.int, 6, none)) := rfl
theorem sh_3 : z_shp[3]? = some (.inl (.int, 30, none)) := rfl
theorem sh_4 : z_shp[4]? = some (.inl (.int, 6, none)) := rfl
theorem sh_5 : z_shp[5]? = some (.inl (.int, 6, none)) := rfl
theorem sh_6 : z_shp[6]? = some (.inr (1, [some 7, some 8, none, none, none, some 9, some 10])) := rfl
theorem sh_7 : z_shp[7]? = some (.inl (.int, 6, none)) := rfl
theorem sh_8 : z_shp[8]? = some (.inl (.int, 30, none)) := rfl
theorem sh_9 : z_shp[9]? = some (.inl (.int, 6, none)) := rfl
theorem sh_10 : z_shp[10]? = some (.inl (.int, 6, none)) := rfl
theorem sh_11 : z_shp[11]? = some (.inr (1, [some 12, some 13, none, none, none, some 14, some 15])) := rfl
theorem sh_12 : z_shp[12]? = some (.inl (.int, 6, none)) := rfl
theorem sh_13 : z_shp[13]? = some (.inl (.int, 30, none)) := rfl
theorem sh_14 : z_shp[14]? = some (.inl (.int, 6, none)) := rfl
theorem sh_15 : z_shp[15]? = some (.inl (.int, 6, none)) := rfl
theorem sh_16 : z_shp[16]? = some (.inr (1, [some 17, some 18, none, none, none, some 19, some 20])) := rfl
theorem sh_17 : z_shp[17]? = some (.inl (.int, 6, none)) := rfl
theorem sh_18 : z_shp[18]? = some (.inl (.int, 30, none)) := rfl
theorem sh_19 : z_shp[19]? = some (.inl (.int, 6, none)) := rfl
theorem sh_20 : z_shp[20]? = some (.inl (.int, 6, none)) := rfl
theorem sh_21 : z_shp[21]? = some (.inr (1, [some 22, some 23, none, none, none, some 24, some 25])) := rfl
theorem sh_22 : z_shp[22]? = some (.inl (.int, 6, none)) := rfl
theorem sh_23 : z_shp[23]? = some (.inl (.int, 30, none)) := rfl
theorem sh_24 : z_shp[24]? = some (.inl (.int, 6, none)) := rfl
theorem sh_25 : z_shp[25]? = some (.inl (.int, 6, none)) := rfl
theorem sh_26 : z_shp[26]? = some (.inl (.object RX1, 2, some [11, 16])) := rfl
theorem sh_27 : z_shp[27]? = some (.inr (4, [some 28, none, none, none, none, none])) := rfl
theorem sh_28 : z_shp[28]? = some (.inl (.byte, 160, none)) := rfl
theorem sh_29 : z_shp[29]? = some (.inr (5, [some 21, none, some 27, none, none])) := rfl
theorem sh_30 : z_shp[30]? = some (.inr (0, [some 31, some 32, some 33, some 34, some 35, none, none, none, none, none, none, none, none])) := rfl
theorem sh_31 : z_shp[31]? = some (.inl (.int, 6, none)) := rfl
theorem sh_32 : z_shp[32]? = some (.inl (.int, 6, none)) := rfl
theorem sh_33 : z_shp[33]? = some (.inl (.int, 6, none)) := rfl
theorem sh_34 : z_shp[34]? = some (.inl (.int, 6, none)) := rfl
theorem sh_35 : z_shp[35]? = some (.inl (.int, 6, none)) := rfl
theorem sh_36 : z_shp[36]? = some (.inr (2, [none, some 37, some 38])) := rfl
theorem sh_37 : z_shp[37]? = some (.inl (.int, 6, none)) := rfl
theorem sh_38 : z_shp[38]? = some (.inl (.int, 6, none)) := rfl
theorem sh_39 : z_shp[39]? = some (.inl (.int, 6, none)) := rfl
theorem sh_40 : z_shp[40]? = some (.inl (.int, 384, none)) := rfl
theorem sh_41 : z_shp[41]? = some (.inl (.object RX3, 4, some [42, 44, 46, 48])) := rfl
theorem sh_42 : z_shp[42]? = some (.inr (3, [some 43, none, none])) := rfl
theorem sh_43 : z_shp[43]? = some (.inl (.int, 40, none)) := rfl
theorem sh_44 : z_shp[44]? = some (.inr (3, [some 45, none, none])) := rfl
theorem sh_45 : z_shp[45]? = some (.inl (.int, 40, none)) := rfl
theorem sh_46 : z_shp[46]? = some (.inr (3, [some 47, none, none])) := rfl
theorem sh_47 : z_shp[47]? = some (.inl (.int, 40, none)) := rfl
theorem sh_48 : z_shp[48]? = some (.inr (3, [some 49, none, none])) := rfl
theorem sh_49 : z_shp[49]? = some (.inl (.int, 40, none)) := rfl
theorem sh_50 : z_shp[50]? = some (.inr (7, [some 51, some 52, some 53, none, some 54, none, none, none, none, some 55, none, none, none, none, none, none, none, none, some 56, some 57, some 58, none, none, none, none, none, some 59, some 60, some 61, some 62, none, some 63])) := rfl
theorem sh_51 : z_shp[51]? = some (.inl (.int, 165, none)) := rfl
theorem sh_52 : z_shp[52]? = some (.inl (.int, 55, none)) := rfl
theorem sh_53 : z_shp[53]? = some (.inl (.boolean, 2, none)) := rfl
theorem sh_54 : z_shp[54]? = some (.inl (.int, 55, none)) := rfl
theorem sh_55 : z_shp[55]? = some (.inl (.int, 160, none)) := rfl
theorem sh_56 : z_shp[56]? = some (.inl (.int, 6, none)) := rfl
theorem sh_57 : z_shp[57]? = some (.inl (.int, 6, none)) := rfl
theorem sh_58 : z_shp[58]? = some (.inl (.int, 6, none)) := rfl
theorem sh_59 : z_shp[59]? = some (.inl (.int, 6, none)) := rfl
theorem sh_60 : z_shp[60]? = some (.inl (.int, 4, none)) := rfl
theorem sh_61 : z_shp[61]? = some (.inl (.int, 4, none)) := rfl
theorem sh_62 : z_shp[62]? = some (.inl (.int, 160, none)) := rfl
theorem sh_63 : z_shp[63]? = some (.inl (.int, 55, none)) := rfl
theorem fz_X1_18 : z_fl RX1 18 1 0 := ⟨_, rfl, by decide, fl_X1_18⟩
theorem fz_X2_23 : z_fl RX2 23 1 0 := ⟨_, rfl, by decide, fl_X2_23⟩
theorem fz_X5_100 : z_fl RX5 100 1 0 := ⟨_, rfl, by decide, fl_X5_100⟩
theorem fz_X6_102 : z_fl RX6 102 1 0 := ⟨_, rfl, by decide, fl_X6_102⟩
theorem fz_X0_86 : z_fl RX0 86 1 0 := ⟨_, rfl, by decide, fl_X0_86⟩
theorem fz_X1_23 : z_fl RX1 23 1 1 := ⟨_, rfl, by decide, fl_X1_23⟩
theorem fz_X0_31 : z_fl RX0 31 1 2 := ⟨_, rfl, by decide, fl_X0_31⟩
theorem fz_X1_38 : z_fl RX1 38 1 2 := ⟨_, rfl, by decide, fl_X1_38⟩
theorem fz_X5_50 : z_fl RX5 50 1 2 := ⟨_, rfl, by decide, fl_X5_50⟩
theorem fz_X2_32 : z_fl RX2 32 1 2 := ⟨_, rfl, by decide, fl_X2_32⟩
theorem fz_X6_96 : z_fl RX6 96 1 2 := ⟨_, rfl, by decide, fl_X6_96⟩
theorem fz_X1_42 : z_fl RX1 42 1 3 := ⟨_, rfl, by decide, fl_X1_42⟩
theorem fz_X5_47 : z_fl RX5 47 1 3 := ⟨_, rfl, by decide, fl_X5_47⟩
theorem fz_X6_99 : z_fl RX6 99 1 3 := ⟨_, rfl, by decide, fl_X6_99⟩
theorem fz_X1_45 : z_fl RX1 45 1 4 := ⟨_, rfl, by decide, fl_X1_45⟩
theorem fz_X6_236 : z_fl RX6 236 1 4 := ⟨_, rfl, by decide, fl_X6_236⟩
theorem fz_X1_26 : z_fl RX1 26 1 5 := ⟨_, rfl, by decide, fl_X1_26⟩
theorem fz_X1_29 : z_fl RX1 29 1 6 := ⟨_, rfl, by decide, fl_X1_29⟩
theorem fz_X4_9 : z_fl RX4 9 4 0 := ⟨_, rfl, by decide, fl_X4_9⟩
theorem fz_X4_13 : z_fl RX4 13 4 1 := ⟨_, rfl, by decide, fl_X4_13⟩
theorem fz_X6_75 : z_fl RX6 75 4 1 := ⟨_, rfl, by decide, fl_X6_75⟩
theorem fz_X5_53 : z_fl RX5 53 4 1 := ⟨_, rfl, by decide, fl_X5_53⟩
theorem fz_X4_17 : z_fl RX4 17 4 2 := ⟨_, rfl, by decide, fl_X4_17⟩
theorem fz_X5_40 : z_fl RX5 40 4 3 := ⟨_, rfl, by decide, fl_X5_40⟩
theorem fz_X4_30 : z_fl RX4 30 4 3 := ⟨_, rfl, by decide, fl_X4_30⟩
theorem fz_X4_20 : z_fl RX4 20 4 4 := ⟨_, rfl, by decide, fl_X4_20⟩
theorem fz_X5_151 : z_fl RX5 151 4 4 := ⟨_, rfl, by decide, fl_X5_151⟩
theorem fz_X4_23 : z_fl RX4 23 4 5 := ⟨_, rfl, by decide, fl_X4_23⟩
theorem fz_X5_120 : z_fl RX5 120 4 5 := ⟨_, rfl, by decide, fl_X5_120⟩
theorem fz_X5_18 : z_fl RX5 18 5 0 := ⟨_, rfl, by decide, fl_X5_18⟩
theorem fz_X6_83 : z_fl RX6 83 5 0 := ⟨_, rfl, by decide, fl_X6_83⟩
theorem fz_X5_30 : z_fl RX5 30 5 1 := ⟨_, rfl, by decide, fl_X5_30⟩
theorem fz_X6_93 : z_fl RX6 93 5 1 := ⟨_, rfl, by decide, fl_X6_93⟩
theorem fz_X5_9 : z_fl RX5 9 5 2 := ⟨_, rfl, by decide, fl_X5_9⟩
theorem fz_X5_60 : z_fl RX5 60 5 3 := ⟨_, rfl, by decide, fl_X5_60⟩
theorem fz_X5_34 : z_fl RX5 34 5 4 := ⟨_, rfl, by decide, fl_X5_34⟩
theorem fz_X0_9 : z_fl RX0 9 0 0 := ⟨_, rfl, by decide, fl_X0_9⟩
theorem fz_X6_135 : z_fl RX6 135 0 0 := ⟨_, rfl, by decide, fl_X6_135⟩
theorem fz_X0_15 : z_fl RX0 15 0 1 := ⟨_, rfl, by decide, fl_X0_15⟩
theorem fz_X6_138 : z_fl RX6 138 0 1 := ⟨_, rfl, by decide, fl_X6_138⟩
theorem fz_X0_18 : z_fl RX0 18 0 2 := ⟨_, rfl, by decide, fl_X0_18⟩
theorem fz_X6_141 : z_fl RX6 141 0 2 := ⟨_, rfl, by decide, fl_X6_141⟩
theorem fz_X0_21 : z_fl RX0 21 0 3 := ⟨_, rfl, by decide, fl_X0_21⟩
theorem fz_X0_24 : z_fl RX0 24 0 4 := ⟨_, rfl, by decide, fl_X0_24⟩
theorem fz_X0_80 : z_fl RX0 80 0 5 := ⟨_, rfl, by decide, fl_X0_80⟩
theorem fz_X0_83 : z_fl RX0 83 0 6 := ⟨_, rfl, by decide, fl_X0_83⟩
theorem fz_X0_70 : z_fl RX0 70 0 7 := ⟨_, rfl, by decide, fl_X0_70⟩
theorem fz_X0_89 : z_fl RX0 89 0 8 := ⟨_, rfl, by decide, fl_X0_89⟩
theorem fz_X0_64 : z_fl RX0 64 0 9 := ⟨_, rfl, by decide, fl_X0_64⟩
theorem fz_X0_67 : z_fl RX0 67 0 10 := ⟨_, rfl, by decide, fl_X0_67⟩
theorem fz_X0_73 : z_fl RX0 73 0 11 := ⟨_, rfl, by decide, fl_X0_73⟩
theorem fz_X0_61 : z_fl RX0 61 0 12 := ⟨_, rfl, by decide, fl_X0_61⟩
theorem fz_X6_199 : z_fl RX6 199 0 12 := ⟨_, rfl, by decide, fl_X6_199⟩
theorem fz_X2_19 : z_fl RX2 19 2 0 := ⟨_, rfl, by decide, fl_X2_19⟩
theorem fz_X6_164 : z_fl RX6 164 2 0 := ⟨_, rfl, by decide, fl_X6_164⟩
theorem fz_X2_9 : z_fl RX2 9 2 1 := ⟨_, rfl, by decide, fl_X2_9⟩
theorem fz_X6_167 : z_fl RX6 167 2 1 := ⟨_, rfl, by decide, fl_X6_167⟩
theorem fz_X2_15 : z_fl RX2 15 2 2 := ⟨_, rfl, by decide, fl_X2_15⟩
theorem fz_X3_11 : z_fl RX3 11 3 0 := ⟨_, rfl, by decide, fl_X3_11⟩
theorem fz_X3_23 : z_fl RX3 23 3 1 := ⟨_, rfl, by decide, fl_X3_23⟩
theorem fz_X3_15 : z_fl RX3 15 3 2 := ⟨_, rfl, by decide, fl_X3_15⟩
theorem fz_X6_292 : z_fl RX6 292 3 2 := ⟨_, rfl, by decide, fl_X6_292⟩
theorem fz_X6_10 : z_fl RX6 10 6 0 := ⟨_, rfl, by decide, fl_X6_10⟩
theorem fz_X6_16 : z_fl RX6 16 6 1 := ⟨_, rfl, by decide, fl_X6_16⟩
theorem fz_X6_19 : z_fl RX6 19 6 2 := ⟨_, rfl, by decide, fl_X6_19⟩
theorem fz_X6_90 : z_fl RX6 90 6 3 := ⟨_, rfl, by decide, fl_X6_90⟩
theorem fz_X6_26 : z_fl RX6 26 6 4 := ⟨_, rfl, by decide, fl_X6_26⟩
theorem fz_X6_35 : z_fl RX6 35 6 5 := ⟨_, rfl, by decide, fl_X6_35⟩
theorem fz_X6_42 : z_fl RX6 42 6 6 := ⟨_, rfl, by decide, fl_X6_42⟩
theorem fz_X6_49 : z_fl RX6 49 6 7 := ⟨_, rfl, by decide, fl_X6_49⟩
theorem fz_X6_53 : z_fl RX6 53 6 8 := ⟨_, rfl, by decide, fl_X6_53⟩
theorem fz_X6_57 : z_fl RX6 57 6 9 := ⟨_, rfl, by decide, fl_X6_57⟩
theorem fz_X6_62 : z_fl RX6 62 6 10 := ⟨_, rfl, by decide, fl_X6_62⟩
theorem fz_X6_277 : z_fl RX6 277 6 11 := ⟨_, rfl, by decide, fl_X6_277⟩
theorem fz_X7_7 : z_fl RX7 7 7 0 := ⟨_, rfl, by decide, fl_X7_7⟩
theorem fz_X7_13 : z_fl RX7 13 7 1 := ⟨_, rfl, by decide, fl_X7_13⟩
theorem fz_X7_16 : z_fl RX7 16 7 2 := ⟨_, rfl, by decide, fl_X7_16⟩
theorem fz_X7_69 : z_fl RX7 69 7 3 := ⟨_, rfl, by decide, fl_X7_69⟩
theorem fz_X7_20 : z_fl RX7 20 7 4 := ⟨_, rfl, by decide, fl_X7_20⟩
theorem fz_X7_56 : z_fl RX7 56 7 5 := ⟨_, rfl, by decide, fl_X7_56⟩
theorem fz_X7_60 : z_fl RX7 60 7 6 := ⟨_, rfl, by decide, fl_X7_60⟩
theorem fz_X7_63 : z_fl RX7 63 7 7 := ⟨_, rfl, by decide, fl_X7_63⟩
theorem fz_X7_66 : z_fl RX7 66 7 8 := ⟨_, rfl, by decide, fl_X7_66⟩
theorem fz_X7_23 : z_fl RX7 23 7 9 := ⟨_, rfl, by decide, fl_X7_23⟩
theorem fz_X7_78 : z_fl RX7 78 7 10 := ⟨_, rfl, by decide, fl_X7_78⟩
theorem fz_X7_90 : z_fl RX7 90 7 11 := ⟨_, rfl, by decide, fl_X7_90⟩
theorem fz_X7_84 : z_fl RX7 84 7 12 := ⟨_, rfl, by decide, fl_X7_84⟩
theorem fz_X7_105 : z_fl RX7 105 7 13 := ⟨_, rfl, by decide, fl_X7_105⟩
theorem fz_X7_116 : z_fl RX7 116 7 14 := ⟨_, rfl, by decide, fl_X7_116⟩
theorem fz_X7_81 : z_fl RX7 81 7 15 := ⟨_, rfl, by decide, fl_X7_81⟩
theorem fz_X7_87 : z_fl RX7 87 7 16 := ⟨_, rfl, by decide, fl_X7_87⟩
theorem fz_X7_163 : z_fl RX7 163 7 17 := ⟨_, rfl, by decide, fl_X7_163⟩
theorem fz_X7_26 : z_fl RX7 26 7 18 := ⟨_, rfl, by decide, fl_X7_26⟩
theorem fz_X7_29 : z_fl RX7 29 7 19 := ⟨_, rfl, by decide, fl_X7_29⟩
theorem fz_X7_32 : z_fl RX7 32 7 20 := ⟨_, rfl, by decide, fl_X7_32⟩
theorem fz_X7_169 : z_fl RX7 169 7 21 := ⟨_, rfl, by decide, fl_X7_169⟩
theorem fz_X7_172 : z_fl RX7 172 7 22 := ⟨_, rfl, by decide, fl_X7_172⟩
theorem fz_X7_175 : z_fl RX7 175 7 23 := ⟨_, rfl, by decide, fl_X7_175⟩
theorem fz_X7_178 : z_fl RX7 178 7 24 := ⟨_, rfl, by decide, fl_X7_178⟩
theorem fz_X7_181 : z_fl RX7 181 7 25 := ⟨_, rfl, by decide, fl_X7_181⟩
theorem fz_X7_35 : z_fl RX7 35 7 26 := ⟨_, rfl, by decide, fl_X7_35⟩
theorem fz_X7_38 : z_fl RX7 38 7 27 := ⟨_, rfl, by decide, fl_X7_38⟩
theorem fz_X7_41 : z_fl RX7 41 7 28 := ⟨_, rfl, by decide, fl_X7_41⟩
theorem fz_X7_44 : z_fl RX7 44 7 29 := ⟨_, rfl, by decide, fl_X7_44⟩
theorem fz_X7_335 : z_fl RX7 335 7 30 := ⟨_, rfl, by decide, fl_X7_335⟩
theorem fz_X7_47 : z_fl RX7 47 7 31 := ⟨_, rfl, by decide, fl_X7_47⟩
theorem fw_0_5 : z_fw 0 5 := ⟨_, rfl, rfl, by decide +kernel⟩
theorem fw_0_6 : z_fw 0 6 := ⟨_, rfl, rfl, by decide +kernel⟩
theorem fw_0_7 : z_fw 0 7 := ⟨_, rfl, rfl, by decide +kernel⟩
theorem fw_0_8 : z_fw 0 8 := ⟨_, rfl, rfl, by decide +kernel⟩
theorem fw_0_9 : z_fw 0 9 := ⟨_, rfl, rfl, by decide +kernel⟩
theorem fw_0_10 : z_fw 0 10 := ⟨_, rfl, rfl, by decide +kernel⟩
theorem fw_0_11 : z_fw 0 11 := ⟨_, rfl, rfl, by decide +kernel⟩
theorem fw_0_12 : z_fw 0 12 := ⟨_, rfl, rfl, by decide +kernel⟩
theorem fw_1_2 : z_fw 1 2 := ⟨_, rfl, rfl, by decide +kernel⟩
theorem fw_1_3 : z_fw 1 3 := ⟨_, rfl, rfl, by decide +kernel⟩
theorem fw_1_4 : z_fw 1 4 := ⟨_, rfl, rfl, by decide +kernel⟩
theorem fw_2_0 : z_fw 2 0 := ⟨_, rfl, rfl, by decide +kernel⟩
theorem fw_3_1 : z_fw 3 1 := ⟨_, rfl, rfl, by decide +kernel⟩
theorem fw_3_2 : z_fw 3 2 := ⟨_, rfl, rfl, by decide +kernel⟩
theorem fw_4_1 : z_fw 4 1 := ⟨_, rfl, rfl, by decide +kernel⟩
theorem fw_4_2 : z_fw 4 2 := ⟨_, rfl, rfl, by decide +kernel⟩
theorem fw_4_3 : z_fw 4 3 := ⟨_, rfl, rfl, by decide +kernel⟩
theorem fw_4_4 : z_fw 4 4 := ⟨_, rfl, rfl, by decide +kernel⟩
theorem fw_4_5 : z_fw 4 5 := ⟨_, rfl, rfl, by decide +kernel⟩
theorem fw_5_1 : z_fw 5 1 := ⟨_, rfl, rfl, by decide +kernel⟩
theorem fw_5_3 : z_fw 5 3 := ⟨_, rfl, rfl, by decide +kernel⟩
theorem fw_5_4 : z_fw 5 4 := ⟨_, rfl, rfl, by decide +kernel⟩
theorem fw_6_3 : z_fw 6 3 := ⟨_, rfl, rfl, by decide +kernel⟩
theorem fw_6_11 : z_fw 6 11 := ⟨_, rfl, rfl, by decide +kernel⟩
theorem fw_7_3 : z_fw 7 3 := ⟨_, rfl, rfl, by decide +kernel⟩
theorem fw_7_5 : z_fw 7 5 := ⟨_, rfl, rfl, by decide +kernel⟩
theorem fw_7_6 : z_fw 7 6 := ⟨_, rfl, rfl, by decide +kernel⟩
theorem fw_7_7 : z_fw 7 7 := ⟨_, rfl, rfl, by decide +kernel⟩
theorem fw_7_8 : z_fw 7 8 := ⟨_, rfl, rfl, by decide +kernel⟩
theorem fw_7_10 : z_fw 7 10 := ⟨_, rfl, rfl, by decide +kernel⟩
theorem fw_7_11 : z_fw 7 11 := ⟨_, rfl, rfl, by decide +kernel⟩
theorem fw_7_12 : z_fw 7 12 := ⟨_, rfl, rfl, by decide +kernel⟩
theorem fw_7_13 : z_fw 7 13 := ⟨_, rfl, rfl, by decide +kernel⟩
theorem fw_7_14 : z_fw 7 14 := ⟨_, rfl, rfl, by decide +kernel⟩
theorem fw_7_15 : z_fw 7 15 := ⟨_, rfl, rfl, by decide +kernel⟩
theorem fw_7_16 : z_fw 7 16 := ⟨_, rfl, rfl, by decide +kernel⟩
theorem fw_7_17 : z_fw 7 17 := ⟨_, rfl, rfl, by decide +kernel⟩
theorem fw_7_21 : z_fw 7 21 := ⟨_, rfl, rfl, by decide +kernel⟩
theorem fw_7_22 : z_fw 7 22 := ⟨_, rfl, rfl, by decide +kernel⟩
theorem fw_7_23 : z_fw 7 23 := ⟨_, rfl, rfl, by decide +kernel⟩
theorem fw_7_24 : z_fw 7 24 := ⟨_, rfl, rfl, by decide +kernel⟩
theorem fw_7_25 : z_fw 7 25 := ⟨_, rfl, rfl, by decide +kernel⟩
theorem fw_7_30 : z_fw 7 30 := ⟨_, rfl, rfl, by decide +kernel⟩
theorem mv_X0_by : z_mV mX0_by 4 := ⟨⟨cw_X0_by, in_X0, ⟨by decide +kernel, by decide +kernel, by decide +kernel⟩, by decide⟩, im_X0_by, se_X0_by⟩
theorem mv_X0_inOrder : z_mV mX0_inOrder 2 := ⟨⟨cw_X0_inOrder, in_X0, ⟨by decide +kernel, by decide +kernel, by decide +kernel⟩, by decide⟩, im_X0_inOrder, se_X0_inOrder⟩
theorem mv_X0_measure : z_mV mX0_measure 1 := ⟨⟨cw_X0_measure, in_X0, ⟨by decide +kernel, by decide +kernel, by decide +kernel⟩, by decide⟩, im_X0_measure, se_X0_measure⟩
theorem mv_X0_costOf : z_mV mX0_costOf 2 := ⟨⟨cw_X0_costOf, in_X0, ⟨by decide +kernel, by decide +kernel, by decide +kernel⟩, by decide⟩, im_X0_costOf, se_X0_costOf⟩
theorem mv_X0_isAsSeen : z_mV mX0_isAsSeen 1 := ⟨⟨cw_X0_isAsSeen, in_X0, ⟨by decide +kernel, by decide +kernel, by decide +kernel⟩, by decide⟩, im_X0_isAsSeen, se_X0_isAsSeen⟩
theorem mv_X0_begin : z_mV mX0_begin 1 := ⟨⟨cw_X0_begin, in_X0, ⟨by decide +kernel, by decide +kernel, by decide +kernel⟩, by decide⟩, im_X0_begin, se_X0_begin⟩
theorem mv_X0_waitForOne : z_mV mX0_waitForOne 1 := ⟨⟨cw_X0_waitForOne, in_X0, ⟨by decide +kernel, by decide +kernel, by decide +kernel⟩, by decide⟩, im_X0_waitForOne, se_X0_waitForOne⟩
theorem mv_X0_waits : z_mV mX0_waits 1 := ⟨⟨cw_X0_waits, in_X0, ⟨by decide +kernel, by decide +kernel, by decide +kernel⟩, by decide⟩, im_X0_waits, se_X0_waits⟩
theorem mv_X0_chosen : z_mV mX0_chosen 3 := ⟨⟨cw_X0_chosen, in_X0, ⟨by decide +kernel, by decide +kernel, by decide +kernel⟩, by decide⟩, im_X0_chosen, se_X0_chosen⟩
theorem mv_X0_rank : z_mV mX0_rank 4 := ⟨⟨cw_X0_rank, in_X0, ⟨by decide +kernel, by decide +kernel, by decide +kernel⟩, by decide⟩, im_X0_rank, se_X0_rank⟩
theorem mv_X0_sideAhead : z_mV mX0_sideAhead 2 := ⟨⟨cw_X0_sideAhead, in_X0, ⟨by decide +kernel, by decide +kernel, by decide +kernel⟩, by decide⟩, im_X0_sideAhead, se_X0_sideAhead⟩
theorem mv_X0_sideByTwos : z_mV mX0_sideByTwos 1 := ⟨⟨cw_X0_sideByTwos, in_X0, ⟨by decide +kernel, by decide +kernel, by decide +kernel⟩, by decide⟩, im_X0_sideByTwos, se_X0_sideByTwos⟩
theorem mv_X0_sideByQueue : z_mV mX0_sideByQueue 1 := ⟨⟨cw_X0_sideByQueue, in_X0, ⟨by decide +kernel, by decide +kernel, by decide +kernel⟩, by decide⟩, im_X0_sideByQueue, se_X0_sideByQueue⟩
theorem mv_X0_admit : z_mV mX0_admit 2 := ⟨⟨cw_X0_admit, in_X0, ⟨by decide +kernel, by decide +kernel, by decide +kernel⟩, by decide⟩, im_X0_admit, se_X0_admit⟩
theorem mv_X1_clear : z_mV mX1_clear 0 := ⟨⟨cw_X1_clear, in_X1, ⟨by decide +kernel, by decide +kernel, by decide +kernel⟩, by decide⟩, im_X1_clear, se_X1_clear⟩
theorem mv_X1_copyFrom : z_mV mX1_copyFrom 1 := ⟨⟨cw_X1_copyFrom, in_X1, ⟨by decide +kernel, by decide +kernel, by decide +kernel⟩, by decide⟩, im_X1_copyFrom, se_X1_copyFrom⟩
theorem mv_X1_mark : z_mV mX1_mark 2 := ⟨⟨cw_X1_mark, in_X1, ⟨by decide +kernel, by decide +kernel, by decide +kernel⟩, by decide⟩, im_X1_mark, se_X1_mark⟩
theorem mv_X1_setMark : z_mV mX1_setMark 3 := ⟨⟨cw_X1_setMark, in_X1, ⟨by decide +kernel, by decide +kernel, by decide +kernel⟩, by decide⟩, im_X1_setMark, se_X1_setMark⟩
theorem mv_X1_countsFrom : z_mV mX1_countsFrom 1 := ⟨⟨cw_X1_countsFrom, in_X1, ⟨by decide +kernel, by decide +kernel, by decide +kernel⟩, by decide⟩, im_X1_countsFrom, se_X1_countsFrom⟩
theorem mv_X1_boatsFrom : z_mV mX1_boatsFrom 1 := ⟨⟨cw_X1_boatsFrom, in_X1, ⟨by decide +kernel, by decide +kernel, by decide +kernel⟩, by decide⟩, im_X1_boatsFrom, se_X1_boatsFrom⟩
theorem mv_X1_addSeen : z_mV mX1_addSeen 2 := ⟨⟨cw_X1_addSeen, in_X1, ⟨by decide +kernel, by decide +kernel, by decide +kernel⟩, by decide⟩, im_X1_addSeen, se_X1_addSeen⟩
theorem mv_X1_wasSeenAs : z_mV mX1_wasSeenAs 1 := ⟨⟨cw_X1_wasSeenAs, in_X1, ⟨by decide +kernel, by decide +kernel, by decide +kernel⟩, by decide⟩, im_X1_wasSeenAs, se_X1_wasSeenAs⟩
theorem mv_X2_seekLeastCost : z_mV mX2_seekLeastCost 1 := ⟨⟨cw_X2_seekLeastCost, in_X2, ⟨by decide +kernel, by decide +kernel, by decide +kernel⟩, by decide⟩, im_X2_seekLeastCost, se_X2_seekLeastCost⟩
theorem mv_X2_seek : z_mV mX2_seek 6 := ⟨⟨cw_X2_seek, in_X2, ⟨by decide +kernel, by decide +kernel, by decide +kernel⟩, by decide⟩, im_X2_seek, se_X2_seek⟩
theorem ms_X3_isLane : z_mS mX3_isLane 1 := ⟨⟨cw_X3_isLane, in_X3, ⟨by decide +kernel, by decide +kernel, by decide +kernel⟩, by decide⟩, st_X3_isLane⟩
theorem mv_X3_isNothing : z_mV mX3_isNothing 0 := ⟨⟨cw_X3_isNothing, in_X3, ⟨by decide +kernel, by decide +kernel, by decide +kernel⟩, by decide⟩, im_X3_isNothing, se_X3_isNothing⟩
theorem mv_X3_renew : z_mV mX3_renew 2 := ⟨⟨cw_X3_renew, in_X3, ⟨by decide +kernel, by decide +kernel, by decide +kernel⟩, by decide⟩, im_X3_renew, se_X3_renew⟩
theorem mv_X3_put : z_mV mX3_put 2 := ⟨⟨cw_X3_put, in_X3, ⟨by decide +kernel, by decide +kernel, by decide +kernel⟩, by decide⟩, im_X3_put, se_X3_put⟩
theorem mv_X3_cell : z_mV mX3_cell 1 := ⟨⟨cw_X3_cell, in_X3, ⟨by decide +kernel, by decide +kernel, by decide +kernel⟩, by decide⟩, im_X3_cell, se_X3_cell⟩
theorem mv_X3_faultAt : z_mV mX3_faultAt 1 := ⟨⟨cw_X3_faultAt, in_X3, ⟨by decide +kernel, by decide +kernel, by decide +kernel⟩, by decide⟩, im_X3_faultAt, se_X3_faultAt⟩
theorem mv_X3_faultOfPair : z_mV mX3_faultOfPair 2 := ⟨⟨cw_X3_faultOfPair, in_X3, ⟨by decide +kernel, by decide +kernel, by decide +kernel⟩, by decide⟩, im_X3_faultOfPair, se_X3_faultOfPair⟩
theorem mv_X4_append : z_mV mX4_append 1 := ⟨⟨cw_X4_append, in_X4, ⟨by decide +kernel, by decide +kernel, by decide +kernel⟩, by decide⟩, im_X4_append, se_X4_append⟩
theorem mv_X4_rewind : z_mV mX4_rewind 0 := ⟨⟨cw_X4_rewind, in_X4, ⟨by decide +kernel, by decide +kernel, by decide +kernel⟩, by decide⟩, im_X4_rewind, se_X4_rewind⟩
theorem mv_X4_next : z_mV mX4_next 0 := ⟨⟨cw_X4_next, in_X4, ⟨by decide +kernel, by decide +kernel, by decide +kernel⟩, by decide⟩, im_X4_next, se_X4_next⟩
theorem ms_X4_kindOf : z_mS mX4_kindOf 1 := ⟨⟨cw_X4_kindOf, in_X4, ⟨by decide +kernel, by decide +kernel, by decide +kernel⟩, by decide⟩, st_X4_kindOf⟩
theorem mv_X4_valueNumber : z_mV mX4_valueNumber 0 := ⟨⟨cw_X4_valueNumber, in_X4, ⟨by decide +kernel, by decide +kernel, by decide +kernel⟩, by decide⟩, im_X4_valueNumber, se_X4_valueNumber⟩
theorem mv_X4_isName : z_mV mX4_isName 1 := ⟨⟨cw_X4_isName, in_X4, ⟨by decide +kernel, by decide +kernel, by decide +kernel⟩, by decide⟩, im_X4_isName, se_X4_isName⟩
theorem mv_X5_tell : z_mV mX5_tell 0 := ⟨⟨cw_X5_tell, in_X5, ⟨by decide +kernel, by decide +kernel, by decide +kernel⟩, by decide⟩, im_X5_tell, se_X5_tell⟩
theorem mv_X5_takeLine : z_mV mX5_takeLine 0 := ⟨⟨cw_X5_takeLine, in_X5, ⟨by decide +kernel, by decide +kernel, by decide +kernel⟩, by decide⟩, im_X5_takeLine, se_X5_takeLine⟩
theorem mv_X5_isFirst : z_mV mX5_isFirst 1 := ⟨⟨cw_X5_isFirst, in_X5, ⟨by decide +kernel, by decide +kernel, by decide +kernel⟩, by decide⟩, im_X5_isFirst, se_X5_isFirst⟩
theorem mv_X5_takeBoat : z_mV mX5_takeBoat 1 := ⟨⟨cw_X5_takeBoat, in_X5, ⟨by decide +kernel, by decide +kernel, by decide +kernel⟩, by decide⟩, im_X5_takeBoat, se_X5_takeBoat⟩
theorem mv_X5_takeCargo : z_mV mX5_takeCargo 1 := ⟨⟨cw_X5_takeCargo, in_X5, ⟨by decide +kernel, by decide +kernel, by decide +kernel⟩, by decide⟩, im_X5_takeCargo, se_X5_takeCargo⟩
theorem mv_X5_takeRules : z_mV mX5_takeRules 2 := ⟨⟨cw_X5_takeRules, in_X5, ⟨by decide +kernel, by decide +kernel, by decide +kernel⟩, by decide⟩, im_X5_takeRules, se_X5_takeRules⟩
theorem mv_X5_takeLaw : z_mV mX5_takeLaw 0 := ⟨⟨cw_X5_takeLaw, in_X5, ⟨by decide +kernel, by decide +kernel, by decide +kernel⟩, by decide⟩, im_X5_takeLaw, se_X5_takeLaw⟩
theorem mv_X5_takeLiar : z_mV mX5_takeLiar 0 := ⟨⟨cw_X5_takeLiar, in_X5, ⟨by decide +kernel, by decide +kernel, by decide +kernel⟩, by decide⟩, im_X5_takeLiar, se_X5_takeLiar⟩
theorem mv_X5_takeNumber : z_mV mX5_takeNumber 2 := ⟨⟨cw_X5_takeNumber, in_X5, ⟨by decide +kernel, by decide +kernel, by decide +kernel⟩, by decide⟩, im_X5_takeNumber, se_X5_takeNumber⟩
theorem mv_X5_takeStop : z_mV mX5_takeStop 0 := ⟨⟨cw_X5_takeStop, in_X5, ⟨by decide +kernel, by decide +kernel, by decide +kernel⟩, by decide⟩, im_X5_takeStop, se_X5_takeStop⟩
theorem mv_X5_blameToken : z_mV mX5_blameToken 1 := ⟨⟨cw_X5_blameToken, in_X5, ⟨by decide +kernel, by decide +kernel, by decide +kernel⟩, by decide⟩, im_X5_blameToken, se_X5_blameToken⟩
theorem mv_X5_blame : z_mV mX5_blame 2 := ⟨⟨cw_X5_blame, in_X5, ⟨by decide +kernel, by decide +kernel, by decide +kernel⟩, by decide⟩, im_X5_blame, se_X5_blame⟩
theorem mv_X6_feed : z_mV mX6_feed 1 := ⟨⟨cw_X6_feed, in_X6, ⟨by decide +kernel, by decide +kernel, by decide +kernel⟩, by decide⟩, im_X6_feed, se_X6_feed⟩
theorem mv_X6_end : z_mV mX6_end 1 := ⟨⟨cw_X6_end, in_X6, ⟨by decide +kernel, by decide +kernel, by decide +kernel⟩, by decide⟩, im_X6_end, se_X6_end⟩
theorem mv_X6_text : z_mV mX6_text 0 := ⟨⟨cw_X6_text, in_X6, ⟨by decide +kernel, by decide +kernel, by decide +kernel⟩, by decide⟩, im_X6_text, se_X6_text⟩
theorem mv_X6_fault : z_mV mX6_fault 0 := ⟨⟨cw_X6_fault, in_X6, ⟨by decide +kernel, by decide +kernel, by decide +kernel⟩, by decide⟩, im_X6_fault, se_X6_fault⟩
theorem mv_X6_rule : z_mV mX6_rule 1 := ⟨⟨cw_X6_rule, in_X6, ⟨by decide +kernel, by decide +kernel, by decide +kernel⟩, by decide⟩, im_X6_rule, se_X6_rule⟩
theorem mv_X6_boat : z_mV mX6_boat 2 := ⟨⟨cw_X6_boat, in_X6, ⟨by decide +kernel, by decide +kernel, by decide +kernel⟩, by decide⟩, im_X6_boat, se_X6_boat⟩
theorem mv_X6_set : z_mV mX6_set 2 := ⟨⟨cw_X6_set, in_X6, ⟨by decide +kernel, by decide +kernel, by decide +kernel⟩, by decide⟩, im_X6_set, se_X6_set⟩
theorem mv_X6_alter : z_mV mX6_alter 3 := ⟨⟨cw_X6_alter, in_X6, ⟨by decide +kernel, by decide +kernel, by decide +kernel⟩, by decide⟩, im_X6_alter, se_X6_alter⟩
theorem mv_X6_lie : z_mV mX6_lie 2 := ⟨⟨cw_X6_lie, in_X6, ⟨by decide +kernel, by decide +kernel, by decide +kernel⟩, by decide⟩, im_X6_lie, se_X6_lie⟩
theorem mv_X6_cross : z_mV mX6_cross 1 := ⟨⟨cw_X6_cross, in_X6, ⟨by decide +kernel, by decide +kernel, by decide +kernel⟩, by decide⟩, im_X6_cross, se_X6_cross⟩
theorem mv_X6_passes : z_mV mX6_passes 1 := ⟨⟨cw_X6_passes, in_X6, ⟨by decide +kernel, by decide +kernel, by decide +kernel⟩, by decide⟩, im_X6_passes, se_X6_passes⟩
theorem mv_X6_through : z_mV mX6_through 1 := ⟨⟨cw_X6_through, in_X6, ⟨by decide +kernel, by decide +kernel, by decide +kernel⟩, by decide⟩, im_X6_through, se_X6_through⟩
theorem mv_X6_stood : z_mV mX6_stood 1 := ⟨⟨cw_X6_stood, in_X6, ⟨by decide +kernel, by decide +kernel, by decide +kernel⟩, by decide⟩, im_X6_stood, se_X6_stood⟩
theorem mv_X6_day : z_mV mX6_day 1 := ⟨⟨cw_X6_day, in_X6, ⟨by decide +kernel, by decide +kernel, by decide +kernel⟩, by decide⟩, im_X6_day, se_X6_day⟩
theorem mv_X6_table : z_mV mX6_table 2 := ⟨⟨cw_X6_table, in_X6, ⟨by decide +kernel, by decide +kernel, by decide +kernel⟩, by decide⟩, im_X6_table, se_X6_table⟩
theorem mv_X6_best : z_mV mX6_best 1 := ⟨⟨cw_X6_best, in_X6, ⟨by decide +kernel, by decide +kernel, by decide +kernel⟩, by decide⟩, im_X6_best, se_X6_best⟩
theorem mv_X6_order : z_mV mX6_order 1 := ⟨⟨cw_X6_order, in_X6, ⟨by decide +kernel, by decide +kernel, by decide +kernel⟩, by decide⟩, im_X6_order, se_X6_order⟩
theorem mv_X6_firsts : z_mV mX6_firsts 1 := ⟨⟨cw_X6_firsts, in_X6, ⟨by decide +kernel, by decide +kernel, by decide +kernel⟩, by decide⟩, im_X6_firsts, se_X6_firsts⟩
theorem mv_X6_gain : z_mV mX6_gain 1 := ⟨⟨cw_X6_gain, in_X6, ⟨by decide +kernel, by decide +kernel, by decide +kernel⟩, by decide⟩, im_X6_gain, se_X6_gain⟩
theorem mv_X6_calm : z_mV mX6_calm 0 := ⟨⟨cw_X6_calm, in_X6, ⟨by decide +kernel, by decide +kernel, by decide +kernel⟩, by decide⟩, im_X6_calm, se_X6_calm⟩
theorem mv_X6_rests : z_mV mX6_rests 1 := ⟨⟨cw_X6_rests, in_X6, ⟨by decide +kernel, by decide +kernel, by decide +kernel⟩, by decide⟩, im_X6_rests, se_X6_rests⟩
theorem mv_X6_isCalm : z_mV mX6_isCalm 1 := ⟨⟨cw_X6_isCalm, in_X6, ⟨by decide +kernel, by decide +kernel, by decide +kernel⟩, by decide⟩, im_X6_isCalm, se_X6_isCalm⟩
theorem mv_X6_gained : z_mV mX6_gained 2 := ⟨⟨cw_X6_gained, in_X6, ⟨by decide +kernel, by decide +kernel, by decide +kernel⟩, by decide⟩, im_X6_gained, se_X6_gained⟩
theorem mv_X6_fillStoodBySet : z_mV mX6_fillStoodBySet 1 := ⟨⟨cw_X6_fillStoodBySet, in_X6, ⟨by decide +kernel, by decide +kernel, by decide +kernel⟩, by decide⟩, im_X6_fillStoodBySet, se_X6_fillStoodBySet⟩
theorem mv_X6_isRest : z_mV mX6_isRest 1 := ⟨⟨cw_X6_isRest, in_X6, ⟨by decide +kernel, by decide +kernel, by decide +kernel⟩, by decide⟩, im_X6_isRest, se_X6_isRest⟩
theorem mv_X6_boy : z_mV mX6_boy 2 := ⟨⟨cw_X6_boy, in_X6, ⟨by decide +kernel, by decide +kernel, by decide +kernel⟩, by decide⟩, im_X6_boy, se_X6_boy⟩
theorem mv_X6_post : z_mV mX6_post 1 := ⟨⟨cw_X6_post, in_X6, ⟨by decide +kernel, by decide +kernel, by decide +kernel⟩, by decide⟩, im_X6_post, se_X6_post⟩
theorem mv_X6_late : z_mV mX6_late 1 := ⟨⟨cw_X6_late, in_X6, ⟨by decide +kernel, by decide +kernel, by decide +kernel⟩, by decide⟩, im_X6_late, se_X6_late⟩
theorem mv_X6_deal : z_mV mX6_deal 3 := ⟨⟨cw_X6_deal, in_X6, ⟨by decide +kernel, by decide +kernel, by decide +kernel⟩, by decide⟩, im_X6_deal, se_X6_deal⟩
theorem mv_X6_mean : z_mV mX6_mean 3 := ⟨⟨cw_X6_mean, in_X6, ⟨by decide +kernel, by decide +kernel, by decide +kernel⟩, by decide⟩, im_X6_mean, se_X6_mean⟩
theorem mv_X6_luck : z_mV mX6_luck 4 := ⟨⟨cw_X6_luck, in_X6, ⟨by decide +kernel, by decide +kernel, by decide +kernel⟩, by decide⟩, im_X6_luck, se_X6_luck⟩
theorem mv_X6_weight : z_mV mX6_weight 2 := ⟨⟨cw_X6_weight, in_X6, ⟨by decide +kernel, by decide +kernel, by decide +kernel⟩, by decide⟩, im_X6_weight, se_X6_weight⟩
theorem mv_X6_weightOfAll : z_mV mX6_weightOfAll 0 := ⟨⟨cw_X6_weightOfAll, in_X6, ⟨by decide +kernel, by decide +kernel, by decide +kernel⟩, by decide⟩, im_X6_weightOfAll, se_X6_weightOfAll⟩
theorem ms_X6_lowest : z_mS mX6_lowest 3 := ⟨⟨cw_X6_lowest, in_X6, ⟨by decide +kernel, by decide +kernel, by decide +kernel⟩, by decide⟩, st_X6_lowest⟩
theorem ms_X6_commonDivisor : z_mS mX6_commonDivisor 2 := ⟨⟨cw_X6_commonDivisor, in_X6, ⟨by decide +kernel, by decide +kernel, by decide +kernel⟩, by decide⟩, st_X6_commonDivisor⟩
theorem mv_X6_see : z_mV mX6_see 2 := ⟨⟨cw_X6_see, in_X6, ⟨by decide +kernel, by decide +kernel, by decide +kernel⟩, by decide⟩, im_X6_see, se_X6_see⟩
theorem mv_X6_forget : z_mV mX6_forget 1 := ⟨⟨cw_X6_forget, in_X6, ⟨by decide +kernel, by decide +kernel, by decide +kernel⟩, by decide⟩, im_X6_forget, se_X6_forget⟩
theorem mv_X6_fits : z_mV mX6_fits 1 := ⟨⟨cw_X6_fits, in_X6, ⟨by decide +kernel, by decide +kernel, by decide +kernel⟩, by decide⟩, im_X6_fits, se_X6_fits⟩
theorem mv_X6_drift : z_mV mX6_drift 3 := ⟨⟨cw_X6_drift, in_X6, ⟨by decide +kernel, by decide +kernel, by decide +kernel⟩, by decide⟩, im_X6_drift, se_X6_drift⟩
theorem mv_X6_keep : z_mV mX6_keep 1 := ⟨⟨cw_X6_keep, in_X6, ⟨by decide +kernel, by decide +kernel, by decide +kernel⟩, by decide⟩, im_X6_keep, se_X6_keep⟩
theorem mv_X6_back : z_mV mX6_back 1 := ⟨⟨cw_X6_back, in_X6, ⟨by decide +kernel, by decide +kernel, by decide +kernel⟩, by decide⟩, im_X6_back, se_X6_back⟩
theorem mv_X6_sheet : z_mV mX6_sheet 3 := ⟨⟨cw_X6_sheet, in_X6, ⟨by decide +kernel, by decide +kernel, by decide +kernel⟩, by decide⟩, im_X6_sheet, se_X6_sheet⟩
theorem mv_X6_lay : z_mV mX6_lay 3 := ⟨⟨cw_X6_lay, in_X6, ⟨by decide +kernel, by decide +kernel, by decide +kernel⟩, by decide⟩, im_X6_lay, se_X6_lay⟩
theorem mv_X6_read : z_mV mX6_read 4 := ⟨⟨cw_X6_read, in_X6, ⟨by decide +kernel, by decide +kernel, by decide +kernel⟩, by decide⟩, im_X6_read, se_X6_read⟩
theorem mv_X6_torn : z_mV mX6_torn 0 := ⟨⟨cw_X6_torn, in_X6, ⟨by decide +kernel, by decide +kernel, by decide +kernel⟩, by decide⟩, im_X6_torn, se_X6_torn⟩
theorem mv_X6_count : z_mV mX6_count 1 := ⟨⟨cw_X6_count, in_X6, ⟨by decide +kernel, by decide +kernel, by decide +kernel⟩, by decide⟩, im_X6_count, se_X6_count⟩
theorem mv_X6_isComing : z_mV mX6_isComing 2 := ⟨⟨cw_X6_isComing, in_X6, ⟨by decide +kernel, by decide +kernel, by decide +kernel⟩, by decide⟩, im_X6_isComing, se_X6_isComing⟩
theorem mv_X6_runAsTold : z_mV mX6_runAsTold 1 := ⟨⟨cw_X6_runAsTold, in_X6, ⟨by decide +kernel, by decide +kernel, by decide +kernel⟩, by decide⟩, im_X6_runAsTold, se_X6_runAsTold⟩
theorem mv_X6_isBoat : z_mV mX6_isBoat 1 := ⟨⟨cw_X6_isBoat, in_X6, ⟨by decide +kernel, by decide +kernel, by decide +kernel⟩, by decide⟩, im_X6_isBoat, se_X6_isBoat⟩
theorem mv_X6_isPair : z_mV mX6_isPair 2 := ⟨⟨cw_X6_isPair, in_X6, ⟨by decide +kernel, by decide +kernel, by decide +kernel⟩, by decide⟩, im_X6_isPair, se_X6_isPair⟩
theorem mv_X6_liarSets : z_mV mX6_liarSets 0 := ⟨⟨cw_X6_liarSets, in_X6, ⟨by decide +kernel, by decide +kernel, by decide +kernel⟩, by decide⟩, im_X6_liarSets, se_X6_liarSets⟩
theorem ms_X6_isLaw : z_mS mX6_isLaw 1 := ⟨⟨cw_X6_isLaw, in_X6, ⟨by decide +kernel, by decide +kernel, by decide +kernel⟩, by decide⟩, st_X6_isLaw⟩
theorem ms_X6_isMeasure : z_mS mX6_isMeasure 1 := ⟨⟨cw_X6_isMeasure, in_X6, ⟨by decide +kernel, by decide +kernel, by decide +kernel⟩, by decide⟩, st_X6_isMeasure⟩
theorem ms_X6_isSheet : z_mS mX6_isSheet 1 := ⟨⟨cw_X6_isSheet, in_X6, ⟨by decide +kernel, by decide +kernel, by decide +kernel⟩, by decide⟩, st_X6_isSheet⟩
theorem ms_X6_hearsLies : z_mS mX6_hearsLies 1 := ⟨⟨cw_X6_hearsLies, in_X6, ⟨by decide +kernel, by decide +kernel, by decide +kernel⟩, by decide⟩, st_X6_hearsLies⟩
theorem ms_X6_otherSide : z_mS mX6_otherSide 1 := ⟨⟨cw_X6_otherSide, in_X6, ⟨by decide +kernel, by decide +kernel, by decide +kernel⟩, by decide⟩, st_X6_otherSide⟩
theorem ms_X6_within : z_mS mX6_within 3 := ⟨⟨cw_X6_within, in_X6, ⟨by decide +kernel, by decide +kernel, by decide +kernel⟩, by decide⟩, st_X6_within⟩
theorem ms_X7_in : z_mS mX7_in 3 := ⟨⟨cw_X7_in, in_X7, ⟨by decide +kernel, by decide +kernel, by decide +kernel⟩, by decide⟩, st_X7_in⟩
theorem ms_X7_flag : z_mS mX7_flag 1 := ⟨⟨cw_X7_flag, in_X7, ⟨by decide +kernel, by decide +kernel, by decide +kernel⟩, by decide⟩, st_X7_flag⟩
theorem mv_X7_firstDraft : z_mV mX7_firstDraft 0 := ⟨⟨cw_X7_firstDraft, in_X7, ⟨by decide +kernel, by decide +kernel, by decide +kernel⟩, by decide⟩, im_X7_firstDraft, se_X7_firstDraft⟩
theorem mv_X7_keepDraft : z_mV mX7_keepDraft 0 := ⟨⟨cw_X7_keepDraft, in_X7, ⟨by decide +kernel, by decide +kernel, by decide +kernel⟩, by decide⟩, im_X7_keepDraft, se_X7_keepDraft⟩
theorem mv_X7_feed : z_mV mX7_feed 1 := ⟨⟨cw_X7_feed, in_X7, ⟨by decide +kernel, by decide +kernel, by decide +kernel⟩, by decide⟩, im_X7_feed, se_X7_feed⟩
theorem mv_X7_end : z_mV mX7_end 1 := ⟨⟨cw_X7_end, in_X7, ⟨by decide +kernel, by decide +kernel, by decide +kernel⟩, by decide⟩, im_X7_end, se_X7_end⟩
theorem mv_X7_needs : z_mV mX7_needs 2 := ⟨⟨cw_X7_needs, in_X7, ⟨by decide +kernel, by decide +kernel, by decide +kernel⟩, by decide⟩, im_X7_needs, se_X7_needs⟩
theorem mv_X7_byteAt : z_mV mX7_byteAt 1 := ⟨⟨cw_X7_byteAt, in_X7, ⟨by decide +kernel, by decide +kernel, by decide +kernel⟩, by decide⟩, im_X7_byteAt, se_X7_byteAt⟩
theorem mv_X7_is : z_mV mX7_is 5 := ⟨⟨cw_X7_is, in_X7, ⟨by decide +kernel, by decide +kernel, by decide +kernel⟩, by decide⟩, im_X7_is, se_X7_is⟩
theorem mv_X7_endsWith : z_mV mX7_endsWith 1 := ⟨⟨cw_X7_endsWith, in_X7, ⟨by decide +kernel, by decide +kernel, by decide +kernel⟩, by decide⟩, im_X7_endsWith, se_X7_endsWith⟩
theorem mv_X7_lineNow : z_mV mX7_lineNow 0 := ⟨⟨cw_X7_lineNow, in_X7, ⟨by decide +kernel, by decide +kernel, by decide +kernel⟩, by decide⟩, im_X7_lineNow, se_X7_lineNow⟩
theorem mv_X7_cargoNow : z_mV mX7_cargoNow 0 := ⟨⟨cw_X7_cargoNow, in_X7, ⟨by decide +kernel, by decide +kernel, by decide +kernel⟩, by decide⟩, im_X7_cargoNow, se_X7_cargoNow⟩
theorem mv_X7_lawNow : z_mV mX7_lawNow 0 := ⟨⟨cw_X7_lawNow, in_X7, ⟨by decide +kernel, by decide +kernel, by decide +kernel⟩, by decide⟩, im_X7_lawNow, se_X7_lawNow⟩
theorem mv_X7_next : z_mV mX7_next 0 := ⟨⟨cw_X7_next, in_X7, ⟨by decide +kernel, by decide +kernel, by decide +kernel⟩, by decide⟩, im_X7_next, se_X7_next⟩
theorem mv_X7_looked : z_mV mX7_looked 2 := ⟨⟨cw_X7_looked, in_X7, ⟨by decide +kernel, by decide +kernel, by decide +kernel⟩, by decide⟩, im_X7_looked, se_X7_looked⟩
theorem mv_X7_readNumber : z_mV mX7_readNumber 2 := ⟨⟨cw_X7_readNumber, in_X7, ⟨by decide +kernel, by decide +kernel, by decide +kernel⟩, by decide⟩, im_X7_readNumber, se_X7_readNumber⟩
theorem mv_X7_readName : z_mV mX7_readName 1 := ⟨⟨cw_X7_readName, in_X7, ⟨by decide +kernel, by decide +kernel, by decide +kernel⟩, by decide⟩, im_X7_readName, se_X7_readName⟩
theorem mv_X7_readBoat : z_mV mX7_readBoat 1 := ⟨⟨cw_X7_readBoat, in_X7, ⟨by decide +kernel, by decide +kernel, by decide +kernel⟩, by decide⟩, im_X7_readBoat, se_X7_readBoat⟩
theorem mv_X7_readLiar : z_mV mX7_readLiar 0 := ⟨⟨cw_X7_readLiar, in_X7, ⟨by decide +kernel, by decide +kernel, by decide +kernel⟩, by decide⟩, im_X7_readLiar, se_X7_readLiar⟩
theorem mv_X7_readLineOf : z_mV mX7_readLineOf 1 := ⟨⟨cw_X7_readLineOf, in_X7, ⟨by decide +kernel, by decide +kernel, by decide +kernel⟩, by decide⟩, im_X7_readLineOf, se_X7_readLineOf⟩
theorem mv_X7_readLine : z_mV mX7_readLine 0 := ⟨⟨cw_X7_readLine, in_X7, ⟨by decide +kernel, by decide +kernel, by decide +kernel⟩, by decide⟩, im_X7_readLine, se_X7_readLine⟩
theorem mv_X7_text : z_mV mX7_text 0 := ⟨⟨cw_X7_text, in_X7, ⟨by decide +kernel, by decide +kernel, by decide +kernel⟩, by decide⟩, im_X7_text, se_X7_text⟩
theorem mv_X7_fault : z_mV mX7_fault 0 := ⟨⟨cw_X7_fault, in_X7, ⟨by decide +kernel, by decide +kernel, by decide +kernel⟩, by decide⟩, im_X7_fault, se_X7_fault⟩
theorem mv_X7_isBoat : z_mV mX7_isBoat 1 := ⟨⟨cw_X7_isBoat, in_X7, ⟨by decide +kernel, by decide +kernel, by decide +kernel⟩, by decide⟩, im_X7_isBoat, se_X7_isBoat⟩
theorem ms_X7_isPart : z_mS mX7_isPart 1 := ⟨⟨cw_X7_isPart, in_X7, ⟨by decide +kernel, by decide +kernel, by decide +kernel⟩, by decide⟩, st_X7_isPart⟩
theorem mv_X7_starts : z_mV mX7_starts 0 := ⟨⟨cw_X7_starts, in_X7, ⟨by decide +kernel, by decide +kernel, by decide +kernel⟩, by decide⟩, im_X7_starts, se_X7_starts⟩
theorem mv_X7_of : z_mV mX7_of 2 := ⟨⟨cw_X7_of, in_X7, ⟨by decide +kernel, by decide +kernel, by decide +kernel⟩, by decide⟩, im_X7_of, se_X7_of⟩
theorem mv_X7_becomesOf : z_mV mX7_becomesOf 3 := ⟨⟨cw_X7_becomesOf, in_X7, ⟨by decide +kernel, by decide +kernel, by decide +kernel⟩, by decide⟩, im_X7_becomesOf, se_X7_becomesOf⟩
theorem mv_X7_countsFrom : z_mV mX7_countsFrom 1 := ⟨⟨cw_X7_countsFrom, in_X7, ⟨by decide +kernel, by decide +kernel, by decide +kernel⟩, by decide⟩, im_X7_countsFrom, se_X7_countsFrom⟩
theorem mv_X7_cargoTold : z_mV mX7_cargoTold 1 := ⟨⟨cw_X7_cargoTold, in_X7, ⟨by decide +kernel, by decide +kernel, by decide +kernel⟩, by decide⟩, im_X7_cargoTold, se_X7_cargoTold⟩
theorem mv_X7_opens : z_mV mX7_opens 0 := ⟨⟨cw_X7_opens, in_X7, ⟨by decide +kernel, by decide +kernel, by decide +kernel⟩, by decide⟩, im_X7_opens, se_X7_opens⟩
theorem mv_X7_lets : z_mV mX7_lets 1 := ⟨⟨cw_X7_lets, in_X7, ⟨by decide +kernel, by decide +kernel, by decide +kernel⟩, by decide⟩, im_X7_lets, se_X7_lets⟩
theorem mv_X7_sideOf : z_mV mX7_sideOf 1 := ⟨⟨cw_X7_sideOf, in_X7, ⟨by decide +kernel, by decide +kernel, by decide +kernel⟩, by decide⟩, im_X7_sideOf, se_X7_sideOf⟩
theorem mv_X7_comeFrom : z_mV mX7_comeFrom 2 := ⟨⟨cw_X7_comeFrom, in_X7, ⟨by decide +kernel, by decide +kernel, by decide +kernel⟩, by decide⟩, im_X7_comeFrom, se_X7_comeFrom⟩
theorem ms_X7_bitsOf : z_mS mX7_bitsOf 1 := ⟨⟨cw_X7_bitsOf, in_X7, ⟨by decide +kernel, by decide +kernel, by decide +kernel⟩, by decide⟩, st_X7_bitsOf⟩
theorem mv_X7_preferred : z_mV mX7_preferred 2 := ⟨⟨cw_X7_preferred, in_X7, ⟨by decide +kernel, by decide +kernel, by decide +kernel⟩, by decide⟩, im_X7_preferred, se_X7_preferred⟩
theorem mv_X7_leastCargo : z_mV mX7_leastCargo 1 := ⟨⟨cw_X7_leastCargo, in_X7, ⟨by decide +kernel, by decide +kernel, by decide +kernel⟩, by decide⟩, im_X7_leastCargo, se_X7_leastCargo⟩
theorem mv_X7_taken : z_mV mX7_taken 1 := ⟨⟨cw_X7_taken, in_X7, ⟨by decide +kernel, by decide +kernel, by decide +kernel⟩, by decide⟩, im_X7_taken, se_X7_taken⟩
theorem mv_X7_earliest : z_mV mX7_earliest 1 := ⟨⟨cw_X7_earliest, in_X7, ⟨by decide +kernel, by decide +kernel, by decide +kernel⟩, by decide⟩, im_X7_earliest, se_X7_earliest⟩
theorem mv_X7_counting : z_mV mX7_counting 1 := ⟨⟨cw_X7_counting, in_X7, ⟨by decide +kernel, by decide +kernel, by decide +kernel⟩, by decide⟩, im_X7_counting, se_X7_counting⟩
theorem mv_X7_dayGoes : z_mV mX7_dayGoes 0 := ⟨⟨cw_X7_dayGoes, in_X7, ⟨by decide +kernel, by decide +kernel, by decide +kernel⟩, by decide⟩, im_X7_dayGoes, se_X7_dayGoes⟩
theorem mv_X7_costNow : z_mV mX7_costNow 0 := ⟨⟨cw_X7_costNow, in_X7, ⟨by decide +kernel, by decide +kernel, by decide +kernel⟩, by decide⟩, im_X7_costNow, se_X7_costNow⟩
theorem mv_X7_tells : z_mV mX7_tells 1 := ⟨⟨cw_X7_tells, in_X7, ⟨by decide +kernel, by decide +kernel, by decide +kernel⟩, by decide⟩, im_X7_tells, se_X7_tells⟩
theorem mv_X7_dayNow : z_mV mX7_dayNow 0 := ⟨⟨cw_X7_dayNow, in_X7, ⟨by decide +kernel, by decide +kernel, by decide +kernel⟩, by decide⟩, im_X7_dayNow, se_X7_dayNow⟩
theorem mv_X7_placeOf : z_mV mX7_placeOf 1 := ⟨⟨cw_X7_placeOf, in_X7, ⟨by decide +kernel, by decide +kernel, by decide +kernel⟩, by decide⟩, im_X7_placeOf, se_X7_placeOf⟩
theorem mv_X7_liars : z_mV mX7_liars 0 := ⟨⟨cw_X7_liars, in_X7, ⟨by decide +kernel, by decide +kernel, by decide +kernel⟩, by decide⟩, im_X7_liars, se_X7_liars⟩
theorem mv_X7_rule : z_mV mX7_rule 1 := ⟨⟨cw_X7_rule, in_X7, ⟨by decide +kernel, by decide +kernel, by decide +kernel⟩, by decide⟩, im_X7_rule, se_X7_rule⟩
theorem mv_X7_boat : z_mV mX7_boat 2 := ⟨⟨cw_X7_boat, in_X7, ⟨by decide +kernel, by decide +kernel, by decide +kernel⟩, by decide⟩, im_X7_boat, se_X7_boat⟩
theorem mv_X7_becomes : z_mV mX7_becomes 2 := ⟨⟨cw_X7_becomes, in_X7, ⟨by decide +kernel, by decide +kernel, by decide +kernel⟩, by decide⟩, im_X7_becomes, se_X7_becomes⟩
theorem ms_X7_mostOf : z_mS mX7_mostOf 1 := ⟨⟨cw_X7_mostOf, in_X7, ⟨by decide +kernel, by decide +kernel, by decide +kernel⟩, by decide⟩, st_X7_mostOf⟩
theorem mv_X7_set : z_mV mX7_set 2 := ⟨⟨cw_X7_set, in_X7, ⟨by decide +kernel, by decide +kernel, by decide +kernel⟩, by decide⟩, im_X7_set, se_X7_set⟩
theorem mv_X7_alter : z_mV mX7_alter 3 := ⟨⟨cw_X7_alter, in_X7, ⟨by decide +kernel, by decide +kernel, by decide +kernel⟩, by decide⟩, im_X7_alter, se_X7_alter⟩
theorem mv_X7_lie : z_mV mX7_lie 2 := ⟨⟨cw_X7_lie, in_X7, ⟨by decide +kernel, by decide +kernel, by decide +kernel⟩, by decide⟩, im_X7_lie, se_X7_lie⟩
theorem mv_X7_cross : z_mV mX7_cross 1 := ⟨⟨cw_X7_cross, in_X7, ⟨by decide +kernel, by decide +kernel, by decide +kernel⟩, by decide⟩, im_X7_cross, se_X7_cross⟩
theorem mv_X7_passes : z_mV mX7_passes 1 := ⟨⟨cw_X7_passes, in_X7, ⟨by decide +kernel, by decide +kernel, by decide +kernel⟩, by decide⟩, im_X7_passes, se_X7_passes⟩
theorem mv_X7_through : z_mV mX7_through 1 := ⟨⟨cw_X7_through, in_X7, ⟨by decide +kernel, by decide +kernel, by decide +kernel⟩, by decide⟩, im_X7_through, se_X7_through⟩
theorem mv_X7_stood : z_mV mX7_stood 1 := ⟨⟨cw_X7_stood, in_X7, ⟨by decide +kernel, by decide +kernel, by decide +kernel⟩, by decide⟩, im_X7_stood, se_X7_stood⟩
theorem mv_X7_day : z_mV mX7_day 1 := ⟨⟨cw_X7_day, in_X7, ⟨by decide +kernel, by decide +kernel, by decide +kernel⟩, by decide⟩, im_X7_day, se_X7_day⟩
theorem mv_X7_dayBy : z_mV mX7_dayBy 1 := ⟨⟨cw_X7_dayBy, in_X7, ⟨by decide +kernel, by decide +kernel, by decide +kernel⟩, by decide⟩, im_X7_dayBy, se_X7_dayBy⟩
theorem mv_X7_table : z_mV mX7_table 2 := ⟨⟨cw_X7_table, in_X7, ⟨by decide +kernel, by decide +kernel, by decide +kernel⟩, by decide⟩, im_X7_table, se_X7_table⟩
theorem mv_X7_best : z_mV mX7_best 1 := ⟨⟨cw_X7_best, in_X7, ⟨by decide +kernel, by decide +kernel, by decide +kernel⟩, by decide⟩, im_X7_best, se_X7_best⟩
theorem mv_X7_rows : z_mV mX7_rows 0 := ⟨⟨cw_X7_rows, in_X7, ⟨by decide +kernel, by decide +kernel, by decide +kernel⟩, by decide⟩, im_X7_rows, se_X7_rows⟩
theorem mv_X7_isOrder : z_mV mX7_isOrder 1 := ⟨⟨cw_X7_isOrder, in_X7, ⟨by decide +kernel, by decide +kernel, by decide +kernel⟩, by decide⟩, im_X7_isOrder, se_X7_isOrder⟩
theorem mv_X7_goesInOrder : z_mV mX7_goesInOrder 0 := ⟨⟨cw_X7_goesInOrder, in_X7, ⟨by decide +kernel, by decide +kernel, by decide +kernel⟩, by decide⟩, im_X7_goesInOrder, se_X7_goesInOrder⟩
theorem mv_X7_order : z_mV mX7_order 1 := ⟨⟨cw_X7_order, in_X7, ⟨by decide +kernel, by decide +kernel, by decide +kernel⟩, by decide⟩, im_X7_order, se_X7_order⟩
theorem mv_X7_firsts : z_mV mX7_firsts 1 := ⟨⟨cw_X7_firsts, in_X7, ⟨by decide +kernel, by decide +kernel, by decide +kernel⟩, by decide⟩, im_X7_firsts, se_X7_firsts⟩
theorem mv_X7_gainOf : z_mV mX7_gainOf 1 := ⟨⟨cw_X7_gainOf, in_X7, ⟨by decide +kernel, by decide +kernel, by decide +kernel⟩, by decide⟩, im_X7_gainOf, se_X7_gainOf⟩
theorem mv_X7_gain : z_mV mX7_gain 1 := ⟨⟨cw_X7_gain, in_X7, ⟨by decide +kernel, by decide +kernel, by decide +kernel⟩, by decide⟩, im_X7_gain, se_X7_gain⟩
theorem mv_X7_isCalm : z_mV mX7_isCalm 0 := ⟨⟨cw_X7_isCalm, in_X7, ⟨by decide +kernel, by decide +kernel, by decide +kernel⟩, by decide⟩, im_X7_isCalm, se_X7_isCalm⟩
theorem mv_X7_calm : z_mV mX7_calm 0 := ⟨⟨cw_X7_calm, in_X7, ⟨by decide +kernel, by decide +kernel, by decide +kernel⟩, by decide⟩, im_X7_calm, se_X7_calm⟩
theorem mv_X7_liesBy : z_mV mX7_liesBy 1 := ⟨⟨cw_X7_liesBy, in_X7, ⟨by decide +kernel, by decide +kernel, by decide +kernel⟩, by decide⟩, im_X7_liesBy, se_X7_liesBy⟩
theorem mv_X7_rests : z_mV mX7_rests 1 := ⟨⟨cw_X7_rests, in_X7, ⟨by decide +kernel, by decide +kernel, by decide +kernel⟩, by decide⟩, im_X7_rests, se_X7_rests⟩
theorem mv_X7_boy : z_mV mX7_boy 2 := ⟨⟨cw_X7_boy, in_X7, ⟨by decide +kernel, by decide +kernel, by decide +kernel⟩, by decide⟩, im_X7_boy, se_X7_boy⟩
theorem mv_X7_post : z_mV mX7_post 1 := ⟨⟨cw_X7_post, in_X7, ⟨by decide +kernel, by decide +kernel, by decide +kernel⟩, by decide⟩, im_X7_post, se_X7_post⟩
theorem mv_X7_late : z_mV mX7_late 1 := ⟨⟨cw_X7_late, in_X7, ⟨by decide +kernel, by decide +kernel, by decide +kernel⟩, by decide⟩, im_X7_late, se_X7_late⟩
theorem mv_X7_deal : z_mV mX7_deal 3 := ⟨⟨cw_X7_deal, in_X7, ⟨by decide +kernel, by decide +kernel, by decide +kernel⟩, by decide⟩, im_X7_deal, se_X7_deal⟩
theorem ms_X7_common : z_mS mX7_common 2 := ⟨⟨cw_X7_common, in_X7, ⟨by decide +kernel, by decide +kernel, by decide +kernel⟩, by decide⟩, st_X7_common⟩
theorem ms_X7_told : z_mS mX7_told 3 := ⟨⟨cw_X7_told, in_X7, ⟨by decide +kernel, by decide +kernel, by decide +kernel⟩, by decide⟩, st_X7_told⟩
theorem mv_X7_waysOf : z_mV mX7_waysOf 2 := ⟨⟨cw_X7_waysOf, in_X7, ⟨by decide +kernel, by decide +kernel, by decide +kernel⟩, by decide⟩, im_X7_waysOf, se_X7_waysOf⟩
theorem mv_X7_allWays : z_mV mX7_allWays 0 := ⟨⟨cw_X7_allWays, in_X7, ⟨by decide +kernel, by decide +kernel, by decide +kernel⟩, by decide⟩, im_X7_allWays, se_X7_allWays⟩
theorem mv_X7_dayCaught : z_mV mX7_dayCaught 1 := ⟨⟨cw_X7_dayCaught, in_X7, ⟨by decide +kernel, by decide +kernel, by decide +kernel⟩, by decide⟩, im_X7_dayCaught, se_X7_dayCaught⟩
theorem mv_X7_mean : z_mV mX7_mean 3 := ⟨⟨cw_X7_mean, in_X7, ⟨by decide +kernel, by decide +kernel, by decide +kernel⟩, by decide⟩, im_X7_mean, se_X7_mean⟩
theorem mv_X7_luck : z_mV mX7_luck 4 := ⟨⟨cw_X7_luck, in_X7, ⟨by decide +kernel, by decide +kernel, by decide +kernel⟩, by decide⟩, im_X7_luck, se_X7_luck⟩
theorem mv_X7_see : z_mV mX7_see 2 := ⟨⟨cw_X7_see, in_X7, ⟨by decide +kernel, by decide +kernel, by decide +kernel⟩, by decide⟩, im_X7_see, se_X7_see⟩
theorem mv_X7_forget : z_mV mX7_forget 1 := ⟨⟨cw_X7_forget, in_X7, ⟨by decide +kernel, by decide +kernel, by decide +kernel⟩, by decide⟩, im_X7_forget, se_X7_forget⟩
theorem mv_X7_isSo : z_mV mX7_isSo 2 := ⟨⟨cw_X7_isSo, in_X7, ⟨by decide +kernel, by decide +kernel, by decide +kernel⟩, by decide⟩, im_X7_isSo, se_X7_isSo⟩
theorem mv_X7_fits : z_mV mX7_fits 1 := ⟨⟨cw_X7_fits, in_X7, ⟨by decide +kernel, by decide +kernel, by decide +kernel⟩, by decide⟩, im_X7_fits, se_X7_fits⟩
theorem mv_X7_drift : z_mV mX7_drift 3 := ⟨⟨cw_X7_drift, in_X7, ⟨by decide +kernel, by decide +kernel, by decide +kernel⟩, by decide⟩, im_X7_drift, se_X7_drift⟩
theorem mv_X7_copies : z_mV mX7_copies 2 := ⟨⟨cw_X7_copies, in_X7, ⟨by decide +kernel, by decide +kernel, by decide +kernel⟩, by decide⟩, im_X7_copies, se_X7_copies⟩
theorem mv_X7_keep : z_mV mX7_keep 1 := ⟨⟨cw_X7_keep, in_X7, ⟨by decide +kernel, by decide +kernel, by decide +kernel⟩, by decide⟩, im_X7_keep, se_X7_keep⟩
theorem mv_X7_back : z_mV mX7_back 1 := ⟨⟨cw_X7_back, in_X7, ⟨by decide +kernel, by decide +kernel, by decide +kernel⟩, by decide⟩, im_X7_back, se_X7_back⟩
theorem ms_X7_isSheet : z_mS mX7_isSheet 2 := ⟨⟨cw_X7_isSheet, in_X7, ⟨by decide +kernel, by decide +kernel, by decide +kernel⟩, by decide⟩, st_X7_isSheet⟩
theorem mv_X7_sheet : z_mV mX7_sheet 3 := ⟨⟨cw_X7_sheet, in_X7, ⟨by decide +kernel, by decide +kernel, by decide +kernel⟩, by decide⟩, im_X7_sheet, se_X7_sheet⟩
theorem mv_X7_lay : z_mV mX7_lay 3 := ⟨⟨cw_X7_lay, in_X7, ⟨by decide +kernel, by decide +kernel, by decide +kernel⟩, by decide⟩, im_X7_lay, se_X7_lay⟩
theorem mv_X7_read : z_mV mX7_read 4 := ⟨⟨cw_X7_read, in_X7, ⟨by decide +kernel, by decide +kernel, by decide +kernel⟩, by decide⟩, im_X7_read, se_X7_read⟩
theorem mv_X7_torn : z_mV mX7_torn 0 := ⟨⟨cw_X7_torn, in_X7, ⟨by decide +kernel, by decide +kernel, by decide +kernel⟩, by decide⟩, im_X7_torn, se_X7_torn⟩
theorem mv_X7_count : z_mV mX7_count 1 := ⟨⟨cw_X7_count, in_X7, ⟨by decide +kernel, by decide +kernel, by decide +kernel⟩, by decide⟩, im_X7_count, se_X7_count⟩
theorem ms_J6_bitCount_0f7a4 : z_mS mJ6_bitCount_0f7a4 1 := ⟨⟨cw_J6_bitCount_0f7a4, in_J6, ⟨by decide +kernel, by decide +kernel, by decide +kernel⟩, by decide⟩, st_J6_bitCount_0f7a4⟩
theorem ms_J9_max_7cf53 : z_mS mJ9_max_7cf53 2 := ⟨⟨cw_J9_max_7cf53, in_J9, ⟨by decide +kernel, by decide +kernel, by decide +kernel⟩, by decide⟩, st_J9_max_7cf53⟩
theorem ms_J9_min_7cf53 : z_mS mJ9_min_7cf53 2 := ⟨⟨cw_J9_min_7cf53, in_J9, ⟨by decide +kernel, by decide +kernel, by decide +kernel⟩, by decide⟩, st_J9_min_7cf53⟩
theorem mv_J0_length_8abf5 : z_mV mJ0_length_8abf5 0 := ⟨⟨cw_J0_length_8abf5, in_J0, ⟨by decide +kernel, by decide +kernel, by decide +kernel⟩, by decide⟩, im_J0_length_8abf5, se_J0_length_8abf5⟩
theorem mv_J0_charAt_5068e : z_mV mJ0_charAt_5068e 1 := ⟨⟨cw_J0_charAt_5068e, in_J0, ⟨by decide +kernel, by decide +kernel, by decide +kernel⟩, by decide⟩, im_J0_charAt_5068e, se_J0_charAt_5068e⟩
theorem mv_J0_coder_7d493 : z_mV mJ0_coder_7d493 0 := ⟨⟨cw_J0_coder_7d493, in_J0, ⟨by decide +kernel, by decide +kernel, by decide +kernel⟩, by decide⟩, im_J0_coder_7d493, se_J0_coder_7d493⟩
theorem mv_J0_isLatin1_aae02 : z_mV mJ0_isLatin1_aae02 0 := ⟨⟨cw_J0_isLatin1_aae02, in_J0, ⟨by decide +kernel, by decide +kernel, by decide +kernel⟩, by decide⟩, im_J0_isLatin1_aae02, se_J0_isLatin1_aae02⟩
theorem ms_J0_checkIndex_df160 : z_mS mJ0_checkIndex_df160 2 := ⟨⟨cw_J0_checkIndex_df160, in_J0, ⟨by decide +kernel, by decide +kernel, by decide +kernel⟩, by decide⟩, st_J0_checkIndex_df160⟩
theorem ms_J1_charAt_3b067 : z_mS mJ1_charAt_3b067 2 := ⟨⟨cw_J1_charAt_3b067, in_J1, ⟨by decide +kernel, by decide +kernel, by decide +kernel⟩, by decide⟩, st_J1_charAt_3b067⟩
theorem ms_J2_getChar_3b067 : z_mS mJ2_getChar_3b067 2 := ⟨⟨cw_J2_getChar_3b067, in_J2, ⟨by decide +kernel, by decide +kernel, by decide +kernel⟩, by decide⟩, st_J2_getChar_3b067⟩
theorem ms_J2_length_9d52b : z_mS mJ2_length_9d52b 1 := ⟨⟨cw_J2_length_9d52b, in_J2, ⟨by decide +kernel, by decide +kernel, by decide +kernel⟩, by decide⟩, st_J2_length_9d52b⟩
theorem ms_J2_charAt_3b067 : z_mS mJ2_charAt_3b067 2 := ⟨⟨cw_J2_charAt_3b067, in_J2, ⟨by decide +kernel, by decide +kernel, by decide +kernel⟩, by decide⟩, st_J2_charAt_3b067⟩
theorem ms_J2_checkIndex_2214a : z_mS mJ2_checkIndex_2214a 2 := ⟨⟨cw_J2_checkIndex_2214a, in_J2, ⟨by decide +kernel, by decide +kernel, by decide +kernel⟩, by decide⟩, st_J2_checkIndex_2214a⟩
theorem ms_J7_fill_53178 : z_mS mJ7_fill_53178 2 := ⟨⟨cw_J7_fill_53178, in_J7, ⟨by decide +kernel, by decide +kernel, by decide +kernel⟩, by decide⟩, st_J7_fill_53178⟩
theorem ms_J3_checkIndex_8e157 : z_mS mJ3_checkIndex_8e157 3 := ⟨⟨cw_J3_checkIndex_8e157, in_J3, ⟨by decide +kernel, by decide +kernel, by decide +kernel⟩, by decide⟩, st_J3_checkIndex_8e157⟩
/-- a lock, by its first cell -/
def z_isL (B : Nat) : Prop := B = 1 ∨ B = 6 ∨ B = 11 ∨ B = 16 ∨ B = 21
theorem z_L0 {B : Nat} (h : z_isL B) : z_shp[B]? = some (.inr (1, [some (B + 1), some (B + 2), none, none, none, some (B + 3), some (B + 4)])) := by rcases h with rfl | rfl | rfl | rfl | rfl <;> rfl
theorem z_L1 {B : Nat} (h : z_isL B) : z_shp[B + 1]? = some (.inl (.int, 6, none)) := by rcases h with rfl | rfl | rfl | rfl | rfl <;> rfl
theorem z_L2 {B : Nat} (h : z_isL B) : z_shp[B + 2]? = some (.inl (.int, 30, none)) := by rcases h with rfl | rfl | rfl | rfl | rfl <;> rfl
theorem z_L3 {B : Nat} (h : z_isL B) : z_shp[B + 3]? = some (.inl (.int, 6, none)) := by rcases h with rfl | rfl | rfl | rfl | rfl <;> rfl
theorem z_L4 {B : Nat} (h : z_isL B) : z_shp[B + 4]? = some (.inl (.int, 6, none)) := by rcases h with rfl | rfl | rfl | rfl | rfl <;> rfl
/-- a sheet, by its first cell -/
def z_isH (S : Nat) : Prop := S = 42 ∨ S = 44 ∨ S = 46 ∨ S = 48
theorem z_H0 {S : Nat} (h : z_isH S) : z_shp[S]? = some (.inr (3, [some (S + 1), none, none])) := by rcases h with rfl | rfl | rfl | rfl <;> rfl
theorem z_H1 {S : Nat} (h : z_isH S) : z_shp[S + 1]? = some (.inl (.int, 40, none)) := by rcases h with rfl | rfl | rfl | rfl <;> rfl
section IX
variable {y : zM} {d : Nat} {T : zX → Prop} {pc : Nat} {L : List (Option Value)} {st : List Value} {w : zW}
/-! array rows with the place as a number j -/
theorem rj_iald {k N : Nat} {i : Int32} (n j : Nat) (hd : decode y.2.1 pc = .ok (.iaload, 1)) (hs : z_shp[k]? = some (.inl (.int, N, none))) (hi : i = nI j) (hj : j < N) (hN : N < 2 ^ 31) (hn : pc + 1 = n) (kk : WP y d T n L (.int (w k j) :: st) w) : WP y d T pc L (.int i :: .ref k :: st) w := by
  subst hi
  refine r_iald n hd hs (vp_in_nI hj hN) hn ?_
  rw [nI_clamp (Nat.lt_trans hj hN)]
  exact kk
theorem rj_bald {k N : Nat} {i : Int32} (n j : Nat) (hd : decode y.2.1 pc = .ok (.baload, 1)) (hs : z_shp[k]? = some (.inl (.byte, N, none))) (hi : i = nI j) (hj : j < N) (hN : N < 2 ^ 31) (hn : pc + 1 = n) (kk : WP y d T n L (.int (w k j) :: st) w) : WP y d T pc L (.int i :: .ref k :: st) w := by
  subst hi
  refine r_bald n hd hs (vp_in_nI hj hN) hn ?_
  rw [nI_clamp (Nat.lt_trans hj hN)]
  exact kk
theorem rj_zald {k N : Nat} {i : Int32} (n j : Nat) (hd : decode y.2.1 pc = .ok (.baload, 1)) (hs : z_shp[k]? = some (.inl (.boolean, N, none))) (hi : i = nI j) (hj : j < N) (hN : N < 2 ^ 31) (hn : pc + 1 = n) (kk : WP y d T n L (.int (w k j) :: st) w) : WP y d T pc L (.int i :: .ref k :: st) w := by
  subst hi
  refine r_zald n hd hs (vp_in_nI hj hN) hn ?_
  rw [nI_clamp (Nat.lt_trans hj hN)]
  exact kk
theorem rj_iast {k N : Nat} {i v : Int32} (n j : Nat) (hd : decode y.2.1 pc = .ok (.iastore, 1)) (hs : z_shp[k]? = some (.inl (.int, N, none))) (hi : i = nI j) (hj : j < N) (hN : N < 2 ^ 31) (hn : pc + 1 = n) (kk : WP y d T n L st (z_up w k j v)) : WP y d T pc L (.int v :: .int i :: .ref k :: st) w := by
  subst hi
  refine r_iast n hd hs (vp_in_nI hj hN) hn ?_
  rw [nI_clamp (Nat.lt_trans hj hN)]
  exact kk
theorem rj_bast {k N : Nat} {i v : Int32} (n j : Nat) (hd : decode y.2.1 pc = .ok (.bastore, 1)) (hs : z_shp[k]? = some (.inl (.byte, N, none))) (hi : i = nI j) (hj : j < N) (hN : N < 2 ^ 31) (hn : pc + 1 = n) (kk : WP y d T n L st (z_up w k j (vp_nar .byte v))) : WP y d T pc L (.int v :: .int i :: .ref k :: st) w := by
  subst hi
  refine r_bast n hd hs (vp_in_nI hj hN) hn ?_
  rw [nI_clamp (Nat.lt_trans hj hN)]
  exact kk
theorem rj_zast {k N : Nat} {i v : Int32} (n j : Nat) (hd : decode y.2.1 pc = .ok (.bastore, 1)) (hs : z_shp[k]? = some (.inl (.boolean, N, none))) (hi : i = nI j) (hj : j < N) (hN : N < 2 ^ 31) (hn : pc + 1 = n) (kk : WP y d T n L st (z_up w k j (vp_nar .boolean v))) : WP y d T pc L (.int v :: .int i :: .ref k :: st) w := by
  subst hi
  refine r_zast n hd hs (vp_in_nI hj hN) hn ?_
  rw [nI_clamp (Nat.lt_trans hj hN)]
  exact kk
theorem rj_tald {k : Nat} {i : Int32} (n j q : Nat) (hd : decode y.2.1 pc = .ok (.iaload, 1)) (hq : q < 4) (hk : k = 100 + q) (hi : i = nI j) (hj : j < (z_sar.getD q []).length) (hn : pc + 1 = n) (kk : WP y d T n L (.int ((z_sar.getD q []).getD j 0) :: st) w) : WP y d T pc L (.int i :: .ref k :: st) w := by
  subst hi
  have hN : (z_sar.getD q []).length < 2 ^ 31 := by
    match q, hq with
    | 0, _ => decide
    | 1, _ => decide
    | 2, _ => decide
    | 3, _ => decide
  refine r_tald n hd hq hk (vp_in_nI hj hN) hn ?_
  rw [nI_clamp (Nat.lt_trans hj hN)]
  exact kk
theorem rj_aald {k N r : Nat} {i : Int32} {C : String} {rs : List Nat} (n j : Nat) (hd : decode y.2.1 pc = .ok (.aaload, 1)) (hs : z_shp[k]? = some (.inl (.object C, N, some rs))) (hi : i = nI j) (hj : j < N) (hN : N < 2 ^ 31) (hr : rs[j]? = some r) (hn : pc + 1 = n) (kk : WP y d T n L (.ref r :: st) w) : WP y d T pc L (.int i :: .ref k :: st) w := by
  subst hi
  refine r_aald n hd hs (vp_in_nI hj hN) ?_ hn kk
  rw [nI_clamp (Nat.lt_trans hj hN)]
  exact hr
/-- what lies on top is another thing's equal -/
theorem r_eq {x z : Int32} (h : x = z) (k : WP y d T pc L (.int z :: st) w) : WP y d T pc L (.int x :: st) w := by
  subst h
  exact k
theorem r_eqw {w' : zW} (h : w = w') (k : WP y d T pc L st w') : WP y d T pc L st w := by
  subst h
  exact k
/-- cut a contract to less -/
theorem r_mono {y : zM} {d : Nat} {as : List Value} {w : zW} {P Q : Option Value → zW → Prop} (h : CT y d as w P) (hPQ : ∀ r w', P r w' → Q r w') : CT y d as w Q := by
  intro l G sz p e ha hc hk s m args below hf happ hP hKK
  obtain ⟨n, o, h1, h2, h3, ⟨⟨⟨r, w', q1, q2, q3⟩, q4⟩, q5⟩⟩ := h l G sz p e ha hc hk s m args below hf happ hP hKK
  exact ⟨n, o, h1, h2, h3, ⟨⟨⟨r, w', q1, hPQ r w' q2, q3⟩, q4⟩, q5⟩⟩
end IX
