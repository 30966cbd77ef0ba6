theorem dX10_goer_0 : decode cX10_goer 0 = .ok (.iload_n 1, 1) := by decide +kernel
theorem dX10_goer_1 : decode cX10_goer 1 = .ok (.invokestatic 128, 3) := by decide +kernel
theorem dX10_goer_4 : decode cX10_goer 4 = .ok (.ifCond .ne 23, 3) := by decide +kernel
theorem dX10_goer_7 : decode cX10_goer 7 = .ok (.iload_n 2, 1) := by decide +kernel
theorem dX10_goer_8 : decode cX10_goer 8 = .ok (.iconst 0, 1) := by decide +kernel
theorem dX10_goer_9 : decode cX10_goer 9 = .ok (.bipush 99, 2) := by decide +kernel
theorem dX10_goer_11 : decode cX10_goer 11 = .ok (.invokestatic 87, 3) := by decide +kernel
theorem dX10_goer_14 : decode cX10_goer 14 = .ok (.ifCond .ne 13, 3) := by decide +kernel
theorem dX10_goer_17 : decode cX10_goer 17 = .ok (.iload_n 3, 1) := by decide +kernel
theorem dX10_goer_18 : decode cX10_goer 18 = .ok (.iconst 0, 1) := by decide +kernel
theorem dX10_goer_19 : decode cX10_goer 19 = .ok (.bipush 11, 2) := by decide +kernel
theorem dX10_goer_21 : decode cX10_goer 21 = .ok (.invokestatic 87, 3) := by decide +kernel
theorem dX10_goer_24 : decode cX10_goer 24 = .ok (.ifCond .eq 5, 3) := by decide +kernel
theorem dX10_goer_27 : decode cX10_goer 27 = .ok (.iconst (-1), 1) := by decide +kernel
theorem dX10_goer_28 : decode cX10_goer 28 = .ok (.ireturn, 1) := by decide +kernel
theorem dX10_goer_29 : decode cX10_goer 29 = .ok (.aload_n 0, 1) := by decide +kernel
theorem dX10_goer_30 : decode cX10_goer 30 = .ok (.getfield 36, 3) := by decide +kernel
theorem dX10_goer_33 : decode cX10_goer 33 = .ok (.getfield 109, 3) := by decide +kernel
theorem dX10_goer_36 : decode cX10_goer 36 = .ok (.bipush 8, 2) := by decide +kernel
theorem dX10_goer_38 : decode cX10_goer 38 = .ok (.if_icmp .lt 6, 3) := by decide +kernel
theorem dX10_goer_41 : decode cX10_goer 41 = .ok (.bipush (-2), 2) := by decide +kernel
theorem dX10_goer_43 : decode cX10_goer 43 = .ok (.ireturn, 1) := by decide +kernel
theorem dX10_goer_44 : decode cX10_goer 44 = .ok (.aload_n 0, 1) := by decide +kernel
theorem dX10_goer_45 : decode cX10_goer 45 = .ok (.getfield 36, 3) := by decide +kernel
theorem dX10_goer_48 : decode cX10_goer 48 = .ok (.iload_n 1, 1) := by decide +kernel
theorem dX10_goer_49 : decode cX10_goer 49 = .ok (.iload_n 2, 1) := by decide +kernel
theorem dX10_goer_50 : decode cX10_goer 50 = .ok (.iload_n 3, 1) := by decide +kernel
theorem dX10_goer_51 : decode cX10_goer 51 = .ok (.invokevirtual 131, 3) := by decide +kernel
theorem dX10_goer_54 : decode cX10_goer 54 = .ok (.aload_n 0, 1) := by decide +kernel
theorem dX10_goer_55 : decode cX10_goer 55 = .ok (.getfield 36, 3) := by decide +kernel
theorem dX10_goer_58 : decode cX10_goer 58 = .ok (.getfield 109, 3) := by decide +kernel
theorem dX10_goer_61 : decode cX10_goer 61 = .ok (.iconst 1, 1) := by decide +kernel
theorem dX10_goer_62 : decode cX10_goer 62 = .ok (.isub, 1) := by decide +kernel
theorem dX10_goer_63 : decode cX10_goer 63 = .ok (.ireturn, 1) := by decide +kernel
set_option maxRecDepth 20000 in
theorem ggX10_of_X8_has : GoodIn wsX10_of wsX8_has := goodIn_r _ [10, 11, 89, 90, 91, 92, 93, 94, 95, 96, 97, 98, 99] (by decide +kernel) (by decide +kernel)
set_option maxRecDepth 20000 in
theorem gX10_of_X8_has : GoodIn wsX10_of (wsV RX10 135 RX8 yX8_has wsX8_has) := goodIn_app (goodIn_of _ (by decide +kernel)) ggX10_of_X8_has
set_option maxRecDepth 20000 in
theorem ggX10_of_X8_seesNow : GoodIn wsX10_of wsX8_seesNow := goodIn_r _ [15, 16, 17, 18, 19, 9, 20, 21, 22, 23, 24, 25, 26, 27, 28, 29, 30, 31, 32, 33, 34, 35, 36, 37, 38, 39, 40, 41, 42, 43, 44, 45, 46, 47, 48, 49, 50, 51, 52, 53, 54, 55, 56, 57, 58, 59, 60, 61, 62, 63, 64, 65, 66, 67, 68, 69, 70, 71, 72, 73, 74, 75, 89, 90, 91, 92, 93, 94, 95, 96, 97, 98, 99] (by decide +kernel) (by decide +kernel)
set_option maxRecDepth 20000 in
theorem gX10_of_X8_seesNow : GoodIn wsX10_of (wsV RX10 149 RX8 yX8_seesNow wsX8_seesNow) := goodIn_app (goodIn_of _ (by decide +kernel)) ggX10_of_X8_seesNow
theorem dX10_of_0 : decode cX10_of 0 = .ok (.aload_n 0, 1) := by decide +kernel
theorem dX10_of_1 : decode cX10_of 1 = .ok (.getfield 36, 3) := by decide +kernel
theorem dX10_of_4 : decode cX10_of 4 = .ok (.iload_n 1, 1) := by decide +kernel
theorem dX10_of_5 : decode cX10_of 5 = .ok (.invokevirtual 135, 3) := by decide +kernel
theorem dX10_of_8 : decode cX10_of 8 = .ok (.ifCond .ne 5, 3) := by decide +kernel
theorem dX10_of_11 : decode cX10_of 11 = .ok (.iconst (-1), 1) := by decide +kernel
theorem dX10_of_12 : decode cX10_of 12 = .ok (.ireturn, 1) := by decide +kernel
theorem dX10_of_13 : decode cX10_of 13 = .ok (.iload_n 2, 1) := by decide +kernel
theorem dX10_of_14 : decode cX10_of 14 = .ok (.tableswitch 91 0 4 #[34, 44, 54, 64, 74], 34) := by decide +kernel
theorem dX10_of_48 : decode cX10_of 48 = .ok (.aload_n 0, 1) := by decide +kernel
theorem dX10_of_49 : decode cX10_of 49 = .ok (.getfield 36, 3) := by decide +kernel
theorem dX10_of_52 : decode cX10_of 52 = .ok (.getfield 138, 3) := by decide +kernel
theorem dX10_of_55 : decode cX10_of 55 = .ok (.iload_n 1, 1) := by decide +kernel
theorem dX10_of_56 : decode cX10_of 56 = .ok (.iaload, 1) := by decide +kernel
theorem dX10_of_57 : decode cX10_of 57 = .ok (.ireturn, 1) := by decide +kernel
theorem dX10_of_58 : decode cX10_of 58 = .ok (.aload_n 0, 1) := by decide +kernel
theorem dX10_of_59 : decode cX10_of 59 = .ok (.getfield 36, 3) := by decide +kernel
theorem dX10_of_62 : decode cX10_of 62 = .ok (.getfield 140, 3) := by decide +kernel
theorem dX10_of_65 : decode cX10_of 65 = .ok (.iload_n 1, 1) := by decide +kernel
theorem dX10_of_66 : decode cX10_of 66 = .ok (.iaload, 1) := by decide +kernel
theorem dX10_of_67 : decode cX10_of 67 = .ok (.ireturn, 1) := by decide +kernel
theorem dX10_of_68 : decode cX10_of 68 = .ok (.aload_n 0, 1) := by decide +kernel
theorem dX10_of_69 : decode cX10_of 69 = .ok (.getfield 36, 3) := by decide +kernel
theorem dX10_of_72 : decode cX10_of 72 = .ok (.getfield 143, 3) := by decide +kernel
theorem dX10_of_75 : decode cX10_of 75 = .ok (.iload_n 1, 1) := by decide +kernel
theorem dX10_of_76 : decode cX10_of 76 = .ok (.iaload, 1) := by decide +kernel
theorem dX10_of_77 : decode cX10_of 77 = .ok (.ireturn, 1) := by decide +kernel
theorem dX10_of_78 : decode cX10_of 78 = .ok (.aload_n 0, 1) := by decide +kernel
theorem dX10_of_79 : decode cX10_of 79 = .ok (.getfield 36, 3) := by decide +kernel
theorem dX10_of_82 : decode cX10_of 82 = .ok (.getfield 146, 3) := by decide +kernel
theorem dX10_of_85 : decode cX10_of 85 = .ok (.iload_n 1, 1) := by decide +kernel
theorem dX10_of_86 : decode cX10_of 86 = .ok (.iaload, 1) := by decide +kernel
theorem dX10_of_87 : decode cX10_of 87 = .ok (.ireturn, 1) := by decide +kernel
theorem dX10_of_88 : decode cX10_of 88 = .ok (.aload_n 0, 1) := by decide +kernel
theorem dX10_of_89 : decode cX10_of 89 = .ok (.getfield 36, 3) := by decide +kernel
theorem dX10_of_92 : decode cX10_of 92 = .ok (.iload_n 1, 1) := by decide +kernel
theorem dX10_of_93 : decode cX10_of 93 = .ok (.invokevirtual 149, 3) := by decide +kernel
theorem dX10_of_96 : decode cX10_of 96 = .ok (.ifCond .eq 7, 3) := by decide +kernel
theorem dX10_of_99 : decode cX10_of 99 = .ok (.iconst 1, 1) := by decide +kernel
theorem dX10_of_100 : decode cX10_of 100 = .ok (.goto 4, 3) := by decide +kernel
theorem dX10_of_103 : decode cX10_of 103 = .ok (.iconst 0, 1) := by decide +kernel
theorem dX10_of_104 : decode cX10_of 104 = .ok (.ireturn, 1) := by decide +kernel
theorem dX10_of_105 : decode cX10_of 105 = .ok (.iconst (-1), 1) := by decide +kernel
theorem dX10_of_106 : decode cX10_of 106 = .ok (.ireturn, 1) := by decide +kernel
set_option maxRecDepth 20000 in
theorem ggX10_does_X8_has : GoodIn wsX10_does wsX8_has := goodIn_r _ [12, 13, 175, 176, 177, 178, 179, 180, 181, 182, 183, 184, 185] (by decide +kernel) (by decide +kernel)
set_option maxRecDepth 20000 in
theorem gX10_does_X8_has : GoodIn wsX10_does (wsV RX10 135 RX8 yX8_has wsX8_has) := goodIn_app (goodIn_of _ (by decide +kernel)) ggX10_does_X8_has
set_option maxRecDepth 20000 in
theorem ggX10_does_X10_isOutside : GoodIn wsX10_does wsX10_isOutside := goodIn_r _ [17] (by decide +kernel) (by decide +kernel)
set_option maxRecDepth 20000 in
theorem gX10_does_X10_isOutside : GoodIn wsX10_does (va_wsS RX10 87 yX10_isOutside wsX10_isOutside) := goodIn_app (goodIn_of _ (by decide +kernel)) ggX10_does_X10_isOutside
set_option maxRecDepth 20000 in
theorem ggX10_does_X8_isThrough : GoodIn wsX10_does wsX8_isThrough := goodIn_r _ [21, 22, 175, 176, 177, 178, 179, 180, 181, 182, 183, 184, 185] (by decide +kernel) (by decide +kernel)
set_option maxRecDepth 20000 in
theorem gX10_does_X8_isThrough : GoodIn wsX10_does (wsV RX10 152 RX8 yX8_isThrough wsX8_isThrough) := goodIn_app (goodIn_of _ (by decide +kernel)) ggX10_does_X8_isThrough
set_option maxRecDepth 20000 in
theorem ggX10_does_X10_restOf : GoodIn wsX10_does wsX10_restOf := goodIn_r _ [25, 26, 27, 28, 29] (by decide +kernel) (by decide +kernel)
set_option maxRecDepth 20000 in
theorem gX10_does_X10_restOf : GoodIn wsX10_does (va_wsS RX10 158 yX10_restOf wsX10_restOf) := goodIn_app (goodIn_of _ (by decide +kernel)) ggX10_does_X10_restOf
set_option maxRecDepth 20000 in
theorem ggX10_does_X1_sight : GoodIn wsX10_does wsX1_sight := goodIn_r _ [36] (by decide +kernel) (by decide +kernel)
set_option maxRecDepth 20000 in
theorem gX10_does_X1_sight_u162X1 : GoodIn wsX10_does (va_wsO RX10 162 RX1 "LightMan$Kind" ⟨"LightMan$Kind", "sight", "(III)I"⟩ yX1_sight wsX1_sight) := goodIn_app (goodIn_of _ (by decide +kernel)) ggX10_does_X1_sight
set_option maxRecDepth 20000 in
theorem ggX10_does_X2_sight : GoodIn wsX10_does wsX2_sight := goodIn_r _ [41, 42, 31, 43, 44, 45, 37] (by decide +kernel) (by decide +kernel)
set_option maxRecDepth 20000 in
theorem gX10_does_X2_sight_u162X2 : GoodIn wsX10_does (va_wsO RX10 162 RX2 "LightMan$Kind" ⟨"LightMan$Kind", "sight", "(III)I"⟩ yX2_sight wsX2_sight) := goodIn_app (goodIn_of _ (by decide +kernel)) ggX10_does_X2_sight
set_option maxRecDepth 20000 in
theorem ggX10_does_X4_sight : GoodIn wsX10_does wsX4_sight := goodIn_r _ [37] (by decide +kernel) (by decide +kernel)
set_option maxRecDepth 20000 in
theorem gX10_does_X4_sight : GoodIn wsX10_does (wsV RX10 162 RX4 yX4_sight wsX4_sight) := goodIn_app (goodIn_of _ (by decide +kernel)) ggX10_does_X4_sight
set_option maxRecDepth 20000 in
theorem ggX10_does_X5_sight : GoodIn wsX10_does wsX5_sight := goodIn_r _ [51, 52, 31, 53, 44, 45, 37] (by decide +kernel) (by decide +kernel)
set_option maxRecDepth 20000 in
theorem gX10_does_X5_sight_u162X5 : GoodIn wsX10_does (va_wsO RX10 162 RX5 "LightMan$Kind" ⟨"LightMan$Kind", "sight", "(III)I"⟩ yX5_sight wsX5_sight) := goodIn_app (goodIn_of _ (by decide +kernel)) ggX10_does_X5_sight
set_option maxRecDepth 20000 in
theorem ggX10_does_X6_sight : GoodIn wsX10_does wsX6_sight := goodIn_r _ [57, 58, 59, 60, 39, 40, 41, 42, 31, 43, 44, 45, 37] (by decide +kernel) (by decide +kernel)
set_option maxRecDepth 20000 in
theorem gX10_does_X6_sight_u162X6 : GoodIn wsX10_does (va_wsO RX10 162 RX6 "LightMan$Kind" ⟨"LightMan$Kind", "sight", "(III)I"⟩ yX6_sight wsX6_sight) := goodIn_app (goodIn_of _ (by decide +kernel)) ggX10_does_X6_sight
set_option maxRecDepth 20000 in
theorem ggX10_does_X9_sight : GoodIn wsX10_does wsX9_sight := goodIn_r _ [64, 65, 66, 67, 49, 50, 51, 52, 31, 53, 44, 45, 37] (by decide +kernel) (by decide +kernel)
set_option maxRecDepth 20000 in
theorem gX10_does_X9_sight_u162X9 : GoodIn wsX10_does (va_wsO RX10 162 RX9 "LightMan$Kind" ⟨"LightMan$Kind", "sight", "(III)I"⟩ yX9_sight wsX9_sight) := goodIn_app (goodIn_of _ (by decide +kernel)) ggX10_does_X9_sight
set_option maxRecDepth 20000 in
theorem ggX10_does_X1_keen : GoodIn wsX10_does wsX1_keen := goodIn_r _ [73, 74, 69, 75, 76, 45, 77] (by decide +kernel) (by decide +kernel)
set_option maxRecDepth 20000 in
theorem gX10_does_X1_keen_u166X1 : GoodIn wsX10_does (va_wsO RX10 166 RX1 "LightMan$Kind" ⟨"LightMan$Kind", "keen", "(II)I"⟩ yX1_keen wsX1_keen) := goodIn_app (goodIn_of _ (by decide +kernel)) ggX10_does_X1_keen
set_option maxRecDepth 20000 in
theorem ggX10_does_X2_keen : GoodIn wsX10_does wsX2_keen := goodIn_r _ [80, 81, 69, 43, 76, 45, 77] (by decide +kernel) (by decide +kernel)
set_option maxRecDepth 20000 in
theorem gX10_does_X2_keen_u166X2 : GoodIn wsX10_does (va_wsO RX10 166 RX2 "LightMan$Kind" ⟨"LightMan$Kind", "keen", "(II)I"⟩ yX2_keen wsX2_keen) := goodIn_app (goodIn_of _ (by decide +kernel)) ggX10_does_X2_keen
set_option maxRecDepth 20000 in
theorem ggX10_does_X4_keen : GoodIn wsX10_does wsX4_keen := goodIn_r _ [77] (by decide +kernel) (by decide +kernel)
set_option maxRecDepth 20000 in
theorem gX10_does_X4_keen : GoodIn wsX10_does (wsV RX10 166 RX4 yX4_keen wsX4_keen) := goodIn_app (goodIn_of _ (by decide +kernel)) ggX10_does_X4_keen
set_option maxRecDepth 20000 in
theorem ggX10_does_X5_keen : GoodIn wsX10_does wsX5_keen := goodIn_r _ [86, 87, 69, 53, 76, 45, 77] (by decide +kernel) (by decide +kernel)
set_option maxRecDepth 20000 in
theorem gX10_does_X5_keen_u166X5 : GoodIn wsX10_does (va_wsO RX10 166 RX5 "LightMan$Kind" ⟨"LightMan$Kind", "keen", "(II)I"⟩ yX5_keen wsX5_keen) := goodIn_app (goodIn_of _ (by decide +kernel)) ggX10_does_X5_keen
set_option maxRecDepth 20000 in
theorem ggX10_does_X6_keen : GoodIn wsX10_does wsX6_keen := goodIn_r _ [90, 91, 92, 60, 79, 40, 80, 81, 69, 43, 76, 45, 77] (by decide +kernel) (by decide +kernel)
set_option maxRecDepth 20000 in
theorem gX10_does_X6_keen_u166X6 : GoodIn wsX10_does (va_wsO RX10 166 RX6 "LightMan$Kind" ⟨"LightMan$Kind", "keen", "(II)I"⟩ yX6_keen wsX6_keen) := goodIn_app (goodIn_of _ (by decide +kernel)) ggX10_does_X6_keen
set_option maxRecDepth 20000 in
theorem ggX10_does_X9_keen : GoodIn wsX10_does wsX9_keen := goodIn_r _ [95, 96, 97, 67, 85, 50, 86, 87, 69, 53, 76, 45, 77] (by decide +kernel) (by decide +kernel)
set_option maxRecDepth 20000 in
theorem gX10_does_X9_keen_u166X9 : GoodIn wsX10_does (va_wsO RX10 166 RX9 "LightMan$Kind" ⟨"LightMan$Kind", "keen", "(II)I"⟩ yX9_keen wsX9_keen) := goodIn_app (goodIn_of _ (by decide +kernel)) ggX10_does_X9_keen
set_option maxRecDepth 20000 in
theorem ggX10_does_X1_fears : GoodIn wsX10_does wsX1_fears := goodIn_r _ [103, 104, 99, 75, 105, 45, 106] (by decide +kernel) (by decide +kernel)
set_option maxRecDepth 20000 in
theorem gX10_does_X1_fears_u170X1 : GoodIn wsX10_does (va_wsO RX10 170 RX1 "LightMan$Kind" ⟨"LightMan$Kind", "fears", "(I)I"⟩ yX1_fears wsX1_fears) := goodIn_app (goodIn_of _ (by decide +kernel)) ggX10_does_X1_fears
set_option maxRecDepth 20000 in
theorem ggX10_does_X2_fears : GoodIn wsX10_does wsX2_fears := goodIn_r _ [109, 110, 99, 43, 105, 45, 106] (by decide +kernel) (by decide +kernel)
set_option maxRecDepth 20000 in
theorem gX10_does_X2_fears_u170X2 : GoodIn wsX10_does (va_wsO RX10 170 RX2 "LightMan$Kind" ⟨"LightMan$Kind", "fears", "(I)I"⟩ yX2_fears wsX2_fears) := goodIn_app (goodIn_of _ (by decide +kernel)) ggX10_does_X2_fears
set_option maxRecDepth 20000 in
theorem ggX10_does_X4_fears : GoodIn wsX10_does wsX4_fears := goodIn_r _ [106] (by decide +kernel) (by decide +kernel)
set_option maxRecDepth 20000 in
theorem gX10_does_X4_fears : GoodIn wsX10_does (wsV RX10 170 RX4 yX4_fears wsX4_fears) := goodIn_app (goodIn_of _ (by decide +kernel)) ggX10_does_X4_fears
set_option maxRecDepth 20000 in
theorem ggX10_does_X5_fears : GoodIn wsX10_does wsX5_fears := goodIn_r _ [115, 116, 99, 53, 105, 45, 106] (by decide +kernel) (by decide +kernel)
set_option maxRecDepth 20000 in
theorem gX10_does_X5_fears_u170X5 : GoodIn wsX10_does (va_wsO RX10 170 RX5 "LightMan$Kind" ⟨"LightMan$Kind", "fears", "(I)I"⟩ yX5_fears wsX5_fears) := goodIn_app (goodIn_of _ (by decide +kernel)) ggX10_does_X5_fears
set_option maxRecDepth 20000 in
theorem ggX10_does_X6_fears : GoodIn wsX10_does wsX6_fears := goodIn_r _ [119, 120, 121, 60, 108, 40, 109, 110, 99, 43, 105, 45, 106] (by decide +kernel) (by decide +kernel)
set_option maxRecDepth 20000 in
theorem gX10_does_X6_fears_u170X6 : GoodIn wsX10_does (va_wsO RX10 170 RX6 "LightMan$Kind" ⟨"LightMan$Kind", "fears", "(I)I"⟩ yX6_fears wsX6_fears) := goodIn_app (goodIn_of _ (by decide +kernel)) ggX10_does_X6_fears
set_option maxRecDepth 20000 in
theorem ggX10_does_X9_fears : GoodIn wsX10_does wsX9_fears := goodIn_r _ [124, 125, 126, 67, 114, 50, 115, 116, 99, 53, 105, 45, 106] (by decide +kernel) (by decide +kernel)
set_option maxRecDepth 20000 in
theorem gX10_does_X9_fears_u170X9 : GoodIn wsX10_does (va_wsO RX10 170 RX9 "LightMan$Kind" ⟨"LightMan$Kind", "fears", "(I)I"⟩ yX9_fears wsX9_fears) := goodIn_app (goodIn_of _ (by decide +kernel)) ggX10_does_X9_fears
set_option maxRecDepth 20000 in
theorem ggX10_does_X8_sees : GoodIn wsX10_does wsX8_sees := goodIn_r _ [130, 22, 131, 132, 133, 134, 135, 24, 16, 25, 26, 27, 28, 29, 136, 31, 32, 33, 34, 35, 36, 37, 38, 39, 40, 41, 42, 43, 44, 45, 137, 47, 48, 49, 50, 51, 52, 53, 54, 55, 56, 57, 58, 59, 60, 61, 62, 63, 64, 65, 66, 67, 175, 176, 177, 178, 179, 180, 181, 182, 183, 184, 185] (by decide +kernel) (by decide +kernel)
set_option maxRecDepth 20000 in
theorem gX10_does_X8_sees : GoodIn wsX10_does (wsV RX10 173 RX8 yX8_sees wsX8_sees) := goodIn_app (goodIn_of _ (by decide +kernel)) ggX10_does_X8_sees
set_option maxRecDepth 20000 in
theorem ggX10_does_X1_pace : GoodIn wsX10_does wsX1_pace := goodIn_r _ [143, 144, 139, 75, 145, 45, 146] (by decide +kernel) (by decide +kernel)
set_option maxRecDepth 20000 in
theorem gX10_does_X1_pace_u177X1 : GoodIn wsX10_does (va_wsO RX10 177 RX1 "LightMan$Kind" ⟨"LightMan$Kind", "pace", "(IZ)I"⟩ yX1_pace wsX1_pace) := goodIn_app (goodIn_of _ (by decide +kernel)) ggX10_does_X1_pace
set_option maxRecDepth 20000 in
theorem ggX10_does_X2_pace : GoodIn wsX10_does wsX2_pace := goodIn_r _ [149, 150, 139, 43, 145, 45, 146] (by decide +kernel) (by decide +kernel)
set_option maxRecDepth 20000 in
theorem gX10_does_X2_pace_u177X2 : GoodIn wsX10_does (va_wsO RX10 177 RX2 "LightMan$Kind" ⟨"LightMan$Kind", "pace", "(IZ)I"⟩ yX2_pace wsX2_pace) := goodIn_app (goodIn_of _ (by decide +kernel)) ggX10_does_X2_pace
set_option maxRecDepth 20000 in
theorem ggX10_does_X4_pace : GoodIn wsX10_does wsX4_pace := goodIn_r _ [146] (by decide +kernel) (by decide +kernel)
set_option maxRecDepth 20000 in
theorem gX10_does_X4_pace : GoodIn wsX10_does (wsV RX10 177 RX4 yX4_pace wsX4_pace) := goodIn_app (goodIn_of _ (by decide +kernel)) ggX10_does_X4_pace
set_option maxRecDepth 20000 in
theorem gX10_does_X4_pace_u177X5 : GoodIn wsX10_does (va_wsU RX10 177 RX5 "LightMan$Kind" ⟨"LightMan$Kind", "pace", "(IZ)I"⟩ yX4_pace wsX4_pace) := goodIn_app (goodIn_of _ (by decide +kernel)) ggX10_does_X4_pace
set_option maxRecDepth 20000 in
theorem ggX10_does_X6_pace : GoodIn wsX10_does wsX6_pace := goodIn_r _ [156, 157, 158, 60, 148, 40, 149, 150, 139, 43, 145, 45, 146] (by decide +kernel) (by decide +kernel)
set_option maxRecDepth 20000 in
theorem gX10_does_X6_pace_u177X6 : GoodIn wsX10_does (va_wsO RX10 177 RX6 "LightMan$Kind" ⟨"LightMan$Kind", "pace", "(IZ)I"⟩ yX6_pace wsX6_pace) := goodIn_app (goodIn_of _ (by decide +kernel)) ggX10_does_X6_pace
set_option maxRecDepth 20000 in
theorem ggX10_does_X9_pace : GoodIn wsX10_does wsX9_pace := goodIn_r _ [161] (by decide +kernel) (by decide +kernel)
set_option maxRecDepth 20000 in
theorem gX10_does_X9_pace_u177X9 : GoodIn wsX10_does (va_wsO RX10 177 RX9 "LightMan$Kind" ⟨"LightMan$Kind", "pace", "(IZ)I"⟩ yX9_pace wsX9_pace) := goodIn_app (goodIn_of _ (by decide +kernel)) ggX10_does_X9_pace
theorem dX10_does_0 : decode cX10_does 0 = .ok (.aload_n 0, 1) := by decide +kernel
theorem dX10_does_1 : decode cX10_does 1 = .ok (.getfield 36, 3) := by decide +kernel
theorem dX10_does_4 : decode cX10_does 4 = .ok (.iload_n 1, 1) := by decide +kernel
theorem dX10_does_5 : decode cX10_does 5 = .ok (.invokevirtual 135, 3) := by decide +kernel
theorem dX10_does_8 : decode cX10_does 8 = .ok (.ifCond .eq 12, 3) := by decide +kernel
theorem dX10_does_11 : decode cX10_does 11 = .ok (.iload_n 2, 1) := by decide +kernel
theorem dX10_does_12 : decode cX10_does 12 = .ok (.iconst 0, 1) := by decide +kernel
theorem dX10_does_13 : decode cX10_does 13 = .ok (.iconst 3, 1) := by decide +kernel
theorem dX10_does_14 : decode cX10_does 14 = .ok (.invokestatic 87, 3) := by decide +kernel
theorem dX10_does_17 : decode cX10_does 17 = .ok (.ifCond .eq 5, 3) := by decide +kernel
theorem dX10_does_20 : decode cX10_does 20 = .ok (.iconst (-1), 1) := by decide +kernel
theorem dX10_does_21 : decode cX10_does 21 = .ok (.ireturn, 1) := by decide +kernel
theorem dX10_does_22 : decode cX10_does 22 = .ok (.aload_n 0, 1) := by decide +kernel
theorem dX10_does_23 : decode cX10_does 23 = .ok (.getfield 36, 3) := by decide +kernel
theorem dX10_does_26 : decode cX10_does 26 = .ok (.iload_n 1, 1) := by decide +kernel
theorem dX10_does_27 : decode cX10_does 27 = .ok (.invokevirtual 152, 3) := by decide +kernel
theorem dX10_does_30 : decode cX10_does 30 = .ok (.ifCond .eq 6, 3) := by decide +kernel
theorem dX10_does_33 : decode cX10_does 33 = .ok (.bipush (-3), 2) := by decide +kernel
theorem dX10_does_35 : decode cX10_does 35 = .ok (.ireturn, 1) := by decide +kernel
theorem dX10_does_36 : decode cX10_does 36 = .ok (.aload_n 0, 1) := by decide +kernel
theorem dX10_does_37 : decode cX10_does 37 = .ok (.getfield 36, 3) := by decide +kernel
theorem dX10_does_40 : decode cX10_does 40 = .ok (.getfield 155, 3) := by decide +kernel
theorem dX10_does_43 : decode cX10_does 43 = .ok (.istore_n 3, 1) := by decide +kernel
theorem dX10_does_44 : decode cX10_does 44 = .ok (.aload_n 0, 1) := by decide +kernel
theorem dX10_does_45 : decode cX10_does 45 = .ok (.getfield 36, 3) := by decide +kernel
theorem dX10_does_48 : decode cX10_does 48 = .ok (.getfield 122, 3) := by decide +kernel
theorem dX10_does_51 : decode cX10_does 51 = .ok (.iload_n 3, 1) := by decide +kernel
theorem dX10_does_52 : decode cX10_does 52 = .ok (.invokestatic 158, 3) := by decide +kernel
theorem dX10_does_55 : decode cX10_does 55 = .ok (.iaload, 1) := by decide +kernel
theorem dX10_does_56 : decode cX10_does 56 = .ok (.istore 4, 2) := by decide +kernel
theorem dX10_does_58 : decode cX10_does 58 = .ok (.aload_n 0, 1) := by decide +kernel
theorem dX10_does_59 : decode cX10_does 59 = .ok (.getfield 36, 3) := by decide +kernel
theorem dX10_does_62 : decode cX10_does 62 = .ok (.getfield 125, 3) := by decide +kernel
theorem dX10_does_65 : decode cX10_does 65 = .ok (.iload_n 3, 1) := by decide +kernel
theorem dX10_does_66 : decode cX10_does 66 = .ok (.invokestatic 158, 3) := by decide +kernel
theorem dX10_does_69 : decode cX10_does 69 = .ok (.iaload, 1) := by decide +kernel
theorem dX10_does_70 : decode cX10_does 70 = .ok (.istore 5, 2) := by decide +kernel
theorem dX10_does_72 : decode cX10_does 72 = .ok (.aload_n 0, 1) := by decide +kernel
theorem dX10_does_73 : decode cX10_does 73 = .ok (.getfield 36, 3) := by decide +kernel
theorem dX10_does_76 : decode cX10_does 76 = .ok (.getfield 115, 3) := by decide +kernel
theorem dX10_does_79 : decode cX10_does 79 = .ok (.iconst 0, 1) := by decide +kernel
theorem dX10_does_80 : decode cX10_does 80 = .ok (.iaload, 1) := by decide +kernel
theorem dX10_does_81 : decode cX10_does 81 = .ok (.istore 6, 2) := by decide +kernel
theorem dX10_does_83 : decode cX10_does 83 = .ok (.aload_n 0, 1) := by decide +kernel
theorem dX10_does_84 : decode cX10_does 84 = .ok (.getfield 25, 3) := by decide +kernel
theorem dX10_does_87 : decode cX10_does 87 = .ok (.aload_n 0, 1) := by decide +kernel
theorem dX10_does_88 : decode cX10_does 88 = .ok (.getfield 36, 3) := by decide +kernel
theorem dX10_does_91 : decode cX10_does 91 = .ok (.getfield 138, 3) := by decide +kernel
theorem dX10_does_94 : decode cX10_does 94 = .ok (.iload_n 1, 1) := by decide +kernel
theorem dX10_does_95 : decode cX10_does 95 = .ok (.iaload, 1) := by decide +kernel
theorem dX10_does_96 : decode cX10_does 96 = .ok (.aaload, 1) := by decide +kernel
theorem dX10_does_97 : decode cX10_does 97 = .ok (.astore 7, 2) := by decide +kernel
theorem dX10_does_99 : decode cX10_does 99 = .ok (.iload_n 2, 1) := by decide +kernel
theorem dX10_does_100 : decode cX10_does 100 = .ok (.tableswitch 70 0 2 #[28, 44, 58], 28) := by decide +kernel
theorem dX10_does_128 : decode cX10_does 128 = .ok (.sipush 1000, 3) := by decide +kernel
theorem dX10_does_131 : decode cX10_does 131 = .ok (.aload 7, 2) := by decide +kernel
theorem dX10_does_133 : decode cX10_does 133 = .ok (.iload 4, 2) := by decide +kernel
theorem dX10_does_135 : decode cX10_does 135 = .ok (.iload 5, 2) := by decide +kernel
theorem dX10_does_137 : decode cX10_does 137 = .ok (.iload 6, 2) := by decide +kernel
theorem dX10_does_139 : decode cX10_does 139 = .ok (.invokevirtual 162, 3) := by decide +kernel
theorem dX10_does_142 : decode cX10_does 142 = .ok (.iadd, 1) := by decide +kernel
theorem dX10_does_143 : decode cX10_does 143 = .ok (.ireturn, 1) := by decide +kernel
theorem dX10_does_144 : decode cX10_does 144 = .ok (.sipush 1000, 3) := by decide +kernel
theorem dX10_does_147 : decode cX10_does 147 = .ok (.aload 7, 2) := by decide +kernel
theorem dX10_does_149 : decode cX10_does 149 = .ok (.iload 5, 2) := by decide +kernel
theorem dX10_does_151 : decode cX10_does 151 = .ok (.iload 6, 2) := by decide +kernel
theorem dX10_does_153 : decode cX10_does 153 = .ok (.invokevirtual 166, 3) := by decide +kernel
theorem dX10_does_156 : decode cX10_does 156 = .ok (.iadd, 1) := by decide +kernel
theorem dX10_does_157 : decode cX10_does 157 = .ok (.ireturn, 1) := by decide +kernel
theorem dX10_does_158 : decode cX10_does 158 = .ok (.sipush 1000, 3) := by decide +kernel
theorem dX10_does_161 : decode cX10_does 161 = .ok (.aload 7, 2) := by decide +kernel
theorem dX10_does_163 : decode cX10_does 163 = .ok (.iload 4, 2) := by decide +kernel
theorem dX10_does_165 : decode cX10_does 165 = .ok (.invokevirtual 170, 3) := by decide +kernel
theorem dX10_does_168 : decode cX10_does 168 = .ok (.iadd, 1) := by decide +kernel
theorem dX10_does_169 : decode cX10_does 169 = .ok (.ireturn, 1) := by decide +kernel
theorem dX10_does_170 : decode cX10_does 170 = .ok (.sipush 1000, 3) := by decide +kernel
theorem dX10_does_173 : decode cX10_does 173 = .ok (.aload 7, 2) := by decide +kernel
theorem dX10_does_175 : decode cX10_does 175 = .ok (.iload_n 3, 1) := by decide +kernel
theorem dX10_does_176 : decode cX10_does 176 = .ok (.aload_n 0, 1) := by decide +kernel
theorem dX10_does_177 : decode cX10_does 177 = .ok (.getfield 36, 3) := by decide +kernel
theorem dX10_does_180 : decode cX10_does 180 = .ok (.iload_n 1, 1) := by decide +kernel
theorem dX10_does_181 : decode cX10_does 181 = .ok (.iload_n 3, 1) := by decide +kernel
theorem dX10_does_182 : decode cX10_does 182 = .ok (.invokevirtual 173, 3) := by decide +kernel
theorem dX10_does_185 : decode cX10_does 185 = .ok (.invokevirtual 177, 3) := by decide +kernel
theorem dX10_does_188 : decode cX10_does 188 = .ok (.iadd, 1) := by decide +kernel
theorem dX10_does_189 : decode cX10_does 189 = .ok (.ireturn, 1) := by decide +kernel
set_option maxRecDepth 20000 in
theorem ggX10_mind_X8_has : GoodIn wsX10_mind wsX8_has := goodIn_r _ [7, 8, 29, 30, 31, 32, 33, 34, 35, 36, 37, 38, 39] (by decide +kernel) (by decide +kernel)
set_option maxRecDepth 20000 in
theorem gX10_mind_X8_has : GoodIn wsX10_mind (wsV RX10 135 RX8 yX8_has wsX8_has) := goodIn_app (goodIn_of _ (by decide +kernel)) ggX10_mind_X8_has
set_option maxRecDepth 20000 in
theorem ggX10_mind_X10_isNoKind : GoodIn wsX10_mind wsX10_isNoKind := goodIn_r _ [12, 13, 14, 11, 15] (by decide +kernel) (by decide +kernel)
set_option maxRecDepth 20000 in
theorem gX10_mind_X10_isNoKind : GoodIn wsX10_mind (va_wsS RX10 128 yX10_isNoKind wsX10_isNoKind) := goodIn_app (goodIn_of _ (by decide +kernel)) ggX10_mind_X10_isNoKind
theorem dX10_mind_0 : decode cX10_mind 0 = .ok (.aload_n 0, 1) := by decide +kernel
theorem dX10_mind_1 : decode cX10_mind 1 = .ok (.getfield 36, 3) := by decide +kernel
theorem dX10_mind_4 : decode cX10_mind 4 = .ok (.iload_n 1, 1) := by decide +kernel
theorem dX10_mind_5 : decode cX10_mind 5 = .ok (.invokevirtual 135, 3) := by decide +kernel
theorem dX10_mind_8 : decode cX10_mind 8 = .ok (.ifCond .eq 10, 3) := by decide +kernel
theorem dX10_mind_11 : decode cX10_mind 11 = .ok (.iload_n 2, 1) := by decide +kernel
theorem dX10_mind_12 : decode cX10_mind 12 = .ok (.invokestatic 128, 3) := by decide +kernel
theorem dX10_mind_15 : decode cX10_mind 15 = .ok (.ifCond .eq 5, 3) := by decide +kernel
theorem dX10_mind_18 : decode cX10_mind 18 = .ok (.iconst (-1), 1) := by decide +kernel
theorem dX10_mind_19 : decode cX10_mind 19 = .ok (.ireturn, 1) := by decide +kernel
theorem dX10_mind_20 : decode cX10_mind 20 = .ok (.aload_n 0, 1) := by decide +kernel
theorem dX10_mind_21 : decode cX10_mind 21 = .ok (.getfield 36, 3) := by decide +kernel
theorem dX10_mind_24 : decode cX10_mind 24 = .ok (.getfield 138, 3) := by decide +kernel
theorem dX10_mind_27 : decode cX10_mind 27 = .ok (.iload_n 1, 1) := by decide +kernel
theorem dX10_mind_28 : decode cX10_mind 28 = .ok (.iaload, 1) := by decide +kernel
theorem dX10_mind_29 : decode cX10_mind 29 = .ok (.istore_n 3, 1) := by decide +kernel
theorem dX10_mind_30 : decode cX10_mind 30 = .ok (.aload_n 0, 1) := by decide +kernel
theorem dX10_mind_31 : decode cX10_mind 31 = .ok (.getfield 36, 3) := by decide +kernel
theorem dX10_mind_34 : decode cX10_mind 34 = .ok (.getfield 138, 3) := by decide +kernel
theorem dX10_mind_37 : decode cX10_mind 37 = .ok (.iload_n 1, 1) := by decide +kernel
theorem dX10_mind_38 : decode cX10_mind 38 = .ok (.iload_n 2, 1) := by decide +kernel
theorem dX10_mind_39 : decode cX10_mind 39 = .ok (.iastore, 1) := by decide +kernel
theorem dX10_mind_40 : decode cX10_mind 40 = .ok (.iload_n 3, 1) := by decide +kernel
theorem dX10_mind_41 : decode cX10_mind 41 = .ok (.ireturn, 1) := by decide +kernel
set_option maxRecDepth 20000 in
theorem ggX10_trust_X8_has : GoodIn wsX10_trust wsX8_has := goodIn_r _ [7, 8, 26, 27, 28, 29, 30, 31, 32, 33, 34, 35, 36] (by decide +kernel) (by decide +kernel)
set_option maxRecDepth 20000 in
theorem gX10_trust_X8_has : GoodIn wsX10_trust (wsV RX10 135 RX8 yX8_has wsX8_has) := goodIn_app (goodIn_of _ (by decide +kernel)) ggX10_trust_X8_has
set_option maxRecDepth 20000 in
theorem ggX10_trust_X10_isOutside : GoodIn wsX10_trust wsX10_isOutside := goodIn_r _ [12] (by decide +kernel) (by decide +kernel)
set_option maxRecDepth 20000 in
theorem gX10_trust_X10_isOutside : GoodIn wsX10_trust (va_wsS RX10 87 yX10_isOutside wsX10_isOutside) := goodIn_app (goodIn_of _ (by decide +kernel)) ggX10_trust_X10_isOutside
theorem dX10_trust_0 : decode cX10_trust 0 = .ok (.aload_n 0, 1) := by decide +kernel
theorem dX10_trust_1 : decode cX10_trust 1 = .ok (.getfield 36, 3) := by decide +kernel
theorem dX10_trust_4 : decode cX10_trust 4 = .ok (.iload_n 1, 1) := by decide +kernel
theorem dX10_trust_5 : decode cX10_trust 5 = .ok (.invokevirtual 135, 3) := by decide +kernel
theorem dX10_trust_8 : decode cX10_trust 8 = .ok (.ifCond .eq 13, 3) := by decide +kernel
theorem dX10_trust_11 : decode cX10_trust 11 = .ok (.iload_n 2, 1) := by decide +kernel
theorem dX10_trust_12 : decode cX10_trust 12 = .ok (.iconst 0, 1) := by decide +kernel
theorem dX10_trust_13 : decode cX10_trust 13 = .ok (.bipush 99, 2) := by decide +kernel
theorem dX10_trust_15 : decode cX10_trust 15 = .ok (.invokestatic 87, 3) := by decide +kernel
theorem dX10_trust_18 : decode cX10_trust 18 = .ok (.ifCond .eq 5, 3) := by decide +kernel
theorem dX10_trust_21 : decode cX10_trust 21 = .ok (.iconst (-1), 1) := by decide +kernel
theorem dX10_trust_22 : decode cX10_trust 22 = .ok (.ireturn, 1) := by decide +kernel
theorem dX10_trust_23 : decode cX10_trust 23 = .ok (.aload_n 0, 1) := by decide +kernel
theorem dX10_trust_24 : decode cX10_trust 24 = .ok (.getfield 36, 3) := by decide +kernel
theorem dX10_trust_27 : decode cX10_trust 27 = .ok (.getfield 140, 3) := by decide +kernel
theorem dX10_trust_30 : decode cX10_trust 30 = .ok (.iload_n 1, 1) := by decide +kernel
theorem dX10_trust_31 : decode cX10_trust 31 = .ok (.iaload, 1) := by decide +kernel
theorem dX10_trust_32 : decode cX10_trust 32 = .ok (.istore_n 3, 1) := by decide +kernel
theorem dX10_trust_33 : decode cX10_trust 33 = .ok (.aload_n 0, 1) := by decide +kernel
theorem dX10_trust_34 : decode cX10_trust 34 = .ok (.getfield 36, 3) := by decide +kernel
theorem dX10_trust_37 : decode cX10_trust 37 = .ok (.getfield 140, 3) := by decide +kernel
theorem dX10_trust_40 : decode cX10_trust 40 = .ok (.iload_n 1, 1) := by decide +kernel
theorem dX10_trust_41 : decode cX10_trust 41 = .ok (.iload_n 2, 1) := by decide +kernel
theorem dX10_trust_42 : decode cX10_trust 42 = .ok (.iastore, 1) := by decide +kernel
theorem dX10_trust_43 : decode cX10_trust 43 = .ok (.iload_n 3, 1) := by decide +kernel
theorem dX10_trust_44 : decode cX10_trust 44 = .ok (.ireturn, 1) := by decide +kernel
set_option maxRecDepth 20000 in
theorem ggX10_bring_X8_has : GoodIn wsX10_bring wsX8_has := goodIn_r _ [7, 8, 26, 27, 28, 29, 30, 31, 32, 33, 34, 35, 36] (by decide +kernel) (by decide +kernel)
set_option maxRecDepth 20000 in
theorem gX10_bring_X8_has : GoodIn wsX10_bring (wsV RX10 135 RX8 yX8_has wsX8_has) := goodIn_app (goodIn_of _ (by decide +kernel)) ggX10_bring_X8_has
set_option maxRecDepth 20000 in
theorem ggX10_bring_X10_isOutside : GoodIn wsX10_bring wsX10_isOutside := goodIn_r _ [12] (by decide +kernel) (by decide +kernel)
set_option maxRecDepth 20000 in
theorem gX10_bring_X10_isOutside : GoodIn wsX10_bring (va_wsS RX10 87 yX10_isOutside wsX10_isOutside) := goodIn_app (goodIn_of _ (by decide +kernel)) ggX10_bring_X10_isOutside
theorem dX10_bring_0 : decode cX10_bring 0 = .ok (.aload_n 0, 1) := by decide +kernel
theorem dX10_bring_1 : decode cX10_bring 1 = .ok (.getfield 36, 3) := by decide +kernel
theorem dX10_bring_4 : decode cX10_bring 4 = .ok (.iload_n 1, 1) := by decide +kernel
theorem dX10_bring_5 : decode cX10_bring 5 = .ok (.invokevirtual 135, 3) := by decide +kernel
theorem dX10_bring_8 : decode cX10_bring 8 = .ok (.ifCond .eq 13, 3) := by decide +kernel
theorem dX10_bring_11 : decode cX10_bring 11 = .ok (.iload_n 2, 1) := by decide +kernel
theorem dX10_bring_12 : decode cX10_bring 12 = .ok (.iconst 0, 1) := by decide +kernel
theorem dX10_bring_13 : decode cX10_bring 13 = .ok (.bipush 12, 2) := by decide +kernel
theorem dX10_bring_15 : decode cX10_bring 15 = .ok (.invokestatic 87, 3) := by decide +kernel
theorem dX10_bring_18 : decode cX10_bring 18 = .ok (.ifCond .eq 5, 3) := by decide +kernel
theorem dX10_bring_21 : decode cX10_bring 21 = .ok (.iconst (-1), 1) := by decide +kernel
theorem dX10_bring_22 : decode cX10_bring 22 = .ok (.ireturn, 1) := by decide +kernel
theorem dX10_bring_23 : decode cX10_bring 23 = .ok (.aload_n 0, 1) := by decide +kernel
theorem dX10_bring_24 : decode cX10_bring 24 = .ok (.getfield 36, 3) := by decide +kernel
theorem dX10_bring_27 : decode cX10_bring 27 = .ok (.getfield 143, 3) := by decide +kernel
theorem dX10_bring_30 : decode cX10_bring 30 = .ok (.iload_n 1, 1) := by decide +kernel
theorem dX10_bring_31 : decode cX10_bring 31 = .ok (.iaload, 1) := by decide +kernel
theorem dX10_bring_32 : decode cX10_bring 32 = .ok (.istore_n 3, 1) := by decide +kernel
theorem dX10_bring_33 : decode cX10_bring 33 = .ok (.aload_n 0, 1) := by decide +kernel
theorem dX10_bring_34 : decode cX10_bring 34 = .ok (.getfield 36, 3) := by decide +kernel
theorem dX10_bring_37 : decode cX10_bring 37 = .ok (.getfield 143, 3) := by decide +kernel
theorem dX10_bring_40 : decode cX10_bring 40 = .ok (.iload_n 1, 1) := by decide +kernel
theorem dX10_bring_41 : decode cX10_bring 41 = .ok (.iload_n 2, 1) := by decide +kernel
theorem dX10_bring_42 : decode cX10_bring 42 = .ok (.iastore, 1) := by decide +kernel
theorem dX10_bring_43 : decode cX10_bring 43 = .ok (.iload_n 3, 1) := by decide +kernel
theorem dX10_bring_44 : decode cX10_bring 44 = .ok (.ireturn, 1) := by decide +kernel
set_option maxRecDepth 20000 in
theorem ggX10_steps_X10_isOutside : GoodIn wsX10_steps wsX10_isOutside := goodIn_r _ [5] (by decide +kernel) (by decide +kernel)
set_option maxRecDepth 20000 in
theorem gX10_steps_X10_isOutside : GoodIn wsX10_steps (va_wsS RX10 87 yX10_isOutside wsX10_isOutside) := goodIn_app (goodIn_of _ (by decide +kernel)) ggX10_steps_X10_isOutside
set_option maxRecDepth 20000 in
theorem ggX10_steps_X8_goStep : GoodIn wsX10_steps wsX8_goStep := goodIn_r _ [10, 11, 12, 13, 14, 15, 9, 16, 17, 18, 19, 20, 21, 22, 23, 24, 25, 26, 27, 28, 29, 30, 31, 32, 33, 34, 35, 36, 4, 37, 38, 39, 40, 41, 42, 43, 44, 45, 46, 47, 48, 49, 50, 51, 52, 53, 54, 55, 56, 57, 58, 59, 60, 61, 62, 63, 64, 65, 66, 67, 68, 69, 70, 71, 72, 73, 74, 75, 76, 77, 78, 79, 80, 81, 82, 83, 84, 85, 86, 87, 88, 89, 90, 91, 92, 93, 94, 95, 96, 97, 98, 99, 100, 101, 102, 103, 104, 105, 106, 107, 108, 109, 110, 111, 112, 113, 114, 115, 116, 117, 118, 119, 120, 121, 122, 123, 124, 125, 126, 127, 128, 129, 130, 131, 132, 133, 134, 135, 136, 137, 138, 139, 140, 141, 142, 143, 144, 145, 146, 147, 148, 149, 150, 151, 152, 153, 154, 155, 156, 157, 158, 159, 160, 161, 162, 163, 164, 165, 166, 167, 168, 169, 170, 195, 196, 197, 198, 199, 200, 201, 202, 203, 204, 205] (by decide +kernel) (by decide +kernel)
set_option maxRecDepth 20000 in
theorem gX10_steps_X8_goStep : GoodIn wsX10_steps (wsV RX10 181 RX8 yX8_goStep wsX8_goStep) := goodIn_app (goodIn_of _ (by decide +kernel)) ggX10_steps_X8_goStep
set_option maxRecDepth 20000 in
theorem ggX10_steps_X8_throughSet : GoodIn wsX10_steps wsX8_throughSet := goodIn_r _ [174, 11, 32, 33, 34, 9, 35, 28, 195, 196, 197, 198, 199, 200, 201, 202, 203, 204, 205] (by decide +kernel) (by decide +kernel)
set_option maxRecDepth 20000 in
theorem gX10_steps_X8_throughSet : GoodIn wsX10_steps (wsV RX10 184 RX8 yX8_throughSet wsX8_throughSet) := goodIn_app (goodIn_of _ (by decide +kernel)) ggX10_steps_X8_throughSet
set_option maxRecDepth 20000 in
theorem ggX10_steps_J6_bitCount_0f7a4 : GoodIn wsX10_steps wsJ6_bitCount_0f7a4 := goodIn_r _ [178, 179, 180, 181] (by decide +kernel) (by decide +kernel)
set_option maxRecDepth 20000 in
theorem gX10_steps_J6_bitCount_0f7a4 : GoodIn wsX10_steps (va_wsS RX10 188 yJ6_bitCount_0f7a4 wsJ6_bitCount_0f7a4) := goodIn_app (goodIn_of _ (by decide +kernel)) ggX10_steps_J6_bitCount_0f7a4
theorem dX10_steps_0 : decode cX10_steps 0 = .ok (.iload_n 1, 1) := by decide +kernel
theorem dX10_steps_1 : decode cX10_steps 1 = .ok (.iconst 1, 1) := by decide +kernel
theorem dX10_steps_2 : decode cX10_steps 2 = .ok (.bipush 60, 2) := by decide +kernel
theorem dX10_steps_4 : decode cX10_steps 4 = .ok (.invokestatic 87, 3) := by decide +kernel
theorem dX10_steps_7 : decode cX10_steps 7 = .ok (.ifCond .eq 5, 3) := by decide +kernel
theorem dX10_steps_10 : decode cX10_steps 10 = .ok (.iconst (-1), 1) := by decide +kernel
theorem dX10_steps_11 : decode cX10_steps 11 = .ok (.ireturn, 1) := by decide +kernel
theorem dX10_steps_12 : decode cX10_steps 12 = .ok (.iconst 0, 1) := by decide +kernel
theorem dX10_steps_13 : decode cX10_steps 13 = .ok (.istore_n 2, 1) := by decide +kernel
theorem dX10_steps_14 : decode cX10_steps 14 = .ok (.iload_n 2, 1) := by decide +kernel
theorem dX10_steps_15 : decode cX10_steps 15 = .ok (.iload_n 1, 1) := by decide +kernel
theorem dX10_steps_16 : decode cX10_steps 16 = .ok (.if_icmp .ge 16, 3) := by decide +kernel
theorem dX10_steps_19 : decode cX10_steps 19 = .ok (.aload_n 0, 1) := by decide +kernel
theorem dX10_steps_20 : decode cX10_steps 20 = .ok (.getfield 36, 3) := by decide +kernel
theorem dX10_steps_23 : decode cX10_steps 23 = .ok (.invokevirtual 181, 3) := by decide +kernel
theorem dX10_steps_26 : decode cX10_steps 26 = .ok (.iinc 2 1, 3) := by decide +kernel
theorem dX10_steps_29 : decode cX10_steps 29 = .ok (.goto (-15), 3) := by decide +kernel
theorem dX10_steps_32 : decode cX10_steps 32 = .ok (.aload_n 0, 1) := by decide +kernel
theorem dX10_steps_33 : decode cX10_steps 33 = .ok (.getfield 36, 3) := by decide +kernel
theorem dX10_steps_36 : decode cX10_steps 36 = .ok (.invokevirtual 184, 3) := by decide +kernel
theorem dX10_steps_39 : decode cX10_steps 39 = .ok (.invokestatic 188, 3) := by decide +kernel
theorem dX10_steps_42 : decode cX10_steps 42 = .ok (.ireturn, 1) := by decide +kernel
theorem dX10_seed_0 : decode cX10_seed 0 = .ok (.aload_n 0, 1) := by decide +kernel
theorem dX10_seed_1 : decode cX10_seed 1 = .ok (.getfield 36, 3) := by decide +kernel
theorem dX10_seed_4 : decode cX10_seed 4 = .ok (.getfield 102, 3) := by decide +kernel
theorem dX10_seed_7 : decode cX10_seed 7 = .ok (.istore_n 2, 1) := by decide +kernel
theorem dX10_seed_8 : decode cX10_seed 8 = .ok (.aload_n 0, 1) := by decide +kernel
theorem dX10_seed_9 : decode cX10_seed 9 = .ok (.getfield 36, 3) := by decide +kernel
theorem dX10_seed_12 : decode cX10_seed 12 = .ok (.iload_n 1, 1) := by decide +kernel
theorem dX10_seed_13 : decode cX10_seed 13 = .ok (.putfield 102, 3) := by decide +kernel
theorem dX10_seed_16 : decode cX10_seed 16 = .ok (.iload_n 2, 1) := by decide +kernel
theorem dX10_seed_17 : decode cX10_seed 17 = .ok (.ireturn, 1) := by decide +kernel
set_option maxRecDepth 20000 in
theorem ggX10_step_X8_goStepByDraws : GoodIn wsX10_step wsX8_goStepByDraws := goodIn_r _ [6, 7, 8, 9, 10, 11, 12, 5, 13, 14, 15, 16, 17, 18, 19, 20, 21, 22, 23, 24, 25, 26, 27, 28, 29, 30, 31, 32, 33, 34, 35, 36, 37, 38, 39, 40, 41, 42, 43, 44, 45, 46, 47, 48, 49, 50, 51, 52, 53, 54, 55, 56, 57, 58, 59, 60, 61, 62, 63, 64, 65, 66, 67, 68, 69, 70, 71, 72, 73, 74, 75, 76, 77, 78, 79, 80, 81, 82, 83, 84, 85, 86, 87, 88, 89, 90, 91, 92, 93, 94, 95, 96, 97, 98, 99, 100, 101, 102, 103, 104, 105, 106, 107, 108, 109, 110, 111, 112, 113, 114, 115, 116, 117, 118, 119, 120, 121, 122, 123, 124, 125, 126, 127, 128, 129, 130, 131, 132, 133, 134, 135, 136, 137, 138, 139, 140, 141, 142, 143, 144, 145, 146, 147, 148, 149, 150, 151, 152, 153, 154, 155, 156, 157, 158, 159, 160, 161, 162, 163, 164, 165, 166, 167, 168, 169, 170, 171, 172, 173, 174, 175, 176, 177, 202, 203, 204, 205, 206, 207, 208, 209, 210, 211, 212] (by decide +kernel) (by decide +kernel)
set_option maxRecDepth 20000 in
theorem gX10_step_X8_goStepByDraws : GoodIn wsX10_step (wsV RX10 193 RX8 yX8_goStepByDraws wsX8_goStepByDraws) := goodIn_app (goodIn_of _ (by decide +kernel)) ggX10_step_X8_goStepByDraws
set_option maxRecDepth 20000 in
theorem ggX10_step_X8_throughSet : GoodIn wsX10_step wsX8_throughSet := goodIn_r _ [181, 7, 38, 39, 40, 5, 41, 34, 202, 203, 204, 205, 206, 207, 208, 209, 210, 211, 212] (by decide +kernel) (by decide +kernel)
set_option maxRecDepth 20000 in
theorem gX10_step_X8_throughSet : GoodIn wsX10_step (wsV RX10 184 RX8 yX8_throughSet wsX8_throughSet) := goodIn_app (goodIn_of _ (by decide +kernel)) ggX10_step_X8_throughSet
set_option maxRecDepth 20000 in
theorem ggX10_step_J6_bitCount_0f7a4 : GoodIn wsX10_step wsJ6_bitCount_0f7a4 := goodIn_r _ [185, 186, 187, 188] (by decide +kernel) (by decide +kernel)
set_option maxRecDepth 20000 in
theorem gX10_step_J6_bitCount_0f7a4 : GoodIn wsX10_step (va_wsS RX10 188 yJ6_bitCount_0f7a4 wsJ6_bitCount_0f7a4) := goodIn_app (goodIn_of _ (by decide +kernel)) ggX10_step_J6_bitCount_0f7a4
theorem dX10_step_0 : decode cX10_step 0 = .ok (.aload_n 0, 1) := by decide +kernel
theorem dX10_step_1 : decode cX10_step 1 = .ok (.getfield 36, 3) := by decide +kernel
theorem dX10_step_4 : decode cX10_step 4 = .ok (.invokevirtual 193, 3) := by decide +kernel
theorem dX10_step_7 : decode cX10_step 7 = .ok (.aload_n 0, 1) := by decide +kernel
theorem dX10_step_8 : decode cX10_step 8 = .ok (.getfield 36, 3) := by decide +kernel
theorem dX10_step_11 : decode cX10_step 11 = .ok (.invokevirtual 184, 3) := by decide +kernel
theorem dX10_step_14 : decode cX10_step 14 = .ok (.invokestatic 188, 3) := by decide +kernel
theorem dX10_step_17 : decode cX10_step 17 = .ok (.ireturn, 1) := by decide +kernel
set_option maxRecDepth 20000 in
theorem ggX10_luck_X10_isOutside : GoodIn wsX10_luck wsX10_isOutside := goodIn_r _ [7] (by decide +kernel) (by decide +kernel)
set_option maxRecDepth 20000 in
theorem gX10_luck_X10_isOutside : GoodIn wsX10_luck (va_wsS RX10 87 yX10_isOutside wsX10_isOutside) := goodIn_app (goodIn_of _ (by decide +kernel)) ggX10_luck_X10_isOutside
set_option maxRecDepth 20000 in
theorem ggX10_luck_X8_copyFrom : GoodIn wsX10_luck wsX8_copyFrom := goodIn_r _ [12, 13, 14, 15, 16, 17, 18, 19, 20, 21, 11, 22, 23, 24, 25, 26, 209, 210, 211, 212, 213, 214, 215, 216, 217, 218, 219] (by decide +kernel) (by decide +kernel)
set_option maxRecDepth 20000 in
theorem gX10_luck_X8_copyFrom : GoodIn wsX10_luck (wsV RX10 105 RX8 yX8_copyFrom wsX8_copyFrom) := goodIn_app (goodIn_of _ (by decide +kernel)) ggX10_luck_X8_copyFrom
set_option maxRecDepth 20000 in
theorem ggX10_luck_X8_goStep : GoodIn wsX10_luck wsX8_goStep := goodIn_r _ [30, 16, 17, 31, 32, 33, 11, 34, 35, 23, 24, 15, 13, 26, 36, 37, 38, 39, 14, 25, 40, 41, 42, 43, 44, 45, 46, 47, 6, 48, 49, 50, 51, 52, 53, 54, 55, 56, 57, 58, 59, 60, 61, 62, 63, 64, 65, 66, 67, 68, 69, 70, 71, 72, 73, 74, 75, 76, 77, 78, 79, 80, 81, 82, 83, 84, 85, 86, 87, 88, 89, 90, 91, 92, 93, 94, 95, 96, 97, 98, 99, 100, 101, 102, 103, 104, 105, 106, 107, 108, 109, 110, 111, 112, 113, 114, 115, 116, 117, 118, 119, 120, 121, 122, 123, 124, 125, 126, 127, 128, 129, 130, 131, 132, 133, 134, 135, 136, 137, 138, 139, 140, 141, 142, 143, 144, 145, 146, 147, 148, 149, 150, 151, 152, 153, 154, 155, 156, 157, 158, 159, 160, 161, 162, 163, 164, 165, 166, 167, 168, 169, 170, 171, 172, 173, 174, 175, 176, 177, 178, 179, 180, 181, 209, 210, 211, 212, 213, 214, 215, 216, 217, 218, 219] (by decide +kernel) (by decide +kernel)
set_option maxRecDepth 20000 in
theorem gX10_luck_X8_goStep : GoodIn wsX10_luck (wsV RX10 181 RX8 yX8_goStep wsX8_goStep) := goodIn_app (goodIn_of _ (by decide +kernel)) ggX10_luck_X8_goStep
set_option maxRecDepth 20000 in
theorem ggX10_luck_X8_placesTogether : GoodIn wsX10_luck wsX8_placesTogether := goodIn_r _ [185, 16, 25, 209, 210, 211, 212, 213, 214, 215, 216, 217, 218, 219] (by decide +kernel) (by decide +kernel)
set_option maxRecDepth 20000 in
theorem gX10_luck_X8_placesTogether : GoodIn wsX10_luck (wsV RX10 196 RX8 yX8_placesTogether wsX8_placesTogether) := goodIn_app (goodIn_of _ (by decide +kernel)) ggX10_luck_X8_placesTogether
set_option maxRecDepth 20000 in
theorem ggX10_luck_X8_goStepByDraws : GoodIn wsX10_luck wsX8_goStepByDraws := goodIn_r _ [189, 16, 13, 24, 190, 191, 192, 11, 193, 18, 194, 195, 28, 29, 30, 17, 31, 32, 33, 34, 35, 23, 15, 26, 36, 37, 38, 39, 14, 25, 40, 41, 42, 43, 44, 45, 46, 47, 6, 48, 49, 50, 51, 52, 53, 54, 55, 56, 57, 58, 59, 60, 61, 62, 63, 64, 65, 66, 67, 68, 69, 70, 71, 72, 73, 74, 75, 76, 77, 78, 79, 80, 81, 82, 83, 84, 85, 86, 87, 88, 89, 90, 91, 92, 93, 94, 95, 96, 97, 98, 99, 100, 101, 102, 103, 104, 105, 106, 107, 108, 109, 110, 111, 112, 113, 114, 115, 116, 117, 118, 119, 120, 121, 122, 123, 124, 125, 126, 127, 128, 129, 130, 131, 132, 133, 134, 135, 136, 137, 138, 139, 140, 141, 142, 143, 144, 145, 146, 147, 148, 149, 150, 151, 152, 153, 154, 155, 156, 157, 158, 159, 160, 161, 162, 163, 164, 165, 166, 167, 168, 169, 170, 171, 172, 173, 174, 175, 176, 177, 178, 179, 180, 181, 209, 210, 211, 212, 213, 214, 215, 216, 217, 218, 219] (by decide +kernel) (by decide +kernel)
set_option maxRecDepth 20000 in
theorem gX10_luck_X8_goStepByDraws : GoodIn wsX10_luck (wsV RX10 193 RX8 yX8_goStepByDraws wsX8_goStepByDraws) := goodIn_app (goodIn_of _ (by decide +kernel)) ggX10_luck_X8_goStepByDraws
theorem dX10_luck_0 : decode cX10_luck 0 = .ok (.iload_n 1, 1) := by decide +kernel
theorem dX10_luck_1 : decode cX10_luck 1 = .ok (.iconst 1, 1) := by decide +kernel
theorem dX10_luck_2 : decode cX10_luck 2 = .ok (.bipush 30, 2) := by decide +kernel
theorem dX10_luck_4 : decode cX10_luck 4 = .ok (.invokestatic 87, 3) := by decide +kernel
theorem dX10_luck_7 : decode cX10_luck 7 = .ok (.ifCond .eq 5, 3) := by decide +kernel
theorem dX10_luck_10 : decode cX10_luck 10 = .ok (.iconst (-1), 1) := by decide +kernel
theorem dX10_luck_11 : decode cX10_luck 11 = .ok (.ireturn, 1) := by decide +kernel
theorem dX10_luck_12 : decode cX10_luck 12 = .ok (.aload_n 0, 1) := by decide +kernel
theorem dX10_luck_13 : decode cX10_luck 13 = .ok (.getfield 43, 3) := by decide +kernel
theorem dX10_luck_16 : decode cX10_luck 16 = .ok (.aload_n 0, 1) := by decide +kernel
theorem dX10_luck_17 : decode cX10_luck 17 = .ok (.getfield 36, 3) := by decide +kernel
theorem dX10_luck_20 : decode cX10_luck 20 = .ok (.invokevirtual 105, 3) := by decide +kernel
theorem dX10_luck_23 : decode cX10_luck 23 = .ok (.aload_n 0, 1) := by decide +kernel
theorem dX10_luck_24 : decode cX10_luck 24 = .ok (.getfield 43, 3) := by decide +kernel
theorem dX10_luck_27 : decode cX10_luck 27 = .ok (.invokevirtual 181, 3) := by decide +kernel
theorem dX10_luck_30 : decode cX10_luck 30 = .ok (.aload_n 0, 1) := by decide +kernel
theorem dX10_luck_31 : decode cX10_luck 31 = .ok (.getfield 43, 3) := by decide +kernel
theorem dX10_luck_34 : decode cX10_luck 34 = .ok (.invokevirtual 196, 3) := by decide +kernel
theorem dX10_luck_37 : decode cX10_luck 37 = .ok (.istore_n 2, 1) := by decide +kernel
theorem dX10_luck_38 : decode cX10_luck 38 = .ok (.aload_n 0, 1) := by decide +kernel
theorem dX10_luck_39 : decode cX10_luck 39 = .ok (.getfield 36, 3) := by decide +kernel
theorem dX10_luck_42 : decode cX10_luck 42 = .ok (.getfield 102, 3) := by decide +kernel
theorem dX10_luck_45 : decode cX10_luck 45 = .ok (.istore_n 3, 1) := by decide +kernel
theorem dX10_luck_46 : decode cX10_luck 46 = .ok (.iconst 0, 1) := by decide +kernel
theorem dX10_luck_47 : decode cX10_luck 47 = .ok (.istore 4, 2) := by decide +kernel
theorem dX10_luck_49 : decode cX10_luck 49 = .ok (.iconst 0, 1) := by decide +kernel
theorem dX10_luck_50 : decode cX10_luck 50 = .ok (.istore 5, 2) := by decide +kernel
theorem dX10_luck_52 : decode cX10_luck 52 = .ok (.iload 5, 2) := by decide +kernel
theorem dX10_luck_54 : decode cX10_luck 54 = .ok (.iload_n 1, 1) := by decide +kernel
theorem dX10_luck_55 : decode cX10_luck 55 = .ok (.if_icmp .ge 57, 3) := by decide +kernel
theorem dX10_luck_58 : decode cX10_luck 58 = .ok (.aload_n 0, 1) := by decide +kernel
theorem dX10_luck_59 : decode cX10_luck 59 = .ok (.getfield 43, 3) := by decide +kernel
theorem dX10_luck_62 : decode cX10_luck 62 = .ok (.aload_n 0, 1) := by decide +kernel
theorem dX10_luck_63 : decode cX10_luck 63 = .ok (.getfield 36, 3) := by decide +kernel
theorem dX10_luck_66 : decode cX10_luck 66 = .ok (.invokevirtual 105, 3) := by decide +kernel
theorem dX10_luck_69 : decode cX10_luck 69 = .ok (.aload_n 0, 1) := by decide +kernel
theorem dX10_luck_70 : decode cX10_luck 70 = .ok (.getfield 43, 3) := by decide +kernel
theorem dX10_luck_73 : decode cX10_luck 73 = .ok (.iload_n 3, 1) := by decide +kernel
theorem dX10_luck_74 : decode cX10_luck 74 = .ok (.putfield 102, 3) := by decide +kernel
theorem dX10_luck_77 : decode cX10_luck 77 = .ok (.aload_n 0, 1) := by decide +kernel
theorem dX10_luck_78 : decode cX10_luck 78 = .ok (.getfield 43, 3) := by decide +kernel
theorem dX10_luck_81 : decode cX10_luck 81 = .ok (.invokevirtual 193, 3) := by decide +kernel
theorem dX10_luck_84 : decode cX10_luck 84 = .ok (.aload_n 0, 1) := by decide +kernel
theorem dX10_luck_85 : decode cX10_luck 85 = .ok (.getfield 43, 3) := by decide +kernel
theorem dX10_luck_88 : decode cX10_luck 88 = .ok (.getfield 102, 3) := by decide +kernel
theorem dX10_luck_91 : decode cX10_luck 91 = .ok (.istore_n 3, 1) := by decide +kernel
theorem dX10_luck_92 : decode cX10_luck 92 = .ok (.aload_n 0, 1) := by decide +kernel
theorem dX10_luck_93 : decode cX10_luck 93 = .ok (.getfield 43, 3) := by decide +kernel
theorem dX10_luck_96 : decode cX10_luck 96 = .ok (.invokevirtual 196, 3) := by decide +kernel
theorem dX10_luck_99 : decode cX10_luck 99 = .ok (.iload_n 2, 1) := by decide +kernel
theorem dX10_luck_100 : decode cX10_luck 100 = .ok (.if_icmp .le 6, 3) := by decide +kernel
theorem dX10_luck_103 : decode cX10_luck 103 = .ok (.iinc 4 1, 3) := by decide +kernel
theorem dX10_luck_106 : decode cX10_luck 106 = .ok (.iinc 5 1, 3) := by decide +kernel
theorem dX10_luck_109 : decode cX10_luck 109 = .ok (.goto (-57), 3) := by decide +kernel
theorem dX10_luck_112 : decode cX10_luck 112 = .ok (.iload 4, 2) := by decide +kernel
theorem dX10_luck_114 : decode cX10_luck 114 = .ok (.ireturn, 1) := by decide +kernel
set_option maxRecDepth 20000 in
theorem ggX10_state_X8_throughSet : GoodIn wsX10_state wsX8_throughSet := goodIn_r _ [8, 9, 10, 11, 12, 7, 13, 14, 100, 101, 102, 103, 104, 105, 106, 107, 108, 109, 110] (by decide +kernel) (by decide +kernel)
set_option maxRecDepth 20000 in
theorem gX10_state_X8_throughSet : GoodIn wsX10_state (wsV RX10 184 RX8 yX8_throughSet wsX8_throughSet) := goodIn_app (goodIn_of _ (by decide +kernel)) ggX10_state_X8_throughSet
set_option maxRecDepth 20000 in
theorem ggX10_state_X8_seeingSet : GoodIn wsX10_state wsX8_seeingSet := goodIn_r _ [18, 9, 19, 20, 21, 7, 22, 23, 10, 11, 12, 13, 14, 24, 25, 26, 27, 28, 29, 30, 31, 32, 33, 34, 35, 36, 37, 38, 39, 40, 41, 42, 43, 44, 45, 46, 47, 48, 49, 50, 51, 52, 53, 54, 55, 56, 57, 58, 59, 60, 61, 62, 63, 64, 65, 66, 67, 68, 69, 70, 71, 72, 73, 74, 75, 76, 77, 100, 101, 102, 103, 104, 105, 106, 107, 108, 109, 110] (by decide +kernel) (by decide +kernel)
set_option maxRecDepth 20000 in
theorem gX10_state_X8_seeingSet : GoodIn wsX10_state (wsV RX10 199 RX8 yX8_seeingSet wsX8_seeingSet) := goodIn_app (goodIn_of _ (by decide +kernel)) ggX10_state_X8_seeingSet
set_option maxRecDepth 20000 in
theorem ggX10_state_X8_faithTogether : GoodIn wsX10_state wsX8_faithTogether := goodIn_r _ [81, 9, 82, 100, 101, 102, 103, 104, 105, 106, 107, 108, 109, 110] (by decide +kernel) (by decide +kernel)
set_option maxRecDepth 20000 in
theorem gX10_state_X8_faithTogether : GoodIn wsX10_state (wsV RX10 202 RX8 yX8_faithTogether wsX8_faithTogether) := goodIn_app (goodIn_of _ (by decide +kernel)) ggX10_state_X8_faithTogether
set_option maxRecDepth 20000 in
theorem ggX10_state_X8_placesTogether : GoodIn wsX10_state wsX8_placesTogether := goodIn_r _ [86, 9, 14, 100, 101, 102, 103, 104, 105, 106, 107, 108, 109, 110] (by decide +kernel) (by decide +kernel)
set_option maxRecDepth 20000 in
theorem gX10_state_X8_placesTogether : GoodIn wsX10_state (wsV RX10 196 RX8 yX8_placesTogether wsX8_placesTogether) := goodIn_app (goodIn_of _ (by decide +kernel)) ggX10_state_X8_placesTogether
theorem dX10_state_0 : decode cX10_state 0 = .ok (.iload_n 1, 1) := by decide +kernel
theorem dX10_state_1 : decode cX10_state 1 = .ok (.tableswitch 106 0 5 #[39, 47, 55, 63, 71, 79], 39) := by decide +kernel
theorem dX10_state_40 : decode cX10_state 40 = .ok (.aload_n 0, 1) := by decide +kernel
theorem dX10_state_41 : decode cX10_state 41 = .ok (.getfield 36, 3) := by decide +kernel
theorem dX10_state_44 : decode cX10_state 44 = .ok (.getfield 155, 3) := by decide +kernel
theorem dX10_state_47 : decode cX10_state 47 = .ok (.ireturn, 1) := by decide +kernel
theorem dX10_state_48 : decode cX10_state 48 = .ok (.aload_n 0, 1) := by decide +kernel
theorem dX10_state_49 : decode cX10_state 49 = .ok (.getfield 36, 3) := by decide +kernel
theorem dX10_state_52 : decode cX10_state 52 = .ok (.invokevirtual 184, 3) := by decide +kernel
theorem dX10_state_55 : decode cX10_state 55 = .ok (.ireturn, 1) := by decide +kernel
theorem dX10_state_56 : decode cX10_state 56 = .ok (.aload_n 0, 1) := by decide +kernel
theorem dX10_state_57 : decode cX10_state 57 = .ok (.getfield 36, 3) := by decide +kernel
theorem dX10_state_60 : decode cX10_state 60 = .ok (.invokevirtual 199, 3) := by decide +kernel
theorem dX10_state_63 : decode cX10_state 63 = .ok (.ireturn, 1) := by decide +kernel
theorem dX10_state_64 : decode cX10_state 64 = .ok (.aload_n 0, 1) := by decide +kernel
theorem dX10_state_65 : decode cX10_state 65 = .ok (.getfield 36, 3) := by decide +kernel
theorem dX10_state_68 : decode cX10_state 68 = .ok (.invokevirtual 202, 3) := by decide +kernel
theorem dX10_state_71 : decode cX10_state 71 = .ok (.ireturn, 1) := by decide +kernel
theorem dX10_state_72 : decode cX10_state 72 = .ok (.aload_n 0, 1) := by decide +kernel
theorem dX10_state_73 : decode cX10_state 73 = .ok (.getfield 36, 3) := by decide +kernel
theorem dX10_state_76 : decode cX10_state 76 = .ok (.invokevirtual 196, 3) := by decide +kernel
theorem dX10_state_79 : decode cX10_state 79 = .ok (.ireturn, 1) := by decide +kernel
theorem dX10_state_80 : decode cX10_state 80 = .ok (.aload_n 0, 1) := by decide +kernel
theorem dX10_state_81 : decode cX10_state 81 = .ok (.getfield 36, 3) := by decide +kernel
theorem dX10_state_84 : decode cX10_state 84 = .ok (.getfield 115, 3) := by decide +kernel
theorem dX10_state_87 : decode cX10_state 87 = .ok (.iconst 2, 1) := by decide +kernel
theorem dX10_state_88 : decode cX10_state 88 = .ok (.iaload, 1) := by decide +kernel
theorem dX10_state_89 : decode cX10_state 89 = .ok (.aload_n 0, 1) := by decide +kernel
theorem dX10_state_90 : decode cX10_state 90 = .ok (.getfield 36, 3) := by decide +kernel
theorem dX10_state_93 : decode cX10_state 93 = .ok (.getfield 115, 3) := by decide +kernel
theorem dX10_state_96 : decode cX10_state 96 = .ok (.iconst 1, 1) := by decide +kernel
theorem dX10_state_97 : decode cX10_state 97 = .ok (.iaload, 1) := by decide +kernel
theorem dX10_state_98 : decode cX10_state 98 = .ok (.if_icmp .ge 7, 3) := by decide +kernel
theorem dX10_state_101 : decode cX10_state 101 = .ok (.iconst 1, 1) := by decide +kernel
theorem dX10_state_102 : decode cX10_state 102 = .ok (.goto 4, 3) := by decide +kernel
theorem dX10_state_105 : decode cX10_state 105 = .ok (.iconst 0, 1) := by decide +kernel
theorem dX10_state_106 : decode cX10_state 106 = .ok (.ireturn, 1) := by decide +kernel
theorem dX10_state_107 : decode cX10_state 107 = .ok (.iconst (-1), 1) := by decide +kernel
theorem dX10_state_108 : decode cX10_state 108 = .ok (.ireturn, 1) := by decide +kernel
set_option maxRecDepth 20000 in
theorem ggX10_where_X8_has : GoodIn wsX10_where wsX8_has := goodIn_r _ [8, 9, 199, 200, 201, 202, 203, 204, 205, 206, 207, 208, 209] (by decide +kernel) (by decide +kernel)
set_option maxRecDepth 20000 in
theorem gX10_where_X8_has : GoodIn wsX10_where (wsV RX10 135 RX8 yX8_has wsX8_has) := goodIn_app (goodIn_of _ (by decide +kernel)) ggX10_where_X8_has
set_option maxRecDepth 20000 in
theorem ggX10_where_X10_isOutside : GoodIn wsX10_where wsX10_isOutside := goodIn_r _ [13] (by decide +kernel) (by decide +kernel)
set_option maxRecDepth 20000 in
theorem gX10_where_X10_isOutside : GoodIn wsX10_where (va_wsS RX10 87 yX10_isOutside wsX10_isOutside) := goodIn_app (goodIn_of _ (by decide +kernel)) ggX10_where_X10_isOutside
set_option maxRecDepth 20000 in
theorem ggX10_where_X8_copyFrom : GoodIn wsX10_where wsX8_copyFrom := goodIn_r _ [17, 18, 19, 20, 9, 21, 22, 23, 24, 25, 7, 26, 27, 28, 29, 30, 199, 200, 201, 202, 203, 204, 205, 206, 207, 208, 209] (by decide +kernel) (by decide +kernel)
set_option maxRecDepth 20000 in
theorem gX10_where_X8_copyFrom : GoodIn wsX10_where (wsV RX10 105 RX8 yX8_copyFrom wsX8_copyFrom) := goodIn_app (goodIn_of _ (by decide +kernel)) ggX10_where_X8_copyFrom
set_option maxRecDepth 20000 in
theorem ggX10_where_X8_goOnAlone : GoodIn wsX10_where wsX8_goOnAlone := goodIn_r _ [34, 21, 35, 36, 37, 7, 38, 29, 39, 40, 41, 42, 43, 27, 28, 20, 18, 30, 44, 45, 46, 47, 19, 48, 49, 50, 51, 12, 52, 53, 54, 55, 56, 57, 58, 59, 60, 61, 62, 63, 64, 65, 66, 67, 68, 69, 70, 71, 72, 73, 74, 75, 76, 77, 78, 79, 80, 81, 82, 83, 84, 85, 86, 87, 88, 89, 90, 91, 92, 93, 94, 95, 96, 97, 98, 99, 100, 101, 102, 103, 104, 105, 106, 107, 108, 109, 110, 111, 112, 113, 114, 115, 116, 117, 118, 119, 120, 121, 122, 123, 124, 125, 126, 127, 128, 129, 130, 131, 132, 133, 134, 135, 136, 137, 138, 139, 140, 141, 142, 143, 144, 145, 146, 147, 148, 149, 150, 151, 152, 153, 154, 155, 156, 157, 158, 159, 160, 161, 162, 163, 164, 165, 166, 167, 168, 169, 170, 171, 172, 173, 174, 175, 176, 177, 178, 179, 180, 181, 182, 183, 184, 185, 199, 200, 201, 202, 203, 204, 205, 206, 207, 208, 209] (by decide +kernel) (by decide +kernel)
set_option maxRecDepth 20000 in
theorem gX10_where_X8_goOnAlone : GoodIn wsX10_where (wsV RX10 205 RX8 yX8_goOnAlone wsX8_goOnAlone) := goodIn_app (goodIn_of _ (by decide +kernel)) ggX10_where_X8_goOnAlone
theorem dX10_where_0 : decode cX10_where 0 = .ok (.aload_n 0, 1) := by decide +kernel
theorem dX10_where_1 : decode cX10_where 1 = .ok (.getfield 36, 3) := by decide +kernel
theorem dX10_where_4 : decode cX10_where 4 = .ok (.iload_n 1, 1) := by decide +kernel
theorem dX10_where_5 : decode cX10_where 5 = .ok (.invokevirtual 135, 3) := by decide +kernel
theorem dX10_where_8 : decode cX10_where 8 = .ok (.ifCond .eq 13, 3) := by decide +kernel
theorem dX10_where_11 : decode cX10_where 11 = .ok (.iload_n 2, 1) := by decide +kernel
theorem dX10_where_12 : decode cX10_where 12 = .ok (.iconst 0, 1) := by decide +kernel
theorem dX10_where_13 : decode cX10_where 13 = .ok (.bipush 60, 2) := by decide +kernel
theorem dX10_where_15 : decode cX10_where 15 = .ok (.invokestatic 87, 3) := by decide +kernel
theorem dX10_where_18 : decode cX10_where 18 = .ok (.ifCond .eq 5, 3) := by decide +kernel
theorem dX10_where_21 : decode cX10_where 21 = .ok (.iconst (-1), 1) := by decide +kernel
theorem dX10_where_22 : decode cX10_where 22 = .ok (.ireturn, 1) := by decide +kernel
theorem dX10_where_23 : decode cX10_where 23 = .ok (.aload_n 0, 1) := by decide +kernel
theorem dX10_where_24 : decode cX10_where 24 = .ok (.getfield 43, 3) := by decide +kernel
theorem dX10_where_27 : decode cX10_where 27 = .ok (.aload_n 0, 1) := by decide +kernel
theorem dX10_where_28 : decode cX10_where 28 = .ok (.getfield 36, 3) := by decide +kernel
theorem dX10_where_31 : decode cX10_where 31 = .ok (.invokevirtual 105, 3) := by decide +kernel
theorem dX10_where_34 : decode cX10_where 34 = .ok (.aload_n 0, 1) := by decide +kernel
theorem dX10_where_35 : decode cX10_where 35 = .ok (.getfield 43, 3) := by decide +kernel
theorem dX10_where_38 : decode cX10_where 38 = .ok (.iload_n 1, 1) := by decide +kernel
theorem dX10_where_39 : decode cX10_where 39 = .ok (.iload_n 2, 1) := by decide +kernel
theorem dX10_where_40 : decode cX10_where 40 = .ok (.invokevirtual 205, 3) := by decide +kernel
theorem dX10_where_43 : decode cX10_where 43 = .ok (.pop, 1) := by decide +kernel
theorem dX10_where_44 : decode cX10_where 44 = .ok (.aload_n 0, 1) := by decide +kernel
theorem dX10_where_45 : decode cX10_where 45 = .ok (.getfield 43, 3) := by decide +kernel
theorem dX10_where_48 : decode cX10_where 48 = .ok (.getfield 143, 3) := by decide +kernel
theorem dX10_where_51 : decode cX10_where 51 = .ok (.iload_n 1, 1) := by decide +kernel
theorem dX10_where_52 : decode cX10_where 52 = .ok (.iaload, 1) := by decide +kernel
theorem dX10_where_53 : decode cX10_where 53 = .ok (.ireturn, 1) := by decide +kernel
set_option maxRecDepth 20000 in
theorem ggX10_comes_X8_has : GoodIn wsX10_comes wsX8_has := goodIn_r _ [7, 8, 198, 199, 200, 201, 202, 203, 204, 205, 206, 207, 208] (by decide +kernel) (by decide +kernel)
set_option maxRecDepth 20000 in
theorem gX10_comes_X8_has : GoodIn wsX10_comes (wsV RX10 135 RX8 yX8_has wsX8_has) := goodIn_app (goodIn_of _ (by decide +kernel)) ggX10_comes_X8_has
set_option maxRecDepth 20000 in
theorem ggX10_comes_X10_soonestAs : GoodIn wsX10_comes wsX10_soonestAs := goodIn_r _ [13, 14, 1, 2, 15, 16, 17, 18, 6, 19, 20, 21, 22, 8, 23, 24, 25, 26, 27, 28, 29, 30, 31, 32, 33, 34, 35, 36, 37, 38, 39, 40, 41, 42, 43, 44, 45, 46, 47, 48, 49, 50, 12, 51, 52, 53, 54, 55, 56, 57, 58, 59, 60, 61, 62, 63, 64, 65, 66, 67, 68, 69, 70, 71, 72, 73, 74, 75, 76, 77, 78, 79, 80, 81, 82, 83, 84, 85, 86, 87, 88, 89, 90, 91, 92, 93, 94, 95, 96, 97, 98, 99, 100, 101, 102, 103, 104, 105, 106, 107, 108, 109, 110, 111, 112, 113, 114, 115, 116, 117, 118, 119, 120, 121, 122, 123, 124, 125, 126, 127, 128, 129, 130, 131, 132, 133, 134, 135, 136, 137, 138, 139, 140, 141, 142, 143, 144, 145, 146, 147, 148, 149, 150, 151, 152, 153, 154, 155, 156, 157, 158, 159, 160, 161, 162, 163, 164, 165, 166, 167, 168, 169, 170, 171, 172, 173, 174, 175, 176, 177, 178, 179, 180, 181, 182, 183, 184, 185, 186, 187, 188, 189, 190, 191, 192, 193, 194, 195, 196, 197, 198, 199, 200, 201, 202, 203, 204, 205, 206, 207, 208] (by decide +kernel) (by decide +kernel)
set_option maxRecDepth 20000 in
theorem gX10_comes_X10_soonestAs : GoodIn wsX10_comes (wsV RX10 208 RX10 yX10_soonestAs wsX10_soonestAs) := goodIn_app (goodIn_of _ (by decide +kernel)) ggX10_comes_X10_soonestAs
theorem dX10_comes_0 : decode cX10_comes 0 = .ok (.aload_n 0, 1) := by decide +kernel
theorem dX10_comes_1 : decode cX10_comes 1 = .ok (.getfield 36, 3) := by decide +kernel
theorem dX10_comes_4 : decode cX10_comes 4 = .ok (.iload_n 1, 1) := by decide +kernel
theorem dX10_comes_5 : decode cX10_comes 5 = .ok (.invokevirtual 135, 3) := by decide +kernel
theorem dX10_comes_8 : decode cX10_comes 8 = .ok (.ifCond .ne 5, 3) := by decide +kernel
theorem dX10_comes_11 : decode cX10_comes 11 = .ok (.iconst (-1), 1) := by decide +kernel
theorem dX10_comes_12 : decode cX10_comes 12 = .ok (.ireturn, 1) := by decide +kernel
theorem dX10_comes_13 : decode cX10_comes 13 = .ok (.aload_n 0, 1) := by decide +kernel
theorem dX10_comes_14 : decode cX10_comes 14 = .ok (.iload_n 1, 1) := by decide +kernel
theorem dX10_comes_15 : decode cX10_comes 15 = .ok (.aload_n 0, 1) := by decide +kernel
theorem dX10_comes_16 : decode cX10_comes 16 = .ok (.getfield 36, 3) := by decide +kernel
theorem dX10_comes_19 : decode cX10_comes 19 = .ok (.getfield 138, 3) := by decide +kernel
theorem dX10_comes_22 : decode cX10_comes 22 = .ok (.iload_n 1, 1) := by decide +kernel
theorem dX10_comes_23 : decode cX10_comes 23 = .ok (.iaload, 1) := by decide +kernel
theorem dX10_comes_24 : decode cX10_comes 24 = .ok (.invokevirtual 208, 3) := by decide +kernel
theorem dX10_comes_27 : decode cX10_comes 27 = .ok (.istore_n 2, 1) := by decide +kernel
theorem dX10_comes_28 : decode cX10_comes 28 = .ok (.iload_n 2, 1) := by decide +kernel
theorem dX10_comes_29 : decode cX10_comes 29 = .ok (.bipush 60, 2) := by decide +kernel
theorem dX10_comes_31 : decode cX10_comes 31 = .ok (.if_icmp .le 8, 3) := by decide +kernel
theorem dX10_comes_34 : decode cX10_comes 34 = .ok (.bipush (-3), 2) := by decide +kernel
theorem dX10_comes_36 : decode cX10_comes 36 = .ok (.goto 4, 3) := by decide +kernel
theorem dX10_comes_39 : decode cX10_comes 39 = .ok (.iload_n 2, 1) := by decide +kernel
theorem dX10_comes_40 : decode cX10_comes 40 = .ok (.ireturn, 1) := by decide +kernel
set_option maxRecDepth 20000 in
theorem ggX10_sits_X8_has : GoodIn wsX10_sits wsX8_has := goodIn_r _ [6, 7, 196, 197, 198, 199, 200, 201, 202, 203, 204, 205, 206] (by decide +kernel) (by decide +kernel)
set_option maxRecDepth 20000 in
theorem gX10_sits_X8_has : GoodIn wsX10_sits (wsV RX10 135 RX8 yX8_has wsX8_has) := goodIn_app (goodIn_of _ (by decide +kernel)) ggX10_sits_X8_has
set_option maxRecDepth 20000 in
theorem ggX10_sits_X10_firstStepOf : GoodIn wsX10_sits wsX10_firstStepOf := goodIn_r _ [12, 13, 1, 14, 15, 16, 17, 5, 18, 19, 20, 21, 7, 22, 23, 24, 25, 26, 27, 28, 29, 30, 31, 32, 33, 34, 35, 36, 37, 38, 39, 40, 41, 42, 43, 44, 45, 46, 47, 48, 11, 49, 50, 51, 52, 53, 54, 55, 56, 57, 58, 59, 60, 61, 62, 63, 64, 65, 66, 67, 68, 69, 70, 71, 72, 73, 74, 75, 76, 77, 78, 79, 80, 81, 82, 83, 84, 85, 86, 87, 88, 89, 90, 91, 92, 93, 94, 95, 96, 97, 98, 99, 100, 101, 102, 103, 104, 105, 106, 107, 108, 109, 110, 111, 112, 113, 114, 115, 116, 117, 118, 119, 120, 121, 122, 123, 124, 125, 126, 127, 128, 129, 130, 131, 132, 133, 134, 135, 136, 137, 138, 139, 140, 141, 142, 143, 144, 145, 146, 147, 148, 149, 150, 151, 152, 153, 154, 155, 156, 157, 158, 159, 160, 161, 162, 163, 164, 165, 166, 167, 168, 169, 170, 171, 172, 173, 174, 175, 176, 177, 178, 179, 180, 181, 182, 183, 184, 185, 186, 187, 188, 189, 190, 191, 192, 193, 194, 195, 196, 197, 198, 199, 200, 201, 202, 203, 204, 205, 206] (by decide +kernel) (by decide +kernel)
set_option maxRecDepth 20000 in
theorem gX10_sits_X10_firstStepOf : GoodIn wsX10_sits (wsV RX10 211 RX10 yX10_firstStepOf wsX10_firstStepOf) := goodIn_app (goodIn_of _ (by decide +kernel)) ggX10_sits_X10_firstStepOf
theorem dX10_sits_0 : decode cX10_sits 0 = .ok (.aload_n 0, 1) := by decide +kernel
theorem dX10_sits_1 : decode cX10_sits 1 = .ok (.getfield 36, 3) := by decide +kernel
theorem dX10_sits_4 : decode cX10_sits 4 = .ok (.iload_n 1, 1) := by decide +kernel
theorem dX10_sits_5 : decode cX10_sits 5 = .ok (.invokevirtual 135, 3) := by decide +kernel
theorem dX10_sits_8 : decode cX10_sits 8 = .ok (.ifCond .eq 12, 3) := by decide +kernel
theorem dX10_sits_11 : decode cX10_sits 11 = .ok (.aload_n 0, 1) := by decide +kernel
theorem dX10_sits_12 : decode cX10_sits 12 = .ok (.iload_n 1, 1) := by decide +kernel
theorem dX10_sits_13 : decode cX10_sits 13 = .ok (.iconst 2, 1) := by decide +kernel
theorem dX10_sits_14 : decode cX10_sits 14 = .ok (.invokevirtual 211, 3) := by decide +kernel
theorem dX10_sits_17 : decode cX10_sits 17 = .ok (.goto 4, 3) := by decide +kernel
theorem dX10_sits_20 : decode cX10_sits 20 = .ok (.iconst (-1), 1) := by decide +kernel
theorem dX10_sits_21 : decode cX10_sits 21 = .ok (.ireturn, 1) := by decide +kernel
set_option maxRecDepth 20000 in
theorem ggX10_back_X8_has : GoodIn wsX10_back wsX8_has := goodIn_r _ [6, 7, 196, 197, 198, 199, 200, 201, 202, 203, 204, 205, 206] (by decide +kernel) (by decide +kernel)
set_option maxRecDepth 20000 in
theorem gX10_back_X8_has : GoodIn wsX10_back (wsV RX10 135 RX8 yX8_has wsX8_has) := goodIn_app (goodIn_of _ (by decide +kernel)) ggX10_back_X8_has
set_option maxRecDepth 20000 in
theorem ggX10_back_X10_firstStepOf : GoodIn wsX10_back wsX10_firstStepOf := goodIn_r _ [12, 13, 1, 14, 15, 16, 17, 5, 18, 19, 20, 21, 7, 22, 23, 24, 25, 26, 27, 28, 29, 30, 31, 32, 33, 34, 35, 36, 37, 38, 39, 40, 41, 42, 43, 44, 45, 46, 47, 48, 11, 49, 50, 51, 52, 53, 54, 55, 56, 57, 58, 59, 60, 61, 62, 63, 64, 65, 66, 67, 68, 69, 70, 71, 72, 73, 74, 75, 76, 77, 78, 79, 80, 81, 82, 83, 84, 85, 86, 87, 88, 89, 90, 91, 92, 93, 94, 95, 96, 97, 98, 99, 100, 101, 102, 103, 104, 105, 106, 107, 108, 109, 110, 111, 112, 113, 114, 115, 116, 117, 118, 119, 120, 121, 122, 123, 124, 125, 126, 127, 128, 129, 130, 131, 132, 133, 134, 135, 136, 137, 138, 139, 140, 141, 142, 143, 144, 145, 146, 147, 148, 149, 150, 151, 152, 153, 154, 155, 156, 157, 158, 159, 160, 161, 162, 163, 164, 165, 166, 167, 168, 169, 170, 171, 172, 173, 174, 175, 176, 177, 178, 179, 180, 181, 182, 183, 184, 185, 186, 187, 188, 189, 190, 191, 192, 193, 194, 195, 196, 197, 198, 199, 200, 201, 202, 203, 204, 205, 206] (by decide +kernel) (by decide +kernel)
set_option maxRecDepth 20000 in
theorem gX10_back_X10_firstStepOf : GoodIn wsX10_back (wsV RX10 211 RX10 yX10_firstStepOf wsX10_firstStepOf) := goodIn_app (goodIn_of _ (by decide +kernel)) ggX10_back_X10_firstStepOf
theorem dX10_back_0 : decode cX10_back 0 = .ok (.aload_n 0, 1) := by decide +kernel
theorem dX10_back_1 : decode cX10_back 1 = .ok (.getfield 36, 3) := by decide +kernel
theorem dX10_back_4 : decode cX10_back 4 = .ok (.iload_n 1, 1) := by decide +kernel
theorem dX10_back_5 : decode cX10_back 5 = .ok (.invokevirtual 135, 3) := by decide +kernel
theorem dX10_back_8 : decode cX10_back 8 = .ok (.ifCond .eq 12, 3) := by decide +kernel
theorem dX10_back_11 : decode cX10_back 11 = .ok (.aload_n 0, 1) := by decide +kernel
theorem dX10_back_12 : decode cX10_back 12 = .ok (.iload_n 1, 1) := by decide +kernel
theorem dX10_back_13 : decode cX10_back 13 = .ok (.iconst 3, 1) := by decide +kernel
theorem dX10_back_14 : decode cX10_back 14 = .ok (.invokevirtual 211, 3) := by decide +kernel
theorem dX10_back_17 : decode cX10_back 17 = .ok (.goto 4, 3) := by decide +kernel
theorem dX10_back_20 : decode cX10_back 20 = .ok (.iconst (-1), 1) := by decide +kernel
theorem dX10_back_21 : decode cX10_back 21 = .ok (.ireturn, 1) := by decide +kernel
set_option maxRecDepth 20000 in
theorem ggX10_passed_X10_isOutside : GoodIn wsX10_passed wsX10_isOutside := goodIn_r _ [6] (by decide +kernel) (by decide +kernel)
set_option maxRecDepth 20000 in
theorem gX10_passed_X10_isOutside : GoodIn wsX10_passed (va_wsS RX10 87 yX10_isOutside wsX10_isOutside) := goodIn_app (goodIn_of _ (by decide +kernel)) ggX10_passed_X10_isOutside
set_option maxRecDepth 20000 in
theorem ggX10_passed_X8_copyFrom : GoodIn wsX10_passed wsX8_copyFrom := goodIn_r _ [11, 12, 13, 14, 15, 16, 17, 18, 19, 20, 10, 21, 22, 23, 24, 25, 198, 199, 200, 201, 202, 203, 204, 205, 206, 207, 208] (by decide +kernel) (by decide +kernel)
set_option maxRecDepth 20000 in
theorem gX10_passed_X8_copyFrom : GoodIn wsX10_passed (wsV RX10 105 RX8 yX8_copyFrom wsX8_copyFrom) := goodIn_app (goodIn_of _ (by decide +kernel)) ggX10_passed_X8_copyFrom
set_option maxRecDepth 20000 in
theorem ggX10_passed_X8_passedBehind : GoodIn wsX10_passed wsX8_passedBehind := goodIn_r _ [29, 15, 30, 31, 32, 10, 33, 16, 34, 35, 36, 37, 24, 38, 39, 40, 41, 42, 22, 23, 14, 12, 25, 43, 44, 45, 46, 13, 47, 48, 49, 50, 5, 51, 52, 53, 54, 55, 56, 57, 58, 59, 60, 61, 62, 63, 64, 65, 66, 67, 68, 69, 70, 71, 72, 73, 74, 75, 76, 77, 78, 79, 80, 81, 82, 83, 84, 85, 86, 87, 88, 89, 90, 91, 92, 93, 94, 95, 96, 97, 98, 99, 100, 101, 102, 103, 104, 105, 106, 107, 108, 109, 110, 111, 112, 113, 114, 115, 116, 117, 118, 119, 120, 121, 122, 123, 124, 125, 126, 127, 128, 129, 130, 131, 132, 133, 134, 135, 136, 137, 138, 139, 140, 141, 142, 143, 144, 145, 146, 147, 148, 149, 150, 151, 152, 153, 154, 155, 156, 157, 158, 159, 160, 161, 162, 163, 164, 165, 166, 167, 168, 169, 170, 171, 172, 173, 174, 175, 176, 177, 178, 179, 180, 181, 182, 183, 184, 198, 199, 200, 201, 202, 203, 204, 205, 206, 207, 208] (by decide +kernel) (by decide +kernel)
set_option maxRecDepth 20000 in
theorem gX10_passed_X8_passedBehind : GoodIn wsX10_passed (wsV RX10 214 RX8 yX8_passedBehind wsX8_passedBehind) := goodIn_app (goodIn_of _ (by decide +kernel)) ggX10_passed_X8_passedBehind
theorem dX10_passed_0 : decode cX10_passed 0 = .ok (.iload_n 1, 1) := by decide +kernel
theorem dX10_passed_1 : decode cX10_passed 1 = .ok (.iconst 0, 1) := by decide +kernel
theorem dX10_passed_2 : decode cX10_passed 2 = .ok (.bipush 60, 2) := by decide +kernel
theorem dX10_passed_4 : decode cX10_passed 4 = .ok (.invokestatic 87, 3) := by decide +kernel
theorem dX10_passed_7 : decode cX10_passed 7 = .ok (.ifCond .eq 5, 3) := by decide +kernel
theorem dX10_passed_10 : decode cX10_passed 10 = .ok (.iconst (-1), 1) := by decide +kernel
theorem dX10_passed_11 : decode cX10_passed 11 = .ok (.ireturn, 1) := by decide +kernel
theorem dX10_passed_12 : decode cX10_passed 12 = .ok (.aload_n 0, 1) := by decide +kernel
theorem dX10_passed_13 : decode cX10_passed 13 = .ok (.getfield 43, 3) := by decide +kernel
theorem dX10_passed_16 : decode cX10_passed 16 = .ok (.aload_n 0, 1) := by decide +kernel
theorem dX10_passed_17 : decode cX10_passed 17 = .ok (.getfield 36, 3) := by decide +kernel
theorem dX10_passed_20 : decode cX10_passed 20 = .ok (.invokevirtual 105, 3) := by decide +kernel
theorem dX10_passed_23 : decode cX10_passed 23 = .ok (.aload_n 0, 1) := by decide +kernel
theorem dX10_passed_24 : decode cX10_passed 24 = .ok (.getfield 43, 3) := by decide +kernel
theorem dX10_passed_27 : decode cX10_passed 27 = .ok (.iload_n 1, 1) := by decide +kernel
theorem dX10_passed_28 : decode cX10_passed 28 = .ok (.invokevirtual 214, 3) := by decide +kernel
theorem dX10_passed_31 : decode cX10_passed 31 = .ok (.ireturn, 1) := by decide +kernel
set_option maxRecDepth 20000 in
theorem ggX10_armsFor_X10_isNoRest : GoodIn wsX10_armsFor wsX10_isNoRest := goodIn_r _ [7, 8, 9, 6, 10] (by decide +kernel) (by decide +kernel)
set_option maxRecDepth 20000 in
theorem gX10_armsFor_X10_isNoRest : GoodIn wsX10_armsFor (va_wsS RX10 118 yX10_isNoRest wsX10_isNoRest) := goodIn_app (goodIn_of _ (by decide +kernel)) ggX10_armsFor_X10_isNoRest
set_option maxRecDepth 20000 in
theorem ggX10_armsFor_X10_isOutside : GoodIn wsX10_armsFor wsX10_isOutside := goodIn_r _ [10] (by decide +kernel) (by decide +kernel)
set_option maxRecDepth 20000 in
theorem gX10_armsFor_X10_isOutside : GoodIn wsX10_armsFor (va_wsS RX10 87 yX10_isOutside wsX10_isOutside) := goodIn_app (goodIn_of _ (by decide +kernel)) ggX10_armsFor_X10_isOutside
set_option maxRecDepth 20000 in
theorem ggX10_armsFor_X8_copyFrom : GoodIn wsX10_armsFor wsX8_copyFrom := goodIn_r _ [15, 16, 17, 18, 19, 20, 21, 22, 23, 24, 14, 25, 26, 27, 28, 29, 202, 203, 204, 205, 206, 207, 208, 209, 210, 211, 212] (by decide +kernel) (by decide +kernel)
set_option maxRecDepth 20000 in
theorem gX10_armsFor_X8_copyFrom : GoodIn wsX10_armsFor (wsV RX10 105 RX8 yX8_copyFrom wsX8_copyFrom) := goodIn_app (goodIn_of _ (by decide +kernel)) ggX10_armsFor_X8_copyFrom
set_option maxRecDepth 20000 in
theorem ggX10_armsFor_X8_passedBehind : GoodIn wsX10_armsFor wsX8_passedBehind := goodIn_r _ [33, 19, 34, 35, 36, 14, 37, 20, 38, 39, 40, 41, 28, 42, 43, 44, 45, 46, 26, 27, 18, 16, 29, 47, 48, 49, 50, 17, 51, 52, 53, 54, 6, 55, 56, 57, 58, 59, 60, 61, 62, 63, 64, 65, 66, 67, 68, 69, 70, 71, 72, 73, 74, 75, 76, 77, 78, 79, 80, 81, 82, 83, 84, 85, 86, 87, 88, 89, 90, 91, 92, 93, 94, 95, 96, 97, 98, 99, 100, 101, 102, 103, 104, 105, 106, 107, 108, 109, 110, 111, 112, 113, 114, 115, 116, 117, 118, 119, 120, 121, 122, 123, 124, 125, 126, 127, 128, 129, 130, 131, 132, 133, 134, 135, 136, 137, 138, 139, 140, 141, 142, 143, 144, 145, 146, 147, 148, 149, 150, 151, 152, 153, 154, 155, 156, 157, 158, 159, 160, 161, 162, 163, 164, 165, 166, 167, 168, 169, 170, 171, 172, 173, 174, 175, 176, 177, 178, 179, 180, 181, 182, 183, 184, 185, 186, 187, 188, 202, 203, 204, 205, 206, 207, 208, 209, 210, 211, 212] (by decide +kernel) (by decide +kernel)
set_option maxRecDepth 20000 in
theorem gX10_armsFor_X8_passedBehind : GoodIn wsX10_armsFor (wsV RX10 214 RX8 yX8_passedBehind wsX8_passedBehind) := goodIn_app (goodIn_of _ (by decide +kernel)) ggX10_armsFor_X8_passedBehind
theorem dX10_armsFor_0 : decode cX10_armsFor 0 = .ok (.iload_n 1, 1) := by decide +kernel
theorem dX10_armsFor_1 : decode cX10_armsFor 1 = .ok (.invokestatic 118, 3) := by decide +kernel
theorem dX10_armsFor_4 : decode cX10_armsFor 4 = .ok (.ifCond .ne 13, 3) := by decide +kernel
theorem dX10_armsFor_7 : decode cX10_armsFor 7 = .ok (.iload_n 2, 1) := by decide +kernel
theorem dX10_armsFor_8 : decode cX10_armsFor 8 = .ok (.iconst 1, 1) := by decide +kernel
theorem dX10_armsFor_9 : decode cX10_armsFor 9 = .ok (.bipush 40, 2) := by decide +kernel
theorem dX10_armsFor_11 : decode cX10_armsFor 11 = .ok (.invokestatic 87, 3) := by decide +kernel
theorem dX10_armsFor_14 : decode cX10_armsFor 14 = .ok (.ifCond .eq 5, 3) := by decide +kernel
theorem dX10_armsFor_17 : decode cX10_armsFor 17 = .ok (.iconst (-1), 1) := by decide +kernel
theorem dX10_armsFor_18 : decode cX10_armsFor 18 = .ok (.ireturn, 1) := by decide +kernel
theorem dX10_armsFor_19 : decode cX10_armsFor 19 = .ok (.iconst 0, 1) := by decide +kernel
theorem dX10_armsFor_20 : decode cX10_armsFor 20 = .ok (.istore_n 3, 1) := by decide +kernel
theorem dX10_armsFor_21 : decode cX10_armsFor 21 = .ok (.iconst (-1), 1) := by decide +kernel
theorem dX10_armsFor_22 : decode cX10_armsFor 22 = .ok (.istore 4, 2) := by decide +kernel
theorem dX10_armsFor_24 : decode cX10_armsFor 24 = .ok (.iconst 0, 1) := by decide +kernel
theorem dX10_armsFor_25 : decode cX10_armsFor 25 = .ok (.istore 5, 2) := by decide +kernel
theorem dX10_armsFor_27 : decode cX10_armsFor 27 = .ok (.iload 5, 2) := by decide +kernel
theorem dX10_armsFor_29 : decode cX10_armsFor 29 = .ok (.bipush 9, 2) := by decide +kernel
theorem dX10_armsFor_31 : decode cX10_armsFor 31 = .ok (.if_icmp .gt 55, 3) := by decide +kernel
theorem dX10_armsFor_34 : decode cX10_armsFor 34 = .ok (.aload_n 0, 1) := by decide +kernel
theorem dX10_armsFor_35 : decode cX10_armsFor 35 = .ok (.getfield 43, 3) := by decide +kernel
theorem dX10_armsFor_38 : decode cX10_armsFor 38 = .ok (.aload_n 0, 1) := by decide +kernel
theorem dX10_armsFor_39 : decode cX10_armsFor 39 = .ok (.getfield 36, 3) := by decide +kernel
theorem dX10_armsFor_42 : decode cX10_armsFor 42 = .ok (.invokevirtual 105, 3) := by decide +kernel
theorem dX10_armsFor_45 : decode cX10_armsFor 45 = .ok (.aload_n 0, 1) := by decide +kernel
theorem dX10_armsFor_46 : decode cX10_armsFor 46 = .ok (.getfield 43, 3) := by decide +kernel
theorem dX10_armsFor_49 : decode cX10_armsFor 49 = .ok (.getfield 125, 3) := by decide +kernel
theorem dX10_armsFor_52 : decode cX10_armsFor 52 = .ok (.iload_n 1, 1) := by decide +kernel
theorem dX10_armsFor_53 : decode cX10_armsFor 53 = .ok (.iload 5, 2) := by decide +kernel
theorem dX10_armsFor_55 : decode cX10_armsFor 55 = .ok (.iastore, 1) := by decide +kernel
theorem dX10_armsFor_56 : decode cX10_armsFor 56 = .ok (.aload_n 0, 1) := by decide +kernel
theorem dX10_armsFor_57 : decode cX10_armsFor 57 = .ok (.getfield 43, 3) := by decide +kernel
theorem dX10_armsFor_60 : decode cX10_armsFor 60 = .ok (.iload_n 2, 1) := by decide +kernel
theorem dX10_armsFor_61 : decode cX10_armsFor 61 = .ok (.invokevirtual 214, 3) := by decide +kernel
theorem dX10_armsFor_64 : decode cX10_armsFor 64 = .ok (.istore 6, 2) := by decide +kernel
theorem dX10_armsFor_66 : decode cX10_armsFor 66 = .ok (.iload 6, 2) := by decide +kernel
theorem dX10_armsFor_68 : decode cX10_armsFor 68 = .ok (.iload 4, 2) := by decide +kernel
theorem dX10_armsFor_70 : decode cX10_armsFor 70 = .ok (.if_icmp .le 10, 3) := by decide +kernel
theorem dX10_armsFor_73 : decode cX10_armsFor 73 = .ok (.iload 6, 2) := by decide +kernel
theorem dX10_armsFor_75 : decode cX10_armsFor 75 = .ok (.istore 4, 2) := by decide +kernel
theorem dX10_armsFor_77 : decode cX10_armsFor 77 = .ok (.iload 5, 2) := by decide +kernel
theorem dX10_armsFor_79 : decode cX10_armsFor 79 = .ok (.istore_n 3, 1) := by decide +kernel
theorem dX10_armsFor_80 : decode cX10_armsFor 80 = .ok (.iinc 5 1, 3) := by decide +kernel
theorem dX10_armsFor_83 : decode cX10_armsFor 83 = .ok (.goto (-56), 3) := by decide +kernel
theorem dX10_armsFor_86 : decode cX10_armsFor 86 = .ok (.iload_n 3, 1) := by decide +kernel
theorem dX10_armsFor_87 : decode cX10_armsFor 87 = .ok (.ireturn, 1) := by decide +kernel
set_option maxRecDepth 20000 in
theorem ggX10_fogFor_X10_isNoRest : GoodIn wsX10_fogFor wsX10_isNoRest := goodIn_r _ [7, 8, 9, 6, 10] (by decide +kernel) (by decide +kernel)
set_option maxRecDepth 20000 in
theorem gX10_fogFor_X10_isNoRest : GoodIn wsX10_fogFor (va_wsS RX10 118 yX10_isNoRest wsX10_isNoRest) := goodIn_app (goodIn_of _ (by decide +kernel)) ggX10_fogFor_X10_isNoRest
set_option maxRecDepth 20000 in
theorem ggX10_fogFor_X8_has : GoodIn wsX10_fogFor wsX8_has := goodIn_r _ [15, 16, 203, 204, 205, 206, 207, 208, 209, 210, 211, 212, 213] (by decide +kernel) (by decide +kernel)
set_option maxRecDepth 20000 in
theorem gX10_fogFor_X8_has : GoodIn wsX10_fogFor (wsV RX10 135 RX8 yX8_has wsX8_has) := goodIn_app (goodIn_of _ (by decide +kernel)) ggX10_fogFor_X8_has
set_option maxRecDepth 20000 in
theorem ggX10_fogFor_X10_isOutside : GoodIn wsX10_fogFor wsX10_isOutside := goodIn_r _ [10] (by decide +kernel) (by decide +kernel)
set_option maxRecDepth 20000 in
theorem gX10_fogFor_X10_isOutside : GoodIn wsX10_fogFor (va_wsS RX10 87 yX10_isOutside wsX10_isOutside) := goodIn_app (goodIn_of _ (by decide +kernel)) ggX10_fogFor_X10_isOutside
set_option maxRecDepth 20000 in
theorem ggX10_fogFor_X8_copyFrom : GoodIn wsX10_fogFor wsX8_copyFrom := goodIn_r _ [20, 21, 22, 23, 16, 24, 25, 26, 27, 28, 14, 29, 30, 31, 32, 33, 203, 204, 205, 206, 207, 208, 209, 210, 211, 212, 213] (by decide +kernel) (by decide +kernel)
set_option maxRecDepth 20000 in
theorem gX10_fogFor_X8_copyFrom : GoodIn wsX10_fogFor (wsV RX10 105 RX8 yX8_copyFrom wsX8_copyFrom) := goodIn_app (goodIn_of _ (by decide +kernel)) ggX10_fogFor_X8_copyFrom
set_option maxRecDepth 20000 in
theorem ggX10_fogFor_X8_copyGoer : GoodIn wsX10_fogFor wsX8_copyGoer := goodIn_r _ [29, 30, 31, 32, 33, 203, 204, 205, 206, 207, 208, 209, 210, 211, 212, 213] (by decide +kernel) (by decide +kernel)
set_option maxRecDepth 20000 in
theorem gX10_fogFor_X8_copyGoer : GoodIn wsX10_fogFor (wsV RX10 217 RX8 yX8_copyGoer wsX8_copyGoer) := goodIn_app (goodIn_of _ (by decide +kernel)) ggX10_fogFor_X8_copyGoer
set_option maxRecDepth 20000 in
theorem ggX10_fogFor_X8_goOnAlone : GoodIn wsX10_fogFor wsX8_goOnAlone := goodIn_r _ [38, 24, 39, 40, 41, 14, 42, 32, 43, 44, 45, 46, 47, 30, 31, 23, 21, 33, 48, 49, 50, 51, 22, 52, 53, 54, 55, 6, 56, 57, 58, 59, 60, 61, 62, 63, 64, 65, 66, 67, 68, 69, 70, 71, 72, 73, 74, 75, 76, 77, 78, 79, 80, 81, 82, 83, 84, 85, 86, 87, 88, 89, 90, 91, 92, 93, 94, 95, 96, 97, 98, 99, 100, 101, 102, 103, 104, 105, 106, 107, 108, 109, 110, 111, 112, 113, 114, 115, 116, 117, 118, 119, 120, 121, 122, 123, 124, 125, 126, 127, 128, 129, 130, 131, 132, 133, 134, 135, 136, 137, 138, 139, 140, 141, 142, 143, 144, 145, 146, 147, 148, 149, 150, 151, 152, 153, 154, 155, 156, 157, 158, 159, 160, 161, 162, 163, 164, 165, 166, 167, 168, 169, 170, 171, 172, 173, 174, 175, 176, 177, 178, 179, 180, 181, 182, 183, 184, 185, 186, 187, 188, 189, 203, 204, 205, 206, 207, 208, 209, 210, 211, 212, 213] (by decide +kernel) (by decide +kernel)
set_option maxRecDepth 20000 in
theorem gX10_fogFor_X8_goOnAlone : GoodIn wsX10_fogFor (wsV RX10 205 RX8 yX8_goOnAlone wsX8_goOnAlone) := goodIn_app (goodIn_of _ (by decide +kernel)) ggX10_fogFor_X8_goOnAlone
theorem dX10_fogFor_0 : decode cX10_fogFor 0 = .ok (.iload_n 1, 1) := by decide +kernel
theorem dX10_fogFor_1 : decode cX10_fogFor 1 = .ok (.invokestatic 118, 3) := by decide +kernel
theorem dX10_fogFor_4 : decode cX10_fogFor 4 = .ok (.ifCond .ne 24, 3) := by decide +kernel
theorem dX10_fogFor_7 : decode cX10_fogFor 7 = .ok (.aload_n 0, 1) := by decide +kernel
theorem dX10_fogFor_8 : decode cX10_fogFor 8 = .ok (.getfield 36, 3) := by decide +kernel
theorem dX10_fogFor_11 : decode cX10_fogFor 11 = .ok (.iload_n 2, 1) := by decide +kernel
theorem dX10_fogFor_12 : decode cX10_fogFor 12 = .ok (.invokevirtual 135, 3) := by decide +kernel
theorem dX10_fogFor_15 : decode cX10_fogFor 15 = .ok (.ifCond .eq 13, 3) := by decide +kernel
theorem dX10_fogFor_18 : decode cX10_fogFor 18 = .ok (.iload_n 3, 1) := by decide +kernel
theorem dX10_fogFor_19 : decode cX10_fogFor 19 = .ok (.iconst 0, 1) := by decide +kernel
theorem dX10_fogFor_20 : decode cX10_fogFor 20 = .ok (.bipush 40, 2) := by decide +kernel
theorem dX10_fogFor_22 : decode cX10_fogFor 22 = .ok (.invokestatic 87, 3) := by decide +kernel
theorem dX10_fogFor_25 : decode cX10_fogFor 25 = .ok (.ifCond .eq 5, 3) := by decide +kernel
theorem dX10_fogFor_28 : decode cX10_fogFor 28 = .ok (.iconst (-1), 1) := by decide +kernel
theorem dX10_fogFor_29 : decode cX10_fogFor 29 = .ok (.ireturn, 1) := by decide +kernel
theorem dX10_fogFor_30 : decode cX10_fogFor 30 = .ok (.aload_n 0, 1) := by decide +kernel
theorem dX10_fogFor_31 : decode cX10_fogFor 31 = .ok (.getfield 43, 3) := by decide +kernel
theorem dX10_fogFor_34 : decode cX10_fogFor 34 = .ok (.aload_n 0, 1) := by decide +kernel
theorem dX10_fogFor_35 : decode cX10_fogFor 35 = .ok (.getfield 36, 3) := by decide +kernel
theorem dX10_fogFor_38 : decode cX10_fogFor 38 = .ok (.invokevirtual 105, 3) := by decide +kernel
theorem dX10_fogFor_41 : decode cX10_fogFor 41 = .ok (.bipush 9, 2) := by decide +kernel
theorem dX10_fogFor_43 : decode cX10_fogFor 43 = .ok (.istore 4, 2) := by decide +kernel
theorem dX10_fogFor_45 : decode cX10_fogFor 45 = .ok (.iload 4, 2) := by decide +kernel
theorem dX10_fogFor_47 : decode cX10_fogFor 47 = .ok (.ifCond .lt 47, 3) := by decide +kernel
theorem dX10_fogFor_50 : decode cX10_fogFor 50 = .ok (.aload_n 0, 1) := by decide +kernel
theorem dX10_fogFor_51 : decode cX10_fogFor 51 = .ok (.getfield 43, 3) := by decide +kernel
theorem dX10_fogFor_54 : decode cX10_fogFor 54 = .ok (.aload_n 0, 1) := by decide +kernel
theorem dX10_fogFor_55 : decode cX10_fogFor 55 = .ok (.getfield 36, 3) := by decide +kernel
theorem dX10_fogFor_58 : decode cX10_fogFor 58 = .ok (.iload_n 2, 1) := by decide +kernel
theorem dX10_fogFor_59 : decode cX10_fogFor 59 = .ok (.invokevirtual 217, 3) := by decide +kernel
theorem dX10_fogFor_62 : decode cX10_fogFor 62 = .ok (.aload_n 0, 1) := by decide +kernel
theorem dX10_fogFor_63 : decode cX10_fogFor 63 = .ok (.getfield 43, 3) := by decide +kernel
theorem dX10_fogFor_66 : decode cX10_fogFor 66 = .ok (.getfield 122, 3) := by decide +kernel
theorem dX10_fogFor_69 : decode cX10_fogFor 69 = .ok (.iload_n 1, 1) := by decide +kernel
theorem dX10_fogFor_70 : decode cX10_fogFor 70 = .ok (.iload 4, 2) := by decide +kernel
theorem dX10_fogFor_72 : decode cX10_fogFor 72 = .ok (.iastore, 1) := by decide +kernel
theorem dX10_fogFor_73 : decode cX10_fogFor 73 = .ok (.aload_n 0, 1) := by decide +kernel
theorem dX10_fogFor_74 : decode cX10_fogFor 74 = .ok (.getfield 43, 3) := by decide +kernel
theorem dX10_fogFor_77 : decode cX10_fogFor 77 = .ok (.iload_n 2, 1) := by decide +kernel
theorem dX10_fogFor_78 : decode cX10_fogFor 78 = .ok (.iload_n 3, 1) := by decide +kernel
theorem dX10_fogFor_79 : decode cX10_fogFor 79 = .ok (.invokevirtual 205, 3) := by decide +kernel
theorem dX10_fogFor_82 : decode cX10_fogFor 82 = .ok (.ifCond .eq 6, 3) := by decide +kernel
theorem dX10_fogFor_85 : decode cX10_fogFor 85 = .ok (.iload 4, 2) := by decide +kernel
theorem dX10_fogFor_87 : decode cX10_fogFor 87 = .ok (.ireturn, 1) := by decide +kernel
theorem dX10_fogFor_88 : decode cX10_fogFor 88 = .ok (.iinc 4 (-1), 3) := by decide +kernel
theorem dX10_fogFor_91 : decode cX10_fogFor 91 = .ok (.goto (-46), 3) := by decide +kernel
theorem dX10_fogFor_94 : decode cX10_fogFor 94 = .ok (.bipush (-3), 2) := by decide +kernel
theorem dX10_fogFor_96 : decode cX10_fogFor 96 = .ok (.ireturn, 1) := by decide +kernel
set_option maxRecDepth 20000 in
theorem ggX10_faithFor_X8_has : GoodIn wsX10_faithFor wsX8_has := goodIn_r _ [8, 9, 200, 201, 202, 203, 204, 205, 206, 207, 208, 209, 210] (by decide +kernel) (by decide +kernel)
set_option maxRecDepth 20000 in
theorem gX10_faithFor_X8_has : GoodIn wsX10_faithFor (wsV RX10 135 RX8 yX8_has wsX8_has) := goodIn_app (goodIn_of _ (by decide +kernel)) ggX10_faithFor_X8_has
set_option maxRecDepth 20000 in
theorem ggX10_faithFor_X10_isOutside : GoodIn wsX10_faithFor wsX10_isOutside := goodIn_r _ [13] (by decide +kernel) (by decide +kernel)
set_option maxRecDepth 20000 in
theorem gX10_faithFor_X10_isOutside : GoodIn wsX10_faithFor (va_wsS RX10 87 yX10_isOutside wsX10_isOutside) := goodIn_app (goodIn_of _ (by decide +kernel)) ggX10_faithFor_X10_isOutside
set_option maxRecDepth 20000 in
theorem ggX10_faithFor_X8_copyFrom : GoodIn wsX10_faithFor wsX8_copyFrom := goodIn_r _ [17, 18, 19, 20, 9, 21, 22, 23, 24, 25, 7, 26, 27, 28, 29, 30, 200, 201, 202, 203, 204, 205, 206, 207, 208, 209, 210] (by decide +kernel) (by decide +kernel)
set_option maxRecDepth 20000 in
theorem gX10_faithFor_X8_copyFrom : GoodIn wsX10_faithFor (wsV RX10 105 RX8 yX8_copyFrom wsX8_copyFrom) := goodIn_app (goodIn_of _ (by decide +kernel)) ggX10_faithFor_X8_copyFrom
set_option maxRecDepth 20000 in
theorem ggX10_faithFor_X8_copyGoer : GoodIn wsX10_faithFor wsX8_copyGoer := goodIn_r _ [26, 27, 28, 29, 30, 200, 201, 202, 203, 204, 205, 206, 207, 208, 209, 210] (by decide +kernel) (by decide +kernel)
set_option maxRecDepth 20000 in
theorem gX10_faithFor_X8_copyGoer : GoodIn wsX10_faithFor (wsV RX10 217 RX8 yX8_copyGoer wsX8_copyGoer) := goodIn_app (goodIn_of _ (by decide +kernel)) ggX10_faithFor_X8_copyGoer
set_option maxRecDepth 20000 in
theorem ggX10_faithFor_X8_goOnAlone : GoodIn wsX10_faithFor wsX8_goOnAlone := goodIn_r _ [35, 21, 36, 37, 38, 7, 39, 29, 40, 41, 42, 43, 44, 27, 28, 20, 18, 30, 45, 46, 47, 48, 19, 49, 50, 51, 52, 12, 53, 54, 55, 56, 57, 58, 59, 60, 61, 62, 63, 64, 65, 66, 67, 68, 69, 70, 71, 72, 73, 74, 75, 76, 77, 78, 79, 80, 81, 82, 83, 84, 85, 86, 87, 88, 89, 90, 91, 92, 93, 94, 95, 96, 97, 98, 99, 100, 101, 102, 103, 104, 105, 106, 107, 108, 109, 110, 111, 112, 113, 114, 115, 116, 117, 118, 119, 120, 121, 122, 123, 124, 125, 126, 127, 128, 129, 130, 131, 132, 133, 134, 135, 136, 137, 138, 139, 140, 141, 142, 143, 144, 145, 146, 147, 148, 149, 150, 151, 152, 153, 154, 155, 156, 157, 158, 159, 160, 161, 162, 163, 164, 165, 166, 167, 168, 169, 170, 171, 172, 173, 174, 175, 176, 177, 178, 179, 180, 181, 182, 183, 184, 185, 186, 200, 201, 202, 203, 204, 205, 206, 207, 208, 209, 210] (by decide +kernel) (by decide +kernel)
set_option maxRecDepth 20000 in
theorem gX10_faithFor_X8_goOnAlone : GoodIn wsX10_faithFor (wsV RX10 205 RX8 yX8_goOnAlone wsX8_goOnAlone) := goodIn_app (goodIn_of _ (by decide +kernel)) ggX10_faithFor_X8_goOnAlone
theorem dX10_faithFor_0 : decode cX10_faithFor 0 = .ok (.aload_n 0, 1) := by decide +kernel
theorem dX10_faithFor_1 : decode cX10_faithFor 1 = .ok (.getfield 36, 3) := by decide +kernel
theorem dX10_faithFor_4 : decode cX10_faithFor 4 = .ok (.iload_n 1, 1) := by decide +kernel
theorem dX10_faithFor_5 : decode cX10_faithFor 5 = .ok (.invokevirtual 135, 3) := by decide +kernel
theorem dX10_faithFor_8 : decode cX10_faithFor 8 = .ok (.ifCond .eq 13, 3) := by decide +kernel
theorem dX10_faithFor_11 : decode cX10_faithFor 11 = .ok (.iload_n 2, 1) := by decide +kernel
theorem dX10_faithFor_12 : decode cX10_faithFor 12 = .ok (.iconst 0, 1) := by decide +kernel
theorem dX10_faithFor_13 : decode cX10_faithFor 13 = .ok (.bipush 40, 2) := by decide +kernel
theorem dX10_faithFor_15 : decode cX10_faithFor 15 = .ok (.invokestatic 87, 3) := by decide +kernel
theorem dX10_faithFor_18 : decode cX10_faithFor 18 = .ok (.ifCond .eq 5, 3) := by decide +kernel
theorem dX10_faithFor_21 : decode cX10_faithFor 21 = .ok (.iconst (-1), 1) := by decide +kernel
theorem dX10_faithFor_22 : decode cX10_faithFor 22 = .ok (.ireturn, 1) := by decide +kernel
theorem dX10_faithFor_23 : decode cX10_faithFor 23 = .ok (.aload_n 0, 1) := by decide +kernel
theorem dX10_faithFor_24 : decode cX10_faithFor 24 = .ok (.getfield 43, 3) := by decide +kernel
theorem dX10_faithFor_27 : decode cX10_faithFor 27 = .ok (.aload_n 0, 1) := by decide +kernel
theorem dX10_faithFor_28 : decode cX10_faithFor 28 = .ok (.getfield 36, 3) := by decide +kernel
theorem dX10_faithFor_31 : decode cX10_faithFor 31 = .ok (.invokevirtual 105, 3) := by decide +kernel
theorem dX10_faithFor_34 : decode cX10_faithFor 34 = .ok (.iconst 0, 1) := by decide +kernel
theorem dX10_faithFor_35 : decode cX10_faithFor 35 = .ok (.istore_n 3, 1) := by decide +kernel
theorem dX10_faithFor_36 : decode cX10_faithFor 36 = .ok (.iload_n 3, 1) := by decide +kernel
theorem dX10_faithFor_37 : decode cX10_faithFor 37 = .ok (.bipush 99, 2) := by decide +kernel
theorem dX10_faithFor_39 : decode cX10_faithFor 39 = .ok (.if_icmp .gt 45, 3) := by decide +kernel
theorem dX10_faithFor_42 : decode cX10_faithFor 42 = .ok (.aload_n 0, 1) := by decide +kernel
theorem dX10_faithFor_43 : decode cX10_faithFor 43 = .ok (.getfield 43, 3) := by decide +kernel
theorem dX10_faithFor_46 : decode cX10_faithFor 46 = .ok (.aload_n 0, 1) := by decide +kernel
theorem dX10_faithFor_47 : decode cX10_faithFor 47 = .ok (.getfield 36, 3) := by decide +kernel
theorem dX10_faithFor_50 : decode cX10_faithFor 50 = .ok (.iload_n 1, 1) := by decide +kernel
theorem dX10_faithFor_51 : decode cX10_faithFor 51 = .ok (.invokevirtual 217, 3) := by decide +kernel
theorem dX10_faithFor_54 : decode cX10_faithFor 54 = .ok (.aload_n 0, 1) := by decide +kernel
theorem dX10_faithFor_55 : decode cX10_faithFor 55 = .ok (.getfield 43, 3) := by decide +kernel
theorem dX10_faithFor_58 : decode cX10_faithFor 58 = .ok (.getfield 140, 3) := by decide +kernel
theorem dX10_faithFor_61 : decode cX10_faithFor 61 = .ok (.iload_n 1, 1) := by decide +kernel
theorem dX10_faithFor_62 : decode cX10_faithFor 62 = .ok (.iload_n 3, 1) := by decide +kernel
theorem dX10_faithFor_63 : decode cX10_faithFor 63 = .ok (.iastore, 1) := by decide +kernel
theorem dX10_faithFor_64 : decode cX10_faithFor 64 = .ok (.aload_n 0, 1) := by decide +kernel
theorem dX10_faithFor_65 : decode cX10_faithFor 65 = .ok (.getfield 43, 3) := by decide +kernel
theorem dX10_faithFor_68 : decode cX10_faithFor 68 = .ok (.iload_n 1, 1) := by decide +kernel
theorem dX10_faithFor_69 : decode cX10_faithFor 69 = .ok (.iload_n 2, 1) := by decide +kernel
theorem dX10_faithFor_70 : decode cX10_faithFor 70 = .ok (.invokevirtual 205, 3) := by decide +kernel
theorem dX10_faithFor_73 : decode cX10_faithFor 73 = .ok (.ifCond .eq 5, 3) := by decide +kernel
theorem dX10_faithFor_76 : decode cX10_faithFor 76 = .ok (.iload_n 3, 1) := by decide +kernel
theorem dX10_faithFor_77 : decode cX10_faithFor 77 = .ok (.ireturn, 1) := by decide +kernel
theorem dX10_faithFor_78 : decode cX10_faithFor 78 = .ok (.iinc 3 1, 3) := by decide +kernel
theorem dX10_faithFor_81 : decode cX10_faithFor 81 = .ok (.goto (-45), 3) := by decide +kernel
theorem dX10_faithFor_84 : decode cX10_faithFor 84 = .ok (.bipush (-3), 2) := by decide +kernel
theorem dX10_faithFor_86 : decode cX10_faithFor 86 = .ok (.ireturn, 1) := by decide +kernel
set_option maxRecDepth 20000 in
theorem ggX10_kindFor_X8_has : GoodIn wsX10_kindFor wsX8_has := goodIn_r _ [6, 7, 198, 199, 200, 201, 202, 203, 204, 205, 206, 207, 208] (by decide +kernel) (by decide +kernel)
set_option maxRecDepth 20000 in
theorem gX10_kindFor_X8_has : GoodIn wsX10_kindFor (wsV RX10 135 RX8 yX8_has wsX8_has) := goodIn_app (goodIn_of _ (by decide +kernel)) ggX10_kindFor_X8_has
set_option maxRecDepth 20000 in
theorem ggX10_kindFor_X10_soonestAs : GoodIn wsX10_kindFor wsX10_soonestAs := goodIn_r _ [12, 13, 1, 14, 15, 16, 17, 18, 5, 19, 20, 21, 22, 7, 23, 24, 25, 26, 27, 28, 29, 30, 31, 32, 33, 34, 35, 36, 37, 38, 39, 40, 41, 42, 43, 44, 45, 46, 47, 48, 49, 50, 11, 51, 52, 53, 54, 55, 56, 57, 58, 59, 60, 61, 62, 63, 64, 65, 66, 67, 68, 69, 70, 71, 72, 73, 74, 75, 76, 77, 78, 79, 80, 81, 82, 83, 84, 85, 86, 87, 88, 89, 90, 91, 92, 93, 94, 95, 96, 97, 98, 99, 100, 101, 102, 103, 104, 105, 106, 107, 108, 109, 110, 111, 112, 113, 114, 115, 116, 117, 118, 119, 120, 121, 122, 123, 124, 125, 126, 127, 128, 129, 130, 131, 132, 133, 134, 135, 136, 137, 138, 139, 140, 141, 142, 143, 144, 145, 146, 147, 148, 149, 150, 151, 152, 153, 154, 155, 156, 157, 158, 159, 160, 161, 162, 163, 164, 165, 166, 167, 168, 169, 170, 171, 172, 173, 174, 175, 176, 177, 178, 179, 180, 181, 182, 183, 184, 185, 186, 187, 188, 189, 190, 191, 192, 193, 194, 195, 196, 197, 198, 199, 200, 201, 202, 203, 204, 205, 206, 207, 208] (by decide +kernel) (by decide +kernel)
set_option maxRecDepth 20000 in
theorem gX10_kindFor_X10_soonestAs : GoodIn wsX10_kindFor (wsV RX10 208 RX10 yX10_soonestAs wsX10_soonestAs) := goodIn_app (goodIn_of _ (by decide +kernel)) ggX10_kindFor_X10_soonestAs
theorem dX10_kindFor_0 : decode cX10_kindFor 0 = .ok (.aload_n 0, 1) := by decide +kernel
theorem dX10_kindFor_1 : decode cX10_kindFor 1 = .ok (.getfield 36, 3) := by decide +kernel
theorem dX10_kindFor_4 : decode cX10_kindFor 4 = .ok (.iload_n 1, 1) := by decide +kernel
theorem dX10_kindFor_5 : decode cX10_kindFor 5 = .ok (.invokevirtual 135, 3) := by decide +kernel
theorem dX10_kindFor_8 : decode cX10_kindFor 8 = .ok (.ifCond .ne 5, 3) := by decide +kernel
theorem dX10_kindFor_11 : decode cX10_kindFor 11 = .ok (.iconst (-1), 1) := by decide +kernel
theorem dX10_kindFor_12 : decode cX10_kindFor 12 = .ok (.ireturn, 1) := by decide +kernel
theorem dX10_kindFor_13 : decode cX10_kindFor 13 = .ok (.iconst 0, 1) := by decide +kernel
theorem dX10_kindFor_14 : decode cX10_kindFor 14 = .ok (.istore_n 2, 1) := by decide +kernel
theorem dX10_kindFor_15 : decode cX10_kindFor 15 = .ok (.aload_n 0, 1) := by decide +kernel
theorem dX10_kindFor_16 : decode cX10_kindFor 16 = .ok (.iload_n 1, 1) := by decide +kernel
theorem dX10_kindFor_17 : decode cX10_kindFor 17 = .ok (.iconst 0, 1) := by decide +kernel
theorem dX10_kindFor_18 : decode cX10_kindFor 18 = .ok (.invokevirtual 208, 3) := by decide +kernel
theorem dX10_kindFor_21 : decode cX10_kindFor 21 = .ok (.istore_n 3, 1) := by decide +kernel
theorem dX10_kindFor_22 : decode cX10_kindFor 22 = .ok (.iconst 1, 1) := by decide +kernel
theorem dX10_kindFor_23 : decode cX10_kindFor 23 = .ok (.istore 4, 2) := by decide +kernel
theorem dX10_kindFor_25 : decode cX10_kindFor 25 = .ok (.iload 4, 2) := by decide +kernel
theorem dX10_kindFor_27 : decode cX10_kindFor 27 = .ok (.bipush 6, 2) := by decide +kernel
theorem dX10_kindFor_29 : decode cX10_kindFor 29 = .ok (.if_icmp .ge 30, 3) := by decide +kernel
theorem dX10_kindFor_32 : decode cX10_kindFor 32 = .ok (.aload_n 0, 1) := by decide +kernel
theorem dX10_kindFor_33 : decode cX10_kindFor 33 = .ok (.iload_n 1, 1) := by decide +kernel
theorem dX10_kindFor_34 : decode cX10_kindFor 34 = .ok (.iload 4, 2) := by decide +kernel
theorem dX10_kindFor_36 : decode cX10_kindFor 36 = .ok (.invokevirtual 208, 3) := by decide +kernel
theorem dX10_kindFor_39 : decode cX10_kindFor 39 = .ok (.istore 5, 2) := by decide +kernel
theorem dX10_kindFor_41 : decode cX10_kindFor 41 = .ok (.iload 5, 2) := by decide +kernel
theorem dX10_kindFor_43 : decode cX10_kindFor 43 = .ok (.iload_n 3, 1) := by decide +kernel
theorem dX10_kindFor_44 : decode cX10_kindFor 44 = .ok (.if_icmp .ge 9, 3) := by decide +kernel
theorem dX10_kindFor_47 : decode cX10_kindFor 47 = .ok (.iload 5, 2) := by decide +kernel
theorem dX10_kindFor_49 : decode cX10_kindFor 49 = .ok (.istore_n 3, 1) := by decide +kernel
theorem dX10_kindFor_50 : decode cX10_kindFor 50 = .ok (.iload 4, 2) := by decide +kernel
theorem dX10_kindFor_52 : decode cX10_kindFor 52 = .ok (.istore_n 2, 1) := by decide +kernel
theorem dX10_kindFor_53 : decode cX10_kindFor 53 = .ok (.iinc 4 1, 3) := by decide +kernel
theorem dX10_kindFor_56 : decode cX10_kindFor 56 = .ok (.goto (-31), 3) := by decide +kernel
theorem dX10_kindFor_59 : decode cX10_kindFor 59 = .ok (.iload_n 2, 1) := by decide +kernel
theorem dX10_kindFor_60 : decode cX10_kindFor 60 = .ok (.ireturn, 1) := by decide +kernel
set_option maxRecDepth 20000 in
theorem ggX10_liftedFor_X10_isOutside : GoodIn wsX10_liftedFor wsX10_isOutside := goodIn_r _ [7] (by decide +kernel) (by decide +kernel)
set_option maxRecDepth 20000 in
theorem gX10_liftedFor_X10_isOutside : GoodIn wsX10_liftedFor (va_wsS RX10 87 yX10_isOutside wsX10_isOutside) := goodIn_app (goodIn_of _ (by decide +kernel)) ggX10_liftedFor_X10_isOutside
set_option maxRecDepth 20000 in
theorem ggX10_liftedFor_J6_bitCount_0f7a4 : GoodIn wsX10_liftedFor wsJ6_bitCount_0f7a4 := goodIn_r _ [11, 12, 13, 14] (by decide +kernel) (by decide +kernel)
set_option maxRecDepth 20000 in
theorem gX10_liftedFor_J6_bitCount_0f7a4 : GoodIn wsX10_liftedFor (va_wsS RX10 188 yJ6_bitCount_0f7a4 wsJ6_bitCount_0f7a4) := goodIn_app (goodIn_of _ (by decide +kernel)) ggX10_liftedFor_J6_bitCount_0f7a4
set_option maxRecDepth 20000 in
theorem ggX10_liftedFor_X10_tryLifting : GoodIn wsX10_liftedFor wsX10_tryLifting := goodIn_r _ [18, 3, 1, 19, 20, 21, 22, 23, 24, 25, 26, 27, 28, 29, 30, 31, 32, 33, 34, 35, 36, 37, 38, 198, 199, 200, 201, 202, 203, 204, 205, 206, 207, 208, 209, 210, 211, 212, 213, 214, 215, 216, 217, 218, 219, 220, 221] (by decide +kernel) (by decide +kernel)
set_option maxRecDepth 20000 in
theorem gX10_liftedFor_X10_tryLifting : GoodIn wsX10_liftedFor (wsV RX10 221 RX10 yX10_tryLifting wsX10_tryLifting) := goodIn_app (goodIn_of _ (by decide +kernel)) ggX10_liftedFor_X10_tryLifting
set_option maxRecDepth 20000 in
theorem ggX10_liftedFor_X8_passedBehind : GoodIn wsX10_liftedFor wsX8_passedBehind := goodIn_r _ [42, 28, 43, 44, 45, 23, 46, 29, 47, 48, 49, 50, 37, 51, 52, 53, 54, 55, 35, 36, 27, 25, 38, 56, 57, 58, 59, 26, 60, 61, 62, 63, 6, 64, 65, 66, 67, 68, 69, 70, 71, 72, 73, 74, 75, 76, 77, 78, 79, 80, 81, 82, 83, 84, 85, 86, 87, 88, 89, 90, 91, 92, 93, 94, 95, 96, 97, 98, 99, 100, 101, 102, 103, 104, 105, 106, 107, 108, 109, 110, 111, 112, 113, 114, 115, 116, 117, 118, 119, 120, 121, 122, 123, 124, 125, 126, 127, 128, 129, 130, 131, 132, 133, 134, 135, 136, 137, 138, 139, 140, 141, 142, 143, 144, 145, 146, 147, 148, 149, 150, 151, 152, 153, 154, 155, 156, 157, 158, 159, 160, 161, 162, 163, 164, 165, 166, 167, 168, 169, 170, 171, 172, 173, 174, 175, 176, 177, 178, 179, 180, 181, 182, 183, 184, 185, 186, 187, 188, 189, 190, 191, 192, 193, 194, 195, 196, 197, 211, 212, 213, 214, 215, 216, 217, 218, 219, 220, 221] (by decide +kernel) (by decide +kernel)
set_option maxRecDepth 20000 in
theorem gX10_liftedFor_X8_passedBehind : GoodIn wsX10_liftedFor (wsV RX10 214 RX8 yX8_passedBehind wsX8_passedBehind) := goodIn_app (goodIn_of _ (by decide +kernel)) ggX10_liftedFor_X8_passedBehind
theorem dX10_liftedFor_0 : decode cX10_liftedFor 0 = .ok (.iload_n 1, 1) := by decide +kernel
theorem dX10_liftedFor_1 : decode cX10_liftedFor 1 = .ok (.iconst 0, 1) := by decide +kernel
theorem dX10_liftedFor_2 : decode cX10_liftedFor 2 = .ok (.bipush 40, 2) := by decide +kernel
theorem dX10_liftedFor_4 : decode cX10_liftedFor 4 = .ok (.invokestatic 87, 3) := by decide +kernel
theorem dX10_liftedFor_7 : decode cX10_liftedFor 7 = .ok (.ifCond .ne 13, 3) := by decide +kernel
theorem dX10_liftedFor_10 : decode cX10_liftedFor 10 = .ok (.iload_n 2, 1) := by decide +kernel
theorem dX10_liftedFor_11 : decode cX10_liftedFor 11 = .ok (.iconst 0, 1) := by decide +kernel
theorem dX10_liftedFor_12 : decode cX10_liftedFor 12 = .ok (.bipush 8, 2) := by decide +kernel
theorem dX10_liftedFor_14 : decode cX10_liftedFor 14 = .ok (.invokestatic 87, 3) := by decide +kernel
theorem dX10_liftedFor_17 : decode cX10_liftedFor 17 = .ok (.ifCond .eq 5, 3) := by decide +kernel
theorem dX10_liftedFor_20 : decode cX10_liftedFor 20 = .ok (.iconst (-1), 1) := by decide +kernel
theorem dX10_liftedFor_21 : decode cX10_liftedFor 21 = .ok (.ireturn, 1) := by decide +kernel
theorem dX10_liftedFor_22 : decode cX10_liftedFor 22 = .ok (.iload_n 2, 1) := by decide +kernel
theorem dX10_liftedFor_23 : decode cX10_liftedFor 23 = .ok (.aload_n 0, 1) := by decide +kernel
theorem dX10_liftedFor_24 : decode cX10_liftedFor 24 = .ok (.getfield 36, 3) := by decide +kernel
theorem dX10_liftedFor_27 : decode cX10_liftedFor 27 = .ok (.getfield 109, 3) := by decide +kernel
theorem dX10_liftedFor_30 : decode cX10_liftedFor 30 = .ok (.if_icmp .le 6, 3) := by decide +kernel
theorem dX10_liftedFor_33 : decode cX10_liftedFor 33 = .ok (.bipush (-3), 2) := by decide +kernel
theorem dX10_liftedFor_35 : decode cX10_liftedFor 35 = .ok (.ireturn, 1) := by decide +kernel
theorem dX10_liftedFor_36 : decode cX10_liftedFor 36 = .ok (.iconst 0, 1) := by decide +kernel
theorem dX10_liftedFor_37 : decode cX10_liftedFor 37 = .ok (.istore_n 3, 1) := by decide +kernel
theorem dX10_liftedFor_38 : decode cX10_liftedFor 38 = .ok (.iload_n 3, 1) := by decide +kernel
theorem dX10_liftedFor_39 : decode cX10_liftedFor 39 = .ok (.bipush 6, 2) := by decide +kernel
theorem dX10_liftedFor_41 : decode cX10_liftedFor 41 = .ok (.if_icmp .gt 58, 3) := by decide +kernel
theorem dX10_liftedFor_44 : decode cX10_liftedFor 44 = .ok (.iconst 0, 1) := by decide +kernel
theorem dX10_liftedFor_45 : decode cX10_liftedFor 45 = .ok (.istore 4, 2) := by decide +kernel
theorem dX10_liftedFor_47 : decode cX10_liftedFor 47 = .ok (.iload 4, 2) := by decide +kernel
theorem dX10_liftedFor_49 : decode cX10_liftedFor 49 = .ok (.bipush 64, 2) := by decide +kernel
theorem dX10_liftedFor_51 : decode cX10_liftedFor 51 = .ok (.if_icmp .ge 42, 3) := by decide +kernel
theorem dX10_liftedFor_54 : decode cX10_liftedFor 54 = .ok (.iload 4, 2) := by decide +kernel
theorem dX10_liftedFor_56 : decode cX10_liftedFor 56 = .ok (.invokestatic 188, 3) := by decide +kernel
theorem dX10_liftedFor_59 : decode cX10_liftedFor 59 = .ok (.iload_n 3, 1) := by decide +kernel
theorem dX10_liftedFor_60 : decode cX10_liftedFor 60 = .ok (.if_icmp .eq 6, 3) := by decide +kernel
theorem dX10_liftedFor_63 : decode cX10_liftedFor 63 = .ok (.goto 24, 3) := by decide +kernel
theorem dX10_liftedFor_66 : decode cX10_liftedFor 66 = .ok (.aload_n 0, 1) := by decide +kernel
theorem dX10_liftedFor_67 : decode cX10_liftedFor 67 = .ok (.iload 4, 2) := by decide +kernel
theorem dX10_liftedFor_69 : decode cX10_liftedFor 69 = .ok (.invokevirtual 221, 3) := by decide +kernel
theorem dX10_liftedFor_72 : decode cX10_liftedFor 72 = .ok (.aload_n 0, 1) := by decide +kernel
theorem dX10_liftedFor_73 : decode cX10_liftedFor 73 = .ok (.getfield 43, 3) := by decide +kernel
theorem dX10_liftedFor_76 : decode cX10_liftedFor 76 = .ok (.iload_n 1, 1) := by decide +kernel
theorem dX10_liftedFor_77 : decode cX10_liftedFor 77 = .ok (.invokevirtual 214, 3) := by decide +kernel
theorem dX10_liftedFor_80 : decode cX10_liftedFor 80 = .ok (.iload_n 2, 1) := by decide +kernel
theorem dX10_liftedFor_81 : decode cX10_liftedFor 81 = .ok (.if_icmp .lt 6, 3) := by decide +kernel
theorem dX10_liftedFor_84 : decode cX10_liftedFor 84 = .ok (.iload 4, 2) := by decide +kernel
theorem dX10_liftedFor_86 : decode cX10_liftedFor 86 = .ok (.ireturn, 1) := by decide +kernel
theorem dX10_liftedFor_87 : decode cX10_liftedFor 87 = .ok (.iinc 4 1, 3) := by decide +kernel
theorem dX10_liftedFor_90 : decode cX10_liftedFor 90 = .ok (.goto (-43), 3) := by decide +kernel
theorem dX10_liftedFor_93 : decode cX10_liftedFor 93 = .ok (.iinc 3 1, 3) := by decide +kernel
theorem dX10_liftedFor_96 : decode cX10_liftedFor 96 = .ok (.goto (-58), 3) := by decide +kernel
theorem dX10_liftedFor_99 : decode cX10_liftedFor 99 = .ok (.bipush (-3), 2) := by decide +kernel
theorem dX10_liftedFor_101 : decode cX10_liftedFor 101 = .ok (.ireturn, 1) := by decide +kernel
set_option maxRecDepth 20000 in
theorem ggX10_fits_X10_isNoSheet : GoodIn wsX10_fits wsX10_isNoSheet := goodIn_r _ [9, 10, 11, 8, 12] (by decide +kernel) (by decide +kernel)
set_option maxRecDepth 20000 in
theorem gX10_fits_X10_isNoSheet : GoodIn wsX10_fits (va_wsS RX10 225 yX10_isNoSheet wsX10_isNoSheet) := goodIn_app (goodIn_of _ (by decide +kernel)) ggX10_fits_X10_isNoSheet
set_option maxRecDepth 20000 in
theorem ggX10_fits_X8_has : GoodIn wsX10_fits wsX8_has := goodIn_r _ [17, 18, 205, 206, 207, 208, 209, 210, 211, 212, 213, 214, 215] (by decide +kernel) (by decide +kernel)
set_option maxRecDepth 20000 in
theorem gX10_fits_X8_has : GoodIn wsX10_fits (wsV RX10 135 RX8 yX8_has wsX8_has) := goodIn_app (goodIn_of _ (by decide +kernel)) ggX10_fits_X8_has
set_option maxRecDepth 20000 in
theorem ggX10_fits_X10_isOutside : GoodIn wsX10_fits wsX10_isOutside := goodIn_r _ [12] (by decide +kernel) (by decide +kernel)
set_option maxRecDepth 20000 in
theorem gX10_fits_X10_isOutside : GoodIn wsX10_fits (va_wsS RX10 87 yX10_isOutside wsX10_isOutside) := goodIn_app (goodIn_of _ (by decide +kernel)) ggX10_fits_X10_isOutside
set_option maxRecDepth 20000 in
theorem ggX10_fits_X8_copyFrom : GoodIn wsX10_fits wsX8_copyFrom := goodIn_r _ [22, 23, 24, 25, 18, 26, 27, 28, 29, 30, 16, 31, 32, 33, 34, 35, 205, 206, 207, 208, 209, 210, 211, 212, 213, 214, 215] (by decide +kernel) (by decide +kernel)
set_option maxRecDepth 20000 in
theorem gX10_fits_X8_copyFrom : GoodIn wsX10_fits (wsV RX10 105 RX8 yX8_copyFrom wsX8_copyFrom) := goodIn_app (goodIn_of _ (by decide +kernel)) ggX10_fits_X8_copyFrom
set_option maxRecDepth 20000 in
theorem ggX10_fits_X8_copyGoer : GoodIn wsX10_fits wsX8_copyGoer := goodIn_r _ [31, 32, 33, 34, 35, 205, 206, 207, 208, 209, 210, 211, 212, 213, 214, 215] (by decide +kernel) (by decide +kernel)
set_option maxRecDepth 20000 in
theorem gX10_fits_X8_copyGoer : GoodIn wsX10_fits (wsV RX10 217 RX8 yX8_copyGoer wsX8_copyGoer) := goodIn_app (goodIn_of _ (by decide +kernel)) ggX10_fits_X8_copyGoer
set_option maxRecDepth 20000 in
theorem ggX10_fits_X8_goesBy : GoodIn wsX10_fits wsX8_goesBy := goodIn_r _ [40, 26, 34, 41, 42, 43, 16, 44, 45, 32, 33, 25, 23, 35, 46, 47, 48, 49, 24, 50, 51, 52, 53, 54, 55, 56, 57, 8, 58, 59, 60, 61, 62, 63, 64, 65, 66, 67, 68, 69, 70, 71, 72, 73, 74, 75, 76, 77, 78, 79, 80, 81, 82, 83, 84, 85, 86, 87, 88, 89, 90, 91, 92, 93, 94, 95, 96, 97, 98, 99, 100, 101, 102, 103, 104, 105, 106, 107, 108, 109, 110, 111, 112, 113, 114, 115, 116, 117, 118, 119, 120, 121, 122, 123, 124, 125, 126, 127, 128, 129, 130, 131, 132, 133, 134, 135, 136, 137, 138, 139, 140, 141, 142, 143, 144, 145, 146, 147, 148, 149, 150, 151, 152, 153, 154, 155, 156, 157, 158, 159, 160, 161, 162, 163, 164, 165, 166, 167, 168, 169, 170, 171, 172, 173, 174, 175, 176, 177, 178, 179, 180, 181, 182, 183, 184, 185, 186, 187, 188, 189, 190, 191, 205, 206, 207, 208, 209, 210, 211, 212, 213, 214, 215] (by decide +kernel) (by decide +kernel)
set_option maxRecDepth 20000 in
theorem gX10_fits_X8_goesBy : GoodIn wsX10_fits (wsV RX10 231 RX8 yX8_goesBy wsX8_goesBy) := goodIn_app (goodIn_of _ (by decide +kernel)) ggX10_fits_X8_goesBy
theorem dX10_fits_0 : decode cX10_fits 0 = .ok (.iload_n 1, 1) := by decide +kernel
theorem dX10_fits_1 : decode cX10_fits 1 = .ok (.invokestatic 225, 3) := by decide +kernel
theorem dX10_fits_4 : decode cX10_fits 4 = .ok (.ifCond .ne 23, 3) := by decide +kernel
theorem dX10_fits_7 : decode cX10_fits 7 = .ok (.aload_n 0, 1) := by decide +kernel
theorem dX10_fits_8 : decode cX10_fits 8 = .ok (.getfield 36, 3) := by decide +kernel
theorem dX10_fits_11 : decode cX10_fits 11 = .ok (.iload_n 2, 1) := by decide +kernel
theorem dX10_fits_12 : decode cX10_fits 12 = .ok (.invokevirtual 135, 3) := by decide +kernel
theorem dX10_fits_15 : decode cX10_fits 15 = .ok (.ifCond .eq 12, 3) := by decide +kernel
theorem dX10_fits_18 : decode cX10_fits 18 = .ok (.iload_n 3, 1) := by decide +kernel
theorem dX10_fits_19 : decode cX10_fits 19 = .ok (.iconst 0, 1) := by decide +kernel
theorem dX10_fits_20 : decode cX10_fits 20 = .ok (.iconst 1, 1) := by decide +kernel
theorem dX10_fits_21 : decode cX10_fits 21 = .ok (.invokestatic 87, 3) := by decide +kernel
theorem dX10_fits_24 : decode cX10_fits 24 = .ok (.ifCond .eq 5, 3) := by decide +kernel
theorem dX10_fits_27 : decode cX10_fits 27 = .ok (.iconst (-1), 1) := by decide +kernel
theorem dX10_fits_28 : decode cX10_fits 28 = .ok (.ireturn, 1) := by decide +kernel
theorem dX10_fits_29 : decode cX10_fits 29 = .ok (.aload_n 0, 1) := by decide +kernel
theorem dX10_fits_30 : decode cX10_fits 30 = .ok (.getfield 74, 3) := by decide +kernel
theorem dX10_fits_33 : decode cX10_fits 33 = .ok (.iload_n 1, 1) := by decide +kernel
theorem dX10_fits_34 : decode cX10_fits 34 = .ok (.aaload, 1) := by decide +kernel
theorem dX10_fits_35 : decode cX10_fits 35 = .ok (.astore 4, 2) := by decide +kernel
theorem dX10_fits_37 : decode cX10_fits 37 = .ok (.aload 4, 2) := by decide +kernel
theorem dX10_fits_39 : decode cX10_fits 39 = .ok (.ifnonnull 6, 3) := by decide +kernel
theorem dX10_fits_42 : decode cX10_fits 42 = .ok (.bipush (-11), 2) := by decide +kernel
theorem dX10_fits_44 : decode cX10_fits 44 = .ok (.ireturn, 1) := by decide +kernel
theorem dX10_fits_45 : decode cX10_fits 45 = .ok (.iconst 0, 1) := by decide +kernel
theorem dX10_fits_46 : decode cX10_fits 46 = .ok (.istore 5, 2) := by decide +kernel
theorem dX10_fits_48 : decode cX10_fits 48 = .ok (.bipush (-3), 2) := by decide +kernel
theorem dX10_fits_50 : decode cX10_fits 50 = .ok (.istore 6, 2) := by decide +kernel
theorem dX10_fits_52 : decode cX10_fits 52 = .ok (.aload_n 0, 1) := by decide +kernel
theorem dX10_fits_53 : decode cX10_fits 53 = .ok (.getfield 43, 3) := by decide +kernel
theorem dX10_fits_56 : decode cX10_fits 56 = .ok (.aload_n 0, 1) := by decide +kernel
theorem dX10_fits_57 : decode cX10_fits 57 = .ok (.getfield 36, 3) := by decide +kernel
theorem dX10_fits_60 : decode cX10_fits 60 = .ok (.invokevirtual 105, 3) := by decide +kernel
theorem dX10_fits_63 : decode cX10_fits 63 = .ok (.bipush 99, 2) := by decide +kernel
theorem dX10_fits_65 : decode cX10_fits 65 = .ok (.istore 7, 2) := by decide +kernel
theorem dX10_fits_67 : decode cX10_fits 67 = .ok (.iload 7, 2) := by decide +kernel
theorem dX10_fits_69 : decode cX10_fits 69 = .ok (.ifCond .lt 55, 3) := by decide +kernel
theorem dX10_fits_72 : decode cX10_fits 72 = .ok (.aload_n 0, 1) := by decide +kernel
theorem dX10_fits_73 : decode cX10_fits 73 = .ok (.getfield 43, 3) := by decide +kernel
theorem dX10_fits_76 : decode cX10_fits 76 = .ok (.aload_n 0, 1) := by decide +kernel
theorem dX10_fits_77 : decode cX10_fits 77 = .ok (.getfield 36, 3) := by decide +kernel
theorem dX10_fits_80 : decode cX10_fits 80 = .ok (.iload_n 2, 1) := by decide +kernel
theorem dX10_fits_81 : decode cX10_fits 81 = .ok (.invokevirtual 217, 3) := by decide +kernel
theorem dX10_fits_84 : decode cX10_fits 84 = .ok (.aload_n 0, 1) := by decide +kernel
theorem dX10_fits_85 : decode cX10_fits 85 = .ok (.getfield 43, 3) := by decide +kernel
theorem dX10_fits_88 : decode cX10_fits 88 = .ok (.getfield 140, 3) := by decide +kernel
theorem dX10_fits_91 : decode cX10_fits 91 = .ok (.iload_n 2, 1) := by decide +kernel
theorem dX10_fits_92 : decode cX10_fits 92 = .ok (.iload 7, 2) := by decide +kernel
theorem dX10_fits_94 : decode cX10_fits 94 = .ok (.iastore, 1) := by decide +kernel
theorem dX10_fits_95 : decode cX10_fits 95 = .ok (.aload_n 0, 1) := by decide +kernel
theorem dX10_fits_96 : decode cX10_fits 96 = .ok (.getfield 43, 3) := by decide +kernel
theorem dX10_fits_99 : decode cX10_fits 99 = .ok (.iload_n 2, 1) := by decide +kernel
theorem dX10_fits_100 : decode cX10_fits 100 = .ok (.aload 4, 2) := by decide +kernel
theorem dX10_fits_102 : decode cX10_fits 102 = .ok (.getfield 228, 3) := by decide +kernel
theorem dX10_fits_105 : decode cX10_fits 105 = .ok (.invokevirtual 231, 3) := by decide +kernel
theorem dX10_fits_108 : decode cX10_fits 108 = .ok (.ifCond .eq 10, 3) := by decide +kernel
theorem dX10_fits_111 : decode cX10_fits 111 = .ok (.iinc 5 1, 3) := by decide +kernel
theorem dX10_fits_114 : decode cX10_fits 114 = .ok (.iload 7, 2) := by decide +kernel
theorem dX10_fits_116 : decode cX10_fits 116 = .ok (.istore 6, 2) := by decide +kernel
theorem dX10_fits_118 : decode cX10_fits 118 = .ok (.iinc 7 (-1), 3) := by decide +kernel
theorem dX10_fits_121 : decode cX10_fits 121 = .ok (.goto (-54), 3) := by decide +kernel
theorem dX10_fits_124 : decode cX10_fits 124 = .ok (.iload_n 3, 1) := by decide +kernel
theorem dX10_fits_125 : decode cX10_fits 125 = .ok (.ifCond .ne 8, 3) := by decide +kernel
theorem dX10_fits_128 : decode cX10_fits 128 = .ok (.iload 5, 2) := by decide +kernel
theorem dX10_fits_130 : decode cX10_fits 130 = .ok (.goto 5, 3) := by decide +kernel
theorem dX10_fits_133 : decode cX10_fits 133 = .ok (.iload 6, 2) := by decide +kernel
theorem dX10_fits_135 : decode cX10_fits 135 = .ok (.ireturn, 1) := by decide +kernel
set_option maxRecDepth 20000 in
theorem ggX10_soonestAs_X8_copyFrom : GoodIn wsX10_soonestAs wsX8_copyFrom := goodIn_r _ [9, 10, 11, 12, 13, 14, 15, 16, 17, 18, 8, 19, 20, 21, 22, 23, 190, 191, 192, 193, 194, 195, 196, 197, 198, 199, 200] (by decide +kernel) (by decide +kernel)
set_option maxRecDepth 20000 in
theorem gX10_soonestAs_X8_copyFrom : GoodIn wsX10_soonestAs (wsV RX10 105 RX8 yX8_copyFrom wsX8_copyFrom) := goodIn_app (goodIn_of _ (by decide +kernel)) ggX10_soonestAs_X8_copyFrom
set_option maxRecDepth 20000 in
theorem ggX10_soonestAs_X8_isThrough : GoodIn wsX10_soonestAs wsX8_isThrough := goodIn_r _ [27, 22, 190, 191, 192, 193, 194, 195, 196, 197, 198, 199, 200] (by decide +kernel) (by decide +kernel)
set_option maxRecDepth 20000 in
theorem gX10_soonestAs_X8_isThrough : GoodIn wsX10_soonestAs (wsV RX10 152 RX8 yX8_isThrough wsX8_isThrough) := goodIn_app (goodIn_of _ (by decide +kernel)) ggX10_soonestAs_X8_isThrough
set_option maxRecDepth 20000 in
theorem ggX10_soonestAs_X8_advance : GoodIn wsX10_soonestAs wsX8_advance := goodIn_r _ [31, 32, 20, 21, 12, 10, 23, 33, 34, 35, 36, 11, 22, 37, 38, 39, 40, 25, 26, 8, 27, 41, 42, 43, 44, 45, 46, 47, 48, 49, 50, 51, 52, 53, 54, 55, 56, 57, 58, 59, 60, 61, 62, 63, 64, 65, 66, 67, 68, 69, 70, 71, 72, 73, 74, 75, 76, 77, 78, 79, 80, 81, 82, 83, 84, 85, 86, 87, 88, 89, 90, 91, 92, 93, 94, 95, 96, 97, 98, 99, 100, 101, 102, 103, 104, 105, 106, 107, 108, 109, 110, 111, 112, 113, 114, 115, 116, 117, 118, 119, 120, 121, 122, 123, 124, 125, 126, 127, 128, 129, 130, 131, 132, 133, 134, 135, 136, 137, 138, 139, 140, 141, 142, 143, 144, 145, 146, 147, 148, 149, 150, 151, 152, 153, 154, 155, 156, 157, 158, 159, 160, 161, 162, 163, 164, 165, 166, 167, 168, 169, 170, 171, 172, 173, 174, 175, 176, 190, 191, 192, 193, 194, 195, 196, 197, 198, 199, 200] (by decide +kernel) (by decide +kernel)
set_option maxRecDepth 20000 in
theorem gX10_soonestAs_X8_advance : GoodIn wsX10_soonestAs (wsV RX10 235 RX8 yX8_advance wsX8_advance) := goodIn_app (goodIn_of _ (by decide +kernel)) ggX10_soonestAs_X8_advance
theorem dX10_soonestAs_0 : decode cX10_soonestAs 0 = .ok (.aload_n 0, 1) := by decide +kernel
theorem dX10_soonestAs_1 : decode cX10_soonestAs 1 = .ok (.getfield 43, 3) := by decide +kernel
theorem dX10_soonestAs_4 : decode cX10_soonestAs 4 = .ok (.aload_n 0, 1) := by decide +kernel
theorem dX10_soonestAs_5 : decode cX10_soonestAs 5 = .ok (.getfield 36, 3) := by decide +kernel
theorem dX10_soonestAs_8 : decode cX10_soonestAs 8 = .ok (.invokevirtual 105, 3) := by decide +kernel
theorem dX10_soonestAs_11 : decode cX10_soonestAs 11 = .ok (.aload_n 0, 1) := by decide +kernel
theorem dX10_soonestAs_12 : decode cX10_soonestAs 12 = .ok (.getfield 43, 3) := by decide +kernel
theorem dX10_soonestAs_15 : decode cX10_soonestAs 15 = .ok (.getfield 138, 3) := by decide +kernel
theorem dX10_soonestAs_18 : decode cX10_soonestAs 18 = .ok (.iload_n 1, 1) := by decide +kernel
theorem dX10_soonestAs_19 : decode cX10_soonestAs 19 = .ok (.iload_n 2, 1) := by decide +kernel
theorem dX10_soonestAs_20 : decode cX10_soonestAs 20 = .ok (.iastore, 1) := by decide +kernel
theorem dX10_soonestAs_21 : decode cX10_soonestAs 21 = .ok (.iconst 0, 1) := by decide +kernel
theorem dX10_soonestAs_22 : decode cX10_soonestAs 22 = .ok (.istore_n 3, 1) := by decide +kernel
theorem dX10_soonestAs_23 : decode cX10_soonestAs 23 = .ok (.iload_n 3, 1) := by decide +kernel
theorem dX10_soonestAs_24 : decode cX10_soonestAs 24 = .ok (.bipush 60, 2) := by decide +kernel
theorem dX10_soonestAs_26 : decode cX10_soonestAs 26 = .ok (.if_icmp .gt 40, 3) := by decide +kernel
theorem dX10_soonestAs_29 : decode cX10_soonestAs 29 = .ok (.aload_n 0, 1) := by decide +kernel
theorem dX10_soonestAs_30 : decode cX10_soonestAs 30 = .ok (.getfield 43, 3) := by decide +kernel
theorem dX10_soonestAs_33 : decode cX10_soonestAs 33 = .ok (.iload_n 1, 1) := by decide +kernel
theorem dX10_soonestAs_34 : decode cX10_soonestAs 34 = .ok (.invokevirtual 152, 3) := by decide +kernel
theorem dX10_soonestAs_37 : decode cX10_soonestAs 37 = .ok (.ifCond .eq 5, 3) := by decide +kernel
theorem dX10_soonestAs_40 : decode cX10_soonestAs 40 = .ok (.iload_n 3, 1) := by decide +kernel
theorem dX10_soonestAs_41 : decode cX10_soonestAs 41 = .ok (.ireturn, 1) := by decide +kernel
theorem dX10_soonestAs_42 : decode cX10_soonestAs 42 = .ok (.aload_n 0, 1) := by decide +kernel
theorem dX10_soonestAs_43 : decode cX10_soonestAs 43 = .ok (.getfield 43, 3) := by decide +kernel
theorem dX10_soonestAs_46 : decode cX10_soonestAs 46 = .ok (.iload_n 1, 1) := by decide +kernel
theorem dX10_soonestAs_47 : decode cX10_soonestAs 47 = .ok (.aload_n 0, 1) := by decide +kernel
theorem dX10_soonestAs_48 : decode cX10_soonestAs 48 = .ok (.getfield 43, 3) := by decide +kernel
theorem dX10_soonestAs_51 : decode cX10_soonestAs 51 = .ok (.getfield 155, 3) := by decide +kernel
theorem dX10_soonestAs_54 : decode cX10_soonestAs 54 = .ok (.iload_n 3, 1) := by decide +kernel
theorem dX10_soonestAs_55 : decode cX10_soonestAs 55 = .ok (.iadd, 1) := by decide +kernel
theorem dX10_soonestAs_56 : decode cX10_soonestAs 56 = .ok (.invokevirtual 235, 3) := by decide +kernel
theorem dX10_soonestAs_59 : decode cX10_soonestAs 59 = .ok (.pop, 1) := by decide +kernel
theorem dX10_soonestAs_60 : decode cX10_soonestAs 60 = .ok (.iinc 3 1, 3) := by decide +kernel
theorem dX10_soonestAs_63 : decode cX10_soonestAs 63 = .ok (.goto (-40), 3) := by decide +kernel
theorem dX10_soonestAs_66 : decode cX10_soonestAs 66 = .ok (.bipush 61, 2) := by decide +kernel
theorem dX10_soonestAs_68 : decode cX10_soonestAs 68 = .ok (.ireturn, 1) := by decide +kernel
set_option maxRecDepth 20000 in
theorem ggX10_firstStepOf_X8_copyFrom : GoodIn wsX10_firstStepOf wsX8_copyFrom := goodIn_r _ [8, 9, 10, 11, 12, 13, 14, 15, 16, 17, 7, 18, 19, 20, 21, 22, 188, 189, 190, 191, 192, 193, 194, 195, 196, 197, 198] (by decide +kernel) (by decide +kernel)
set_option maxRecDepth 20000 in
theorem gX10_firstStepOf_X8_copyFrom : GoodIn wsX10_firstStepOf (wsV RX10 105 RX8 yX8_copyFrom wsX8_copyFrom) := goodIn_app (goodIn_of _ (by decide +kernel)) ggX10_firstStepOf_X8_copyFrom
set_option maxRecDepth 20000 in
theorem ggX10_firstStepOf_X8_advance : GoodIn wsX10_firstStepOf wsX8_advance := goodIn_r _ [26, 27, 19, 20, 11, 9, 22, 28, 29, 30, 31, 10, 21, 32, 33, 34, 35, 36, 37, 7, 38, 39, 40, 41, 42, 43, 44, 45, 46, 47, 48, 49, 50, 51, 52, 53, 54, 55, 56, 57, 58, 59, 60, 61, 62, 63, 64, 65, 66, 67, 68, 69, 70, 71, 72, 73, 74, 75, 76, 77, 78, 79, 80, 81, 82, 83, 84, 85, 86, 87, 88, 89, 90, 91, 92, 93, 94, 95, 96, 97, 98, 99, 100, 101, 102, 103, 104, 105, 106, 107, 108, 109, 110, 111, 112, 113, 114, 115, 116, 117, 118, 119, 120, 121, 122, 123, 124, 125, 126, 127, 128, 129, 130, 131, 132, 133, 134, 135, 136, 137, 138, 139, 140, 141, 142, 143, 144, 145, 146, 147, 148, 149, 150, 151, 152, 153, 154, 155, 156, 157, 158, 159, 160, 161, 162, 163, 164, 165, 166, 167, 168, 169, 170, 171, 172, 173, 174, 188, 189, 190, 191, 192, 193, 194, 195, 196, 197, 198] (by decide +kernel) (by decide +kernel)
set_option maxRecDepth 20000 in
theorem gX10_firstStepOf_X8_advance : GoodIn wsX10_firstStepOf (wsV RX10 235 RX8 yX8_advance wsX8_advance) := goodIn_app (goodIn_of _ (by decide +kernel)) ggX10_firstStepOf_X8_advance
theorem dX10_firstStepOf_0 : decode cX10_firstStepOf 0 = .ok (.aload_n 0, 1) := by decide +kernel
theorem dX10_firstStepOf_1 : decode cX10_firstStepOf 1 = .ok (.getfield 43, 3) := by decide +kernel
theorem dX10_firstStepOf_4 : decode cX10_firstStepOf 4 = .ok (.aload_n 0, 1) := by decide +kernel
theorem dX10_firstStepOf_5 : decode cX10_firstStepOf 5 = .ok (.getfield 36, 3) := by decide +kernel
theorem dX10_firstStepOf_8 : decode cX10_firstStepOf 8 = .ok (.invokevirtual 105, 3) := by decide +kernel
theorem dX10_firstStepOf_11 : decode cX10_firstStepOf 11 = .ok (.iconst 0, 1) := by decide +kernel
theorem dX10_firstStepOf_12 : decode cX10_firstStepOf 12 = .ok (.istore_n 3, 1) := by decide +kernel
theorem dX10_firstStepOf_13 : decode cX10_firstStepOf 13 = .ok (.iload_n 3, 1) := by decide +kernel
theorem dX10_firstStepOf_14 : decode cX10_firstStepOf 14 = .ok (.bipush 60, 2) := by decide +kernel
theorem dX10_firstStepOf_16 : decode cX10_firstStepOf 16 = .ok (.if_icmp .ge 34, 3) := by decide +kernel
theorem dX10_firstStepOf_19 : decode cX10_firstStepOf 19 = .ok (.aload_n 0, 1) := by decide +kernel
theorem dX10_firstStepOf_20 : decode cX10_firstStepOf 20 = .ok (.getfield 43, 3) := by decide +kernel
theorem dX10_firstStepOf_23 : decode cX10_firstStepOf 23 = .ok (.iload_n 1, 1) := by decide +kernel
theorem dX10_firstStepOf_24 : decode cX10_firstStepOf 24 = .ok (.aload_n 0, 1) := by decide +kernel
theorem dX10_firstStepOf_25 : decode cX10_firstStepOf 25 = .ok (.getfield 43, 3) := by decide +kernel
theorem dX10_firstStepOf_28 : decode cX10_firstStepOf 28 = .ok (.getfield 155, 3) := by decide +kernel
theorem dX10_firstStepOf_31 : decode cX10_firstStepOf 31 = .ok (.iload_n 3, 1) := by decide +kernel
theorem dX10_firstStepOf_32 : decode cX10_firstStepOf 32 = .ok (.iadd, 1) := by decide +kernel
theorem dX10_firstStepOf_33 : decode cX10_firstStepOf 33 = .ok (.invokevirtual 235, 3) := by decide +kernel
theorem dX10_firstStepOf_36 : decode cX10_firstStepOf 36 = .ok (.iload_n 2, 1) := by decide +kernel
theorem dX10_firstStepOf_37 : decode cX10_firstStepOf 37 = .ok (.if_icmp .ne 7, 3) := by decide +kernel
theorem dX10_firstStepOf_40 : decode cX10_firstStepOf 40 = .ok (.iload_n 3, 1) := by decide +kernel
theorem dX10_firstStepOf_41 : decode cX10_firstStepOf 41 = .ok (.iconst 1, 1) := by decide +kernel
theorem dX10_firstStepOf_42 : decode cX10_firstStepOf 42 = .ok (.iadd, 1) := by decide +kernel
theorem dX10_firstStepOf_43 : decode cX10_firstStepOf 43 = .ok (.ireturn, 1) := by decide +kernel
theorem dX10_firstStepOf_44 : decode cX10_firstStepOf 44 = .ok (.iinc 3 1, 3) := by decide +kernel
theorem dX10_firstStepOf_47 : decode cX10_firstStepOf 47 = .ok (.goto (-34), 3) := by decide +kernel
theorem dX10_firstStepOf_50 : decode cX10_firstStepOf 50 = .ok (.bipush (-3), 2) := by decide +kernel
theorem dX10_firstStepOf_52 : decode cX10_firstStepOf 52 = .ok (.ireturn, 1) := by decide +kernel
set_option maxRecDepth 20000 in
theorem ggX10_tryLifting_X8_copyFrom : GoodIn wsX10_tryLifting wsX8_copyFrom := goodIn_r _ [8, 9, 10, 11, 12, 13, 14, 15, 16, 17, 7, 18, 19, 20, 21, 22, 36, 37, 38, 39, 40, 41, 42, 43, 44, 45, 46] (by decide +kernel) (by decide +kernel)
set_option maxRecDepth 20000 in
theorem gX10_tryLifting_X8_copyFrom : GoodIn wsX10_tryLifting (wsV RX10 105 RX8 yX8_copyFrom wsX8_copyFrom) := goodIn_app (goodIn_of _ (by decide +kernel)) ggX10_tryLifting_X8_copyFrom
theorem dX10_tryLifting_0 : decode cX10_tryLifting 0 = .ok (.aload_n 0, 1) := by decide +kernel
theorem dX10_tryLifting_1 : decode cX10_tryLifting 1 = .ok (.getfield 43, 3) := by decide +kernel
theorem dX10_tryLifting_4 : decode cX10_tryLifting 4 = .ok (.aload_n 0, 1) := by decide +kernel
theorem dX10_tryLifting_5 : decode cX10_tryLifting 5 = .ok (.getfield 36, 3) := by decide +kernel
theorem dX10_tryLifting_8 : decode cX10_tryLifting 8 = .ok (.invokevirtual 105, 3) := by decide +kernel
theorem dX10_tryLifting_11 : decode cX10_tryLifting 11 = .ok (.iconst 0, 1) := by decide +kernel
theorem dX10_tryLifting_12 : decode cX10_tryLifting 12 = .ok (.istore_n 2, 1) := by decide +kernel
theorem dX10_tryLifting_13 : decode cX10_tryLifting 13 = .ok (.iload_n 2, 1) := by decide +kernel
theorem dX10_tryLifting_14 : decode cX10_tryLifting 14 = .ok (.bipush 6, 2) := by decide +kernel
theorem dX10_tryLifting_16 : decode cX10_tryLifting 16 = .ok (.if_icmp .ge 33, 3) := by decide +kernel
theorem dX10_tryLifting_19 : decode cX10_tryLifting 19 = .ok (.aload_n 0, 1) := by decide +kernel
theorem dX10_tryLifting_20 : decode cX10_tryLifting 20 = .ok (.getfield 43, 3) := by decide +kernel
theorem dX10_tryLifting_23 : decode cX10_tryLifting 23 = .ok (.getfield 125, 3) := by decide +kernel
theorem dX10_tryLifting_26 : decode cX10_tryLifting 26 = .ok (.iload_n 2, 1) := by decide +kernel
theorem dX10_tryLifting_27 : decode cX10_tryLifting 27 = .ok (.iload_n 1, 1) := by decide +kernel
theorem dX10_tryLifting_28 : decode cX10_tryLifting 28 = .ok (.iload_n 2, 1) := by decide +kernel
theorem dX10_tryLifting_29 : decode cX10_tryLifting 29 = .ok (.ishr, 1) := by decide +kernel
theorem dX10_tryLifting_30 : decode cX10_tryLifting 30 = .ok (.iconst 1, 1) := by decide +kernel
theorem dX10_tryLifting_31 : decode cX10_tryLifting 31 = .ok (.iand, 1) := by decide +kernel
theorem dX10_tryLifting_32 : decode cX10_tryLifting 32 = .ok (.iconst 1, 1) := by decide +kernel
theorem dX10_tryLifting_33 : decode cX10_tryLifting 33 = .ok (.if_icmp .ne 8, 3) := by decide +kernel
theorem dX10_tryLifting_36 : decode cX10_tryLifting 36 = .ok (.bipush 9, 2) := by decide +kernel
theorem dX10_tryLifting_38 : decode cX10_tryLifting 38 = .ok (.goto 4, 3) := by decide +kernel
theorem dX10_tryLifting_41 : decode cX10_tryLifting 41 = .ok (.iconst 0, 1) := by decide +kernel
theorem dX10_tryLifting_42 : decode cX10_tryLifting 42 = .ok (.iastore, 1) := by decide +kernel
theorem dX10_tryLifting_43 : decode cX10_tryLifting 43 = .ok (.iinc 2 1, 3) := by decide +kernel
theorem dX10_tryLifting_46 : decode cX10_tryLifting 46 = .ok (.goto (-33), 3) := by decide +kernel
theorem dX10_tryLifting_49 : decode cX10_tryLifting 49 = .ok (.return_, 1) := by decide +kernel
set_option maxRecDepth 20000 in
theorem ggX10_odds_X10_isOutside : GoodIn wsX10_odds wsX10_isOutside := goodIn_r _ [8] (by decide +kernel) (by decide +kernel)
set_option maxRecDepth 20000 in
theorem gX10_odds_X10_isOutside : GoodIn wsX10_odds (va_wsS RX10 87 yX10_isOutside wsX10_isOutside) := goodIn_app (goodIn_of _ (by decide +kernel)) ggX10_odds_X10_isOutside
set_option maxRecDepth 20000 in
theorem ggX10_odds_X10_waysToTake : GoodIn wsX10_odds wsX10_waysToTake := goodIn_r _ [11] (by decide +kernel) (by decide +kernel)
set_option maxRecDepth 20000 in
theorem gX10_odds_X10_waysToTake : GoodIn wsX10_odds (va_wsS RX10 242 yX10_waysToTake wsX10_waysToTake) := goodIn_app (goodIn_of _ (by decide +kernel)) ggX10_odds_X10_waysToTake
set_option maxRecDepth 20000 in
theorem ggX10_odds_X10_partOf : GoodIn wsX10_odds wsX10_partOf := goodIn_r _ [14, 15, 16, 7, 17] (by decide +kernel) (by decide +kernel)
set_option maxRecDepth 20000 in
theorem gX10_odds_X10_partOf : GoodIn wsX10_odds (va_wsS RX10 246 yX10_partOf wsX10_partOf) := goodIn_app (goodIn_of _ (by decide +kernel)) ggX10_odds_X10_partOf
theorem dX10_odds_0 : decode cX10_odds 0 = .ok (.iload_n 1, 1) := by decide +kernel
theorem dX10_odds_1 : decode cX10_odds 1 = .ok (.iconst 0, 1) := by decide +kernel
theorem dX10_odds_2 : decode cX10_odds 2 = .ok (.bipush 8, 2) := by decide +kernel
theorem dX10_odds_4 : decode cX10_odds 4 = .ok (.invokestatic 87, 3) := by decide +kernel
theorem dX10_odds_7 : decode cX10_odds 7 = .ok (.ifCond .ne 21, 3) := by decide +kernel
theorem dX10_odds_10 : decode cX10_odds 10 = .ok (.iload_n 2, 1) := by decide +kernel
theorem dX10_odds_11 : decode cX10_odds 11 = .ok (.iconst 0, 1) := by decide +kernel
theorem dX10_odds_12 : decode cX10_odds 12 = .ok (.iload_n 1, 1) := by decide +kernel
theorem dX10_odds_13 : decode cX10_odds 13 = .ok (.invokestatic 87, 3) := by decide +kernel
theorem dX10_odds_16 : decode cX10_odds 16 = .ok (.ifCond .ne 12, 3) := by decide +kernel
theorem dX10_odds_19 : decode cX10_odds 19 = .ok (.iload_n 3, 1) := by decide +kernel
theorem dX10_odds_20 : decode cX10_odds 20 = .ok (.iconst 0, 1) := by decide +kernel
theorem dX10_odds_21 : decode cX10_odds 21 = .ok (.iconst 1, 1) := by decide +kernel
theorem dX10_odds_22 : decode cX10_odds 22 = .ok (.invokestatic 87, 3) := by decide +kernel
theorem dX10_odds_25 : decode cX10_odds 25 = .ok (.ifCond .eq 7, 3) := by decide +kernel
theorem dX10_odds_28 : decode cX10_odds 28 = .ok (.ldc2_w 238, 3) := by decide +kernel
theorem dX10_odds_31 : decode cX10_odds 31 = .ok (.lreturn, 1) := by decide +kernel
theorem dX10_odds_32 : decode cX10_odds 32 = .ok (.aload_n 0, 1) := by decide +kernel
theorem dX10_odds_33 : decode cX10_odds 33 = .ok (.getfield 36, 3) := by decide +kernel
theorem dX10_odds_36 : decode cX10_odds 36 = .ok (.getfield 115, 3) := by decide +kernel
theorem dX10_odds_39 : decode cX10_odds 39 = .ok (.iconst 3, 1) := by decide +kernel
theorem dX10_odds_40 : decode cX10_odds 40 = .ok (.iaload, 1) := by decide +kernel
theorem dX10_odds_41 : decode cX10_odds 41 = .ok (.istore 4, 2) := by decide +kernel
theorem dX10_odds_43 : decode cX10_odds 43 = .ok (.lconst 1, 1) := by decide +kernel
theorem dX10_odds_44 : decode cX10_odds 44 = .ok (.lstore 5, 2) := by decide +kernel
theorem dX10_odds_46 : decode cX10_odds 46 = .ok (.lconst 1, 1) := by decide +kernel
theorem dX10_odds_47 : decode cX10_odds 47 = .ok (.lstore 7, 2) := by decide +kernel
theorem dX10_odds_49 : decode cX10_odds 49 = .ok (.iconst 0, 1) := by decide +kernel
theorem dX10_odds_50 : decode cX10_odds 50 = .ok (.istore 9, 2) := by decide +kernel
theorem dX10_odds_52 : decode cX10_odds 52 = .ok (.iload 9, 2) := by decide +kernel
theorem dX10_odds_54 : decode cX10_odds 54 = .ok (.iload_n 1, 1) := by decide +kernel
theorem dX10_odds_55 : decode cX10_odds 55 = .ok (.if_icmp .ge 39, 3) := by decide +kernel
theorem dX10_odds_58 : decode cX10_odds 58 = .ok (.lload 5, 2) := by decide +kernel
theorem dX10_odds_60 : decode cX10_odds 60 = .ok (.iload 9, 2) := by decide +kernel
theorem dX10_odds_62 : decode cX10_odds 62 = .ok (.iload_n 2, 1) := by decide +kernel
theorem dX10_odds_63 : decode cX10_odds 63 = .ok (.if_icmp .ge 8, 3) := by decide +kernel
theorem dX10_odds_66 : decode cX10_odds 66 = .ok (.iload 4, 2) := by decide +kernel
theorem dX10_odds_68 : decode cX10_odds 68 = .ok (.goto 8, 3) := by decide +kernel
theorem dX10_odds_71 : decode cX10_odds 71 = .ok (.bipush 100, 2) := by decide +kernel
theorem dX10_odds_73 : decode cX10_odds 73 = .ok (.iload 4, 2) := by decide +kernel
theorem dX10_odds_75 : decode cX10_odds 75 = .ok (.isub, 1) := by decide +kernel
theorem dX10_odds_76 : decode cX10_odds 76 = .ok (.i2l, 1) := by decide +kernel
theorem dX10_odds_77 : decode cX10_odds 77 = .ok (.lmul, 1) := by decide +kernel
theorem dX10_odds_78 : decode cX10_odds 78 = .ok (.lstore 5, 2) := by decide +kernel
theorem dX10_odds_80 : decode cX10_odds 80 = .ok (.lload 7, 2) := by decide +kernel
theorem dX10_odds_82 : decode cX10_odds 82 = .ok (.ldc2_w 240, 3) := by decide +kernel
theorem dX10_odds_85 : decode cX10_odds 85 = .ok (.lmul, 1) := by decide +kernel
theorem dX10_odds_86 : decode cX10_odds 86 = .ok (.lstore 7, 2) := by decide +kernel
theorem dX10_odds_88 : decode cX10_odds 88 = .ok (.iinc 9 1, 3) := by decide +kernel
theorem dX10_odds_91 : decode cX10_odds 91 = .ok (.goto (-39), 3) := by decide +kernel
theorem dX10_odds_94 : decode cX10_odds 94 = .ok (.lload 5, 2) := by decide +kernel
theorem dX10_odds_96 : decode cX10_odds 96 = .ok (.iload_n 1, 1) := by decide +kernel
theorem dX10_odds_97 : decode cX10_odds 97 = .ok (.iload_n 2, 1) := by decide +kernel
theorem dX10_odds_98 : decode cX10_odds 98 = .ok (.invokestatic 242, 3) := by decide +kernel
theorem dX10_odds_101 : decode cX10_odds 101 = .ok (.lmul, 1) := by decide +kernel
theorem dX10_odds_102 : decode cX10_odds 102 = .ok (.lload 7, 2) := by decide +kernel
theorem dX10_odds_104 : decode cX10_odds 104 = .ok (.iload_n 3, 1) := by decide +kernel
theorem dX10_odds_105 : decode cX10_odds 105 = .ok (.invokestatic 246, 3) := by decide +kernel
theorem dX10_odds_108 : decode cX10_odds 108 = .ok (.lreturn, 1) := by decide +kernel
set_option maxRecDepth 20000 in
theorem ggX10_hope_X10_isOutside : GoodIn wsX10_hope wsX10_isOutside := goodIn_r _ [8] (by decide +kernel) (by decide +kernel)
set_option maxRecDepth 20000 in
theorem gX10_hope_X10_isOutside : GoodIn wsX10_hope (va_wsS RX10 87 yX10_isOutside wsX10_isOutside) := goodIn_app (goodIn_of _ (by decide +kernel)) ggX10_hope_X10_isOutside
set_option maxRecDepth 20000 in
theorem ggX10_hope_X10_partOf : GoodIn wsX10_hope wsX10_partOf := goodIn_r _ [11, 12, 13, 7, 14] (by decide +kernel) (by decide +kernel)
set_option maxRecDepth 20000 in
theorem gX10_hope_X10_partOf : GoodIn wsX10_hope (va_wsS RX10 246 yX10_partOf wsX10_partOf) := goodIn_app (goodIn_of _ (by decide +kernel)) ggX10_hope_X10_partOf
theorem dX10_hope_0 : decode cX10_hope 0 = .ok (.iload_n 1, 1) := by decide +kernel
theorem dX10_hope_1 : decode cX10_hope 1 = .ok (.iconst 0, 1) := by decide +kernel
theorem dX10_hope_2 : decode cX10_hope 2 = .ok (.bipush 99, 2) := by decide +kernel
theorem dX10_hope_4 : decode cX10_hope 4 = .ok (.invokestatic 87, 3) := by decide +kernel
theorem dX10_hope_7 : decode cX10_hope 7 = .ok (.ifCond .ne 12, 3) := by decide +kernel
theorem dX10_hope_10 : decode cX10_hope 10 = .ok (.iload_n 2, 1) := by decide +kernel
theorem dX10_hope_11 : decode cX10_hope 11 = .ok (.iconst 0, 1) := by decide +kernel
theorem dX10_hope_12 : decode cX10_hope 12 = .ok (.iconst 1, 1) := by decide +kernel
theorem dX10_hope_13 : decode cX10_hope 13 = .ok (.invokestatic 87, 3) := by decide +kernel
theorem dX10_hope_16 : decode cX10_hope 16 = .ok (.ifCond .eq 7, 3) := by decide +kernel
theorem dX10_hope_19 : decode cX10_hope 19 = .ok (.ldc2_w 238, 3) := by decide +kernel
theorem dX10_hope_22 : decode cX10_hope 22 = .ok (.lreturn, 1) := by decide +kernel
theorem dX10_hope_23 : decode cX10_hope 23 = .ok (.iload_n 1, 1) := by decide +kernel
theorem dX10_hope_24 : decode cX10_hope 24 = .ok (.i2l, 1) := by decide +kernel
theorem dX10_hope_25 : decode cX10_hope 25 = .ok (.aload_n 0, 1) := by decide +kernel
theorem dX10_hope_26 : decode cX10_hope 26 = .ok (.getfield 36, 3) := by decide +kernel
theorem dX10_hope_29 : decode cX10_hope 29 = .ok (.getfield 115, 3) := by decide +kernel
theorem dX10_hope_32 : decode cX10_hope 32 = .ok (.iconst 3, 1) := by decide +kernel
theorem dX10_hope_33 : decode cX10_hope 33 = .ok (.iaload, 1) := by decide +kernel
theorem dX10_hope_34 : decode cX10_hope 34 = .ok (.i2l, 1) := by decide +kernel
theorem dX10_hope_35 : decode cX10_hope 35 = .ok (.lmul, 1) := by decide +kernel
theorem dX10_hope_36 : decode cX10_hope 36 = .ok (.ldc2_w 240, 3) := by decide +kernel
theorem dX10_hope_39 : decode cX10_hope 39 = .ok (.iload_n 2, 1) := by decide +kernel
theorem dX10_hope_40 : decode cX10_hope 40 = .ok (.invokestatic 246, 3) := by decide +kernel
theorem dX10_hope_43 : decode cX10_hope 43 = .ok (.lreturn, 1) := by decide +kernel
theorem dX10_waysToTake_0 : decode cX10_waysToTake 0 = .ok (.lconst 1, 1) := by decide +kernel
theorem dX10_waysToTake_1 : decode cX10_waysToTake 1 = .ok (.lstore_n 2, 1) := by decide +kernel
theorem dX10_waysToTake_2 : decode cX10_waysToTake 2 = .ok (.iconst 0, 1) := by decide +kernel
theorem dX10_waysToTake_3 : decode cX10_waysToTake 3 = .ok (.istore 4, 2) := by decide +kernel
theorem dX10_waysToTake_5 : decode cX10_waysToTake 5 = .ok (.iload 4, 2) := by decide +kernel
theorem dX10_waysToTake_7 : decode cX10_waysToTake 7 = .ok (.iload_n 1, 1) := by decide +kernel
theorem dX10_waysToTake_8 : decode cX10_waysToTake 8 = .ok (.if_icmp .ge 23, 3) := by decide +kernel
theorem dX10_waysToTake_11 : decode cX10_waysToTake 11 = .ok (.lload_n 2, 1) := by decide +kernel
theorem dX10_waysToTake_12 : decode cX10_waysToTake 12 = .ok (.iload_n 0, 1) := by decide +kernel
theorem dX10_waysToTake_13 : decode cX10_waysToTake 13 = .ok (.iload 4, 2) := by decide +kernel
theorem dX10_waysToTake_15 : decode cX10_waysToTake 15 = .ok (.isub, 1) := by decide +kernel
theorem dX10_waysToTake_16 : decode cX10_waysToTake 16 = .ok (.i2l, 1) := by decide +kernel
theorem dX10_waysToTake_17 : decode cX10_waysToTake 17 = .ok (.lmul, 1) := by decide +kernel
theorem dX10_waysToTake_18 : decode cX10_waysToTake 18 = .ok (.iload 4, 2) := by decide +kernel
theorem dX10_waysToTake_20 : decode cX10_waysToTake 20 = .ok (.iconst 1, 1) := by decide +kernel
theorem dX10_waysToTake_21 : decode cX10_waysToTake 21 = .ok (.iadd, 1) := by decide +kernel
theorem dX10_waysToTake_22 : decode cX10_waysToTake 22 = .ok (.i2l, 1) := by decide +kernel
theorem dX10_waysToTake_23 : decode cX10_waysToTake 23 = .ok (.ldiv, 1) := by decide +kernel
theorem dX10_waysToTake_24 : decode cX10_waysToTake 24 = .ok (.lstore_n 2, 1) := by decide +kernel
theorem dX10_waysToTake_25 : decode cX10_waysToTake 25 = .ok (.iinc 4 1, 3) := by decide +kernel
theorem dX10_waysToTake_28 : decode cX10_waysToTake 28 = .ok (.goto (-23), 3) := by decide +kernel
theorem dX10_waysToTake_31 : decode cX10_waysToTake 31 = .ok (.lload_n 2, 1) := by decide +kernel
theorem dX10_waysToTake_32 : decode cX10_waysToTake 32 = .ok (.lreturn, 1) := by decide +kernel
set_option maxRecDepth 20000 in
theorem ggX10_partOf_X10_commonDivisor : GoodIn wsX10_partOf wsX10_commonDivisor := goodIn_r _ [4] (by decide +kernel) (by decide +kernel)
set_option maxRecDepth 20000 in
theorem gX10_partOf_X10_commonDivisor : GoodIn wsX10_partOf (va_wsS RX10 250 yX10_commonDivisor wsX10_commonDivisor) := goodIn_app (goodIn_of _ (by decide +kernel)) ggX10_partOf_X10_commonDivisor
theorem dX10_partOf_0 : decode cX10_partOf 0 = .ok (.lload_n 0, 1) := by decide +kernel
theorem dX10_partOf_1 : decode cX10_partOf 1 = .ok (.lload_n 2, 1) := by decide +kernel
theorem dX10_partOf_2 : decode cX10_partOf 2 = .ok (.invokestatic 250, 3) := by decide +kernel
theorem dX10_partOf_5 : decode cX10_partOf 5 = .ok (.lstore 5, 2) := by decide +kernel
theorem dX10_partOf_7 : decode cX10_partOf 7 = .ok (.lload 5, 2) := by decide +kernel
theorem dX10_partOf_9 : decode cX10_partOf 9 = .ok (.lconst 0, 1) := by decide +kernel
theorem dX10_partOf_10 : decode cX10_partOf 10 = .ok (.lcmp, 1) := by decide +kernel
theorem dX10_partOf_11 : decode cX10_partOf 11 = .ok (.ifCond .ne 5, 3) := by decide +kernel
theorem dX10_partOf_14 : decode cX10_partOf 14 = .ok (.lconst 0, 1) := by decide +kernel
theorem dX10_partOf_15 : decode cX10_partOf 15 = .ok (.lreturn, 1) := by decide +kernel
theorem dX10_partOf_16 : decode cX10_partOf 16 = .ok (.iload 4, 2) := by decide +kernel
theorem dX10_partOf_18 : decode cX10_partOf 18 = .ok (.ifCond .ne 7, 3) := by decide +kernel
theorem dX10_partOf_21 : decode cX10_partOf 21 = .ok (.lload_n 0, 1) := by decide +kernel
theorem dX10_partOf_22 : decode cX10_partOf 22 = .ok (.goto 4, 3) := by decide +kernel
theorem dX10_partOf_25 : decode cX10_partOf 25 = .ok (.lload_n 2, 1) := by decide +kernel
theorem dX10_partOf_26 : decode cX10_partOf 26 = .ok (.lload 5, 2) := by decide +kernel
theorem dX10_partOf_28 : decode cX10_partOf 28 = .ok (.ldiv, 1) := by decide +kernel
theorem dX10_partOf_29 : decode cX10_partOf 29 = .ok (.lreturn, 1) := by decide +kernel
theorem dX10_commonDivisor_0 : decode cX10_commonDivisor 0 = .ok (.lload_n 0, 1) := by decide +kernel
theorem dX10_commonDivisor_1 : decode cX10_commonDivisor 1 = .ok (.lstore 4, 2) := by decide +kernel
theorem dX10_commonDivisor_3 : decode cX10_commonDivisor 3 = .ok (.lload_n 2, 1) := by decide +kernel
theorem dX10_commonDivisor_4 : decode cX10_commonDivisor 4 = .ok (.lstore 6, 2) := by decide +kernel
theorem dX10_commonDivisor_6 : decode cX10_commonDivisor 6 = .ok (.iconst 0, 1) := by decide +kernel
theorem dX10_commonDivisor_7 : decode cX10_commonDivisor 7 = .ok (.istore 8, 2) := by decide +kernel
theorem dX10_commonDivisor_9 : decode cX10_commonDivisor 9 = .ok (.iload 8, 2) := by decide +kernel
theorem dX10_commonDivisor_11 : decode cX10_commonDivisor 11 = .ok (.bipush 100, 2) := by decide +kernel
theorem dX10_commonDivisor_13 : decode cX10_commonDivisor 13 = .ok (.if_icmp .ge 31, 3) := by decide +kernel
theorem dX10_commonDivisor_16 : decode cX10_commonDivisor 16 = .ok (.lload 6, 2) := by decide +kernel
theorem dX10_commonDivisor_18 : decode cX10_commonDivisor 18 = .ok (.lconst 0, 1) := by decide +kernel
theorem dX10_commonDivisor_19 : decode cX10_commonDivisor 19 = .ok (.lcmp, 1) := by decide +kernel
theorem dX10_commonDivisor_20 : decode cX10_commonDivisor 20 = .ok (.ifCond .eq 24, 3) := by decide +kernel
theorem dX10_commonDivisor_23 : decode cX10_commonDivisor 23 = .ok (.lload 4, 2) := by decide +kernel
theorem dX10_commonDivisor_25 : decode cX10_commonDivisor 25 = .ok (.lload 6, 2) := by decide +kernel
theorem dX10_commonDivisor_27 : decode cX10_commonDivisor 27 = .ok (.lrem, 1) := by decide +kernel
theorem dX10_commonDivisor_28 : decode cX10_commonDivisor 28 = .ok (.lstore 9, 2) := by decide +kernel
theorem dX10_commonDivisor_30 : decode cX10_commonDivisor 30 = .ok (.lload 6, 2) := by decide +kernel
theorem dX10_commonDivisor_32 : decode cX10_commonDivisor 32 = .ok (.lstore 4, 2) := by decide +kernel
theorem dX10_commonDivisor_34 : decode cX10_commonDivisor 34 = .ok (.lload 9, 2) := by decide +kernel
theorem dX10_commonDivisor_36 : decode cX10_commonDivisor 36 = .ok (.lstore 6, 2) := by decide +kernel
theorem dX10_commonDivisor_38 : decode cX10_commonDivisor 38 = .ok (.iinc 8 1, 3) := by decide +kernel
theorem dX10_commonDivisor_41 : decode cX10_commonDivisor 41 = .ok (.goto (-32), 3) := by decide +kernel
theorem dX10_commonDivisor_44 : decode cX10_commonDivisor 44 = .ok (.lload 4, 2) := by decide +kernel
theorem dX10_commonDivisor_46 : decode cX10_commonDivisor 46 = .ok (.lreturn, 1) := by decide +kernel
set_option maxRecDepth 20000 in
theorem ggX10_prove_X8_has : GoodIn wsX10_prove wsX8_has := goodIn_r _ [9, 10, 208, 209, 210, 211, 212, 213, 214, 215, 216, 217, 218] (by decide +kernel) (by decide +kernel)
set_option maxRecDepth 20000 in
theorem gX10_prove_X8_has : GoodIn wsX10_prove (wsV RX10 135 RX8 yX8_has wsX8_has) := goodIn_app (goodIn_of _ (by decide +kernel)) ggX10_prove_X8_has
set_option maxRecDepth 20000 in
theorem ggX10_prove_X10_isOutside : GoodIn wsX10_prove wsX10_isOutside := goodIn_r _ [14] (by decide +kernel) (by decide +kernel)
set_option maxRecDepth 20000 in
theorem gX10_prove_X10_isOutside : GoodIn wsX10_prove (va_wsS RX10 87 yX10_isOutside wsX10_isOutside) := goodIn_app (goodIn_of _ (by decide +kernel)) ggX10_prove_X10_isOutside
set_option maxRecDepth 20000 in
theorem ggX10_prove_X8_copyFrom : GoodIn wsX10_prove wsX8_copyFrom := goodIn_r _ [18, 19, 20, 21, 10, 22, 23, 24, 25, 26, 8, 27, 28, 29, 30, 31, 208, 209, 210, 211, 212, 213, 214, 215, 216, 217, 218] (by decide +kernel) (by decide +kernel)
set_option maxRecDepth 20000 in
theorem gX10_prove_X8_copyFrom : GoodIn wsX10_prove (wsV RX10 105 RX8 yX8_copyFrom wsX8_copyFrom) := goodIn_app (goodIn_of _ (by decide +kernel)) ggX10_prove_X8_copyFrom
set_option maxRecDepth 20000 in
theorem ggX10_prove_X8_goStep : GoodIn wsX10_prove wsX8_goStep := goodIn_r _ [35, 10, 22, 36, 37, 38, 8, 39, 40, 28, 29, 21, 19, 31, 41, 42, 43, 44, 20, 30, 45, 46, 47, 48, 49, 50, 51, 52, 13, 53, 54, 55, 56, 57, 58, 59, 60, 61, 62, 63, 64, 65, 66, 67, 68, 69, 70, 71, 72, 73, 74, 75, 76, 77, 78, 79, 80, 81, 82, 83, 84, 85, 86, 87, 88, 89, 90, 91, 92, 93, 94, 95, 96, 97, 98, 99, 100, 101, 102, 103, 104, 105, 106, 107, 108, 109, 110, 111, 112, 113, 114, 115, 116, 117, 118, 119, 120, 121, 122, 123, 124, 125, 126, 127, 128, 129, 130, 131, 132, 133, 134, 135, 136, 137, 138, 139, 140, 141, 142, 143, 144, 145, 146, 147, 148, 149, 150, 151, 152, 153, 154, 155, 156, 157, 158, 159, 160, 161, 162, 163, 164, 165, 166, 167, 168, 169, 170, 171, 172, 173, 174, 175, 176, 177, 178, 179, 180, 181, 182, 183, 184, 185, 186, 208, 209, 210, 211, 212, 213, 214, 215, 216, 217, 218] (by decide +kernel) (by decide +kernel)
set_option maxRecDepth 20000 in
theorem gX10_prove_X8_goStep : GoodIn wsX10_prove (wsV RX10 181 RX8 yX8_goStep wsX8_goStep) := goodIn_app (goodIn_of _ (by decide +kernel)) ggX10_prove_X8_goStep
set_option maxRecDepth 20000 in
theorem ggX10_prove_X8_partOfRow : GoodIn wsX10_prove wsX8_partOfRow := goodIn_r _ [190, 30, 29, 191, 192, 193, 8, 194, 10, 48, 49, 50, 51, 208, 209, 210, 211, 212, 213, 214, 215, 216, 217, 218] (by decide +kernel) (by decide +kernel)
set_option maxRecDepth 20000 in
theorem gX10_prove_X8_partOfRow : GoodIn wsX10_prove (wsV RX10 254 RX8 yX8_partOfRow wsX8_partOfRow) := goodIn_app (goodIn_of _ (by decide +kernel)) ggX10_prove_X8_partOfRow
theorem dX10_prove_0 : decode cX10_prove 0 = .ok (.aload_n 0, 1) := by decide +kernel
theorem dX10_prove_1 : decode cX10_prove 1 = .ok (.getfield 36, 3) := by decide +kernel
theorem dX10_prove_4 : decode cX10_prove 4 = .ok (.iload_n 1, 1) := by decide +kernel
theorem dX10_prove_5 : decode cX10_prove 5 = .ok (.invokevirtual 135, 3) := by decide +kernel
theorem dX10_prove_8 : decode cX10_prove 8 = .ok (.ifCond .eq 13, 3) := by decide +kernel
theorem dX10_prove_11 : decode cX10_prove 11 = .ok (.iload_n 2, 1) := by decide +kernel
theorem dX10_prove_12 : decode cX10_prove 12 = .ok (.iconst 1, 1) := by decide +kernel
theorem dX10_prove_13 : decode cX10_prove 13 = .ok (.bipush 10, 2) := by decide +kernel
theorem dX10_prove_15 : decode cX10_prove 15 = .ok (.invokestatic 87, 3) := by decide +kernel
theorem dX10_prove_18 : decode cX10_prove 18 = .ok (.ifCond .eq 5, 3) := by decide +kernel
theorem dX10_prove_21 : decode cX10_prove 21 = .ok (.iconst (-1), 1) := by decide +kernel
theorem dX10_prove_22 : decode cX10_prove 22 = .ok (.ireturn, 1) := by decide +kernel
theorem dX10_prove_23 : decode cX10_prove 23 = .ok (.aload_n 0, 1) := by decide +kernel
theorem dX10_prove_24 : decode cX10_prove 24 = .ok (.getfield 43, 3) := by decide +kernel
theorem dX10_prove_27 : decode cX10_prove 27 = .ok (.aload_n 0, 1) := by decide +kernel
theorem dX10_prove_28 : decode cX10_prove 28 = .ok (.getfield 36, 3) := by decide +kernel
theorem dX10_prove_31 : decode cX10_prove 31 = .ok (.invokevirtual 105, 3) := by decide +kernel
theorem dX10_prove_34 : decode cX10_prove 34 = .ok (.iconst 0, 1) := by decide +kernel
theorem dX10_prove_35 : decode cX10_prove 35 = .ok (.istore_n 3, 1) := by decide +kernel
theorem dX10_prove_36 : decode cX10_prove 36 = .ok (.iload_n 3, 1) := by decide +kernel
theorem dX10_prove_37 : decode cX10_prove 37 = .ok (.iload_n 2, 1) := by decide +kernel
theorem dX10_prove_38 : decode cX10_prove 38 = .ok (.if_icmp .ge 52, 3) := by decide +kernel
theorem dX10_prove_41 : decode cX10_prove 41 = .ok (.aload_n 0, 1) := by decide +kernel
theorem dX10_prove_42 : decode cX10_prove 42 = .ok (.getfield 43, 3) := by decide +kernel
theorem dX10_prove_45 : decode cX10_prove 45 = .ok (.invokevirtual 181, 3) := by decide +kernel
theorem dX10_prove_48 : decode cX10_prove 48 = .ok (.iconst 0, 1) := by decide +kernel
theorem dX10_prove_49 : decode cX10_prove 49 = .ok (.istore 4, 2) := by decide +kernel
theorem dX10_prove_51 : decode cX10_prove 51 = .ok (.iload 4, 2) := by decide +kernel
theorem dX10_prove_53 : decode cX10_prove 53 = .ok (.iconst 3, 1) := by decide +kernel
theorem dX10_prove_54 : decode cX10_prove 54 = .ok (.if_icmp .ge 30, 3) := by decide +kernel
theorem dX10_prove_57 : decode cX10_prove 57 = .ok (.aload_n 0, 1) := by decide +kernel
theorem dX10_prove_58 : decode cX10_prove 58 = .ok (.getfield 57, 3) := by decide +kernel
theorem dX10_prove_61 : decode cX10_prove 61 = .ok (.iload_n 3, 1) := by decide +kernel
theorem dX10_prove_62 : decode cX10_prove 62 = .ok (.iconst 3, 1) := by decide +kernel
theorem dX10_prove_63 : decode cX10_prove 63 = .ok (.imul, 1) := by decide +kernel
theorem dX10_prove_64 : decode cX10_prove 64 = .ok (.iload 4, 2) := by decide +kernel
theorem dX10_prove_66 : decode cX10_prove 66 = .ok (.iadd, 1) := by decide +kernel
theorem dX10_prove_67 : decode cX10_prove 67 = .ok (.aload_n 0, 1) := by decide +kernel
theorem dX10_prove_68 : decode cX10_prove 68 = .ok (.getfield 43, 3) := by decide +kernel
theorem dX10_prove_71 : decode cX10_prove 71 = .ok (.iload_n 1, 1) := by decide +kernel
theorem dX10_prove_72 : decode cX10_prove 72 = .ok (.iload 4, 2) := by decide +kernel
theorem dX10_prove_74 : decode cX10_prove 74 = .ok (.invokevirtual 254, 3) := by decide +kernel
theorem dX10_prove_77 : decode cX10_prove 77 = .ok (.iastore, 1) := by decide +kernel
theorem dX10_prove_78 : decode cX10_prove 78 = .ok (.iinc 4 1, 3) := by decide +kernel
theorem dX10_prove_81 : decode cX10_prove 81 = .ok (.goto (-30), 3) := by decide +kernel
theorem dX10_prove_84 : decode cX10_prove 84 = .ok (.iinc 3 1, 3) := by decide +kernel
theorem dX10_prove_87 : decode cX10_prove 87 = .ok (.goto (-51), 3) := by decide +kernel
theorem dX10_prove_90 : decode cX10_prove 90 = .ok (.aload_n 0, 1) := by decide +kernel
theorem dX10_prove_91 : decode cX10_prove 91 = .ok (.iload_n 2, 1) := by decide +kernel
theorem dX10_prove_92 : decode cX10_prove 92 = .ok (.putfield 61, 3) := by decide +kernel
theorem dX10_prove_95 : decode cX10_prove 95 = .ok (.iload_n 2, 1) := by decide +kernel
theorem dX10_prove_96 : decode cX10_prove 96 = .ok (.ireturn, 1) := by decide +kernel
set_option maxRecDepth 20000 in
theorem ggX10_row_X10_isNoPartOfRow : GoodIn wsX10_row wsX10_isNoPartOfRow := goodIn_r _ [6, 7, 8, 9, 5, 10, 11, 12, 13, 14, 15, 16, 17, 18, 19, 20, 21, 22, 23] (by decide +kernel) (by decide +kernel)
set_option maxRecDepth 20000 in
theorem gX10_row_X10_isNoPartOfRow : GoodIn wsX10_row (wsV RX10 257 RX10 yX10_isNoPartOfRow wsX10_isNoPartOfRow) := goodIn_app (goodIn_of _ (by decide +kernel)) ggX10_row_X10_isNoPartOfRow
theorem dX10_row_0 : decode cX10_row 0 = .ok (.aload_n 0, 1) := by decide +kernel
theorem dX10_row_1 : decode cX10_row 1 = .ok (.iload_n 1, 1) := by decide +kernel
theorem dX10_row_2 : decode cX10_row 2 = .ok (.iload_n 2, 1) := by decide +kernel
theorem dX10_row_3 : decode cX10_row 3 = .ok (.invokevirtual 257, 3) := by decide +kernel
theorem dX10_row_6 : decode cX10_row 6 = .ok (.ifCond .eq 8, 3) := by decide +kernel
theorem dX10_row_9 : decode cX10_row 9 = .ok (.bipush (-9), 2) := by decide +kernel
theorem dX10_row_11 : decode cX10_row 11 = .ok (.goto 13, 3) := by decide +kernel
theorem dX10_row_14 : decode cX10_row 14 = .ok (.aload_n 0, 1) := by decide +kernel
theorem dX10_row_15 : decode cX10_row 15 = .ok (.getfield 57, 3) := by decide +kernel
theorem dX10_row_18 : decode cX10_row 18 = .ok (.iload_n 1, 1) := by decide +kernel
theorem dX10_row_19 : decode cX10_row 19 = .ok (.iconst 3, 1) := by decide +kernel
theorem dX10_row_20 : decode cX10_row 20 = .ok (.imul, 1) := by decide +kernel
theorem dX10_row_21 : decode cX10_row 21 = .ok (.iload_n 2, 1) := by decide +kernel
theorem dX10_row_22 : decode cX10_row 22 = .ok (.iadd, 1) := by decide +kernel
theorem dX10_row_23 : decode cX10_row 23 = .ok (.iaload, 1) := by decide +kernel
theorem dX10_row_24 : decode cX10_row 24 = .ok (.ireturn, 1) := by decide +kernel
set_option maxRecDepth 20000 in
theorem ggX10_alterRow_X10_isNoPartOfRow : GoodIn wsX10_alterRow wsX10_isNoPartOfRow := goodIn_r _ [6, 7, 8, 9, 5, 10, 11, 12, 13, 14, 15, 16, 17, 18, 19, 20, 21, 22, 23] (by decide +kernel) (by decide +kernel)
set_option maxRecDepth 20000 in
theorem gX10_alterRow_X10_isNoPartOfRow : GoodIn wsX10_alterRow (wsV RX10 257 RX10 yX10_isNoPartOfRow wsX10_isNoPartOfRow) := goodIn_app (goodIn_of _ (by decide +kernel)) ggX10_alterRow_X10_isNoPartOfRow
theorem dX10_alterRow_0 : decode cX10_alterRow 0 = .ok (.aload_n 0, 1) := by decide +kernel
theorem dX10_alterRow_1 : decode cX10_alterRow 1 = .ok (.iload_n 1, 1) := by decide +kernel
theorem dX10_alterRow_2 : decode cX10_alterRow 2 = .ok (.iload_n 2, 1) := by decide +kernel
theorem dX10_alterRow_3 : decode cX10_alterRow 3 = .ok (.invokevirtual 257, 3) := by decide +kernel
theorem dX10_alterRow_6 : decode cX10_alterRow 6 = .ok (.ifCond .eq 6, 3) := by decide +kernel
theorem dX10_alterRow_9 : decode cX10_alterRow 9 = .ok (.bipush (-9), 2) := by decide +kernel
theorem dX10_alterRow_11 : decode cX10_alterRow 11 = .ok (.ireturn, 1) := by decide +kernel
theorem dX10_alterRow_12 : decode cX10_alterRow 12 = .ok (.aload_n 0, 1) := by decide +kernel
theorem dX10_alterRow_13 : decode cX10_alterRow 13 = .ok (.getfield 57, 3) := by decide +kernel
theorem dX10_alterRow_16 : decode cX10_alterRow 16 = .ok (.iload_n 1, 1) := by decide +kernel
theorem dX10_alterRow_17 : decode cX10_alterRow 17 = .ok (.iconst 3, 1) := by decide +kernel
theorem dX10_alterRow_18 : decode cX10_alterRow 18 = .ok (.imul, 1) := by decide +kernel
theorem dX10_alterRow_19 : decode cX10_alterRow 19 = .ok (.iload_n 2, 1) := by decide +kernel
theorem dX10_alterRow_20 : decode cX10_alterRow 20 = .ok (.iadd, 1) := by decide +kernel
theorem dX10_alterRow_21 : decode cX10_alterRow 21 = .ok (.iaload, 1) := by decide +kernel
theorem dX10_alterRow_22 : decode cX10_alterRow 22 = .ok (.istore 4, 2) := by decide +kernel
theorem dX10_alterRow_24 : decode cX10_alterRow 24 = .ok (.aload_n 0, 1) := by decide +kernel
theorem dX10_alterRow_25 : decode cX10_alterRow 25 = .ok (.getfield 57, 3) := by decide +kernel
theorem dX10_alterRow_28 : decode cX10_alterRow 28 = .ok (.iload_n 1, 1) := by decide +kernel
theorem dX10_alterRow_29 : decode cX10_alterRow 29 = .ok (.iconst 3, 1) := by decide +kernel
theorem dX10_alterRow_30 : decode cX10_alterRow 30 = .ok (.imul, 1) := by decide +kernel
theorem dX10_alterRow_31 : decode cX10_alterRow 31 = .ok (.iload_n 2, 1) := by decide +kernel
theorem dX10_alterRow_32 : decode cX10_alterRow 32 = .ok (.iadd, 1) := by decide +kernel
theorem dX10_alterRow_33 : decode cX10_alterRow 33 = .ok (.iload_n 3, 1) := by decide +kernel
theorem dX10_alterRow_34 : decode cX10_alterRow 34 = .ok (.iastore, 1) := by decide +kernel
theorem dX10_alterRow_35 : decode cX10_alterRow 35 = .ok (.iload 4, 2) := by decide +kernel
theorem dX10_alterRow_37 : decode cX10_alterRow 37 = .ok (.ireturn, 1) := by decide +kernel
set_option maxRecDepth 20000 in
theorem ggX10_judge_X8_has : GoodIn wsX10_judge wsX8_has := goodIn_r _ [9, 10, 205, 206, 207, 208, 209, 210, 211, 212, 213, 214, 215] (by decide +kernel) (by decide +kernel)
set_option maxRecDepth 20000 in
theorem gX10_judge_X8_has : GoodIn wsX10_judge (wsV RX10 135 RX8 yX8_has wsX8_has) := goodIn_app (goodIn_of _ (by decide +kernel)) ggX10_judge_X8_has
set_option maxRecDepth 20000 in
theorem ggX10_judge_X8_copyFrom : GoodIn wsX10_judge wsX8_copyFrom := goodIn_r _ [14, 15, 16, 17, 10, 18, 19, 20, 21, 22, 8, 23, 24, 25, 26, 27, 205, 206, 207, 208, 209, 210, 211, 212, 213, 214, 215] (by decide +kernel) (by decide +kernel)
set_option maxRecDepth 20000 in
theorem gX10_judge_X8_copyFrom : GoodIn wsX10_judge (wsV RX10 105 RX8 yX8_copyFrom wsX8_copyFrom) := goodIn_app (goodIn_of _ (by decide +kernel)) ggX10_judge_X8_copyFrom
set_option maxRecDepth 20000 in
theorem ggX10_judge_X8_goStep : GoodIn wsX10_judge wsX8_goStep := goodIn_r _ [31, 10, 18, 32, 33, 34, 8, 35, 36, 24, 25, 17, 15, 27, 37, 38, 39, 40, 16, 26, 41, 42, 43, 44, 45, 46, 47, 48, 49, 50, 51, 52, 53, 54, 55, 56, 57, 58, 59, 60, 61, 62, 63, 64, 65, 66, 67, 68, 69, 70, 71, 72, 73, 74, 75, 76, 77, 78, 79, 80, 81, 82, 83, 84, 85, 86, 87, 88, 89, 90, 91, 92, 93, 94, 95, 96, 97, 98, 99, 100, 101, 102, 103, 104, 105, 106, 107, 108, 109, 110, 111, 112, 113, 114, 115, 116, 117, 118, 119, 120, 121, 122, 123, 124, 125, 126, 127, 128, 129, 130, 131, 132, 133, 134, 135, 136, 137, 138, 139, 140, 141, 142, 143, 144, 145, 146, 147, 148, 149, 150, 151, 152, 153, 154, 155, 156, 157, 158, 159, 160, 161, 162, 163, 164, 165, 166, 167, 168, 169, 170, 171, 172, 173, 174, 175, 176, 177, 178, 179, 180, 181, 182, 183, 205, 206, 207, 208, 209, 210, 211, 212, 213, 214, 215] (by decide +kernel) (by decide +kernel)
set_option maxRecDepth 20000 in
theorem gX10_judge_X8_goStep : GoodIn wsX10_judge (wsV RX10 181 RX8 yX8_goStep wsX8_goStep) := goodIn_app (goodIn_of _ (by decide +kernel)) ggX10_judge_X8_goStep
set_option maxRecDepth 20000 in
theorem ggX10_judge_X8_partOfRow : GoodIn wsX10_judge wsX8_partOfRow := goodIn_r _ [187, 26, 25, 188, 189, 190, 8, 191, 10, 44, 45, 46, 47, 205, 206, 207, 208, 209, 210, 211, 212, 213, 214, 215] (by decide +kernel) (by decide +kernel)
set_option maxRecDepth 20000 in
theorem gX10_judge_X8_partOfRow : GoodIn wsX10_judge (wsV RX10 254 RX8 yX8_partOfRow wsX8_partOfRow) := goodIn_app (goodIn_of _ (by decide +kernel)) ggX10_judge_X8_partOfRow
theorem dX10_judge_0 : decode cX10_judge 0 = .ok (.aload_n 0, 1) := by decide +kernel
theorem dX10_judge_1 : decode cX10_judge 1 = .ok (.getfield 36, 3) := by decide +kernel
theorem dX10_judge_4 : decode cX10_judge 4 = .ok (.iload_n 1, 1) := by decide +kernel
theorem dX10_judge_5 : decode cX10_judge 5 = .ok (.invokevirtual 135, 3) := by decide +kernel
theorem dX10_judge_8 : decode cX10_judge 8 = .ok (.ifCond .ne 5, 3) := by decide +kernel
theorem dX10_judge_11 : decode cX10_judge 11 = .ok (.iconst (-1), 1) := by decide +kernel
theorem dX10_judge_12 : decode cX10_judge 12 = .ok (.ireturn, 1) := by decide +kernel
theorem dX10_judge_13 : decode cX10_judge 13 = .ok (.aload_n 0, 1) := by decide +kernel
theorem dX10_judge_14 : decode cX10_judge 14 = .ok (.getfield 43, 3) := by decide +kernel
theorem dX10_judge_17 : decode cX10_judge 17 = .ok (.aload_n 0, 1) := by decide +kernel
theorem dX10_judge_18 : decode cX10_judge 18 = .ok (.getfield 36, 3) := by decide +kernel
theorem dX10_judge_21 : decode cX10_judge 21 = .ok (.invokevirtual 105, 3) := by decide +kernel
theorem dX10_judge_24 : decode cX10_judge 24 = .ok (.iconst 0, 1) := by decide +kernel
theorem dX10_judge_25 : decode cX10_judge 25 = .ok (.istore_n 2, 1) := by decide +kernel
theorem dX10_judge_26 : decode cX10_judge 26 = .ok (.iload_n 2, 1) := by decide +kernel
theorem dX10_judge_27 : decode cX10_judge 27 = .ok (.aload_n 0, 1) := by decide +kernel
theorem dX10_judge_28 : decode cX10_judge 28 = .ok (.getfield 61, 3) := by decide +kernel
theorem dX10_judge_31 : decode cX10_judge 31 = .ok (.if_icmp .ge 55, 3) := by decide +kernel
theorem dX10_judge_34 : decode cX10_judge 34 = .ok (.aload_n 0, 1) := by decide +kernel
theorem dX10_judge_35 : decode cX10_judge 35 = .ok (.getfield 43, 3) := by decide +kernel
theorem dX10_judge_38 : decode cX10_judge 38 = .ok (.invokevirtual 181, 3) := by decide +kernel
theorem dX10_judge_41 : decode cX10_judge 41 = .ok (.iconst 0, 1) := by decide +kernel
theorem dX10_judge_42 : decode cX10_judge 42 = .ok (.istore_n 3, 1) := by decide +kernel
theorem dX10_judge_43 : decode cX10_judge 43 = .ok (.iload_n 3, 1) := by decide +kernel
theorem dX10_judge_44 : decode cX10_judge 44 = .ok (.iconst 3, 1) := by decide +kernel
theorem dX10_judge_45 : decode cX10_judge 45 = .ok (.if_icmp .ge 35, 3) := by decide +kernel
theorem dX10_judge_48 : decode cX10_judge 48 = .ok (.aload_n 0, 1) := by decide +kernel
theorem dX10_judge_49 : decode cX10_judge 49 = .ok (.getfield 57, 3) := by decide +kernel
theorem dX10_judge_52 : decode cX10_judge 52 = .ok (.iload_n 2, 1) := by decide +kernel
theorem dX10_judge_53 : decode cX10_judge 53 = .ok (.iconst 3, 1) := by decide +kernel
theorem dX10_judge_54 : decode cX10_judge 54 = .ok (.imul, 1) := by decide +kernel
theorem dX10_judge_55 : decode cX10_judge 55 = .ok (.iload_n 3, 1) := by decide +kernel
theorem dX10_judge_56 : decode cX10_judge 56 = .ok (.iadd, 1) := by decide +kernel
theorem dX10_judge_57 : decode cX10_judge 57 = .ok (.iaload, 1) := by decide +kernel
theorem dX10_judge_58 : decode cX10_judge 58 = .ok (.aload_n 0, 1) := by decide +kernel
theorem dX10_judge_59 : decode cX10_judge 59 = .ok (.getfield 43, 3) := by decide +kernel
theorem dX10_judge_62 : decode cX10_judge 62 = .ok (.iload_n 1, 1) := by decide +kernel
theorem dX10_judge_63 : decode cX10_judge 63 = .ok (.iload_n 3, 1) := by decide +kernel
theorem dX10_judge_64 : decode cX10_judge 64 = .ok (.invokevirtual 254, 3) := by decide +kernel
theorem dX10_judge_67 : decode cX10_judge 67 = .ok (.if_icmp .eq 7, 3) := by decide +kernel
theorem dX10_judge_70 : decode cX10_judge 70 = .ok (.iload_n 2, 1) := by decide +kernel
theorem dX10_judge_71 : decode cX10_judge 71 = .ok (.iconst 1, 1) := by decide +kernel
theorem dX10_judge_72 : decode cX10_judge 72 = .ok (.iadd, 1) := by decide +kernel
theorem dX10_judge_73 : decode cX10_judge 73 = .ok (.ireturn, 1) := by decide +kernel
theorem dX10_judge_74 : decode cX10_judge 74 = .ok (.iinc 3 1, 3) := by decide +kernel
theorem dX10_judge_77 : decode cX10_judge 77 = .ok (.goto (-34), 3) := by decide +kernel
theorem dX10_judge_80 : decode cX10_judge 80 = .ok (.iinc 2 1, 3) := by decide +kernel
theorem dX10_judge_83 : decode cX10_judge 83 = .ok (.goto (-57), 3) := by decide +kernel
theorem dX10_judge_86 : decode cX10_judge 86 = .ok (.iconst 0, 1) := by decide +kernel
theorem dX10_judge_87 : decode cX10_judge 87 = .ok (.ireturn, 1) := by decide +kernel
set_option maxRecDepth 20000 in
theorem ggX10_isNoPartOfRow_X10_isOutside : GoodIn wsX10_isNoPartOfRow wsX10_isOutside := goodIn_r _ [5] (by decide +kernel) (by decide +kernel)
set_option maxRecDepth 20000 in
theorem gX10_isNoPartOfRow_X10_isOutside : GoodIn wsX10_isNoPartOfRow (va_wsS RX10 87 yX10_isOutside wsX10_isOutside) := goodIn_app (goodIn_of _ (by decide +kernel)) ggX10_isNoPartOfRow_X10_isOutside
theorem dX10_isNoPartOfRow_0 : decode cX10_isNoPartOfRow 0 = .ok (.iload_n 1, 1) := by decide +kernel
theorem dX10_isNoPartOfRow_1 : decode cX10_isNoPartOfRow 1 = .ok (.iconst 0, 1) := by decide +kernel
theorem dX10_isNoPartOfRow_2 : decode cX10_isNoPartOfRow 2 = .ok (.aload_n 0, 1) := by decide +kernel
theorem dX10_isNoPartOfRow_3 : decode cX10_isNoPartOfRow 3 = .ok (.getfield 61, 3) := by decide +kernel
theorem dX10_isNoPartOfRow_6 : decode cX10_isNoPartOfRow 6 = .ok (.iconst 1, 1) := by decide +kernel
theorem dX10_isNoPartOfRow_7 : decode cX10_isNoPartOfRow 7 = .ok (.isub, 1) := by decide +kernel
theorem dX10_isNoPartOfRow_8 : decode cX10_isNoPartOfRow 8 = .ok (.invokestatic 87, 3) := by decide +kernel
theorem dX10_isNoPartOfRow_11 : decode cX10_isNoPartOfRow 11 = .ok (.ifCond .ne 12, 3) := by decide +kernel
theorem dX10_isNoPartOfRow_14 : decode cX10_isNoPartOfRow 14 = .ok (.iload_n 2, 1) := by decide +kernel
theorem dX10_isNoPartOfRow_15 : decode cX10_isNoPartOfRow 15 = .ok (.iconst 0, 1) := by decide +kernel
theorem dX10_isNoPartOfRow_16 : decode cX10_isNoPartOfRow 16 = .ok (.iconst 2, 1) := by decide +kernel
theorem dX10_isNoPartOfRow_17 : decode cX10_isNoPartOfRow 17 = .ok (.invokestatic 87, 3) := by decide +kernel
theorem dX10_isNoPartOfRow_20 : decode cX10_isNoPartOfRow 20 = .ok (.ifCond .eq 7, 3) := by decide +kernel
theorem dX10_isNoPartOfRow_23 : decode cX10_isNoPartOfRow 23 = .ok (.iconst 1, 1) := by decide +kernel
theorem dX10_isNoPartOfRow_24 : decode cX10_isNoPartOfRow 24 = .ok (.goto 4, 3) := by decide +kernel
theorem dX10_isNoPartOfRow_27 : decode cX10_isNoPartOfRow 27 = .ok (.iconst 0, 1) := by decide +kernel
theorem dX10_isNoPartOfRow_28 : decode cX10_isNoPartOfRow 28 = .ok (.ireturn, 1) := by decide +kernel
set_option maxRecDepth 20000 in
theorem ggX10_minds_X10_isNoSheet : GoodIn wsX10_minds wsX10_isNoSheet := goodIn_r _ [10, 11, 12, 9, 13] (by decide +kernel) (by decide +kernel)
set_option maxRecDepth 20000 in
theorem gX10_minds_X10_isNoSheet : GoodIn wsX10_minds (va_wsS RX10 225 yX10_isNoSheet wsX10_isNoSheet) := goodIn_app (goodIn_of _ (by decide +kernel)) ggX10_minds_X10_isNoSheet
set_option maxRecDepth 20000 in
theorem ggX10_minds_X8_has : GoodIn wsX10_minds wsX8_has := goodIn_r _ [18, 19, 43, 44, 45, 46, 47, 48, 49, 50, 51, 52, 53] (by decide +kernel) (by decide +kernel)
set_option maxRecDepth 20000 in
theorem gX10_minds_X8_has : GoodIn wsX10_minds (wsV RX10 135 RX8 yX8_has wsX8_has) := goodIn_app (goodIn_of _ (by decide +kernel)) ggX10_minds_X8_has
set_option maxRecDepth 20000 in
theorem ggX10_minds_X10_isOutside : GoodIn wsX10_minds wsX10_isOutside := goodIn_r _ [13] (by decide +kernel) (by decide +kernel)
set_option maxRecDepth 20000 in
theorem gX10_minds_X10_isOutside : GoodIn wsX10_minds (va_wsS RX10 87 yX10_isOutside wsX10_isOutside) := goodIn_app (goodIn_of _ (by decide +kernel)) ggX10_minds_X10_isOutside
set_option maxRecDepth 20000 in
theorem ggX10_minds_X10_heldFaith : GoodIn wsX10_minds wsX10_heldFaith := goodIn_r _ [22, 23, 24, 25, 26, 27, 28, 29] (by decide +kernel) (by decide +kernel)
set_option maxRecDepth 20000 in
theorem gX10_minds_X10_heldFaith : GoodIn wsX10_minds (va_wsS RX10 263 yX10_heldFaith wsX10_heldFaith) := goodIn_app (goodIn_of _ (by decide +kernel)) ggX10_minds_X10_heldFaith
theorem dX10_minds_0 : decode cX10_minds 0 = .ok (.iload_n 1, 1) := by decide +kernel
theorem dX10_minds_1 : decode cX10_minds 1 = .ok (.invokestatic 225, 3) := by decide +kernel
theorem dX10_minds_4 : decode cX10_minds 4 = .ok (.ifCond .ne 39, 3) := by decide +kernel
theorem dX10_minds_7 : decode cX10_minds 7 = .ok (.aload_n 0, 1) := by decide +kernel
theorem dX10_minds_8 : decode cX10_minds 8 = .ok (.getfield 36, 3) := by decide +kernel
theorem dX10_minds_11 : decode cX10_minds 11 = .ok (.iload_n 3, 1) := by decide +kernel
theorem dX10_minds_12 : decode cX10_minds 12 = .ok (.invokevirtual 135, 3) := by decide +kernel
theorem dX10_minds_15 : decode cX10_minds 15 = .ok (.ifCond .eq 28, 3) := by decide +kernel
theorem dX10_minds_18 : decode cX10_minds 18 = .ok (.iload 4, 2) := by decide +kernel
theorem dX10_minds_20 : decode cX10_minds 20 = .ok (.iconst 0, 1) := by decide +kernel
theorem dX10_minds_21 : decode cX10_minds 21 = .ok (.bipush 8, 2) := by decide +kernel
theorem dX10_minds_23 : decode cX10_minds 23 = .ok (.invokestatic 87, 3) := by decide +kernel
theorem dX10_minds_26 : decode cX10_minds 26 = .ok (.ifCond .ne 17, 3) := by decide +kernel
theorem dX10_minds_29 : decode cX10_minds 29 = .ok (.iload 4, 2) := by decide +kernel
theorem dX10_minds_31 : decode cX10_minds 31 = .ok (.aload_n 0, 1) := by decide +kernel
theorem dX10_minds_32 : decode cX10_minds 32 = .ok (.getfield 36, 3) := by decide +kernel
theorem dX10_minds_35 : decode cX10_minds 35 = .ok (.getfield 109, 3) := by decide +kernel
theorem dX10_minds_38 : decode cX10_minds 38 = .ok (.iload_n 3, 1) := by decide +kernel
theorem dX10_minds_39 : decode cX10_minds 39 = .ok (.isub, 1) := by decide +kernel
theorem dX10_minds_40 : decode cX10_minds 40 = .ok (.if_icmp .le 5, 3) := by decide +kernel
theorem dX10_minds_43 : decode cX10_minds 43 = .ok (.iconst (-1), 1) := by decide +kernel
theorem dX10_minds_44 : decode cX10_minds 44 = .ok (.ireturn, 1) := by decide +kernel
theorem dX10_minds_45 : decode cX10_minds 45 = .ok (.aload_n 0, 1) := by decide +kernel
theorem dX10_minds_46 : decode cX10_minds 46 = .ok (.getfield 74, 3) := by decide +kernel
theorem dX10_minds_49 : decode cX10_minds 49 = .ok (.iload_n 1, 1) := by decide +kernel
theorem dX10_minds_50 : decode cX10_minds 50 = .ok (.aaload, 1) := by decide +kernel
theorem dX10_minds_51 : decode cX10_minds 51 = .ok (.astore 5, 2) := by decide +kernel
theorem dX10_minds_53 : decode cX10_minds 53 = .ok (.aload 5, 2) := by decide +kernel
theorem dX10_minds_55 : decode cX10_minds 55 = .ok (.ifnonnull 6, 3) := by decide +kernel
theorem dX10_minds_58 : decode cX10_minds 58 = .ok (.bipush (-11), 2) := by decide +kernel
theorem dX10_minds_60 : decode cX10_minds 60 = .ok (.ireturn, 1) := by decide +kernel
theorem dX10_minds_61 : decode cX10_minds 61 = .ok (.aload 5, 2) := by decide +kernel
theorem dX10_minds_63 : decode cX10_minds 63 = .ok (.getfield 260, 3) := by decide +kernel
theorem dX10_minds_66 : decode cX10_minds 66 = .ok (.ifCond .eq 6, 3) := by decide +kernel
theorem dX10_minds_69 : decode cX10_minds 69 = .ok (.bipush (-13), 2) := by decide +kernel
theorem dX10_minds_71 : decode cX10_minds 71 = .ok (.ireturn, 1) := by decide +kernel
theorem dX10_minds_72 : decode cX10_minds 72 = .ok (.iload_n 2, 1) := by decide +kernel
theorem dX10_minds_73 : decode cX10_minds 73 = .ok (.iconst 0, 1) := by decide +kernel
theorem dX10_minds_74 : decode cX10_minds 74 = .ok (.aload 5, 2) := by decide +kernel
theorem dX10_minds_76 : decode cX10_minds 76 = .ok (.getfield 228, 3) := by decide +kernel
theorem dX10_minds_79 : decode cX10_minds 79 = .ok (.arraylength, 1) := by decide +kernel
theorem dX10_minds_80 : decode cX10_minds 80 = .ok (.invokestatic 87, 3) := by decide +kernel
theorem dX10_minds_83 : decode cX10_minds 83 = .ok (.ifCond .ne 16, 3) := by decide +kernel
theorem dX10_minds_86 : decode cX10_minds 86 = .ok (.iload 4, 2) := by decide +kernel
theorem dX10_minds_88 : decode cX10_minds 88 = .ok (.aload 5, 2) := by decide +kernel
theorem dX10_minds_90 : decode cX10_minds 90 = .ok (.getfield 228, 3) := by decide +kernel
theorem dX10_minds_93 : decode cX10_minds 93 = .ok (.arraylength, 1) := by decide +kernel
theorem dX10_minds_94 : decode cX10_minds 94 = .ok (.iload_n 2, 1) := by decide +kernel
theorem dX10_minds_95 : decode cX10_minds 95 = .ok (.isub, 1) := by decide +kernel
theorem dX10_minds_96 : decode cX10_minds 96 = .ok (.if_icmp .le 6, 3) := by decide +kernel
theorem dX10_minds_99 : decode cX10_minds 99 = .ok (.bipush (-12), 2) := by decide +kernel
theorem dX10_minds_101 : decode cX10_minds 101 = .ok (.ireturn, 1) := by decide +kernel
theorem dX10_minds_102 : decode cX10_minds 102 = .ok (.iconst 0, 1) := by decide +kernel
theorem dX10_minds_103 : decode cX10_minds 103 = .ok (.istore 6, 2) := by decide +kernel
theorem dX10_minds_105 : decode cX10_minds 105 = .ok (.iload 6, 2) := by decide +kernel
theorem dX10_minds_107 : decode cX10_minds 107 = .ok (.iload 4, 2) := by decide +kernel
theorem dX10_minds_109 : decode cX10_minds 109 = .ok (.if_icmp .ge 34, 3) := by decide +kernel
theorem dX10_minds_112 : decode cX10_minds 112 = .ok (.aload_n 0, 1) := by decide +kernel
theorem dX10_minds_113 : decode cX10_minds 113 = .ok (.getfield 36, 3) := by decide +kernel
theorem dX10_minds_116 : decode cX10_minds 116 = .ok (.getfield 140, 3) := by decide +kernel
theorem dX10_minds_119 : decode cX10_minds 119 = .ok (.iload_n 3, 1) := by decide +kernel
theorem dX10_minds_120 : decode cX10_minds 120 = .ok (.iload 6, 2) := by decide +kernel
theorem dX10_minds_122 : decode cX10_minds 122 = .ok (.iadd, 1) := by decide +kernel
theorem dX10_minds_123 : decode cX10_minds 123 = .ok (.aload 5, 2) := by decide +kernel
theorem dX10_minds_125 : decode cX10_minds 125 = .ok (.getfield 228, 3) := by decide +kernel
theorem dX10_minds_128 : decode cX10_minds 128 = .ok (.iload_n 2, 1) := by decide +kernel
theorem dX10_minds_129 : decode cX10_minds 129 = .ok (.iload 6, 2) := by decide +kernel
theorem dX10_minds_131 : decode cX10_minds 131 = .ok (.iadd, 1) := by decide +kernel
theorem dX10_minds_132 : decode cX10_minds 132 = .ok (.iaload, 1) := by decide +kernel
theorem dX10_minds_133 : decode cX10_minds 133 = .ok (.invokestatic 263, 3) := by decide +kernel
theorem dX10_minds_136 : decode cX10_minds 136 = .ok (.iastore, 1) := by decide +kernel
theorem dX10_minds_137 : decode cX10_minds 137 = .ok (.iinc 6 1, 3) := by decide +kernel
theorem dX10_minds_140 : decode cX10_minds 140 = .ok (.goto (-35), 3) := by decide +kernel
theorem dX10_minds_143 : decode cX10_minds 143 = .ok (.iload 4, 2) := by decide +kernel
theorem dX10_minds_145 : decode cX10_minds 145 = .ok (.ireturn, 1) := by decide +kernel
set_option maxRecDepth 20000 in
theorem ggX10_sheet_X10_isNoSheet : GoodIn wsX10_sheet wsX10_isNoSheet := goodIn_r _ [8, 9, 10, 7, 11] (by decide +kernel) (by decide +kernel)
set_option maxRecDepth 20000 in
theorem gX10_sheet_X10_isNoSheet : GoodIn wsX10_sheet (va_wsS RX10 225 yX10_isNoSheet wsX10_isNoSheet) := goodIn_app (goodIn_of _ (by decide +kernel)) ggX10_sheet_X10_isNoSheet
set_option maxRecDepth 20000 in
theorem ggX10_sheet_X10_isOutside : GoodIn wsX10_sheet wsX10_isOutside := goodIn_r _ [11] (by decide +kernel) (by decide +kernel)
set_option maxRecDepth 20000 in
theorem gX10_sheet_X10_isOutside : GoodIn wsX10_sheet (va_wsS RX10 87 yX10_isOutside wsX10_isOutside) := goodIn_app (goodIn_of _ (by decide +kernel)) ggX10_sheet_X10_isOutside
set_option maxRecDepth 20000 in
theorem ggX10_sheet_X3_init : GoodIn wsX10_sheet wsX3_init := goodIn_r _ [14, 15, 16, 17, 18, 19, 20, 34, 35] (by decide +kernel) (by decide +kernel)
set_option maxRecDepth 20000 in
theorem gX10_sheet_X3_init : GoodIn wsX10_sheet (wsX3_init) := ggX10_sheet_X3_init
theorem dX10_sheet_0 : decode cX10_sheet 0 = .ok (.iload_n 1, 1) := by decide +kernel
theorem dX10_sheet_1 : decode cX10_sheet 1 = .ok (.invokestatic 225, 3) := by decide +kernel
theorem dX10_sheet_4 : decode cX10_sheet 4 = .ok (.ifCond .ne 12, 3) := by decide +kernel
theorem dX10_sheet_7 : decode cX10_sheet 7 = .ok (.iload_n 2, 1) := by decide +kernel
theorem dX10_sheet_8 : decode cX10_sheet 8 = .ok (.iconst (-1), 1) := by decide +kernel
theorem dX10_sheet_9 : decode cX10_sheet 9 = .ok (.iconst 3, 1) := by decide +kernel
theorem dX10_sheet_10 : decode cX10_sheet 10 = .ok (.invokestatic 87, 3) := by decide +kernel
theorem dX10_sheet_13 : decode cX10_sheet 13 = .ok (.ifCond .eq 5, 3) := by decide +kernel
theorem dX10_sheet_16 : decode cX10_sheet 16 = .ok (.iconst (-1), 1) := by decide +kernel
theorem dX10_sheet_17 : decode cX10_sheet 17 = .ok (.ireturn, 1) := by decide +kernel
theorem dX10_sheet_18 : decode cX10_sheet 18 = .ok (.iload_n 2, 1) := by decide +kernel
theorem dX10_sheet_19 : decode cX10_sheet 19 = .ok (.iconst (-1), 1) := by decide +kernel
theorem dX10_sheet_20 : decode cX10_sheet 20 = .ok (.if_icmp .ne 12, 3) := by decide +kernel
theorem dX10_sheet_23 : decode cX10_sheet 23 = .ok (.aload_n 0, 1) := by decide +kernel
theorem dX10_sheet_24 : decode cX10_sheet 24 = .ok (.getfield 74, 3) := by decide +kernel
theorem dX10_sheet_27 : decode cX10_sheet 27 = .ok (.iload_n 1, 1) := by decide +kernel
theorem dX10_sheet_28 : decode cX10_sheet 28 = .ok (.aconst_null, 1) := by decide +kernel
theorem dX10_sheet_29 : decode cX10_sheet 29 = .ok (.aastore, 1) := by decide +kernel
theorem dX10_sheet_30 : decode cX10_sheet 30 = .ok (.iconst 1, 1) := by decide +kernel
theorem dX10_sheet_31 : decode cX10_sheet 31 = .ok (.ireturn, 1) := by decide +kernel
theorem dX10_sheet_32 : decode cX10_sheet 32 = .ok (.iload_n 3, 1) := by decide +kernel
theorem dX10_sheet_33 : decode cX10_sheet 33 = .ok (.bipush 40, 2) := by decide +kernel
theorem dX10_sheet_35 : decode cX10_sheet 35 = .ok (.if_icmp .le 5, 3) := by decide +kernel
theorem dX10_sheet_38 : decode cX10_sheet 38 = .ok (.iconst (-1), 1) := by decide +kernel
theorem dX10_sheet_39 : decode cX10_sheet 39 = .ok (.ireturn, 1) := by decide +kernel
theorem dX10_sheet_40 : decode cX10_sheet 40 = .ok (.iload_n 3, 1) := by decide +kernel
theorem dX10_sheet_41 : decode cX10_sheet 41 = .ok (.ifCond .ge 6, 3) := by decide +kernel
theorem dX10_sheet_44 : decode cX10_sheet 44 = .ok (.bipush (-14), 2) := by decide +kernel
theorem dX10_sheet_46 : decode cX10_sheet 46 = .ok (.ireturn, 1) := by decide +kernel
theorem dX10_sheet_47 : decode cX10_sheet 47 = .ok (.aload_n 0, 1) := by decide +kernel
theorem dX10_sheet_48 : decode cX10_sheet 48 = .ok (.getfield 74, 3) := by decide +kernel
theorem dX10_sheet_51 : decode cX10_sheet 51 = .ok (.iload_n 1, 1) := by decide +kernel
theorem dX10_sheet_52 : decode cX10_sheet 52 = .ok (.new 72, 3) := by decide +kernel
theorem dX10_sheet_55 : decode cX10_sheet 55 = .ok (.dup, 1) := by decide +kernel
theorem dX10_sheet_56 : decode cX10_sheet 56 = .ok (.iload_n 2, 1) := by decide +kernel
theorem dX10_sheet_57 : decode cX10_sheet 57 = .ok (.iload_n 3, 1) := by decide +kernel
theorem dX10_sheet_58 : decode cX10_sheet 58 = .ok (.invokespecial 266, 3) := by decide +kernel
theorem dX10_sheet_61 : decode cX10_sheet 61 = .ok (.aastore, 1) := by decide +kernel
theorem dX10_sheet_62 : decode cX10_sheet 62 = .ok (.iconst 1, 1) := by decide +kernel
theorem dX10_sheet_63 : decode cX10_sheet 63 = .ok (.ireturn, 1) := by decide +kernel
set_option maxRecDepth 20000 in
theorem ggX10_put_X10_isNoSheet : GoodIn wsX10_put wsX10_isNoSheet := goodIn_r _ [6, 7, 8, 5, 9] (by decide +kernel) (by decide +kernel)
set_option maxRecDepth 20000 in
theorem gX10_put_X10_isNoSheet : GoodIn wsX10_put (va_wsS RX10 225 yX10_isNoSheet wsX10_isNoSheet) := goodIn_app (goodIn_of _ (by decide +kernel)) ggX10_put_X10_isNoSheet
set_option maxRecDepth 20000 in
theorem ggX10_put_X10_isOutside : GoodIn wsX10_put wsX10_isOutside := goodIn_r _ [9] (by decide +kernel) (by decide +kernel)
set_option maxRecDepth 20000 in
theorem gX10_put_X10_isOutside : GoodIn wsX10_put (va_wsS RX10 87 yX10_isOutside wsX10_isOutside) := goodIn_app (goodIn_of _ (by decide +kernel)) ggX10_put_X10_isOutside
set_option maxRecDepth 20000 in
theorem ggX10_put_X3_narrowed : GoodIn wsX10_put wsX3_narrowed := goodIn_r _ [14, 15, 29, 30] (by decide +kernel) (by decide +kernel)
set_option maxRecDepth 20000 in
theorem gX10_put_X3_narrowed : GoodIn wsX10_put (wsV RX10 269 RX3 yX3_narrowed wsX3_narrowed) := goodIn_app (goodIn_of _ (by decide +kernel)) ggX10_put_X3_narrowed
theorem dX10_put_0 : decode cX10_put 0 = .ok (.iload_n 1, 1) := by decide +kernel
theorem dX10_put_1 : decode cX10_put 1 = .ok (.invokestatic 225, 3) := by decide +kernel
theorem dX10_put_4 : decode cX10_put 4 = .ok (.ifCond .eq 5, 3) := by decide +kernel
theorem dX10_put_7 : decode cX10_put 7 = .ok (.iconst (-1), 1) := by decide +kernel
theorem dX10_put_8 : decode cX10_put 8 = .ok (.ireturn, 1) := by decide +kernel
theorem dX10_put_9 : decode cX10_put 9 = .ok (.aload_n 0, 1) := by decide +kernel
theorem dX10_put_10 : decode cX10_put 10 = .ok (.getfield 74, 3) := by decide +kernel
theorem dX10_put_13 : decode cX10_put 13 = .ok (.iload_n 1, 1) := by decide +kernel
theorem dX10_put_14 : decode cX10_put 14 = .ok (.aaload, 1) := by decide +kernel
theorem dX10_put_15 : decode cX10_put 15 = .ok (.astore 4, 2) := by decide +kernel
theorem dX10_put_17 : decode cX10_put 17 = .ok (.aload 4, 2) := by decide +kernel
theorem dX10_put_19 : decode cX10_put 19 = .ok (.ifnonnull 6, 3) := by decide +kernel
theorem dX10_put_22 : decode cX10_put 22 = .ok (.bipush (-11), 2) := by decide +kernel
theorem dX10_put_24 : decode cX10_put 24 = .ok (.ireturn, 1) := by decide +kernel
theorem dX10_put_25 : decode cX10_put 25 = .ok (.iload_n 2, 1) := by decide +kernel
theorem dX10_put_26 : decode cX10_put 26 = .ok (.iconst 0, 1) := by decide +kernel
theorem dX10_put_27 : decode cX10_put 27 = .ok (.aload 4, 2) := by decide +kernel
theorem dX10_put_29 : decode cX10_put 29 = .ok (.getfield 228, 3) := by decide +kernel
theorem dX10_put_32 : decode cX10_put 32 = .ok (.arraylength, 1) := by decide +kernel
theorem dX10_put_33 : decode cX10_put 33 = .ok (.iconst 1, 1) := by decide +kernel
theorem dX10_put_34 : decode cX10_put 34 = .ok (.isub, 1) := by decide +kernel
theorem dX10_put_35 : decode cX10_put 35 = .ok (.invokestatic 87, 3) := by decide +kernel
theorem dX10_put_38 : decode cX10_put 38 = .ok (.ifCond .eq 6, 3) := by decide +kernel
theorem dX10_put_41 : decode cX10_put 41 = .ok (.bipush (-12), 2) := by decide +kernel
theorem dX10_put_43 : decode cX10_put 43 = .ok (.ireturn, 1) := by decide +kernel
theorem dX10_put_44 : decode cX10_put 44 = .ok (.aload 4, 2) := by decide +kernel
theorem dX10_put_46 : decode cX10_put 46 = .ok (.getfield 228, 3) := by decide +kernel
theorem dX10_put_49 : decode cX10_put 49 = .ok (.iload_n 2, 1) := by decide +kernel
theorem dX10_put_50 : decode cX10_put 50 = .ok (.aload 4, 2) := by decide +kernel
theorem dX10_put_52 : decode cX10_put 52 = .ok (.iload_n 3, 1) := by decide +kernel
theorem dX10_put_53 : decode cX10_put 53 = .ok (.invokevirtual 269, 3) := by decide +kernel
theorem dX10_put_56 : decode cX10_put 56 = .ok (.iastore, 1) := by decide +kernel
theorem dX10_put_57 : decode cX10_put 57 = .ok (.iconst 1, 1) := by decide +kernel
theorem dX10_put_58 : decode cX10_put 58 = .ok (.ireturn, 1) := by decide +kernel
set_option maxRecDepth 20000 in
theorem ggX10_item_X10_isNoSheet : GoodIn wsX10_item wsX10_isNoSheet := goodIn_r _ [7, 8, 9, 6, 10] (by decide +kernel) (by decide +kernel)
set_option maxRecDepth 20000 in
theorem gX10_item_X10_isNoSheet : GoodIn wsX10_item (va_wsS RX10 225 yX10_isNoSheet wsX10_isNoSheet) := goodIn_app (goodIn_of _ (by decide +kernel)) ggX10_item_X10_isNoSheet
set_option maxRecDepth 20000 in
theorem ggX10_item_X10_isOutside : GoodIn wsX10_item wsX10_isOutside := goodIn_r _ [10] (by decide +kernel) (by decide +kernel)
set_option maxRecDepth 20000 in
theorem gX10_item_X10_isOutside : GoodIn wsX10_item (va_wsS RX10 87 yX10_isOutside wsX10_isOutside) := goodIn_app (goodIn_of _ (by decide +kernel)) ggX10_item_X10_isOutside
theorem dX10_item_0 : decode cX10_item 0 = .ok (.iload_n 1, 1) := by decide +kernel
theorem dX10_item_1 : decode cX10_item 1 = .ok (.invokestatic 225, 3) := by decide +kernel
theorem dX10_item_4 : decode cX10_item 4 = .ok (.ifCond .ne 12, 3) := by decide +kernel
theorem dX10_item_7 : decode cX10_item 7 = .ok (.iload_n 2, 1) := by decide +kernel
theorem dX10_item_8 : decode cX10_item 8 = .ok (.iconst 0, 1) := by decide +kernel
theorem dX10_item_9 : decode cX10_item 9 = .ok (.iconst 3, 1) := by decide +kernel
theorem dX10_item_10 : decode cX10_item 10 = .ok (.invokestatic 87, 3) := by decide +kernel
theorem dX10_item_13 : decode cX10_item 13 = .ok (.ifCond .eq 5, 3) := by decide +kernel
theorem dX10_item_16 : decode cX10_item 16 = .ok (.iconst (-1), 1) := by decide +kernel
theorem dX10_item_17 : decode cX10_item 17 = .ok (.ireturn, 1) := by decide +kernel
theorem dX10_item_18 : decode cX10_item 18 = .ok (.aload_n 0, 1) := by decide +kernel
theorem dX10_item_19 : decode cX10_item 19 = .ok (.getfield 74, 3) := by decide +kernel
theorem dX10_item_22 : decode cX10_item 22 = .ok (.iload_n 1, 1) := by decide +kernel
theorem dX10_item_23 : decode cX10_item 23 = .ok (.aaload, 1) := by decide +kernel
theorem dX10_item_24 : decode cX10_item 24 = .ok (.astore 4, 2) := by decide +kernel
theorem dX10_item_26 : decode cX10_item 26 = .ok (.aload 4, 2) := by decide +kernel
theorem dX10_item_28 : decode cX10_item 28 = .ok (.ifnonnull 6, 3) := by decide +kernel
theorem dX10_item_31 : decode cX10_item 31 = .ok (.bipush (-11), 2) := by decide +kernel
theorem dX10_item_33 : decode cX10_item 33 = .ok (.ireturn, 1) := by decide +kernel
theorem dX10_item_34 : decode cX10_item 34 = .ok (.aload 4, 2) := by decide +kernel
theorem dX10_item_36 : decode cX10_item 36 = .ok (.getfield 260, 3) := by decide +kernel
theorem dX10_item_39 : decode cX10_item 39 = .ok (.iload_n 2, 1) := by decide +kernel
theorem dX10_item_40 : decode cX10_item 40 = .ok (.if_icmp .eq 6, 3) := by decide +kernel
theorem dX10_item_43 : decode cX10_item 43 = .ok (.bipush (-13), 2) := by decide +kernel
theorem dX10_item_45 : decode cX10_item 45 = .ok (.ireturn, 1) := by decide +kernel
theorem dX10_item_46 : decode cX10_item 46 = .ok (.iload_n 3, 1) := by decide +kernel
theorem dX10_item_47 : decode cX10_item 47 = .ok (.iconst 0, 1) := by decide +kernel
theorem dX10_item_48 : decode cX10_item 48 = .ok (.aload 4, 2) := by decide +kernel
theorem dX10_item_50 : decode cX10_item 50 = .ok (.getfield 228, 3) := by decide +kernel
theorem dX10_item_53 : decode cX10_item 53 = .ok (.arraylength, 1) := by decide +kernel
theorem dX10_item_54 : decode cX10_item 54 = .ok (.iconst 1, 1) := by decide +kernel
theorem dX10_item_55 : decode cX10_item 55 = .ok (.isub, 1) := by decide +kernel
theorem dX10_item_56 : decode cX10_item 56 = .ok (.invokestatic 87, 3) := by decide +kernel
theorem dX10_item_59 : decode cX10_item 59 = .ok (.ifCond .eq 8, 3) := by decide +kernel
theorem dX10_item_62 : decode cX10_item 62 = .ok (.bipush (-12), 2) := by decide +kernel
theorem dX10_item_64 : decode cX10_item 64 = .ok (.goto 10, 3) := by decide +kernel
theorem dX10_item_67 : decode cX10_item 67 = .ok (.aload 4, 2) := by decide +kernel
theorem dX10_item_69 : decode cX10_item 69 = .ok (.getfield 228, 3) := by decide +kernel
theorem dX10_item_72 : decode cX10_item 72 = .ok (.iload_n 3, 1) := by decide +kernel
theorem dX10_item_73 : decode cX10_item 73 = .ok (.iaload, 1) := by decide +kernel
theorem dX10_item_74 : decode cX10_item 74 = .ok (.ireturn, 1) := by decide +kernel
set_option maxRecDepth 20000 in
theorem ggX10_shelf_X10_isNoShelf : GoodIn wsX10_shelf wsX10_isNoShelf := goodIn_r _ [9, 10, 11, 8, 12] (by decide +kernel) (by decide +kernel)
set_option maxRecDepth 20000 in
theorem gX10_shelf_X10_isNoShelf : GoodIn wsX10_shelf (va_wsS RX10 272 yX10_isNoShelf wsX10_isNoShelf) := goodIn_app (goodIn_of _ (by decide +kernel)) ggX10_shelf_X10_isNoShelf
set_option maxRecDepth 20000 in
theorem ggX10_shelf_X10_isOutside : GoodIn wsX10_shelf wsX10_isOutside := goodIn_r _ [12] (by decide +kernel) (by decide +kernel)
set_option maxRecDepth 20000 in
theorem gX10_shelf_X10_isOutside : GoodIn wsX10_shelf (va_wsS RX10 87 yX10_isOutside wsX10_isOutside) := goodIn_app (goodIn_of _ (by decide +kernel)) ggX10_shelf_X10_isOutside
set_option maxRecDepth 20000 in
theorem ggX10_shelf_X8_has : GoodIn wsX10_shelf wsX8_has := goodIn_r _ [17, 18, 35, 36, 37, 38, 39, 40, 41, 42, 43, 44, 45] (by decide +kernel) (by decide +kernel)
set_option maxRecDepth 20000 in
theorem gX10_shelf_X8_has : GoodIn wsX10_shelf (wsV RX10 135 RX8 yX8_has wsX8_has) := goodIn_app (goodIn_of _ (by decide +kernel)) ggX10_shelf_X8_has
set_option maxRecDepth 20000 in
theorem ggX10_shelf_X10_isNoSheet : GoodIn wsX10_shelf wsX10_isNoSheet := goodIn_r _ [21, 10, 11, 8, 12] (by decide +kernel) (by decide +kernel)
set_option maxRecDepth 20000 in
theorem gX10_shelf_X10_isNoSheet : GoodIn wsX10_shelf (va_wsS RX10 225 yX10_isNoSheet wsX10_isNoSheet) := goodIn_app (goodIn_of _ (by decide +kernel)) ggX10_shelf_X10_isNoSheet
theorem dX10_shelf_0 : decode cX10_shelf 0 = .ok (.iload_n 1, 1) := by decide +kernel
theorem dX10_shelf_1 : decode cX10_shelf 1 = .ok (.invokestatic 272, 3) := by decide +kernel
theorem dX10_shelf_4 : decode cX10_shelf 4 = .ok (.ifCond .ne 39, 3) := by decide +kernel
theorem dX10_shelf_7 : decode cX10_shelf 7 = .ok (.iload_n 2, 1) := by decide +kernel
theorem dX10_shelf_8 : decode cX10_shelf 8 = .ok (.iconst 0, 1) := by decide +kernel
theorem dX10_shelf_9 : decode cX10_shelf 9 = .ok (.iconst 2, 1) := by decide +kernel
theorem dX10_shelf_10 : decode cX10_shelf 10 = .ok (.invokestatic 87, 3) := by decide +kernel
theorem dX10_shelf_13 : decode cX10_shelf 13 = .ok (.ifCond .ne 30, 3) := by decide +kernel
theorem dX10_shelf_16 : decode cX10_shelf 16 = .ok (.iload_n 2, 1) := by decide +kernel
theorem dX10_shelf_17 : decode cX10_shelf 17 = .ok (.ifCond .ne 14, 3) := by decide +kernel
theorem dX10_shelf_20 : decode cX10_shelf 20 = .ok (.aload_n 0, 1) := by decide +kernel
theorem dX10_shelf_21 : decode cX10_shelf 21 = .ok (.getfield 36, 3) := by decide +kernel
theorem dX10_shelf_24 : decode cX10_shelf 24 = .ok (.iload_n 3, 1) := by decide +kernel
theorem dX10_shelf_25 : decode cX10_shelf 25 = .ok (.invokevirtual 135, 3) := by decide +kernel
theorem dX10_shelf_28 : decode cX10_shelf 28 = .ok (.ifCond .eq 15, 3) := by decide +kernel
theorem dX10_shelf_31 : decode cX10_shelf 31 = .ok (.iload_n 2, 1) := by decide +kernel
theorem dX10_shelf_32 : decode cX10_shelf 32 = .ok (.iconst 1, 1) := by decide +kernel
theorem dX10_shelf_33 : decode cX10_shelf 33 = .ok (.if_icmp .ne 12, 3) := by decide +kernel
theorem dX10_shelf_36 : decode cX10_shelf 36 = .ok (.iload_n 3, 1) := by decide +kernel
theorem dX10_shelf_37 : decode cX10_shelf 37 = .ok (.invokestatic 225, 3) := by decide +kernel
theorem dX10_shelf_40 : decode cX10_shelf 40 = .ok (.ifCond .eq 5, 3) := by decide +kernel
theorem dX10_shelf_43 : decode cX10_shelf 43 = .ok (.iconst (-1), 1) := by decide +kernel
theorem dX10_shelf_44 : decode cX10_shelf 44 = .ok (.ireturn, 1) := by decide +kernel
theorem dX10_shelf_45 : decode cX10_shelf 45 = .ok (.aload_n 0, 1) := by decide +kernel
theorem dX10_shelf_46 : decode cX10_shelf 46 = .ok (.getfield 78, 3) := by decide +kernel
theorem dX10_shelf_49 : decode cX10_shelf 49 = .ok (.iload_n 1, 1) := by decide +kernel
theorem dX10_shelf_50 : decode cX10_shelf 50 = .ok (.iload_n 2, 1) := by decide +kernel
theorem dX10_shelf_51 : decode cX10_shelf 51 = .ok (.iastore, 1) := by decide +kernel
theorem dX10_shelf_52 : decode cX10_shelf 52 = .ok (.aload_n 0, 1) := by decide +kernel
theorem dX10_shelf_53 : decode cX10_shelf 53 = .ok (.getfield 81, 3) := by decide +kernel
theorem dX10_shelf_56 : decode cX10_shelf 56 = .ok (.iload_n 1, 1) := by decide +kernel
theorem dX10_shelf_57 : decode cX10_shelf 57 = .ok (.iload_n 2, 1) := by decide +kernel
theorem dX10_shelf_58 : decode cX10_shelf 58 = .ok (.ifCond .ne 7, 3) := by decide +kernel
theorem dX10_shelf_61 : decode cX10_shelf 61 = .ok (.iload_n 3, 1) := by decide +kernel
theorem dX10_shelf_62 : decode cX10_shelf 62 = .ok (.goto 4, 3) := by decide +kernel
theorem dX10_shelf_65 : decode cX10_shelf 65 = .ok (.iconst 0, 1) := by decide +kernel
theorem dX10_shelf_66 : decode cX10_shelf 66 = .ok (.iastore, 1) := by decide +kernel
theorem dX10_shelf_67 : decode cX10_shelf 67 = .ok (.aload_n 0, 1) := by decide +kernel
theorem dX10_shelf_68 : decode cX10_shelf 68 = .ok (.getfield 84, 3) := by decide +kernel
theorem dX10_shelf_71 : decode cX10_shelf 71 = .ok (.iload_n 1, 1) := by decide +kernel
theorem dX10_shelf_72 : decode cX10_shelf 72 = .ok (.iload_n 2, 1) := by decide +kernel
theorem dX10_shelf_73 : decode cX10_shelf 73 = .ok (.iconst 1, 1) := by decide +kernel
theorem dX10_shelf_74 : decode cX10_shelf 74 = .ok (.if_icmp .ne 12, 3) := by decide +kernel
theorem dX10_shelf_77 : decode cX10_shelf 77 = .ok (.aload_n 0, 1) := by decide +kernel
theorem dX10_shelf_78 : decode cX10_shelf 78 = .ok (.getfield 74, 3) := by decide +kernel
theorem dX10_shelf_81 : decode cX10_shelf 81 = .ok (.iload_n 3, 1) := by decide +kernel
theorem dX10_shelf_82 : decode cX10_shelf 82 = .ok (.aaload, 1) := by decide +kernel
theorem dX10_shelf_83 : decode cX10_shelf 83 = .ok (.goto 4, 3) := by decide +kernel
theorem dX10_shelf_86 : decode cX10_shelf 86 = .ok (.aconst_null, 1) := by decide +kernel
theorem dX10_shelf_87 : decode cX10_shelf 87 = .ok (.aastore, 1) := by decide +kernel
theorem dX10_shelf_88 : decode cX10_shelf 88 = .ok (.iconst 1, 1) := by decide +kernel
theorem dX10_shelf_89 : decode cX10_shelf 89 = .ok (.ireturn, 1) := by decide +kernel
set_option maxRecDepth 20000 in
theorem ggX10_taken_X10_isNoKind : GoodIn wsX10_taken wsX10_isNoKind := goodIn_r _ [11, 12, 13, 10, 14] (by decide +kernel) (by decide +kernel)
set_option maxRecDepth 20000 in
theorem gX10_taken_X10_isNoKind : GoodIn wsX10_taken (va_wsS RX10 128 yX10_isNoKind wsX10_isNoKind) := goodIn_app (goodIn_of _ (by decide +kernel)) ggX10_taken_X10_isNoKind
set_option maxRecDepth 20000 in
theorem ggX10_taken_X10_isNoShelf : GoodIn wsX10_taken wsX10_isNoShelf := goodIn_r _ [17, 12, 13, 10, 14] (by decide +kernel) (by decide +kernel)
set_option maxRecDepth 20000 in
theorem gX10_taken_X10_isNoShelf : GoodIn wsX10_taken (va_wsS RX10 272 yX10_isNoShelf wsX10_isNoShelf) := goodIn_app (goodIn_of _ (by decide +kernel)) ggX10_taken_X10_isNoShelf
set_option maxRecDepth 20000 in
theorem ggX10_taken_X10_isOutside : GoodIn wsX10_taken wsX10_isOutside := goodIn_r _ [14] (by decide +kernel) (by decide +kernel)
set_option maxRecDepth 20000 in
theorem gX10_taken_X10_isOutside : GoodIn wsX10_taken (va_wsS RX10 87 yX10_isOutside wsX10_isOutside) := goodIn_app (goodIn_of _ (by decide +kernel)) ggX10_taken_X10_isOutside
set_option maxRecDepth 20000 in
theorem ggX10_taken_X10_holdsGoer : GoodIn wsX10_taken wsX10_holdsGoer := goodIn_r _ [21, 22, 3, 1, 23, 24, 25, 26, 27, 28, 29, 30, 31, 32, 33, 34, 35, 36, 37, 38, 39, 40, 41, 42, 43, 44, 45, 46, 47, 48, 49, 50, 51, 52] (by decide +kernel) (by decide +kernel)
set_option maxRecDepth 20000 in
theorem gX10_taken_X10_holdsGoer : GoodIn wsX10_taken (wsV RX10 275 RX10 yX10_holdsGoer wsX10_holdsGoer) := goodIn_app (goodIn_of _ (by decide +kernel)) ggX10_taken_X10_holdsGoer
theorem dX10_taken_0 : decode cX10_taken 0 = .ok (.iload_n 2, 1) := by decide +kernel
theorem dX10_taken_1 : decode cX10_taken 1 = .ok (.invokestatic 128, 3) := by decide +kernel
theorem dX10_taken_4 : decode cX10_taken 4 = .ok (.ifCond .ne 7, 3) := by decide +kernel
theorem dX10_taken_7 : decode cX10_taken 7 = .ok (.iconst 1, 1) := by decide +kernel
theorem dX10_taken_8 : decode cX10_taken 8 = .ok (.goto 4, 3) := by decide +kernel
theorem dX10_taken_11 : decode cX10_taken 11 = .ok (.iconst 0, 1) := by decide +kernel
theorem dX10_taken_12 : decode cX10_taken 12 = .ok (.istore_n 3, 1) := by decide +kernel
theorem dX10_taken_13 : decode cX10_taken 13 = .ok (.iload_n 1, 1) := by decide +kernel
theorem dX10_taken_14 : decode cX10_taken 14 = .ok (.invokestatic 272, 3) := by decide +kernel
theorem dX10_taken_17 : decode cX10_taken 17 = .ok (.ifCond .ne 18, 3) := by decide +kernel
theorem dX10_taken_20 : decode cX10_taken 20 = .ok (.iload_n 3, 1) := by decide +kernel
theorem dX10_taken_21 : decode cX10_taken 21 = .ok (.ifCond .ne 16, 3) := by decide +kernel
theorem dX10_taken_24 : decode cX10_taken 24 = .ok (.iload_n 2, 1) := by decide +kernel
theorem dX10_taken_25 : decode cX10_taken 25 = .ok (.bipush 10, 2) := by decide +kernel
theorem dX10_taken_27 : decode cX10_taken 27 = .ok (.bipush 13, 2) := by decide +kernel
theorem dX10_taken_29 : decode cX10_taken 29 = .ok (.invokestatic 87, 3) := by decide +kernel
theorem dX10_taken_32 : decode cX10_taken 32 = .ok (.ifCond .eq 5, 3) := by decide +kernel
theorem dX10_taken_35 : decode cX10_taken 35 = .ok (.iconst (-1), 1) := by decide +kernel
theorem dX10_taken_36 : decode cX10_taken 36 = .ok (.ireturn, 1) := by decide +kernel
theorem dX10_taken_37 : decode cX10_taken 37 = .ok (.aload_n 0, 1) := by decide +kernel
theorem dX10_taken_38 : decode cX10_taken 38 = .ok (.iload_n 1, 1) := by decide +kernel
theorem dX10_taken_39 : decode cX10_taken 39 = .ok (.invokevirtual 275, 3) := by decide +kernel
theorem dX10_taken_42 : decode cX10_taken 42 = .ok (.ifCond .eq 45, 3) := by decide +kernel
theorem dX10_taken_45 : decode cX10_taken 45 = .ok (.aload_n 0, 1) := by decide +kernel
theorem dX10_taken_46 : decode cX10_taken 46 = .ok (.getfield 81, 3) := by decide +kernel
theorem dX10_taken_49 : decode cX10_taken 49 = .ok (.iload_n 1, 1) := by decide +kernel
theorem dX10_taken_50 : decode cX10_taken 50 = .ok (.iaload, 1) := by decide +kernel
theorem dX10_taken_51 : decode cX10_taken 51 = .ok (.istore 4, 2) := by decide +kernel
theorem dX10_taken_53 : decode cX10_taken 53 = .ok (.iload_n 3, 1) := by decide +kernel
theorem dX10_taken_54 : decode cX10_taken 54 = .ok (.ifCond .eq 30, 3) := by decide +kernel
theorem dX10_taken_57 : decode cX10_taken 57 = .ok (.getstatic 278, 3) := by decide +kernel
theorem dX10_taken_60 : decode cX10_taken 60 = .ok (.aload_n 0, 1) := by decide +kernel
theorem dX10_taken_61 : decode cX10_taken 61 = .ok (.getfield 36, 3) := by decide +kernel
theorem dX10_taken_64 : decode cX10_taken 64 = .ok (.getfield 138, 3) := by decide +kernel
theorem dX10_taken_67 : decode cX10_taken 67 = .ok (.iload 4, 2) := by decide +kernel
theorem dX10_taken_69 : decode cX10_taken 69 = .ok (.iaload, 1) := by decide +kernel
theorem dX10_taken_70 : decode cX10_taken 70 = .ok (.iaload, 1) := by decide +kernel
theorem dX10_taken_71 : decode cX10_taken 71 = .ok (.iload_n 2, 1) := by decide +kernel
theorem dX10_taken_72 : decode cX10_taken 72 = .ok (.ishr, 1) := by decide +kernel
theorem dX10_taken_73 : decode cX10_taken 73 = .ok (.iconst 1, 1) := by decide +kernel
theorem dX10_taken_74 : decode cX10_taken 74 = .ok (.iand, 1) := by decide +kernel
theorem dX10_taken_75 : decode cX10_taken 75 = .ok (.iconst 1, 1) := by decide +kernel
theorem dX10_taken_76 : decode cX10_taken 76 = .ok (.if_icmp .ne 8, 3) := by decide +kernel
theorem dX10_taken_79 : decode cX10_taken 79 = .ok (.iload 4, 2) := by decide +kernel
theorem dX10_taken_81 : decode cX10_taken 81 = .ok (.goto 5, 3) := by decide +kernel
theorem dX10_taken_84 : decode cX10_taken 84 = .ok (.bipush (-13), 2) := by decide +kernel
theorem dX10_taken_86 : decode cX10_taken 86 = .ok (.ireturn, 1) := by decide +kernel
theorem dX10_taken_87 : decode cX10_taken 87 = .ok (.aload_n 0, 1) := by decide +kernel
theorem dX10_taken_88 : decode cX10_taken 88 = .ok (.getfield 84, 3) := by decide +kernel
theorem dX10_taken_91 : decode cX10_taken 91 = .ok (.iload_n 1, 1) := by decide +kernel
theorem dX10_taken_92 : decode cX10_taken 92 = .ok (.aaload, 1) := by decide +kernel
theorem dX10_taken_93 : decode cX10_taken 93 = .ok (.astore 4, 2) := by decide +kernel
theorem dX10_taken_95 : decode cX10_taken 95 = .ok (.aload 4, 2) := by decide +kernel
theorem dX10_taken_97 : decode cX10_taken 97 = .ok (.ifnonnull 6, 3) := by decide +kernel
theorem dX10_taken_100 : decode cX10_taken 100 = .ok (.bipush (-11), 2) := by decide +kernel
theorem dX10_taken_102 : decode cX10_taken 102 = .ok (.ireturn, 1) := by decide +kernel
theorem dX10_taken_103 : decode cX10_taken 103 = .ok (.aload 4, 2) := by decide +kernel
theorem dX10_taken_105 : decode cX10_taken 105 = .ok (.getfield 260, 3) := by decide +kernel
theorem dX10_taken_108 : decode cX10_taken 108 = .ok (.iload_n 2, 1) := by decide +kernel
theorem dX10_taken_109 : decode cX10_taken 109 = .ok (.bipush 10, 2) := by decide +kernel
theorem dX10_taken_111 : decode cX10_taken 111 = .ok (.isub, 1) := by decide +kernel
theorem dX10_taken_112 : decode cX10_taken 112 = .ok (.if_icmp .ne 12, 3) := by decide +kernel
theorem dX10_taken_115 : decode cX10_taken 115 = .ok (.aload 4, 2) := by decide +kernel
theorem dX10_taken_117 : decode cX10_taken 117 = .ok (.getfield 228, 3) := by decide +kernel
theorem dX10_taken_120 : decode cX10_taken 120 = .ok (.arraylength, 1) := by decide +kernel
theorem dX10_taken_121 : decode cX10_taken 121 = .ok (.goto 5, 3) := by decide +kernel
theorem dX10_taken_124 : decode cX10_taken 124 = .ok (.bipush (-13), 2) := by decide +kernel
theorem dX10_taken_126 : decode cX10_taken 126 = .ok (.ireturn, 1) := by decide +kernel
set_option maxRecDepth 20000 in
theorem ggX10_act_X10_isNoShelf : GoodIn wsX10_act wsX10_isNoShelf := goodIn_r _ [14, 15, 16, 13, 17] (by decide +kernel) (by decide +kernel)
set_option maxRecDepth 20000 in
theorem gX10_act_X10_isNoShelf : GoodIn wsX10_act (va_wsS RX10 272 yX10_isNoShelf wsX10_isNoShelf) := goodIn_app (goodIn_of _ (by decide +kernel)) ggX10_act_X10_isNoShelf
set_option maxRecDepth 20000 in
theorem ggX10_act_X10_isOutside : GoodIn wsX10_act wsX10_isOutside := goodIn_r _ [17] (by decide +kernel) (by decide +kernel)
set_option maxRecDepth 20000 in
theorem gX10_act_X10_isOutside : GoodIn wsX10_act (va_wsS RX10 87 yX10_isOutside wsX10_isOutside) := goodIn_app (goodIn_of _ (by decide +kernel)) ggX10_act_X10_isOutside
set_option maxRecDepth 20000 in
theorem ggX10_act_X10_holdsGoer : GoodIn wsX10_act wsX10_holdsGoer := goodIn_r _ [21, 22, 6, 4, 23, 24, 25, 26, 27, 28, 145, 146, 147, 148, 149, 150, 151, 152, 153, 154, 155, 156, 157, 163, 164, 165, 166, 167, 168, 169, 170, 171, 172, 173] (by decide +kernel) (by decide +kernel)
set_option maxRecDepth 20000 in
theorem gX10_act_X10_holdsGoer : GoodIn wsX10_act (wsV RX10 275 RX10 yX10_holdsGoer wsX10_holdsGoer) := goodIn_app (goodIn_of _ (by decide +kernel)) ggX10_act_X10_holdsGoer
set_option maxRecDepth 20000 in
theorem ggX10_act_X4_actLooks : GoodIn wsX10_act wsX4_actLooks := goodIn_r _ [34, 35, 36, 37, 158, 159, 160, 161, 162] (by decide +kernel) (by decide +kernel)
set_option maxRecDepth 20000 in
theorem gX10_act_X4_actLooks_u293X1 : GoodIn wsX10_act (va_wsU RX10 293 RX1 "LightMan$Kind" ⟨"LightMan$Kind", "actLooks", "(LLightMan$Acting;I)I"⟩ yX4_actLooks wsX4_actLooks) := goodIn_app (goodIn_of _ (by decide +kernel)) ggX10_act_X4_actLooks
set_option maxRecDepth 20000 in
theorem gX10_act_X4_actLooks_u293X2 : GoodIn wsX10_act (va_wsU RX10 293 RX2 "LightMan$Kind" ⟨"LightMan$Kind", "actLooks", "(LLightMan$Acting;I)I"⟩ yX4_actLooks wsX4_actLooks) := goodIn_app (goodIn_of _ (by decide +kernel)) ggX10_act_X4_actLooks
set_option maxRecDepth 20000 in
theorem gX10_act_X4_actLooks : GoodIn wsX10_act (wsV RX10 293 RX4 yX4_actLooks wsX4_actLooks) := goodIn_app (goodIn_of _ (by decide +kernel)) ggX10_act_X4_actLooks
set_option maxRecDepth 20000 in
theorem ggX10_act_X5_actLooks : GoodIn wsX10_act wsX5_actLooks := goodIn_r _ [45, 46, 47, 48, 30, 49, 32, 33, 34, 35, 36, 37, 158, 159, 160, 161, 162] (by decide +kernel) (by decide +kernel)
set_option maxRecDepth 20000 in
theorem gX10_act_X5_actLooks_u293X5 : GoodIn wsX10_act (va_wsO RX10 293 RX5 "LightMan$Kind" ⟨"LightMan$Kind", "actLooks", "(LLightMan$Acting;I)I"⟩ yX5_actLooks wsX5_actLooks) := goodIn_app (goodIn_of _ (by decide +kernel)) ggX10_act_X5_actLooks
set_option maxRecDepth 20000 in
theorem ggX10_act_X6_actLooks : GoodIn wsX10_act wsX6_actLooks := goodIn_r _ [53, 54, 55, 158, 159, 160, 161, 162] (by decide +kernel) (by decide +kernel)
set_option maxRecDepth 20000 in
theorem gX10_act_X6_actLooks_u293X6 : GoodIn wsX10_act (va_wsO RX10 293 RX6 "LightMan$Kind" ⟨"LightMan$Kind", "actLooks", "(LLightMan$Acting;I)I"⟩ yX6_actLooks wsX6_actLooks) := goodIn_app (goodIn_of _ (by decide +kernel)) ggX10_act_X6_actLooks
set_option maxRecDepth 20000 in
theorem ggX10_act_X9_actLooks : GoodIn wsX10_act wsX9_actLooks := goodIn_r _ [59, 60, 61, 62, 63, 64, 43, 44, 45, 46, 47, 48, 30, 49, 32, 33, 34, 35, 36, 37, 158, 159, 160, 161, 162] (by decide +kernel) (by decide +kernel)
set_option maxRecDepth 20000 in
theorem gX10_act_X9_actLooks_u293X9 : GoodIn wsX10_act (va_wsO RX10 293 RX9 "LightMan$Kind" ⟨"LightMan$Kind", "actLooks", "(LLightMan$Acting;I)I"⟩ yX9_actLooks wsX9_actLooks) := goodIn_app (goodIn_of _ (by decide +kernel)) ggX10_act_X9_actLooks
set_option maxRecDepth 20000 in
theorem ggX10_act_X4_actWalks : GoodIn wsX10_act wsX4_actWalks := goodIn_r _ [69, 35, 36, 70, 71, 30, 31, 32, 33, 34, 37, 38, 72, 40, 41, 42, 43, 44, 45, 46, 47, 48, 49, 50, 51, 52, 53, 54, 55, 56, 57, 58, 59, 60, 61, 62, 63, 64, 158, 159, 160, 161, 162] (by decide +kernel) (by decide +kernel)
set_option maxRecDepth 20000 in
theorem gX10_act_X4_actWalks_u297X1 : GoodIn wsX10_act (va_wsU RX10 297 RX1 "LightMan$Kind" ⟨"LightMan$Kind", "actWalks", "(LLightMan$Acting;I)I"⟩ yX4_actWalks wsX4_actWalks) := goodIn_app (goodIn_of _ (by decide +kernel)) ggX10_act_X4_actWalks
set_option maxRecDepth 20000 in
theorem ggX10_act_X2_actWalks : GoodIn wsX10_act wsX2_actWalks := goodIn_r _ [77, 78, 79, 80, 66, 81, 68, 33, 69, 35, 36, 70, 71, 30, 31, 32, 34, 37, 38, 72, 40, 41, 42, 43, 44, 45, 46, 47, 48, 49, 50, 51, 52, 53, 54, 55, 56, 57, 58, 59, 60, 61, 62, 63, 64, 158, 159, 160, 161, 162] (by decide +kernel) (by decide +kernel)
set_option maxRecDepth 20000 in
theorem gX10_act_X2_actWalks_u297X2 : GoodIn wsX10_act (va_wsO RX10 297 RX2 "LightMan$Kind" ⟨"LightMan$Kind", "actWalks", "(LLightMan$Acting;I)I"⟩ yX2_actWalks wsX2_actWalks) := goodIn_app (goodIn_of _ (by decide +kernel)) ggX10_act_X2_actWalks
set_option maxRecDepth 20000 in
theorem gX10_act_X4_actWalks : GoodIn wsX10_act (wsV RX10 297 RX4 yX4_actWalks wsX4_actWalks) := goodIn_app (goodIn_of _ (by decide +kernel)) ggX10_act_X4_actWalks
set_option maxRecDepth 20000 in
theorem gX10_act_X4_actWalks_u297X5 : GoodIn wsX10_act (va_wsU RX10 297 RX5 "LightMan$Kind" ⟨"LightMan$Kind", "actWalks", "(LLightMan$Acting;I)I"⟩ yX4_actWalks wsX4_actWalks) := goodIn_app (goodIn_of _ (by decide +kernel)) ggX10_act_X4_actWalks
set_option maxRecDepth 20000 in
theorem gX10_act_X2_actWalks_u297X6 : GoodIn wsX10_act (va_wsO RX10 297 RX6 "LightMan$Kind" ⟨"LightMan$Kind", "actWalks", "(LLightMan$Acting;I)I"⟩ yX2_actWalks wsX2_actWalks) := goodIn_app (goodIn_of _ (by decide +kernel)) ggX10_act_X2_actWalks
set_option maxRecDepth 20000 in
theorem ggX10_act_X9_actWalks : GoodIn wsX10_act wsX9_actWalks := goodIn_r _ [88, 60, 61, 89, 90, 57, 91, 58, 59, 62, 63, 64, 43, 44, 45, 46, 47, 48, 30, 49, 32, 33, 34, 35, 36, 37, 158, 159, 160, 161, 162] (by decide +kernel) (by decide +kernel)
set_option maxRecDepth 20000 in
theorem gX10_act_X9_actWalks_u297X9 : GoodIn wsX10_act (va_wsO RX10 297 RX9 "LightMan$Kind" ⟨"LightMan$Kind", "actWalks", "(LLightMan$Acting;I)I"⟩ yX9_actWalks wsX9_actWalks) := goodIn_app (goodIn_of _ (by decide +kernel)) ggX10_act_X9_actWalks
set_option maxRecDepth 20000 in
theorem ggX10_act_X1_actParts : GoodIn wsX10_act wsX1_actParts := goodIn_r _ [98, 99, 100, 101, 102, 103, 93, 104, 105, 33, 106, 35, 36, 70, 37, 107, 108, 109, 110, 32, 34, 158, 159, 160, 161, 162] (by decide +kernel) (by decide +kernel)
set_option maxRecDepth 20000 in
theorem gX10_act_X1_actParts_u300X1 : GoodIn wsX10_act (va_wsO RX10 300 RX1 "LightMan$Kind" ⟨"LightMan$Kind", "actParts", "(LLightMan$Acting;I)I"⟩ yX1_actParts wsX1_actParts) := goodIn_app (goodIn_of _ (by decide +kernel)) ggX10_act_X1_actParts
set_option maxRecDepth 20000 in
theorem ggX10_act_X4_actParts : GoodIn wsX10_act wsX4_actParts := goodIn_r _ [106, 35, 36, 70, 37, 107, 158, 159, 160, 161, 162] (by decide +kernel) (by decide +kernel)
set_option maxRecDepth 20000 in
theorem gX10_act_X4_actParts_u300X2 : GoodIn wsX10_act (va_wsU RX10 300 RX2 "LightMan$Kind" ⟨"LightMan$Kind", "actParts", "(LLightMan$Acting;I)I"⟩ yX4_actParts wsX4_actParts) := goodIn_app (goodIn_of _ (by decide +kernel)) ggX10_act_X4_actParts
set_option maxRecDepth 20000 in
theorem gX10_act_X4_actParts : GoodIn wsX10_act (wsV RX10 300 RX4 yX4_actParts wsX4_actParts) := goodIn_app (goodIn_of _ (by decide +kernel)) ggX10_act_X4_actParts
set_option maxRecDepth 20000 in
theorem gX10_act_X4_actParts_u300X5 : GoodIn wsX10_act (va_wsU RX10 300 RX5 "LightMan$Kind" ⟨"LightMan$Kind", "actParts", "(LLightMan$Acting;I)I"⟩ yX4_actParts wsX4_actParts) := goodIn_app (goodIn_of _ (by decide +kernel)) ggX10_act_X4_actParts
set_option maxRecDepth 20000 in
theorem ggX10_act_X6_actParts : GoodIn wsX10_act wsX6_actParts := goodIn_r _ [117, 54, 55, 118, 158, 159, 160, 161, 162] (by decide +kernel) (by decide +kernel)
set_option maxRecDepth 20000 in
theorem gX10_act_X6_actParts_u300X6 : GoodIn wsX10_act (va_wsO RX10 300 RX6 "LightMan$Kind" ⟨"LightMan$Kind", "actParts", "(LLightMan$Acting;I)I"⟩ yX6_actParts wsX6_actParts) := goodIn_app (goodIn_of _ (by decide +kernel)) ggX10_act_X6_actParts
set_option maxRecDepth 20000 in
theorem gX10_act_X4_actParts_u300X9 : GoodIn wsX10_act (va_wsU RX10 300 RX9 "LightMan$Kind" ⟨"LightMan$Kind", "actParts", "(LLightMan$Acting;I)I"⟩ yX4_actParts wsX4_actParts) := goodIn_app (goodIn_of _ (by decide +kernel)) ggX10_act_X4_actParts
set_option maxRecDepth 20000 in
theorem ggX10_act_X1_actComes : GoodIn wsX10_act wsX1_actComes := goodIn_r _ [125, 99, 100, 126, 121, 104, 127, 33, 128, 35, 36, 129, 66, 67, 68, 69, 70, 71, 30, 31, 32, 34, 37, 38, 72, 40, 41, 42, 43, 44, 45, 46, 47, 48, 49, 50, 51, 52, 53, 54, 55, 56, 57, 58, 59, 60, 61, 62, 63, 64, 73, 74, 75, 76, 77, 78, 79, 80, 81, 130, 83, 84, 85, 86, 87, 88, 89, 90, 91, 158, 159, 160, 161, 162] (by decide +kernel) (by decide +kernel)
set_option maxRecDepth 20000 in
theorem gX10_act_X1_actComes_u303X1 : GoodIn wsX10_act (va_wsO RX10 303 RX1 "LightMan$Kind" ⟨"LightMan$Kind", "actComes", "(LLightMan$Acting;I)I"⟩ yX1_actComes wsX1_actComes) := goodIn_app (goodIn_of _ (by decide +kernel)) ggX10_act_X1_actComes
set_option maxRecDepth 20000 in
theorem ggX10_act_X4_actComes : GoodIn wsX10_act wsX4_actComes := goodIn_r _ [128, 35, 36, 129, 66, 67, 68, 33, 69, 70, 71, 30, 31, 32, 34, 37, 38, 72, 40, 41, 42, 43, 44, 45, 46, 47, 48, 49, 50, 51, 52, 53, 54, 55, 56, 57, 58, 59, 60, 61, 62, 63, 64, 73, 74, 75, 76, 77, 78, 79, 80, 81, 130, 83, 84, 85, 86, 87, 88, 89, 90, 91, 158, 159, 160, 161, 162] (by decide +kernel) (by decide +kernel)
set_option maxRecDepth 20000 in
theorem gX10_act_X4_actComes_u303X2 : GoodIn wsX10_act (va_wsU RX10 303 RX2 "LightMan$Kind" ⟨"LightMan$Kind", "actComes", "(LLightMan$Acting;I)I"⟩ yX4_actComes wsX4_actComes) := goodIn_app (goodIn_of _ (by decide +kernel)) ggX10_act_X4_actComes
set_option maxRecDepth 20000 in
theorem gX10_act_X4_actComes : GoodIn wsX10_act (wsV RX10 303 RX4 yX4_actComes wsX4_actComes) := goodIn_app (goodIn_of _ (by decide +kernel)) ggX10_act_X4_actComes
set_option maxRecDepth 20000 in
theorem ggX10_act_X5_actComes : GoodIn wsX10_act wsX5_actComes := goodIn_r _ [136, 46, 47, 137, 138, 121, 49, 127, 33, 128, 35, 36, 129, 66, 67, 68, 69, 70, 71, 30, 31, 32, 34, 37, 38, 72, 40, 41, 42, 43, 44, 45, 48, 50, 51, 52, 53, 54, 55, 56, 57, 58, 59, 60, 61, 62, 63, 64, 73, 74, 75, 76, 77, 78, 79, 80, 81, 130, 83, 84, 85, 86, 87, 88, 89, 90, 91, 139, 140, 141, 105, 106, 107, 142, 158, 159, 160, 161, 162] (by decide +kernel) (by decide +kernel)
set_option maxRecDepth 20000 in
theorem gX10_act_X5_actComes_u303X5 : GoodIn wsX10_act (va_wsO RX10 303 RX5 "LightMan$Kind" ⟨"LightMan$Kind", "actComes", "(LLightMan$Acting;I)I"⟩ yX5_actComes wsX5_actComes) := goodIn_app (goodIn_of _ (by decide +kernel)) ggX10_act_X5_actComes
set_option maxRecDepth 20000 in
theorem gX10_act_X4_actComes_u303X6 : GoodIn wsX10_act (va_wsU RX10 303 RX6 "LightMan$Kind" ⟨"LightMan$Kind", "actComes", "(LLightMan$Acting;I)I"⟩ yX4_actComes wsX4_actComes) := goodIn_app (goodIn_of _ (by decide +kernel)) ggX10_act_X4_actComes
set_option maxRecDepth 20000 in
theorem gX10_act_X5_actComes_u303X9 : GoodIn wsX10_act (va_wsO RX10 303 RX9 "LightMan$Kind" ⟨"LightMan$Kind", "actComes", "(LLightMan$Acting;I)I"⟩ yX5_actComes wsX5_actComes) := goodIn_app (goodIn_of _ (by decide +kernel)) ggX10_act_X5_actComes
theorem dX10_act_0 : decode cX10_act 0 = .ok (.aload_n 0, 1) := by decide +kernel
theorem dX10_act_1 : decode cX10_act 1 = .ok (.getfield 68, 3) := by decide +kernel
theorem dX10_act_4 : decode cX10_act 4 = .ok (.iconst 0, 1) := by decide +kernel
theorem dX10_act_5 : decode cX10_act 5 = .ok (.putfield 281, 3) := by decide +kernel
theorem dX10_act_8 : decode cX10_act 8 = .ok (.aload_n 0, 1) := by decide +kernel
theorem dX10_act_9 : decode cX10_act 9 = .ok (.getfield 68, 3) := by decide +kernel
theorem dX10_act_12 : decode cX10_act 12 = .ok (.iconst 0, 1) := by decide +kernel
theorem dX10_act_13 : decode cX10_act 13 = .ok (.putfield 284, 3) := by decide +kernel
theorem dX10_act_16 : decode cX10_act 16 = .ok (.iload_n 1, 1) := by decide +kernel
theorem dX10_act_17 : decode cX10_act 17 = .ok (.invokestatic 272, 3) := by decide +kernel
theorem dX10_act_20 : decode cX10_act 20 = .ok (.ifCond .ne 20, 3) := by decide +kernel
theorem dX10_act_23 : decode cX10_act 23 = .ok (.iload_n 2, 1) := by decide +kernel
theorem dX10_act_24 : decode cX10_act 24 = .ok (.iconst 0, 1) := by decide +kernel
theorem dX10_act_25 : decode cX10_act 25 = .ok (.iconst 3, 1) := by decide +kernel
theorem dX10_act_26 : decode cX10_act 26 = .ok (.invokestatic 87, 3) := by decide +kernel
theorem dX10_act_29 : decode cX10_act 29 = .ok (.ifCond .ne 11, 3) := by decide +kernel
theorem dX10_act_32 : decode cX10_act 32 = .ok (.aload_n 0, 1) := by decide +kernel
theorem dX10_act_33 : decode cX10_act 33 = .ok (.iload_n 1, 1) := by decide +kernel
theorem dX10_act_34 : decode cX10_act 34 = .ok (.invokevirtual 275, 3) := by decide +kernel
theorem dX10_act_37 : decode cX10_act 37 = .ok (.ifCond .ne 5, 3) := by decide +kernel
theorem dX10_act_40 : decode cX10_act 40 = .ok (.iconst 0, 1) := by decide +kernel
theorem dX10_act_41 : decode cX10_act 41 = .ok (.ireturn, 1) := by decide +kernel
theorem dX10_act_42 : decode cX10_act 42 = .ok (.aload_n 0, 1) := by decide +kernel
theorem dX10_act_43 : decode cX10_act 43 = .ok (.getfield 81, 3) := by decide +kernel
theorem dX10_act_46 : decode cX10_act 46 = .ok (.iload_n 1, 1) := by decide +kernel
theorem dX10_act_47 : decode cX10_act 47 = .ok (.iaload, 1) := by decide +kernel
theorem dX10_act_48 : decode cX10_act 48 = .ok (.istore 4, 2) := by decide +kernel
theorem dX10_act_50 : decode cX10_act 50 = .ok (.aload_n 0, 1) := by decide +kernel
theorem dX10_act_51 : decode cX10_act 51 = .ok (.getfield 25, 3) := by decide +kernel
theorem dX10_act_54 : decode cX10_act 54 = .ok (.aload_n 0, 1) := by decide +kernel
theorem dX10_act_55 : decode cX10_act 55 = .ok (.getfield 36, 3) := by decide +kernel
theorem dX10_act_58 : decode cX10_act 58 = .ok (.getfield 138, 3) := by decide +kernel
theorem dX10_act_61 : decode cX10_act 61 = .ok (.iload 4, 2) := by decide +kernel
theorem dX10_act_63 : decode cX10_act 63 = .ok (.iaload, 1) := by decide +kernel
theorem dX10_act_64 : decode cX10_act 64 = .ok (.aaload, 1) := by decide +kernel
theorem dX10_act_65 : decode cX10_act 65 = .ok (.astore 5, 2) := by decide +kernel
theorem dX10_act_67 : decode cX10_act 67 = .ok (.aload_n 0, 1) := by decide +kernel
theorem dX10_act_68 : decode cX10_act 68 = .ok (.getfield 68, 3) := by decide +kernel
theorem dX10_act_71 : decode cX10_act 71 = .ok (.iload 4, 2) := by decide +kernel
theorem dX10_act_73 : decode cX10_act 73 = .ok (.putfield 287, 3) := by decide +kernel
theorem dX10_act_76 : decode cX10_act 76 = .ok (.aload_n 0, 1) := by decide +kernel
theorem dX10_act_77 : decode cX10_act 77 = .ok (.getfield 68, 3) := by decide +kernel
theorem dX10_act_80 : decode cX10_act 80 = .ok (.aload_n 0, 1) := by decide +kernel
theorem dX10_act_81 : decode cX10_act 81 = .ok (.getfield 36, 3) := by decide +kernel
theorem dX10_act_84 : decode cX10_act 84 = .ok (.getfield 143, 3) := by decide +kernel
theorem dX10_act_87 : decode cX10_act 87 = .ok (.iload 4, 2) := by decide +kernel
theorem dX10_act_89 : decode cX10_act 89 = .ok (.iaload, 1) := by decide +kernel
theorem dX10_act_90 : decode cX10_act 90 = .ok (.putfield 290, 3) := by decide +kernel
theorem dX10_act_93 : decode cX10_act 93 = .ok (.iload_n 2, 1) := by decide +kernel
theorem dX10_act_94 : decode cX10_act 94 = .ok (.tableswitch 71 0 2 #[26, 41, 56], 26) := by decide +kernel
theorem dX10_act_120 : decode cX10_act 120 = .ok (.aload 5, 2) := by decide +kernel
theorem dX10_act_122 : decode cX10_act 122 = .ok (.aload_n 0, 1) := by decide +kernel
theorem dX10_act_123 : decode cX10_act 123 = .ok (.getfield 68, 3) := by decide +kernel
theorem dX10_act_126 : decode cX10_act 126 = .ok (.iload_n 3, 1) := by decide +kernel
theorem dX10_act_127 : decode cX10_act 127 = .ok (.invokevirtual 293, 3) := by decide +kernel
theorem dX10_act_130 : decode cX10_act 130 = .ok (.istore 6, 2) := by decide +kernel
theorem dX10_act_132 : decode cX10_act 132 = .ok (.goto 45, 3) := by decide +kernel
theorem dX10_act_135 : decode cX10_act 135 = .ok (.aload 5, 2) := by decide +kernel
theorem dX10_act_137 : decode cX10_act 137 = .ok (.aload_n 0, 1) := by decide +kernel
theorem dX10_act_138 : decode cX10_act 138 = .ok (.getfield 68, 3) := by decide +kernel
theorem dX10_act_141 : decode cX10_act 141 = .ok (.iload_n 3, 1) := by decide +kernel
theorem dX10_act_142 : decode cX10_act 142 = .ok (.invokevirtual 297, 3) := by decide +kernel
theorem dX10_act_145 : decode cX10_act 145 = .ok (.istore 6, 2) := by decide +kernel
theorem dX10_act_147 : decode cX10_act 147 = .ok (.goto 30, 3) := by decide +kernel
theorem dX10_act_150 : decode cX10_act 150 = .ok (.aload 5, 2) := by decide +kernel
theorem dX10_act_152 : decode cX10_act 152 = .ok (.aload_n 0, 1) := by decide +kernel
theorem dX10_act_153 : decode cX10_act 153 = .ok (.getfield 68, 3) := by decide +kernel
theorem dX10_act_156 : decode cX10_act 156 = .ok (.iload_n 3, 1) := by decide +kernel
theorem dX10_act_157 : decode cX10_act 157 = .ok (.invokevirtual 300, 3) := by decide +kernel
theorem dX10_act_160 : decode cX10_act 160 = .ok (.istore 6, 2) := by decide +kernel
theorem dX10_act_162 : decode cX10_act 162 = .ok (.goto 15, 3) := by decide +kernel
theorem dX10_act_165 : decode cX10_act 165 = .ok (.aload 5, 2) := by decide +kernel
theorem dX10_act_167 : decode cX10_act 167 = .ok (.aload_n 0, 1) := by decide +kernel
theorem dX10_act_168 : decode cX10_act 168 = .ok (.getfield 68, 3) := by decide +kernel
theorem dX10_act_171 : decode cX10_act 171 = .ok (.iload_n 3, 1) := by decide +kernel
theorem dX10_act_172 : decode cX10_act 172 = .ok (.invokevirtual 303, 3) := by decide +kernel
theorem dX10_act_175 : decode cX10_act 175 = .ok (.istore 6, 2) := by decide +kernel
theorem dX10_act_177 : decode cX10_act 177 = .ok (.aload_n 0, 1) := by decide +kernel
theorem dX10_act_178 : decode cX10_act 178 = .ok (.getfield 68, 3) := by decide +kernel
theorem dX10_act_181 : decode cX10_act 181 = .ok (.getfield 284, 3) := by decide +kernel
theorem dX10_act_184 : decode cX10_act 184 = .ok (.ifCond .eq 8, 3) := by decide +kernel
theorem dX10_act_187 : decode cX10_act 187 = .ok (.bipush (-15), 2) := by decide +kernel
theorem dX10_act_189 : decode cX10_act 189 = .ok (.goto 5, 3) := by decide +kernel
theorem dX10_act_192 : decode cX10_act 192 = .ok (.iload 6, 2) := by decide +kernel
theorem dX10_act_194 : decode cX10_act 194 = .ok (.ireturn, 1) := by decide +kernel
set_option maxRecDepth 20000 in
theorem ggX10_trace_X10_isOutside : GoodIn wsX10_trace wsX10_isOutside := goodIn_r _ [7] (by decide +kernel) (by decide +kernel)
set_option maxRecDepth 20000 in
theorem gX10_trace_X10_isOutside : GoodIn wsX10_trace (va_wsS RX10 87 yX10_isOutside wsX10_isOutside) := goodIn_app (goodIn_of _ (by decide +kernel)) ggX10_trace_X10_isOutside
theorem dX10_trace_0 : decode cX10_trace 0 = .ok (.iload_n 1, 1) := by decide +kernel
theorem dX10_trace_1 : decode cX10_trace 1 = .ok (.iconst 0, 1) := by decide +kernel
theorem dX10_trace_2 : decode cX10_trace 2 = .ok (.aload_n 0, 1) := by decide +kernel
theorem dX10_trace_3 : decode cX10_trace 3 = .ok (.getfield 68, 3) := by decide +kernel
theorem dX10_trace_6 : decode cX10_trace 6 = .ok (.getfield 281, 3) := by decide +kernel
theorem dX10_trace_9 : decode cX10_trace 9 = .ok (.iconst 1, 1) := by decide +kernel
theorem dX10_trace_10 : decode cX10_trace 10 = .ok (.isub, 1) := by decide +kernel
theorem dX10_trace_11 : decode cX10_trace 11 = .ok (.invokestatic 87, 3) := by decide +kernel
theorem dX10_trace_14 : decode cX10_trace 14 = .ok (.ifCond .eq 8, 3) := by decide +kernel
theorem dX10_trace_17 : decode cX10_trace 17 = .ok (.bipush (-3), 2) := by decide +kernel
theorem dX10_trace_19 : decode cX10_trace 19 = .ok (.goto 12, 3) := by decide +kernel
theorem dX10_trace_22 : decode cX10_trace 22 = .ok (.aload_n 0, 1) := by decide +kernel
theorem dX10_trace_23 : decode cX10_trace 23 = .ok (.getfield 68, 3) := by decide +kernel
theorem dX10_trace_26 : decode cX10_trace 26 = .ok (.getfield 306, 3) := by decide +kernel
theorem dX10_trace_29 : decode cX10_trace 29 = .ok (.iload_n 1, 1) := by decide +kernel
theorem dX10_trace_30 : decode cX10_trace 30 = .ok (.iaload, 1) := by decide +kernel
theorem dX10_trace_31 : decode cX10_trace 31 = .ok (.ireturn, 1) := by decide +kernel
set_option maxRecDepth 20000 in
theorem ggX10_holdsGoer_X8_has : GoodIn wsX10_holdsGoer wsX8_has := goodIn_r _ [8, 9, 23, 24, 25, 26, 27, 28, 29, 30, 31, 32, 33] (by decide +kernel) (by decide +kernel)
set_option maxRecDepth 20000 in
theorem gX10_holdsGoer_X8_has : GoodIn wsX10_holdsGoer (wsV RX10 135 RX8 yX8_has wsX8_has) := goodIn_app (goodIn_of _ (by decide +kernel)) ggX10_holdsGoer_X8_has
theorem dX10_holdsGoer_0 : decode cX10_holdsGoer 0 = .ok (.aload_n 0, 1) := by decide +kernel
theorem dX10_holdsGoer_1 : decode cX10_holdsGoer 1 = .ok (.getfield 78, 3) := by decide +kernel
theorem dX10_holdsGoer_4 : decode cX10_holdsGoer 4 = .ok (.iload_n 1, 1) := by decide +kernel
theorem dX10_holdsGoer_5 : decode cX10_holdsGoer 5 = .ok (.iaload, 1) := by decide +kernel
theorem dX10_holdsGoer_6 : decode cX10_holdsGoer 6 = .ok (.ifCond .ne 23, 3) := by decide +kernel
theorem dX10_holdsGoer_9 : decode cX10_holdsGoer 9 = .ok (.aload_n 0, 1) := by decide +kernel
theorem dX10_holdsGoer_10 : decode cX10_holdsGoer 10 = .ok (.getfield 36, 3) := by decide +kernel
theorem dX10_holdsGoer_13 : decode cX10_holdsGoer 13 = .ok (.aload_n 0, 1) := by decide +kernel
theorem dX10_holdsGoer_14 : decode cX10_holdsGoer 14 = .ok (.getfield 81, 3) := by decide +kernel
theorem dX10_holdsGoer_17 : decode cX10_holdsGoer 17 = .ok (.iload_n 1, 1) := by decide +kernel
theorem dX10_holdsGoer_18 : decode cX10_holdsGoer 18 = .ok (.iaload, 1) := by decide +kernel
theorem dX10_holdsGoer_19 : decode cX10_holdsGoer 19 = .ok (.invokevirtual 135, 3) := by decide +kernel
theorem dX10_holdsGoer_22 : decode cX10_holdsGoer 22 = .ok (.ifCond .eq 7, 3) := by decide +kernel
theorem dX10_holdsGoer_25 : decode cX10_holdsGoer 25 = .ok (.iconst 1, 1) := by decide +kernel
theorem dX10_holdsGoer_26 : decode cX10_holdsGoer 26 = .ok (.goto 4, 3) := by decide +kernel
theorem dX10_holdsGoer_29 : decode cX10_holdsGoer 29 = .ok (.iconst 0, 1) := by decide +kernel
theorem dX10_holdsGoer_30 : decode cX10_holdsGoer 30 = .ok (.ireturn, 1) := by decide +kernel
set_option maxRecDepth 20000 in
theorem ggX10_many_X8_throughSet : GoodIn wsX10_many wsX8_throughSet := goodIn_r _ [12, 13, 14, 15, 16, 11, 17, 18, 107, 108, 109, 110, 111, 112, 113, 114, 115, 116, 117] (by decide +kernel) (by decide +kernel)
set_option maxRecDepth 20000 in
theorem gX10_many_X8_throughSet : GoodIn wsX10_many (wsV RX10 184 RX8 yX8_throughSet wsX8_throughSet) := goodIn_app (goodIn_of _ (by decide +kernel)) ggX10_many_X8_throughSet
set_option maxRecDepth 20000 in
theorem ggX10_many_J6_bitCount_0f7a4 : GoodIn wsX10_many wsJ6_bitCount_0f7a4 := goodIn_r _ [22, 23, 24, 25] (by decide +kernel) (by decide +kernel)
set_option maxRecDepth 20000 in
theorem gX10_many_J6_bitCount_0f7a4 : GoodIn wsX10_many (va_wsS RX10 188 yJ6_bitCount_0f7a4 wsJ6_bitCount_0f7a4) := goodIn_app (goodIn_of _ (by decide +kernel)) ggX10_many_J6_bitCount_0f7a4
set_option maxRecDepth 20000 in
theorem ggX10_many_X8_seeingSet : GoodIn wsX10_many wsX8_seeingSet := goodIn_r _ [29, 13, 30, 31, 32, 11, 33, 34, 14, 15, 16, 17, 18, 35, 36, 37, 38, 39, 40, 41, 42, 43, 44, 45, 46, 47, 48, 49, 50, 51, 52, 53, 54, 55, 56, 57, 58, 59, 60, 61, 62, 63, 64, 65, 66, 67, 68, 69, 70, 71, 72, 73, 74, 75, 76, 77, 78, 79, 80, 81, 82, 83, 84, 85, 86, 87, 88, 107, 108, 109, 110, 111, 112, 113, 114, 115, 116, 117] (by decide +kernel) (by decide +kernel)
set_option maxRecDepth 20000 in
theorem gX10_many_X8_seeingSet : GoodIn wsX10_many (wsV RX10 199 RX8 yX8_seeingSet wsX8_seeingSet) := goodIn_app (goodIn_of _ (by decide +kernel)) ggX10_many_X8_seeingSet
set_option maxRecDepth 20000 in
theorem ggX10_many_X8_movedEver : GoodIn wsX10_many wsX8_movedEver := goodIn_r _ [92, 13, 93, 107, 108, 109, 110, 111, 112, 113, 114, 115, 116, 117] (by decide +kernel) (by decide +kernel)
set_option maxRecDepth 20000 in
theorem gX10_many_X8_movedEver : GoodIn wsX10_many (wsV RX10 309 RX8 yX8_movedEver wsX8_movedEver) := goodIn_app (goodIn_of _ (by decide +kernel)) ggX10_many_X8_movedEver
theorem dX10_many_0 : decode cX10_many 0 = .ok (.iload_n 1, 1) := by decide +kernel
theorem dX10_many_1 : decode cX10_many 1 = .ok (.tableswitch 102 0 6 #[43, 51, 62, 73, 81, 86, 94], 43) := by decide +kernel
theorem dX10_many_44 : decode cX10_many 44 = .ok (.aload_n 0, 1) := by decide +kernel
theorem dX10_many_45 : decode cX10_many 45 = .ok (.getfield 36, 3) := by decide +kernel
theorem dX10_many_48 : decode cX10_many 48 = .ok (.getfield 109, 3) := by decide +kernel
theorem dX10_many_51 : decode cX10_many 51 = .ok (.ireturn, 1) := by decide +kernel
theorem dX10_many_52 : decode cX10_many 52 = .ok (.aload_n 0, 1) := by decide +kernel
theorem dX10_many_53 : decode cX10_many 53 = .ok (.getfield 36, 3) := by decide +kernel
theorem dX10_many_56 : decode cX10_many 56 = .ok (.invokevirtual 184, 3) := by decide +kernel
theorem dX10_many_59 : decode cX10_many 59 = .ok (.invokestatic 188, 3) := by decide +kernel
theorem dX10_many_62 : decode cX10_many 62 = .ok (.ireturn, 1) := by decide +kernel
theorem dX10_many_63 : decode cX10_many 63 = .ok (.aload_n 0, 1) := by decide +kernel
theorem dX10_many_64 : decode cX10_many 64 = .ok (.getfield 36, 3) := by decide +kernel
theorem dX10_many_67 : decode cX10_many 67 = .ok (.invokevirtual 199, 3) := by decide +kernel
theorem dX10_many_70 : decode cX10_many 70 = .ok (.invokestatic 188, 3) := by decide +kernel
theorem dX10_many_73 : decode cX10_many 73 = .ok (.ireturn, 1) := by decide +kernel
theorem dX10_many_74 : decode cX10_many 74 = .ok (.aload_n 0, 1) := by decide +kernel
theorem dX10_many_75 : decode cX10_many 75 = .ok (.getfield 36, 3) := by decide +kernel
theorem dX10_many_78 : decode cX10_many 78 = .ok (.invokevirtual 309, 3) := by decide +kernel
theorem dX10_many_81 : decode cX10_many 81 = .ok (.ireturn, 1) := by decide +kernel
theorem dX10_many_82 : decode cX10_many 82 = .ok (.aload_n 0, 1) := by decide +kernel
theorem dX10_many_83 : decode cX10_many 83 = .ok (.getfield 61, 3) := by decide +kernel
theorem dX10_many_86 : decode cX10_many 86 = .ok (.ireturn, 1) := by decide +kernel
theorem dX10_many_87 : decode cX10_many 87 = .ok (.aload_n 0, 1) := by decide +kernel
theorem dX10_many_88 : decode cX10_many 88 = .ok (.getfield 53, 3) := by decide +kernel
theorem dX10_many_91 : decode cX10_many 91 = .ok (.getfield 95, 3) := by decide +kernel
theorem dX10_many_94 : decode cX10_many 94 = .ok (.ireturn, 1) := by decide +kernel
theorem dX10_many_95 : decode cX10_many 95 = .ok (.aload_n 0, 1) := by decide +kernel
theorem dX10_many_96 : decode cX10_many 96 = .ok (.getfield 68, 3) := by decide +kernel
theorem dX10_many_99 : decode cX10_many 99 = .ok (.getfield 281, 3) := by decide +kernel
theorem dX10_many_102 : decode cX10_many 102 = .ok (.ireturn, 1) := by decide +kernel
theorem dX10_many_103 : decode cX10_many 103 = .ok (.iconst (-1), 1) := by decide +kernel
theorem dX10_many_104 : decode cX10_many 104 = .ok (.ireturn, 1) := by decide +kernel
set_option maxRecDepth 20000 in
theorem ggX10_keep_X8_copyFrom : GoodIn wsX10_keep wsX8_copyFrom := goodIn_r _ [8, 9, 10, 11, 12, 13, 14, 15, 16, 17, 7, 18, 19, 20, 21, 22, 36, 37, 38, 39, 40, 41, 42, 43, 44, 45, 46] (by decide +kernel) (by decide +kernel)
set_option maxRecDepth 20000 in
theorem gX10_keep_X8_copyFrom : GoodIn wsX10_keep (wsV RX10 105 RX8 yX8_copyFrom wsX8_copyFrom) := goodIn_app (goodIn_of _ (by decide +kernel)) ggX10_keep_X8_copyFrom
theorem dX10_keep_0 : decode cX10_keep 0 = .ok (.aload_n 0, 1) := by decide +kernel
theorem dX10_keep_1 : decode cX10_keep 1 = .ok (.getfield 40, 3) := by decide +kernel
theorem dX10_keep_4 : decode cX10_keep 4 = .ok (.aload_n 0, 1) := by decide +kernel
theorem dX10_keep_5 : decode cX10_keep 5 = .ok (.getfield 36, 3) := by decide +kernel
theorem dX10_keep_8 : decode cX10_keep 8 = .ok (.invokevirtual 105, 3) := by decide +kernel
theorem dX10_keep_11 : decode cX10_keep 11 = .ok (.aload_n 0, 1) := by decide +kernel
theorem dX10_keep_12 : decode cX10_keep 12 = .ok (.iconst 1, 1) := by decide +kernel
theorem dX10_keep_13 : decode cX10_keep 13 = .ok (.putfield 46, 3) := by decide +kernel
theorem dX10_keep_16 : decode cX10_keep 16 = .ok (.iconst 1, 1) := by decide +kernel
theorem dX10_keep_17 : decode cX10_keep 17 = .ok (.ireturn, 1) := by decide +kernel
set_option maxRecDepth 20000 in
theorem ggX10_again_X8_copyFrom : GoodIn wsX10_again wsX8_copyFrom := goodIn_r _ [9, 10, 11, 12, 13, 14, 15, 16, 17, 18, 8, 19, 20, 21, 22, 23, 37, 38, 39, 40, 41, 42, 43, 44, 45, 46, 47] (by decide +kernel) (by decide +kernel)
set_option maxRecDepth 20000 in
theorem gX10_again_X8_copyFrom : GoodIn wsX10_again (wsV RX10 105 RX8 yX8_copyFrom wsX8_copyFrom) := goodIn_app (goodIn_of _ (by decide +kernel)) ggX10_again_X8_copyFrom
theorem dX10_again_0 : decode cX10_again 0 = .ok (.aload_n 0, 1) := by decide +kernel
theorem dX10_again_1 : decode cX10_again 1 = .ok (.getfield 46, 3) := by decide +kernel
theorem dX10_again_4 : decode cX10_again 4 = .ok (.ifCond .ne 6, 3) := by decide +kernel
theorem dX10_again_7 : decode cX10_again 7 = .ok (.bipush (-3), 2) := by decide +kernel
theorem dX10_again_9 : decode cX10_again 9 = .ok (.ireturn, 1) := by decide +kernel
theorem dX10_again_10 : decode cX10_again 10 = .ok (.aload_n 0, 1) := by decide +kernel
theorem dX10_again_11 : decode cX10_again 11 = .ok (.getfield 36, 3) := by decide +kernel
theorem dX10_again_14 : decode cX10_again 14 = .ok (.aload_n 0, 1) := by decide +kernel
theorem dX10_again_15 : decode cX10_again 15 = .ok (.getfield 40, 3) := by decide +kernel
theorem dX10_again_18 : decode cX10_again 18 = .ok (.invokevirtual 105, 3) := by decide +kernel
theorem dX10_again_21 : decode cX10_again 21 = .ok (.aload_n 0, 1) := by decide +kernel
theorem dX10_again_22 : decode cX10_again 22 = .ok (.getfield 36, 3) := by decide +kernel
theorem dX10_again_25 : decode cX10_again 25 = .ok (.getfield 109, 3) := by decide +kernel
theorem dX10_again_28 : decode cX10_again 28 = .ok (.ireturn, 1) := by decide +kernel
theorem dX10_isOutside_0 : decode cX10_isOutside 0 = .ok (.iload_n 0, 1) := by decide +kernel
theorem dX10_isOutside_1 : decode cX10_isOutside 1 = .ok (.iload_n 1, 1) := by decide +kernel
theorem dX10_isOutside_2 : decode cX10_isOutside 2 = .ok (.if_icmp .lt 8, 3) := by decide +kernel
theorem dX10_isOutside_5 : decode cX10_isOutside 5 = .ok (.iload_n 0, 1) := by decide +kernel
theorem dX10_isOutside_6 : decode cX10_isOutside 6 = .ok (.iload_n 2, 1) := by decide +kernel
theorem dX10_isOutside_7 : decode cX10_isOutside 7 = .ok (.if_icmp .le 7, 3) := by decide +kernel
theorem dX10_isOutside_10 : decode cX10_isOutside 10 = .ok (.iconst 1, 1) := by decide +kernel
theorem dX10_isOutside_11 : decode cX10_isOutside 11 = .ok (.goto 4, 3) := by decide +kernel
theorem dX10_isOutside_14 : decode cX10_isOutside 14 = .ok (.iconst 0, 1) := by decide +kernel
theorem dX10_isOutside_15 : decode cX10_isOutside 15 = .ok (.ireturn, 1) := by decide +kernel
set_option maxRecDepth 20000 in
theorem ggX10_isNoRest_X10_isOutside : GoodIn wsX10_isNoRest wsX10_isOutside := goodIn_r _ [4] (by decide +kernel) (by decide +kernel)
set_option maxRecDepth 20000 in
theorem gX10_isNoRest_X10_isOutside : GoodIn wsX10_isNoRest (va_wsS RX10 87 yX10_isOutside wsX10_isOutside) := goodIn_app (goodIn_of _ (by decide +kernel)) ggX10_isNoRest_X10_isOutside
theorem dX10_isNoRest_0 : decode cX10_isNoRest 0 = .ok (.iload_n 0, 1) := by decide +kernel
theorem dX10_isNoRest_1 : decode cX10_isNoRest 1 = .ok (.iconst 0, 1) := by decide +kernel
theorem dX10_isNoRest_2 : decode cX10_isNoRest 2 = .ok (.iconst 5, 1) := by decide +kernel
theorem dX10_isNoRest_3 : decode cX10_isNoRest 3 = .ok (.invokestatic 87, 3) := by decide +kernel
theorem dX10_isNoRest_6 : decode cX10_isNoRest 6 = .ok (.ireturn, 1) := by decide +kernel
set_option maxRecDepth 20000 in
theorem ggX10_isNoKind_X10_isOutside : GoodIn wsX10_isNoKind wsX10_isOutside := goodIn_r _ [4] (by decide +kernel) (by decide +kernel)
set_option maxRecDepth 20000 in
theorem gX10_isNoKind_X10_isOutside : GoodIn wsX10_isNoKind (va_wsS RX10 87 yX10_isOutside wsX10_isOutside) := goodIn_app (goodIn_of _ (by decide +kernel)) ggX10_isNoKind_X10_isOutside
theorem dX10_isNoKind_0 : decode cX10_isNoKind 0 = .ok (.iload_n 0, 1) := by decide +kernel
theorem dX10_isNoKind_1 : decode cX10_isNoKind 1 = .ok (.iconst 0, 1) := by decide +kernel
theorem dX10_isNoKind_2 : decode cX10_isNoKind 2 = .ok (.iconst 5, 1) := by decide +kernel
theorem dX10_isNoKind_3 : decode cX10_isNoKind 3 = .ok (.invokestatic 87, 3) := by decide +kernel
theorem dX10_isNoKind_6 : decode cX10_isNoKind 6 = .ok (.ireturn, 1) := by decide +kernel
set_option maxRecDepth 20000 in
theorem ggX10_isNoSheet_X10_isOutside : GoodIn wsX10_isNoSheet wsX10_isOutside := goodIn_r _ [4] (by decide +kernel) (by decide +kernel)
set_option maxRecDepth 20000 in
theorem gX10_isNoSheet_X10_isOutside : GoodIn wsX10_isNoSheet (va_wsS RX10 87 yX10_isOutside wsX10_isOutside) := goodIn_app (goodIn_of _ (by decide +kernel)) ggX10_isNoSheet_X10_isOutside
theorem dX10_isNoSheet_0 : decode cX10_isNoSheet 0 = .ok (.iload_n 0, 1) := by decide +kernel
theorem dX10_isNoSheet_1 : decode cX10_isNoSheet 1 = .ok (.iconst 0, 1) := by decide +kernel
theorem dX10_isNoSheet_2 : decode cX10_isNoSheet 2 = .ok (.iconst 3, 1) := by decide +kernel
theorem dX10_isNoSheet_3 : decode cX10_isNoSheet 3 = .ok (.invokestatic 87, 3) := by decide +kernel
theorem dX10_isNoSheet_6 : decode cX10_isNoSheet 6 = .ok (.ireturn, 1) := by decide +kernel
set_option maxRecDepth 20000 in
theorem ggX10_isNoShelf_X10_isOutside : GoodIn wsX10_isNoShelf wsX10_isOutside := goodIn_r _ [4] (by decide +kernel) (by decide +kernel)
set_option maxRecDepth 20000 in
theorem gX10_isNoShelf_X10_isOutside : GoodIn wsX10_isNoShelf (va_wsS RX10 87 yX10_isOutside wsX10_isOutside) := goodIn_app (goodIn_of _ (by decide +kernel)) ggX10_isNoShelf_X10_isOutside
theorem dX10_isNoShelf_0 : decode cX10_isNoShelf 0 = .ok (.iload_n 0, 1) := by decide +kernel
theorem dX10_isNoShelf_1 : decode cX10_isNoShelf 1 = .ok (.iconst 0, 1) := by decide +kernel
theorem dX10_isNoShelf_2 : decode cX10_isNoShelf 2 = .ok (.iconst 3, 1) := by decide +kernel
theorem dX10_isNoShelf_3 : decode cX10_isNoShelf 3 = .ok (.invokestatic 87, 3) := by decide +kernel
theorem dX10_isNoShelf_6 : decode cX10_isNoShelf 6 = .ok (.ireturn, 1) := by decide +kernel
set_option maxRecDepth 20000 in
theorem ggX10_restOf_J9_floorMod_7cf53 : GoodIn wsX10_restOf wsJ9_floorMod_7cf53 := goodIn_r _ [4] (by decide +kernel) (by decide +kernel)
set_option maxRecDepth 20000 in
theorem gX10_restOf_J9_floorMod_7cf53 : GoodIn wsX10_restOf (va_wsS RX10 312 yJ9_floorMod_7cf53 wsJ9_floorMod_7cf53) := goodIn_app (goodIn_of _ (by decide +kernel)) ggX10_restOf_J9_floorMod_7cf53
theorem dX10_restOf_0 : decode cX10_restOf 0 = .ok (.iload_n 0, 1) := by decide +kernel
theorem dX10_restOf_1 : decode cX10_restOf 1 = .ok (.bipush 6, 2) := by decide +kernel
theorem dX10_restOf_3 : decode cX10_restOf 3 = .ok (.invokestatic 312, 3) := by decide +kernel
theorem dX10_restOf_6 : decode cX10_restOf 6 = .ok (.ireturn, 1) := by decide +kernel
theorem dX10_heldFaith_0 : decode cX10_heldFaith 0 = .ok (.iconst 0, 1) := by decide +kernel
theorem dX10_heldFaith_1 : decode cX10_heldFaith 1 = .ok (.bipush 99, 2) := by decide +kernel
theorem dX10_heldFaith_3 : decode cX10_heldFaith 3 = .ok (.iload_n 0, 1) := by decide +kernel
theorem dX10_heldFaith_4 : decode cX10_heldFaith 4 = .ok (.invokestatic 317, 3) := by decide +kernel
theorem dX10_heldFaith_7 : decode cX10_heldFaith 7 = .ok (.invokestatic 320, 3) := by decide +kernel
theorem dX10_heldFaith_10 : decode cX10_heldFaith 10 = .ok (.ireturn, 1) := by decide +kernel
set_option maxRecDepth 20000 in
theorem ggX11_init_X11_begins : GoodIn wsX11_init wsX11_begins := goodIn_r _ [23] (by decide +kernel) (by decide +kernel)
set_option maxRecDepth 20000 in
theorem gX11_init_X11_begins : GoodIn wsX11_init (va_wsS RX11 53 yX11_begins wsX11_begins) := goodIn_app (goodIn_of _ (by decide +kernel)) ggX11_init_X11_begins
theorem dX11_init_0 : decode cX11_init 0 = .ok (.aload_n 0, 1) := by decide +kernel
theorem dX11_init_1 : decode cX11_init 1 = .ok (.invokespecial 1, 3) := by decide +kernel
theorem dX11_init_4 : decode cX11_init 4 = .ok (.aload_n 0, 1) := by decide +kernel
theorem dX11_init_5 : decode cX11_init 5 = .ok (.bipush 51, 2) := by decide +kernel
theorem dX11_init_7 : decode cX11_init 7 = .ok (.newarray .int, 2) := by decide +kernel
theorem dX11_init_9 : decode cX11_init 9 = .ok (.putfield 9, 3) := by decide +kernel
theorem dX11_init_12 : decode cX11_init 12 = .ok (.aload_n 0, 1) := by decide +kernel
theorem dX11_init_13 : decode cX11_init 13 = .ok (.bipush 51, 2) := by decide +kernel
theorem dX11_init_15 : decode cX11_init 15 = .ok (.newarray .int, 2) := by decide +kernel
theorem dX11_init_17 : decode cX11_init 17 = .ok (.putfield 13, 3) := by decide +kernel
theorem dX11_init_20 : decode cX11_init 20 = .ok (.aload_n 0, 1) := by decide +kernel
theorem dX11_init_21 : decode cX11_init 21 = .ok (.bipush 51, 2) := by decide +kernel
theorem dX11_init_23 : decode cX11_init 23 = .ok (.newarray .int, 2) := by decide +kernel
theorem dX11_init_25 : decode cX11_init 25 = .ok (.putfield 16, 3) := by decide +kernel
theorem dX11_init_28 : decode cX11_init 28 = .ok (.aload_n 0, 1) := by decide +kernel
theorem dX11_init_29 : decode cX11_init 29 = .ok (.bipush 51, 2) := by decide +kernel
theorem dX11_init_31 : decode cX11_init 31 = .ok (.newarray .int, 2) := by decide +kernel
theorem dX11_init_33 : decode cX11_init 33 = .ok (.putfield 19, 3) := by decide +kernel
theorem dX11_init_36 : decode cX11_init 36 = .ok (.aload_n 0, 1) := by decide +kernel
theorem dX11_init_37 : decode cX11_init 37 = .ok (.bipush 8, 2) := by decide +kernel
theorem dX11_init_39 : decode cX11_init 39 = .ok (.newarray .int, 2) := by decide +kernel
theorem dX11_init_41 : decode cX11_init 41 = .ok (.putfield 22, 3) := by decide +kernel
theorem dX11_init_44 : decode cX11_init 44 = .ok (.aload_n 0, 1) := by decide +kernel
theorem dX11_init_45 : decode cX11_init 45 = .ok (.sipush 200, 3) := by decide +kernel
theorem dX11_init_48 : decode cX11_init 48 = .ok (.newarray .int, 2) := by decide +kernel
theorem dX11_init_50 : decode cX11_init 50 = .ok (.putfield 25, 3) := by decide +kernel
theorem dX11_init_53 : decode cX11_init 53 = .ok (.aload_n 0, 1) := by decide +kernel
theorem dX11_init_54 : decode cX11_init 54 = .ok (.bipush 120, 2) := by decide +kernel
theorem dX11_init_56 : decode cX11_init 56 = .ok (.newarray .char, 2) := by decide +kernel
theorem dX11_init_58 : decode cX11_init 58 = .ok (.dup, 1) := by decide +kernel
theorem dX11_init_59 : decode cX11_init 59 = .ok (.iconst 0, 1) := by decide +kernel
theorem dX11_init_60 : decode cX11_init 60 = .ok (.bipush 103, 2) := by decide +kernel
theorem dX11_init_62 : decode cX11_init 62 = .ok (.castore, 1) := by decide +kernel
theorem dX11_init_63 : decode cX11_init 63 = .ok (.dup, 1) := by decide +kernel
theorem dX11_init_64 : decode cX11_init 64 = .ok (.iconst 1, 1) := by decide +kernel
theorem dX11_init_65 : decode cX11_init 65 = .ok (.bipush 111, 2) := by decide +kernel
theorem dX11_init_67 : decode cX11_init 67 = .ok (.castore, 1) := by decide +kernel
theorem dX11_init_68 : decode cX11_init 68 = .ok (.dup, 1) := by decide +kernel
theorem dX11_init_69 : decode cX11_init 69 = .ok (.iconst 2, 1) := by decide +kernel
theorem dX11_init_70 : decode cX11_init 70 = .ok (.bipush 101, 2) := by decide +kernel
theorem dX11_init_72 : decode cX11_init 72 = .ok (.castore, 1) := by decide +kernel
theorem dX11_init_73 : decode cX11_init 73 = .ok (.dup, 1) := by decide +kernel
theorem dX11_init_74 : decode cX11_init 74 = .ok (.iconst 3, 1) := by decide +kernel
theorem dX11_init_75 : decode cX11_init 75 = .ok (.bipush 114, 2) := by decide +kernel
theorem dX11_init_77 : decode cX11_init 77 = .ok (.castore, 1) := by decide +kernel
theorem dX11_init_78 : decode cX11_init 78 = .ok (.dup, 1) := by decide +kernel
theorem dX11_init_79 : decode cX11_init 79 = .ok (.iconst 4, 1) := by decide +kernel
theorem dX11_init_80 : decode cX11_init 80 = .ok (.bipush 32, 2) := by decide +kernel
theorem dX11_init_82 : decode cX11_init 82 = .ok (.castore, 1) := by decide +kernel
theorem dX11_init_83 : decode cX11_init 83 = .ok (.dup, 1) := by decide +kernel
theorem dX11_init_84 : decode cX11_init 84 = .ok (.iconst 5, 1) := by decide +kernel
theorem dX11_init_85 : decode cX11_init 85 = .ok (.bipush 32, 2) := by decide +kernel
theorem dX11_init_87 : decode cX11_init 87 = .ok (.castore, 1) := by decide +kernel
theorem dX11_init_88 : decode cX11_init 88 = .ok (.dup, 1) := by decide +kernel
theorem dX11_init_89 : decode cX11_init 89 = .ok (.bipush 6, 2) := by decide +kernel
theorem dX11_init_91 : decode cX11_init 91 = .ok (.bipush 32, 2) := by decide +kernel
theorem dX11_init_93 : decode cX11_init 93 = .ok (.castore, 1) := by decide +kernel
theorem dX11_init_94 : decode cX11_init 94 = .ok (.dup, 1) := by decide +kernel
theorem dX11_init_95 : decode cX11_init 95 = .ok (.bipush 7, 2) := by decide +kernel
theorem dX11_init_97 : decode cX11_init 97 = .ok (.bipush 32, 2) := by decide +kernel
theorem dX11_init_99 : decode cX11_init 99 = .ok (.castore, 1) := by decide +kernel
theorem dX11_init_100 : decode cX11_init 100 = .ok (.dup, 1) := by decide +kernel
theorem dX11_init_101 : decode cX11_init 101 = .ok (.bipush 8, 2) := by decide +kernel
theorem dX11_init_103 : decode cX11_init 103 = .ok (.bipush 100, 2) := by decide +kernel
theorem dX11_init_105 : decode cX11_init 105 = .ok (.castore, 1) := by decide +kernel
theorem dX11_init_106 : decode cX11_init 106 = .ok (.dup, 1) := by decide +kernel
theorem dX11_init_107 : decode cX11_init 107 = .ok (.bipush 9, 2) := by decide +kernel
theorem dX11_init_109 : decode cX11_init 109 = .ok (.bipush 114, 2) := by decide +kernel
theorem dX11_init_111 : decode cX11_init 111 = .ok (.castore, 1) := by decide +kernel
theorem dX11_init_112 : decode cX11_init 112 = .ok (.dup, 1) := by decide +kernel
theorem dX11_init_113 : decode cX11_init 113 = .ok (.bipush 10, 2) := by decide +kernel
theorem dX11_init_115 : decode cX11_init 115 = .ok (.bipush 105, 2) := by decide +kernel
theorem dX11_init_117 : decode cX11_init 117 = .ok (.castore, 1) := by decide +kernel
theorem dX11_init_118 : decode cX11_init 118 = .ok (.dup, 1) := by decide +kernel
theorem dX11_init_119 : decode cX11_init 119 = .ok (.bipush 11, 2) := by decide +kernel
theorem dX11_init_121 : decode cX11_init 121 = .ok (.bipush 118, 2) := by decide +kernel
theorem dX11_init_123 : decode cX11_init 123 = .ok (.castore, 1) := by decide +kernel
theorem dX11_init_124 : decode cX11_init 124 = .ok (.dup, 1) := by decide +kernel
theorem dX11_init_125 : decode cX11_init 125 = .ok (.bipush 12, 2) := by decide +kernel
theorem dX11_init_127 : decode cX11_init 127 = .ok (.bipush 101, 2) := by decide +kernel
theorem dX11_init_129 : decode cX11_init 129 = .ok (.castore, 1) := by decide +kernel
theorem dX11_init_130 : decode cX11_init 130 = .ok (.dup, 1) := by decide +kernel
theorem dX11_init_131 : decode cX11_init 131 = .ok (.bipush 13, 2) := by decide +kernel
theorem dX11_init_133 : decode cX11_init 133 = .ok (.bipush 114, 2) := by decide +kernel
theorem dX11_init_135 : decode cX11_init 135 = .ok (.castore, 1) := by decide +kernel
theorem dX11_init_136 : decode cX11_init 136 = .ok (.dup, 1) := by decide +kernel
theorem dX11_init_137 : decode cX11_init 137 = .ok (.bipush 14, 2) := by decide +kernel
theorem dX11_init_139 : decode cX11_init 139 = .ok (.bipush 32, 2) := by decide +kernel
theorem dX11_init_141 : decode cX11_init 141 = .ok (.castore, 1) := by decide +kernel
theorem dX11_init_142 : decode cX11_init 142 = .ok (.dup, 1) := by decide +kernel
theorem dX11_init_143 : decode cX11_init 143 = .ok (.bipush 15, 2) := by decide +kernel
theorem dX11_init_145 : decode cX11_init 145 = .ok (.bipush 32, 2) := by decide +kernel
theorem dX11_init_147 : decode cX11_init 147 = .ok (.castore, 1) := by decide +kernel
theorem dX11_init_148 : decode cX11_init 148 = .ok (.dup, 1) := by decide +kernel
theorem dX11_init_149 : decode cX11_init 149 = .ok (.bipush 16, 2) := by decide +kernel
theorem dX11_init_151 : decode cX11_init 151 = .ok (.bipush 109, 2) := by decide +kernel
theorem dX11_init_153 : decode cX11_init 153 = .ok (.castore, 1) := by decide +kernel
theorem dX11_init_154 : decode cX11_init 154 = .ok (.dup, 1) := by decide +kernel
theorem dX11_init_155 : decode cX11_init 155 = .ok (.bipush 17, 2) := by decide +kernel
theorem dX11_init_157 : decode cX11_init 157 = .ok (.bipush 111, 2) := by decide +kernel
theorem dX11_init_159 : decode cX11_init 159 = .ok (.castore, 1) := by decide +kernel
theorem dX11_init_160 : decode cX11_init 160 = .ok (.dup, 1) := by decide +kernel
theorem dX11_init_161 : decode cX11_init 161 = .ok (.bipush 18, 2) := by decide +kernel
theorem dX11_init_163 : decode cX11_init 163 = .ok (.bipush 117, 2) := by decide +kernel
theorem dX11_init_165 : decode cX11_init 165 = .ok (.castore, 1) := by decide +kernel
theorem dX11_init_166 : decode cX11_init 166 = .ok (.dup, 1) := by decide +kernel
theorem dX11_init_167 : decode cX11_init 167 = .ok (.bipush 19, 2) := by decide +kernel
theorem dX11_init_169 : decode cX11_init 169 = .ok (.bipush 114, 2) := by decide +kernel
theorem dX11_init_171 : decode cX11_init 171 = .ok (.castore, 1) := by decide +kernel
theorem dX11_init_172 : decode cX11_init 172 = .ok (.dup, 1) := by decide +kernel
theorem dX11_init_173 : decode cX11_init 173 = .ok (.bipush 20, 2) := by decide +kernel
theorem dX11_init_175 : decode cX11_init 175 = .ok (.bipush 110, 2) := by decide +kernel
theorem dX11_init_177 : decode cX11_init 177 = .ok (.castore, 1) := by decide +kernel
theorem dX11_init_178 : decode cX11_init 178 = .ok (.dup, 1) := by decide +kernel
theorem dX11_init_179 : decode cX11_init 179 = .ok (.bipush 21, 2) := by decide +kernel
theorem dX11_init_181 : decode cX11_init 181 = .ok (.bipush 101, 2) := by decide +kernel
theorem dX11_init_183 : decode cX11_init 183 = .ok (.castore, 1) := by decide +kernel
theorem dX11_init_184 : decode cX11_init 184 = .ok (.dup, 1) := by decide +kernel
